theorem dX12_numberAt_0 : decode cX12_numberAt 0 = .ok (.aload_n 0, 1) := by decide +kernel
theorem dX12_numberAt_1 : decode cX12_numberAt 1 = .ok (.getfield 71, 3) := by decide +kernel
theorem dX12_numberAt_4 : decode cX12_numberAt 4 = .ok (.bipush 60, 2) := by decide +kernel
theorem dX12_numberAt_6 : decode cX12_numberAt 6 = .ok (.iload_n 1, 1) := by decide +kernel
theorem dX12_numberAt_7 : decode cX12_numberAt 7 = .ok (.imul, 1) := by decide +kernel
theorem dX12_numberAt_8 : decode cX12_numberAt 8 = .ok (.iload_n 2, 1) := by decide +kernel
theorem dX12_numberAt_9 : decode cX12_numberAt 9 = .ok (.iadd, 1) := by decide +kernel
theorem dX12_numberAt_10 : decode cX12_numberAt 10 = .ok (.laload, 1) := by decide +kernel
theorem dX12_numberAt_11 : decode cX12_numberAt 11 = .ok (.lreturn, 1) := by decide +kernel
noncomputable def vX12_numberAt : List Cond := .code yX12_numberAt cX12_numberAt 3 (some .long) :: (([.fieldLink RX12 71 "IcicleClockModel" "numbers" "[J"] : List Cond) ++ wsX120)
theorem iX12_numberAt_12 : ∀ w ∈ wsX120, w ∈ vX12_numberAt := fun _ h => List.mem_cons_of_mem _ (List.mem_append_right _ (h))
theorem gs_X12_numberAt : Gd vX12_numberAt := Gd.cons (by decide +kernel) (Gd.app (Gd.r (by decide +kernel)) gwX_12)
set_option maxHeartbeats 4000000 in
set_option maxRecDepth 100000 in
theorem s_X12_numberAt (l : Launch) (D : va_G) (cs : Nat → ClassId) (ad : Nat → Nat) (kS : kSt) (K : sK) (hKO : KO K) (hj : wJ ad 218) (g : Nat → va_E) (hW : WF (shp ad K) ad cs g) (sl : Int32) (ix : Int32) (hp0 : 0 ≤ sl.toInt ∧ sl.toInt ≤ 3) (hp1 : 0 ≤ ix.toInt ∧ ix.toInt ≤ 59) : sJ l yX12_numberAt vX12_numberAt { frames := 0, cells := 0, slots := 0, locals := 0 } D cs ad kS [.ref (ad 197), .int sl, .int ix] g (fun r g2 => g2 = g ∧ (r.toInt = gA g 216 (60 * sl.toInt + ix.toInt).toNat)) := by
  refine Met.startS (cc := cX12_numberAt) (maxL := 3) (ret := (some .long)) RX12 rfl (by decide) rfl (Nat.le_of_ble_eq_true rfl) ?_
  intro p e s m below meth c ls X Z hP hl
  have hx := X.1
  have hb := X.2.1
  have hS : va_S (wA ad 218) s.heap s.heap [] := va_S.rf
  have hA : ∀ i, i < 218 → wA ad 218 (ad i) := fun i h => ⟨i, h, rfl⟩
  have hl : lv_has ls 3 [(0, .ref (ad 197)), (1, .int sl), (2, .int ix)] := hl
  refine lv_aload_n hx hb dX12_numberAt_0 rfl (lv_at hl 0 rfl) ?_
  obtain ⟨fsc_1, hgc_1, hOc_1⟩ := hW.obj (i := 197) (by decide) (sh_197 ad K)
  have hk_2 := hOc_1.ref 38 rfl
  refine q_get X iX12_numberAt_12 hP (by decide) hgc_1 rfl 38 (by decide) (List.mem_of_getElem? (i := 1) rfl) (v := .ref (ad 216)) hk_2 dX12_numberAt_1 ?_
  refine lv_bipush (v := 60) hx hb dX12_numberAt_4 (by decide) ?_
  refine lv_iload_n hx hb dX12_numberAt_6 rfl (lv_at hl 1 rfl) ?_
  refine lv_imul hx hb dX12_numberAt_7 ?_
  refine lv_topi (fun z_3 ez_3 => ?_)
  have hz_3 : z_3.toInt = 60 * sl.toInt := n_mul (by decide : (60 : Int32).toInt = 60) (rfl : sl.toInt = sl.toInt) ez_3 (by omega) (by omega)
  refine lv_iload_n hx hb dX12_numberAt_8 rfl (lv_at hl 2 rfl) ?_
  refine lv_iadd hx hb dX12_numberAt_9 ?_
  refine lv_topi (fun z_4 ez_4 => ?_)
  have hz_4 : z_4.toInt = z_3.toInt + ix.toInt := n_add (rfl : z_3.toInt = z_3.toInt) (rfl : ix.toInt = ix.toInt) ez_4 (by omega) (by omega)
  obtain ⟨fc_5, hgc_5, hFc_5⟩ := hW.arj (i := 216) (by decide) (sh_216 ad K)
  refine q_lald X hP (by decide) hgc_5 (n_in (rfl : z_4.toInt = z_4.toInt) (by omega) (by omega)) dX12_numberAt_10 ?_
  refine lv_topl (fun z_6 ez_6 => ?_)
  have hgaz_6 : gA g 216 (z_4.toNatClampNeg) = z_6.toInt := by rw [ez_6]; exact gA_ofL hgc_5 _
  have hcl := n_cl (rfl : z_4.toInt = z_4.toInt) (by omega)
  exact q_lret X hP hS ⟨rfl, (by rw [show (60 * sl.toInt + ix.toInt).toNat = z_4.toNatClampNeg by omega]; exact hgaz_6.symm)⟩ dX12_numberAt_11

theorem dX12_asksSeen_0 : decode cX12_asksSeen 0 = .ok (.iload_n 1, 1) := by decide +kernel
theorem dX12_asksSeen_1 : decode cX12_asksSeen 1 = .ok (.invokestatic 307, 3) := by decide +kernel
theorem dX12_asksSeen_4 : decode cX12_asksSeen 4 = .ok (.ifCond .eq 14, 3) := by decide +kernel
theorem dX12_asksSeen_7 : decode cX12_asksSeen 7 = .ok (.aload_n 0, 1) := by decide +kernel
theorem dX12_asksSeen_8 : decode cX12_asksSeen 8 = .ok (.invokevirtual 261, 3) := by decide +kernel
theorem dX12_asksSeen_11 : decode cX12_asksSeen 11 = .ok (.ifCond .eq 7, 3) := by decide +kernel
theorem dX12_asksSeen_14 : decode cX12_asksSeen 14 = .ok (.iload_n 2, 1) := by decide +kernel
theorem dX12_asksSeen_15 : decode cX12_asksSeen 15 = .ok (.ifCond .ne 6, 3) := by decide +kernel
theorem dX12_asksSeen_21 : decode cX12_asksSeen 21 = .ok (.aload_n 0, 1) := by decide +kernel
theorem dX12_asksSeen_22 : decode cX12_asksSeen 22 = .ok (.getfield 65, 3) := by decide +kernel
theorem dX12_asksSeen_25 : decode cX12_asksSeen 25 = .ok (.iload_n 1, 1) := by decide +kernel
theorem dX12_asksSeen_26 : decode cX12_asksSeen 26 = .ok (.iaload, 1) := by decide +kernel
theorem dX12_asksSeen_27 : decode cX12_asksSeen 27 = .ok (.iconst (-1), 1) := by decide +kernel
theorem dX12_asksSeen_28 : decode cX12_asksSeen 28 = .ok (.if_icmp .ne 6, 3) := by decide +kernel
theorem dX12_asksSeen_31 : decode cX12_asksSeen 31 = .ok (.bipush (-6), 2) := by decide +kernel
theorem dX12_asksSeen_33 : decode cX12_asksSeen 33 = .ok (.ireturn, 1) := by decide +kernel
theorem dX12_asksSeen_34 : decode cX12_asksSeen 34 = .ok (.aload_n 0, 1) := by decide +kernel
theorem dX12_asksSeen_35 : decode cX12_asksSeen 35 = .ok (.getfield 65, 3) := by decide +kernel
theorem dX12_asksSeen_38 : decode cX12_asksSeen 38 = .ok (.iload_n 1, 1) := by decide +kernel
theorem dX12_asksSeen_39 : decode cX12_asksSeen 39 = .ok (.iaload, 1) := by decide +kernel
theorem dX12_asksSeen_40 : decode cX12_asksSeen 40 = .ok (.iconst 2, 1) := by decide +kernel
theorem dX12_asksSeen_41 : decode cX12_asksSeen 41 = .ok (.irem, 1) := by decide +kernel
theorem dX12_asksSeen_42 : decode cX12_asksSeen 42 = .ok (.ifCond .eq 6, 3) := by decide +kernel
theorem dX12_asksSeen_45 : decode cX12_asksSeen 45 = .ok (.bipush (-2), 2) := by decide +kernel
theorem dX12_asksSeen_47 : decode cX12_asksSeen 47 = .ok (.ireturn, 1) := by decide +kernel
theorem dX12_asksSeen_48 : decode cX12_asksSeen 48 = .ok (.iconst 0, 1) := by decide +kernel
theorem dX12_asksSeen_49 : decode cX12_asksSeen 49 = .ok (.istore 4, 2) := by decide +kernel
theorem dX12_asksSeen_51 : decode cX12_asksSeen 51 = .ok (.iload 4, 2) := by decide +kernel
theorem dX12_asksSeen_53 : decode cX12_asksSeen 53 = .ok (.aload_n 0, 1) := by decide +kernel
theorem dX12_asksSeen_54 : decode cX12_asksSeen 54 = .ok (.getfield 65, 3) := by decide +kernel
theorem dX12_asksSeen_57 : decode cX12_asksSeen 57 = .ok (.iload_n 1, 1) := by decide +kernel
theorem dX12_asksSeen_58 : decode cX12_asksSeen 58 = .ok (.iaload, 1) := by decide +kernel
theorem dX12_asksSeen_59 : decode cX12_asksSeen 59 = .ok (.if_icmp .ge 48, 3) := by decide +kernel
theorem dX12_asksSeen_62 : decode cX12_asksSeen 62 = .ok (.aload_n 0, 1) := by decide +kernel
theorem dX12_asksSeen_63 : decode cX12_asksSeen 63 = .ok (.aload_n 0, 1) := by decide +kernel
theorem dX12_asksSeen_64 : decode cX12_asksSeen 64 = .ok (.iload_n 1, 1) := by decide +kernel
theorem dX12_asksSeen_65 : decode cX12_asksSeen 65 = .ok (.iload 4, 2) := by decide +kernel
theorem dX12_asksSeen_67 : decode cX12_asksSeen 67 = .ok (.invokevirtual 310, 3) := by decide +kernel
theorem dX12_asksSeen_70 : decode cX12_asksSeen 70 = .ok (.invokevirtual 221, 3) := by decide +kernel
theorem dX12_asksSeen_73 : decode cX12_asksSeen 73 = .ok (.ifCond .eq 25, 3) := by decide +kernel
theorem dX12_asksSeen_76 : decode cX12_asksSeen 76 = .ok (.aload_n 0, 1) := by decide +kernel
theorem dX12_asksSeen_77 : decode cX12_asksSeen 77 = .ok (.iload_n 1, 1) := by decide +kernel
theorem dX12_asksSeen_78 : decode cX12_asksSeen 78 = .ok (.iload 4, 2) := by decide +kernel
theorem dX12_asksSeen_80 : decode cX12_asksSeen 80 = .ok (.iconst 1, 1) := by decide +kernel
theorem dX12_asksSeen_81 : decode cX12_asksSeen 81 = .ok (.iadd, 1) := by decide +kernel
theorem dX12_asksSeen_82 : decode cX12_asksSeen 82 = .ok (.invokevirtual 310, 3) := by decide +kernel
theorem dX12_asksSeen_85 : decode cX12_asksSeen 85 = .ok (.ldc2_w 314, 3) := by decide +kernel
theorem dX12_asksSeen_88 : decode cX12_asksSeen 88 = .ok (.iload_n 3, 1) := by decide +kernel
theorem dX12_asksSeen_89 : decode cX12_asksSeen 89 = .ok (.iconst 1, 1) := by decide +kernel
theorem dX12_asksSeen_90 : decode cX12_asksSeen 90 = .ok (.isub, 1) := by decide +kernel
theorem dX12_asksSeen_91 : decode cX12_asksSeen 91 = .ok (.i2l, 1) := by decide +kernel
theorem dX12_asksSeen_92 : decode cX12_asksSeen 92 = .ok (.invokestatic 82, 3) := by decide +kernel
theorem dX12_asksSeen_95 : decode cX12_asksSeen 95 = .ok (.ifCond .ne 6, 3) := by decide +kernel
theorem dX12_asksSeen_101 : decode cX12_asksSeen 101 = .ok (.iinc 4 2, 3) := by decide +kernel
theorem dX12_asksSeen_104 : decode cX12_asksSeen 104 = .ok (.goto (-53), 3) := by decide +kernel
theorem dX12_asksSeen_98 : decode cX12_asksSeen 98 = .ok (.bipush (-2), 2) := by decide +kernel
theorem dX12_asksSeen_100 : decode cX12_asksSeen 100 = .ok (.ireturn, 1) := by decide +kernel
theorem dX12_asksSeen_107 : decode cX12_asksSeen 107 = .ok (.iconst 0, 1) := by decide +kernel
theorem dX12_asksSeen_108 : decode cX12_asksSeen 108 = .ok (.ireturn, 1) := by decide +kernel
theorem dX12_asksSeen_18 : decode cX12_asksSeen 18 = .ok (.bipush (-2), 2) := by decide +kernel
theorem dX12_asksSeen_20 : decode cX12_asksSeen 20 = .ok (.ireturn, 1) := by decide +kernel
noncomputable def vX12_asksSeen : List Cond := .code yX12_asksSeen cX12_asksSeen 5 (some .int) :: (([.methodLink RX12 307 yX12_isSlot, .static yX12_isSlot, .initialized RX12, .methodLink RX12 261 yX12_isStreet, .instanceMethod yX12_isStreet, .selects RX12 yX12_isStreet yX12_isStreet, .fieldLink RX12 65 "IcicleClockModel" "many" "[I", .methodLink RX12 310 yX12_numberAt, .instanceMethod yX12_numberAt, .selects RX12 yX12_numberAt yX12_numberAt, .methodLink RX12 221 yX12_isIcicle, .instanceMethod yX12_isIcicle, .selects RX12 yX12_isIcicle yX12_isIcicle, .constantLong RX12 314 (-1), .methodLink RX12 82 yX12_in, .static yX12_in] : List Cond) ++ (wsX120 ++ (vX12_isSlot ++ (vX12_isStreet ++ (vX12_numberAt ++ (vX12_isIcicle ++ vX12_in))))))
theorem iX12_asksSeen_12 : ∀ w ∈ wsX120, w ∈ vX12_asksSeen := fun _ h => List.mem_cons_of_mem _ (List.mem_append_right _ (List.mem_append_left _ h))
theorem gs_X12_asksSeen : Gd vX12_asksSeen := Gd.cons (by decide +kernel) (Gd.app (Gd.r (by decide +kernel)) (Gd.app gwX_12 (Gd.app gs_X12_isSlot (Gd.app gs_X12_isStreet (Gd.app gs_X12_numberAt (Gd.app gs_X12_isIcicle gs_X12_in))))))
theorem gg_X12_asksSeen_X12_isSlot : GoodIn vX12_asksSeen (wsS RX12 307 yX12_isSlot vX12_isSlot) := goodIn_app (goodIn_r _ [1, 2, 3] (by decide +kernel) (by decide +kernel)) (fun w h => ⟨List.mem_cons_of_mem _ (List.mem_append_right _ (List.mem_append_right _ (List.mem_append_left _ h))), gs_X12_isSlot w h⟩)
theorem gg_X12_asksSeen_X12_isStreet : GoodIn vX12_asksSeen (wsV RX12 261 RX12 yX12_isStreet vX12_isStreet) := goodIn_app (goodIn_r _ [4, 5, 6, 3] (by decide +kernel) (by decide +kernel)) (fun w h => ⟨List.mem_cons_of_mem _ (List.mem_append_right _ (List.mem_append_right _ (List.mem_append_right _ (List.mem_append_left _ h)))), gs_X12_isStreet w h⟩)
theorem gg_X12_asksSeen_X12_numberAt : GoodIn vX12_asksSeen (wsV RX12 310 RX12 yX12_numberAt vX12_numberAt) := goodIn_app (goodIn_r _ [8, 9, 10, 3] (by decide +kernel) (by decide +kernel)) (fun w h => ⟨List.mem_cons_of_mem _ (List.mem_append_right _ (List.mem_append_right _ (List.mem_append_right _ (List.mem_append_right _ (List.mem_append_left _ h))))), gs_X12_numberAt w h⟩)
theorem gg_X12_asksSeen_X12_isIcicle : GoodIn vX12_asksSeen (wsV RX12 221 RX12 yX12_isIcicle vX12_isIcicle) := goodIn_app (goodIn_r _ [11, 12, 13, 3] (by decide +kernel) (by decide +kernel)) (fun w h => ⟨List.mem_cons_of_mem _ (List.mem_append_right _ (List.mem_append_right _ (List.mem_append_right _ (List.mem_append_right _ (List.mem_append_right _ (List.mem_append_left _ h)))))), gs_X12_isIcicle w h⟩)
theorem gg_X12_asksSeen_X12_in : GoodIn vX12_asksSeen (wsS RX12 82 yX12_in vX12_in) := goodIn_app (goodIn_r _ [15, 16, 3] (by decide +kernel) (by decide +kernel)) (fun w h => ⟨List.mem_cons_of_mem _ (List.mem_append_right _ (List.mem_append_right _ (List.mem_append_right _ (List.mem_append_right _ (List.mem_append_right _ (List.mem_append_right _ (h))))))), gs_X12_in w h⟩)
set_option maxHeartbeats 4000000 in
set_option maxRecDepth 100000 in
theorem s_X12_asksSeen (l : Launch) (D : va_G) (cs : Nat → ClassId) (ad : Nat → Nat) (kS : kSt) (K : sK) (hKO : KO K) (hj : wJ ad 218) (g : Nat → va_E) (hW : WF (shp ad K) ad cs g) (sl : Int32) (bo : Int32) (nn : Int32) : sI l yX12_asksSeen vX12_asksSeen { frames := 2, cells := 0, slots := 0, locals := 47 } D cs ad kS [.ref (ad 197), .int sl, .int bo, .int nn] g (fun r g2 => g2 = g ∧ (0 ≤ r.toInt → 0 ≤ sl.toInt ∧ sl.toInt ≤ 3 ∧ bo.toInt ≠ 0 ∧ snOK g sl)) := by
  refine Met.startS (cc := cX12_asksSeen) (maxL := 5) (ret := (some .int)) RX12 rfl (by decide) rfl (Nat.le_of_ble_eq_true rfl) ?_
  intro p e s m below meth c ls X Z hP hl
  have hx := X.1
  have hb := X.2.1
  have hS : va_S (wA ad 218) s.heap s.heap [] := va_S.rf
  have hA : ∀ i, i < 218 → wA ad 218 (ad i) := fun i h => ⟨i, h, rfl⟩
  have hl : lv_has ls 5 [(0, .ref (ad 197)), (1, .int sl), (2, .int bo), (3, .int nn)] := hl
  refine lv_iload_n hx hb dX12_asksSeen_0 rfl (lv_at hl 1 rfl) ?_
  refine s_callSi (As := [.int sl]) (rest := []) X Z (s_X12_isSlot l D cs ad kS K hKO hj g hW sl) (cwS 1 X.2.2.2.2.1 gg_X12_asksSeen_X12_isSlot rfl rfl rfl (by decide +kernel) ⟨Nat.le_of_ble_eq_true rfl, Nat.le_of_ble_eq_true rfl⟩) hP hA hS.2.1 hS rfl hl.1 rfl (Nat.le_of_ble_eq_true rfl) dX12_asksSeen_1 ⟨Nat.le_of_ble_eq_true rfl, Nat.le_of_ble_eq_true rfl⟩ (fun r_3 g_2 H locs hw_1 hP hS => ?_)
  obtain ⟨hw_1g, hw_1⟩ := hw_1
  rw [hw_1g] at hP
  have HJ18 : ∀ (H : Heap) (locs : List Loc) (ls : Array Slot), va_P D vwCl (wL ad g 218) H → va_S (wA ad 218) s.heap H locs → lv_has ls 5 [] → W p l e ({ frames := 2, cells := 0, slots := 0, locals := 47 } : Room) s m ([.ref (ad 197), .int sl, .int bo, .int nn] : List Value).toArray below meth c H locs 0 0 (MQ below (qI D ad 218 (fun r g2 => g2 = g ∧ (0 ≤ r.toInt → 0 ≤ sl.toInt ∧ sl.toInt ≤ 3 ∧ bo.toInt ≠ 0 ∧ snOK g sl))) ([.ref (ad 197), .int sl, .int bo, .int nn] : List Value).toArray s 0 0 (wA ad 218)) (F0 m 18 ls []) := by
    intro H locs ls hP hS hl
    refine lv_bipush (v := (-2)) hx hb dX12_asksSeen_18 (by decide) ?_
    have hr0 : ((-2) : Int32).toInt = -2 := by decide
    exact q_iret X hP hS ⟨rfl, (fun h => by exfalso; omega)⟩ dX12_asksSeen_20
  refine lv_if_eq (tgt := 18) hx hb dX12_asksSeen_4 (by decide) (fun hc_4 => ?_) (fun hc_4 => ?_)
  · have hhc_4 := n_eq (rfl : r_3.toInt = r_3.toInt) (by decide : (0 : Int32).toInt = 0) hc_4
    exact HJ18 _ _ ls hP hS (lv_sub hl [] rfl)
  · have hhc_4 := n_ne (rfl : r_3.toInt = r_3.toInt) (by decide : (0 : Int32).toInt = 0) hc_4
    refine lv_aload_n hx hb dX12_asksSeen_7 rfl (lv_at hl 0 rfl) ?_
    obtain ⟨fsc_8, hgc_8, hOc_8⟩ := hW.obj (i := 197) (by decide) (sh_197 ad K)
    refine s_calli (q := (RX12, TX12, 40)) (As := []) (rest := []) X Z (s_X12_isStreet l D cs ad kS K hKO hj g hW) (cwV 0 X.2.2.2.2.1 gg_X12_asksSeen_X12_isStreet rfl rfl rfl (by decide +kernel) ⟨Nat.le_of_ble_eq_true rfl, Nat.le_of_ble_eq_true rfl⟩) (by decide) hgc_8 rfl hP hA hS.2.1 hS rfl hl.1 rfl (Nat.le_of_ble_eq_true rfl) dX12_asksSeen_8 ⟨Nat.le_of_ble_eq_true rfl, Nat.le_of_ble_eq_true rfl⟩ (fun r_7 g_6 H locs hw_5 hP hS => ?_)
    obtain ⟨hw_5g, hw_5⟩ := hw_5
    rw [hw_5g] at hP
    refine lv_if_eq (tgt := 18) hx hb dX12_asksSeen_11 (by decide) (fun hc_9 => ?_) (fun hc_9 => ?_)
    · have hhc_9 := n_eq (rfl : r_7.toInt = r_7.toInt) (by decide : (0 : Int32).toInt = 0) hc_9
      exact HJ18 _ _ ls hP hS (lv_sub hl [] rfl)
    · have hhc_9 := n_ne (rfl : r_7.toInt = r_7.toInt) (by decide : (0 : Int32).toInt = 0) hc_9
      refine lv_iload_n hx hb dX12_asksSeen_14 rfl (lv_at hl 2 rfl) ?_
      refine lv_if_ne (tgt := 21) hx hb dX12_asksSeen_15 (by decide) (fun hc_10 => ?_) (fun hc_10 => ?_)
      · have hhc_10 := n_ne (rfl : bo.toInt = bo.toInt) (by decide : (0 : Int32).toInt = 0) hc_10
        refine lv_aload_n hx hb dX12_asksSeen_21 rfl (lv_at hl 0 rfl) ?_
        have hk_11 := hOc_8.ref 36 rfl
        refine q_get X iX12_asksSeen_12 hP (by decide) hgc_8 rfl 36 (by decide) (List.mem_of_getElem? (i := 7) rfl) (v := .ref (ad 214)) hk_11 dX12_asksSeen_22 ?_
        refine lv_iload_n hx hb dX12_asksSeen_25 rfl (lv_at hl 1 rfl) ?_
        obtain ⟨fc_12, hgc_12, hFc_12⟩ := hW.arr (i := 214) (by decide) (sh_214 ad K)
        refine q_iald X hP (by decide) hgc_12 (n_in (rfl : sl.toInt = sl.toInt) (by omega) (by omega)) dX12_asksSeen_26 ?_
        refine lv_topi (fun z_13 ez_13 => ?_)
        have hqz_13 : z_13.toInt = (K.2.2.2.2.1 (sl.toNatClampNeg)).toInt := ez_13 ▸ hFc_12 _
        have hcz_13 := n_cl (rfl : sl.toInt = sl.toInt) (by omega)
        have hKOz_13 := hKO (sl.toNatClampNeg)
        have hz_13 : -1 ≤ z_13.toInt ∧ z_13.toInt ≤ 60 := by omega
        have hgaz_13 : gA g 214 (sl.toNatClampNeg) = z_13.toInt := by rw [ez_13]; exact gA_of hgc_12 _
        refine lv_iconst (v := (-1)) hx hb dX12_asksSeen_27 (by decide) ?_
        refine lv_icmp_ne (tgt := 34) hx hb dX12_asksSeen_28 (by decide) (fun hc_14 => ?_) (fun hc_14 => ?_)
        · have hhc_14 := n_ne (rfl : z_13.toInt = z_13.toInt) (by decide : (-1 : Int32).toInt = -1) hc_14
          refine lv_aload_n hx hb dX12_asksSeen_34 rfl (lv_at hl 0 rfl) ?_
          refine q_get X iX12_asksSeen_12 hP (by decide) hgc_8 rfl 36 (by decide) (List.mem_of_getElem? (i := 7) rfl) (v := .ref (ad 214)) hk_11 dX12_asksSeen_35 ?_
          refine lv_iload_n hx hb dX12_asksSeen_38 rfl (lv_at hl 1 rfl) ?_
          refine q_iald X hP (by decide) hgc_12 (n_in (rfl : sl.toInt = sl.toInt) (by omega) (by omega)) dX12_asksSeen_39 ?_
          refine lv_topi (fun z_15 ez_15 => ?_)
          have hqz_15 : z_15.toInt = (K.2.2.2.2.1 (sl.toNatClampNeg)).toInt := ez_15 ▸ hFc_12 _
          have hcz_15 := n_cl (rfl : sl.toInt = sl.toInt) (by omega)
          have hKOz_15 := hKO (sl.toNatClampNeg)
          have hz_15 : -1 ≤ z_15.toInt ∧ z_15.toInt ≤ 60 := by omega
          have hgaz_15 : gA g 214 (sl.toNatClampNeg) = z_15.toInt := by rw [ez_15]; exact gA_of hgc_12 _
          have hsz_15 : z_15.toInt = z_13.toInt := by rw [ez_15, ez_13]
          refine lv_iconst (v := 2) hx hb dX12_asksSeen_40 (by decide) ?_
          refine lv_irem hx hb dX12_asksSeen_41 (by decide) ?_
          refine lv_topi (fun z_16 ez_16 => ?_)
          have hz_16 : z_16.toInt = z_15.toInt % 2 := n_rem (rfl : z_15.toInt = z_15.toInt) (by decide : (2 : Int32).toInt = 2) ez_16 (by omega) (by decide)
          refine lv_if_eq (tgt := 48) hx hb dX12_asksSeen_42 (by decide) (fun hc_17 => ?_) (fun hc_17 => ?_)
          · have hhc_17 := n_eq (rfl : z_16.toInt = z_16.toInt) (by decide : (0 : Int32).toInt = 0) hc_17
            refine lv_iconst (v := 0) hx hb dX12_asksSeen_48 (by decide) ?_
            refine lv_istore (lv' := [(4, .int 0), (0, .ref (ad 197)), (1, .int sl), (2, .int bo), (3, .int nn)]) hx hb dX12_asksSeen_49 hl (by decide) rfl (fun ls hl => ?_)
            have HL51 : ∀ (n51 : Nat) (v51_4 : Int32) (H : Heap) (locs : List Loc) (ls : Array Slot), (61 - v51_4.toInt).toNat < n51 → (0 ≤ v51_4.toInt ∧ v51_4.toInt ≤ 61) → v51_4.toInt % 2 = 0 → (∀ k : Int, 0 ≤ k → k < v51_4.toInt → k % 2 = 0 → 0 ≤ gA g 216 (60 * sl.toInt + k).toNat ∧ gA g 216 (60 * sl.toInt + k).toNat ≤ 7) → va_P D vwCl (wL ad g 218) H → va_S (wA ad 218) s.heap H locs → lv_has ls 5 [(4, .int v51_4), (0, .ref (ad 197)), (1, .int sl), (3, .int nn)] → W p l e ({ frames := 2, cells := 0, slots := 0, locals := 47 } : Room) s m ([.ref (ad 197), .int sl, .int bo, .int nn] : List Value).toArray below meth c H locs 0 0 (MQ below (qI D ad 218 (fun r g2 => g2 = g ∧ (0 ≤ r.toInt → 0 ≤ sl.toInt ∧ sl.toInt ≤ 3 ∧ bo.toInt ≠ 0 ∧ snOK g sl))) ([.ref (ad 197), .int sl, .int bo, .int nn] : List Value).toArray s 0 0 (wA ad 218)) (F0 m 51 ls []) := by
              intro n51
              induction n51 with
              | zero =>
                intro v51_4 H locs ls hm51 hv51_0 he51_0 he51_1 hP hS hl
                exact absurd hm51 (Nat.not_lt_zero _)
              | succ n51 ih51 =>
                intro v51_4 H locs ls hm51 hv51_0 he51_0 he51_1 hP hS hl
                refine lv_iload hx hb dX12_asksSeen_51 (lv_at hl 0 rfl) ?_
                refine lv_aload_n hx hb dX12_asksSeen_53 rfl (lv_at hl 1 rfl) ?_
                refine q_get X iX12_asksSeen_12 hP (by decide) hgc_8 rfl 36 (by decide) (List.mem_of_getElem? (i := 7) rfl) (v := .ref (ad 214)) hk_11 dX12_asksSeen_54 ?_
                refine lv_iload_n hx hb dX12_asksSeen_57 rfl (lv_at hl 2 rfl) ?_
                refine q_iald X hP (by decide) hgc_12 (n_in (rfl : sl.toInt = sl.toInt) (by omega) (by omega)) dX12_asksSeen_58 ?_
                refine lv_topi (fun z_18 ez_18 => ?_)
                have hqz_18 : z_18.toInt = (K.2.2.2.2.1 (sl.toNatClampNeg)).toInt := ez_18 ▸ hFc_12 _
                have hcz_18 := n_cl (rfl : sl.toInt = sl.toInt) (by omega)
                have hKOz_18 := hKO (sl.toNatClampNeg)
                have hz_18 : -1 ≤ z_18.toInt ∧ z_18.toInt ≤ 60 := by omega
                have hgaz_18 : gA g 214 (sl.toNatClampNeg) = z_18.toInt := by rw [ez_18]; exact gA_of hgc_12 _
                have hsz_18 : z_18.toInt = z_15.toInt := by rw [ez_18, ez_15]
                refine lv_icmp_ge (tgt := 107) hx hb dX12_asksSeen_59 (by decide) (fun hc_19 => ?_) (fun hc_19 => ?_)
                · have hhc_19 := n_le (rfl : z_18.toInt = z_18.toInt) (rfl : v51_4.toInt = v51_4.toInt) hc_19
                  refine lv_iconst (v := 0) hx hb dX12_asksSeen_107 (by decide) ?_
                  have hr0 : (0 : Int32).toInt = 0 := by decide
                  exact q_iret X hP hS ⟨rfl, (fun _ => ⟨by omega, by omega, by omega, by omega, fun k h1 h2 h3 => he51_1 k h1 (by omega) h3⟩)⟩ dX12_asksSeen_108
                · have hhc_19 := n_nle (rfl : z_18.toInt = z_18.toInt) (rfl : v51_4.toInt = v51_4.toInt) hc_19
                  refine lv_aload_n hx hb dX12_asksSeen_62 rfl (lv_at hl 1 rfl) ?_
                  refine lv_aload_n hx hb dX12_asksSeen_63 rfl (lv_at hl 1 rfl) ?_
                  refine lv_iload_n hx hb dX12_asksSeen_64 rfl (lv_at hl 2 rfl) ?_
                  refine lv_iload hx hb dX12_asksSeen_65 (lv_at hl 0 rfl) ?_
                  refine s_callj (q := (RX12, TX12, 40)) (As := [.int sl, .int v51_4]) (rest := [.ref (ad 197)]) X Z (s_X12_numberAt l D cs ad kS K hKO hj g hW sl v51_4 (by omega) (by omega)) (cwV 2 X.2.2.2.2.1 gg_X12_asksSeen_X12_numberAt rfl rfl rfl (by decide +kernel) ⟨Nat.le_of_ble_eq_true rfl, Nat.le_of_ble_eq_true rfl⟩) (by decide) hgc_8 rfl hP hA hS.2.1 hS rfl hl.1 rfl (Nat.le_of_ble_eq_true rfl) dX12_asksSeen_67 ⟨Nat.le_of_ble_eq_true rfl, Nat.le_of_ble_eq_true rfl⟩ (fun r_22 g_21 H locs hw_20 hP hS => ?_)
                  obtain ⟨hw_20g, hw_20⟩ := hw_20
                  rw [hw_20g] at hP
                  refine s_calli (q := (RX12, TX12, 40)) (As := [.long r_22]) (rest := []) X Z (s_X12_isIcicle l D cs ad kS K hKO hj g hW r_22) (cwV 1 X.2.2.2.2.1 gg_X12_asksSeen_X12_isIcicle rfl rfl rfl (by decide +kernel) ⟨Nat.le_of_ble_eq_true rfl, Nat.le_of_ble_eq_true rfl⟩) (by decide) hgc_8 rfl hP hA hS.2.1 hS rfl hl.1 rfl (Nat.le_of_ble_eq_true rfl) dX12_asksSeen_70 ⟨Nat.le_of_ble_eq_true rfl, Nat.le_of_ble_eq_true rfl⟩ (fun r_25 g_24 H locs hw_23 hP hS => ?_)
                  obtain ⟨hw_23g, hw_23⟩ := hw_23
                  rw [hw_23g] at hP
                  have HJ98 : ∀ (H : Heap) (locs : List Loc) (ls : Array Slot), va_P D vwCl (wL ad g 218) H → va_S (wA ad 218) s.heap H locs → lv_has ls 5 [] → W p l e ({ frames := 2, cells := 0, slots := 0, locals := 47 } : Room) s m ([.ref (ad 197), .int sl, .int bo, .int nn] : List Value).toArray below meth c H locs 0 0 (MQ below (qI D ad 218 (fun r g2 => g2 = g ∧ (0 ≤ r.toInt → 0 ≤ sl.toInt ∧ sl.toInt ≤ 3 ∧ bo.toInt ≠ 0 ∧ snOK g sl))) ([.ref (ad 197), .int sl, .int bo, .int nn] : List Value).toArray s 0 0 (wA ad 218)) (F0 m 98 ls []) := by
                    intro H locs ls hP hS hl
                    refine lv_bipush (v := (-2)) hx hb dX12_asksSeen_98 (by decide) ?_
                    have hr0 : ((-2) : Int32).toInt = -2 := by decide
                    exact q_iret X hP hS ⟨rfl, (fun h => by exfalso; omega)⟩ dX12_asksSeen_100
                  refine lv_if_eq (tgt := 98) hx hb dX12_asksSeen_73 (by decide) (fun hc_26 => ?_) (fun hc_26 => ?_)
                  · have hhc_26 := n_eq (rfl : r_25.toInt = r_25.toInt) (by decide : (0 : Int32).toInt = 0) hc_26
                    exact HJ98 _ _ ls hP hS (lv_sub hl [] rfl)
                  · have hhc_26 := n_ne (rfl : r_25.toInt = r_25.toInt) (by decide : (0 : Int32).toInt = 0) hc_26
                    refine lv_aload_n hx hb dX12_asksSeen_76 rfl (lv_at hl 1 rfl) ?_
                    refine lv_iload_n hx hb dX12_asksSeen_77 rfl (lv_at hl 2 rfl) ?_
                    refine lv_iload hx hb dX12_asksSeen_78 (lv_at hl 0 rfl) ?_
                    refine lv_iconst (v := 1) hx hb dX12_asksSeen_80 (by decide) ?_
                    refine lv_iadd hx hb dX12_asksSeen_81 ?_
                    refine lv_topi (fun z_27 ez_27 => ?_)
                    have hz_27 : z_27.toInt = v51_4.toInt + 1 := n_add (rfl : v51_4.toInt = v51_4.toInt) (by decide : (1 : Int32).toInt = 1) ez_27 (by omega) (by omega)
                    refine s_callj (q := (RX12, TX12, 40)) (As := [.int sl, .int z_27]) (rest := []) X Z (s_X12_numberAt l D cs ad kS K hKO hj g hW sl z_27 (by omega) (by omega)) (cwV 2 X.2.2.2.2.1 gg_X12_asksSeen_X12_numberAt rfl rfl rfl (by decide +kernel) ⟨Nat.le_of_ble_eq_true rfl, Nat.le_of_ble_eq_true rfl⟩) (by decide) hgc_8 rfl hP hA hS.2.1 hS rfl hl.1 rfl (Nat.le_of_ble_eq_true rfl) dX12_asksSeen_82 ⟨Nat.le_of_ble_eq_true rfl, Nat.le_of_ble_eq_true rfl⟩ (fun r_30 g_29 H locs hw_28 hP hS => ?_)
                    obtain ⟨hw_28g, hw_28⟩ := hw_28
                    rw [hw_28g] at hP
                    refine lv_ldc2 (v := (-1)) hx hb X.2.2.2.2.2.1 (X.2.2.2.2.1 _ (List.mem_of_getElem? (i := 14) rfl)) dX12_asksSeen_85 ?_
                    refine lv_iload_n hx hb dX12_asksSeen_88 rfl (lv_at hl 3 rfl) ?_
                    refine lv_iconst (v := 1) hx hb dX12_asksSeen_89 (by decide) ?_
                    refine lv_isub hx hb dX12_asksSeen_90 ?_
                    refine lv_topi (fun z_31 ez_31 => ?_)
                    refine lv_i2l hx hb dX12_asksSeen_91 rfl ?_
                    refine lv_topl (fun z_32 ez_32 => ?_)
                    have hz_32 : z_32.toInt = z_31.toInt := ez_32 ▸ j_of rfl
                    have := n_hi z_31
                    have := n_lo z_31
                    refine s_callSi (As := [.long r_30, .long (-1), .long z_32]) (rest := []) X Z (s_X12_in l D cs ad kS K hKO hj g hW r_30 (-1) z_32) (cwS 3 X.2.2.2.2.1 gg_X12_asksSeen_X12_in rfl rfl rfl (by decide +kernel) ⟨Nat.le_of_ble_eq_true rfl, Nat.le_of_ble_eq_true rfl⟩) hP hA hS.2.1 hS rfl hl.1 rfl (Nat.le_of_ble_eq_true rfl) dX12_asksSeen_92 ⟨Nat.le_of_ble_eq_true rfl, Nat.le_of_ble_eq_true rfl⟩ (fun r_35 g_34 H locs hw_33 hP hS => ?_)
                    obtain ⟨hw_33g, hw_33⟩ := hw_33
                    rw [hw_33g] at hP
                    have hqk_36 : ((-1) : Int64).toInt = -1 := by decide
                    refine lv_if_ne (tgt := 101) hx hb dX12_asksSeen_95 (by decide) (fun hc_37 => ?_) (fun hc_37 => ?_)
                    · have hhc_37 := n_ne (rfl : r_35.toInt = r_35.toInt) (by decide : (0 : Int32).toInt = 0) hc_37
                      obtain ⟨x_38, ex_38⟩ : ∃ y : Int32, y = v51_4 + 2 := ⟨_, rfl⟩
                      have hx_38 : x_38.toInt = v51_4.toInt + 2 := n_add rfl (by decide : (2 : Int32).toInt = 2) ex_38 (by omega) (by omega)
                      refine lv_iinc (v := x_38) (lv' := [(4, .int x_38), (0, .ref (ad 197)), (1, .int sl), (3, .int nn)]) hx hb dX12_asksSeen_101 hl (k := 0) rfl (by rw [ex_38]; rfl) (by decide) rfl (fun ls hl => ?_)
                      refine lv_goto (tgt := 51) hx hb dX12_asksSeen_104 (by decide) ?_
                      exact ih51 x_38 _ _ ls (by omega) (by omega) (by omega) (snOK.next he51_1 hw_20 (by omega) he51_0 hx_38) hP hS (lv_sub hl [0, 1, 2, 3] rfl)
                    · have hhc_37 := n_eq (rfl : r_35.toInt = r_35.toInt) (by decide : (0 : Int32).toInt = 0) hc_37
                      exact HJ98 _ _ ls hP hS (lv_sub hl [] rfl)
            have hiv51_4 : (0 : Int32).toInt = 0 := by decide
            exact HL51 _ 0 _ _ ls (Nat.lt_succ_self _) (by omega) (by omega) (fun k h1 h2 _ => by exfalso; omega) hP hS (lv_sub hl [0, 1, 2, 4] rfl)
          · have hhc_17 := n_ne (rfl : z_16.toInt = z_16.toInt) (by decide : (0 : Int32).toInt = 0) hc_17
            refine lv_bipush (v := (-2)) hx hb dX12_asksSeen_45 (by decide) ?_
            have hr0 : ((-2) : Int32).toInt = -2 := by decide
            exact q_iret X hP hS ⟨rfl, (fun h => by exfalso; omega)⟩ dX12_asksSeen_47
        · have hhc_14 := n_eq (rfl : z_13.toInt = z_13.toInt) (by decide : (-1 : Int32).toInt = -1) hc_14
          refine lv_bipush (v := (-6)) hx hb dX12_asksSeen_31 (by decide) ?_
          have hr0 : ((-6) : Int32).toInt = -6 := by decide
          exact q_iret X hP hS ⟨rfl, (fun h => by exfalso; omega)⟩ dX12_asksSeen_33
      · have hhc_10 := n_eq (rfl : bo.toInt = bo.toInt) (by decide : (0 : Int32).toInt = 0) hc_10
        exact HJ18 _ _ ls hP hS (lv_sub hl [] rfl)

theorem dX12_isSeen_0 : decode cX12_isSeen 0 = .ok (.iconst 0, 1) := by decide +kernel
theorem dX12_isSeen_1 : decode cX12_isSeen 1 = .ok (.istore_n 2, 1) := by decide +kernel
theorem dX12_isSeen_2 : decode cX12_isSeen 2 = .ok (.iload_n 2, 1) := by decide +kernel
theorem dX12_isSeen_3 : decode cX12_isSeen 3 = .ok (.aload_n 0, 1) := by decide +kernel
theorem dX12_isSeen_4 : decode cX12_isSeen 4 = .ok (.getfield 65, 3) := by decide +kernel
theorem dX12_isSeen_7 : decode cX12_isSeen 7 = .ok (.iload_n 1, 1) := by decide +kernel
theorem dX12_isSeen_8 : decode cX12_isSeen 8 = .ok (.iaload, 1) := by decide +kernel
theorem dX12_isSeen_9 : decode cX12_isSeen 9 = .ok (.if_icmp .ge 36, 3) := by decide +kernel
theorem dX12_isSeen_12 : decode cX12_isSeen 12 = .ok (.aload_n 0, 1) := by decide +kernel
theorem dX12_isSeen_13 : decode cX12_isSeen 13 = .ok (.getfield 37, 3) := by decide +kernel
theorem dX12_isSeen_16 : decode cX12_isSeen 16 = .ok (.aload_n 0, 1) := by decide +kernel
theorem dX12_isSeen_17 : decode cX12_isSeen 17 = .ok (.iload_n 1, 1) := by decide +kernel
theorem dX12_isSeen_18 : decode cX12_isSeen 18 = .ok (.iload_n 2, 1) := by decide +kernel
theorem dX12_isSeen_19 : decode cX12_isSeen 19 = .ok (.invokevirtual 310, 3) := by decide +kernel
theorem dX12_isSeen_22 : decode cX12_isSeen 22 = .ok (.l2i, 1) := by decide +kernel
theorem dX12_isSeen_23 : decode cX12_isSeen 23 = .ok (.iaload, 1) := by decide +kernel
theorem dX12_isSeen_24 : decode cX12_isSeen 24 = .ok (.i2l, 1) := by decide +kernel
theorem dX12_isSeen_25 : decode cX12_isSeen 25 = .ok (.aload_n 0, 1) := by decide +kernel
theorem dX12_isSeen_26 : decode cX12_isSeen 26 = .ok (.iload_n 1, 1) := by decide +kernel
theorem dX12_isSeen_27 : decode cX12_isSeen 27 = .ok (.iload_n 2, 1) := by decide +kernel
theorem dX12_isSeen_28 : decode cX12_isSeen 28 = .ok (.iconst 1, 1) := by decide +kernel
theorem dX12_isSeen_29 : decode cX12_isSeen 29 = .ok (.iadd, 1) := by decide +kernel
theorem dX12_isSeen_30 : decode cX12_isSeen 30 = .ok (.invokevirtual 310, 3) := by decide +kernel
theorem dX12_isSeen_33 : decode cX12_isSeen 33 = .ok (.lcmp, 1) := by decide +kernel
theorem dX12_isSeen_34 : decode cX12_isSeen 34 = .ok (.ifCond .eq 5, 3) := by decide +kernel
theorem dX12_isSeen_37 : decode cX12_isSeen 37 = .ok (.iconst 0, 1) := by decide +kernel
theorem dX12_isSeen_38 : decode cX12_isSeen 38 = .ok (.ireturn, 1) := by decide +kernel
theorem dX12_isSeen_39 : decode cX12_isSeen 39 = .ok (.iinc 2 2, 3) := by decide +kernel
theorem dX12_isSeen_42 : decode cX12_isSeen 42 = .ok (.goto (-40), 3) := by decide +kernel
theorem dX12_isSeen_45 : decode cX12_isSeen 45 = .ok (.iconst 1, 1) := by decide +kernel
theorem dX12_isSeen_46 : decode cX12_isSeen 46 = .ok (.ireturn, 1) := by decide +kernel
noncomputable def vX12_isSeen : List Cond := .code yX12_isSeen cX12_isSeen 3 (some .boolean) :: (([.fieldLink RX12 65 "IcicleClockModel" "many" "[I", .fieldLink RX12 37 "IcicleClockModel" "fell" "[I", .methodLink RX12 310 yX12_numberAt, .instanceMethod yX12_numberAt, .selects RX12 yX12_numberAt yX12_numberAt, .initialized RX12] : List Cond) ++ (wsX120 ++ vX12_numberAt))
theorem iX12_isSeen_12 : ∀ w ∈ wsX120, w ∈ vX12_isSeen := fun _ h => List.mem_cons_of_mem _ (List.mem_append_right _ (List.mem_append_left _ h))
theorem gs_X12_isSeen : Gd vX12_isSeen := Gd.cons (by decide +kernel) (Gd.app (Gd.r (by decide +kernel)) (Gd.app gwX_12 gs_X12_numberAt))
theorem gg_X12_isSeen_X12_numberAt : GoodIn vX12_isSeen (wsV RX12 310 RX12 yX12_numberAt vX12_numberAt) := goodIn_app (goodIn_r _ [3, 4, 5, 6] (by decide +kernel) (by decide +kernel)) (fun w h => ⟨List.mem_cons_of_mem _ (List.mem_append_right _ (List.mem_append_right _ (h))), gs_X12_numberAt w h⟩)
set_option maxHeartbeats 4000000 in
set_option maxRecDepth 100000 in
theorem s_X12_isSeen (l : Launch) (D : va_G) (cs : Nat → ClassId) (ad : Nat → Nat) (kS : kSt) (K : sK) (hKO : KO K) (hj : wJ ad 218) (g : Nat → va_E) (hW : WF (shp ad K) ad cs g) (sl : Int32) (hp0 : 0 ≤ sl.toInt ∧ sl.toInt ≤ 3) (hp1 : snOK g sl) : sI l yX12_isSeen vX12_isSeen { frames := 1, cells := 0, slots := 0, locals := 22 } D cs ad kS [.ref (ad 197), .int sl] g (fun r g2 => g2 = g ∧ (0 ≤ r.toInt ∧ r.toInt ≤ 1)) := by
  refine Met.startS (cc := cX12_isSeen) (maxL := 3) (ret := (some .boolean)) RX12 rfl (by decide) rfl (Nat.le_of_ble_eq_true rfl) ?_
  intro p e s m below meth c ls X Z hP hl
  have hx := X.1
  have hb := X.2.1
  have hS : va_S (wA ad 218) s.heap s.heap [] := va_S.rf
  have hA : ∀ i, i < 218 → wA ad 218 (ad i) := fun i h => ⟨i, h, rfl⟩
  have hsn2 := hp1.1
  have hl : lv_has ls 3 [(0, .ref (ad 197)), (1, .int sl)] := hl
  refine lv_iconst (v := 0) hx hb dX12_isSeen_0 (by decide) ?_
  refine lv_istore_n (lv' := [(2, .int 0), (0, .ref (ad 197)), (1, .int sl)]) hx hb dX12_isSeen_1 rfl hl (by decide) rfl (fun ls hl => ?_)
  have HL2 : ∀ (n2 : Nat) (v2_2 : Int32) (H : Heap) (locs : List Loc) (ls : Array Slot), (61 - v2_2.toInt).toNat < n2 → (0 ≤ v2_2.toInt ∧ v2_2.toInt ≤ 61) → v2_2.toInt % 2 = 0 → va_P D vwCl (wL ad g 218) H → va_S (wA ad 218) s.heap H locs → lv_has ls 3 [(2, .int v2_2), (0, .ref (ad 197)), (1, .int sl)] → W p l e ({ frames := 1, cells := 0, slots := 0, locals := 22 } : Room) s m ([.ref (ad 197), .int sl] : List Value).toArray below meth c H locs 0 0 (MQ below (qI D ad 218 (fun r g2 => g2 = g ∧ (0 ≤ r.toInt ∧ r.toInt ≤ 1))) ([.ref (ad 197), .int sl] : List Value).toArray s 0 0 (wA ad 218)) (F0 m 2 ls []) := by
    intro n2
    induction n2 with
    | zero =>
      intro v2_2 H locs ls hm2 hv2_0 he2_0 hP hS hl
      exact absurd hm2 (Nat.not_lt_zero _)
    | succ n2 ih2 =>
      intro v2_2 H locs ls hm2 hv2_0 he2_0 hP hS hl
      refine lv_iload_n hx hb dX12_isSeen_2 rfl (lv_at hl 0 rfl) ?_
      refine lv_aload_n hx hb dX12_isSeen_3 rfl (lv_at hl 1 rfl) ?_
      obtain ⟨fsc_1, hgc_1, hOc_1⟩ := hW.obj (i := 197) (by decide) (sh_197 ad K)
      have hk_2 := hOc_1.ref 36 rfl
      refine q_get X iX12_isSeen_12 hP (by decide) hgc_1 rfl 36 (by decide) (List.mem_of_getElem? (i := 1) rfl) (v := .ref (ad 214)) hk_2 dX12_isSeen_4 ?_
      refine lv_iload_n hx hb dX12_isSeen_7 rfl (lv_at hl 2 rfl) ?_
      obtain ⟨fc_3, hgc_3, hFc_3⟩ := hW.arr (i := 214) (by decide) (sh_214 ad K)
      refine q_iald X hP (by decide) hgc_3 (n_in (rfl : sl.toInt = sl.toInt) (by omega) (by omega)) dX12_isSeen_8 ?_
      refine lv_topi (fun z_4 ez_4 => ?_)
      have hqz_4 : z_4.toInt = (K.2.2.2.2.1 (sl.toNatClampNeg)).toInt := ez_4 ▸ hFc_3 _
      have hcz_4 := n_cl (rfl : sl.toInt = sl.toInt) (by omega)
      have hKOz_4 := hKO (sl.toNatClampNeg)
      have hz_4 : -1 ≤ z_4.toInt ∧ z_4.toInt ≤ 60 := by omega
      have hgaz_4 : gA g 214 (sl.toNatClampNeg) = z_4.toInt := by rw [ez_4]; exact gA_of hgc_3 _
      refine lv_icmp_ge (tgt := 45) hx hb dX12_isSeen_9 (by decide) (fun hc_5 => ?_) (fun hc_5 => ?_)
      · have hhc_5 := n_le (rfl : z_4.toInt = z_4.toInt) (rfl : v2_2.toInt = v2_2.toInt) hc_5
        refine lv_iconst (v := 1) hx hb dX12_isSeen_45 (by decide) ?_
        have hr0 : (1 : Int32).toInt = 1 := by decide
        exact q_zret X hP hS rfl ⟨rfl, (by omega)⟩ dX12_isSeen_46
      · have hhc_5 := n_nle (rfl : z_4.toInt = z_4.toInt) (rfl : v2_2.toInt = v2_2.toInt) hc_5
        refine lv_aload_n hx hb dX12_isSeen_12 rfl (lv_at hl 1 rfl) ?_
        have hk_6 := hOc_1.ref 16 rfl
        refine q_get X iX12_isSeen_12 hP (by decide) hgc_1 rfl 16 (by decide) (List.mem_of_getElem? (i := 2) rfl) (v := .ref (ad 205)) hk_6 dX12_isSeen_13 ?_
        refine lv_aload_n hx hb dX12_isSeen_16 rfl (lv_at hl 1 rfl) ?_
        refine lv_iload_n hx hb dX12_isSeen_17 rfl (lv_at hl 2 rfl) ?_
        refine lv_iload_n hx hb dX12_isSeen_18 rfl (lv_at hl 0 rfl) ?_
        refine s_callj (q := (RX12, TX12, 40)) (As := [.int sl, .int v2_2]) (rest := [.ref (ad 205)]) X Z (s_X12_numberAt l D cs ad kS K hKO hj g hW sl v2_2 (by omega) (by omega)) (cwV 2 X.2.2.2.2.1 gg_X12_isSeen_X12_numberAt rfl rfl rfl (by decide +kernel) ⟨Nat.le_of_ble_eq_true rfl, Nat.le_of_ble_eq_true rfl⟩) (by decide) hgc_1 rfl hP hA hS.2.1 hS rfl hl.1 rfl (Nat.le_of_ble_eq_true rfl) dX12_isSeen_19 ⟨Nat.le_of_ble_eq_true rfl, Nat.le_of_ble_eq_true rfl⟩ (fun r_9 g_8 H locs hw_7 hP hS => ?_)
        obtain ⟨hw_7g, hw_7⟩ := hw_7
        rw [hw_7g] at hP
        have hsnhw_7 := hp1.2 v2_2.toInt (by omega) (by omega) (by omega)
        rw [← hw_7] at hsnhw_7
        refine lv_l2i hx hb dX12_isSeen_22 rfl ?_
        refine lv_topi (fun z_10 ez_10 => ?_)
        have hz_10 : z_10.toInt = r_9.toInt := j_l2i (rfl : r_9.toInt = r_9.toInt) ez_10 (by omega) (by omega)
        obtain ⟨fc_11, hgc_11, hFc_11⟩ := hW.arr (i := 205) (by decide) (sh_205 ad K)
        refine q_iald X hP (by decide) hgc_11 (n_in (rfl : z_10.toInt = z_10.toInt) (by omega) (by omega)) dX12_isSeen_23 ?_
        refine lv_topi (fun z_12 ez_12 => ?_)
        have hz_12 : (-1) ≤ z_12.toInt ∧ z_12.toInt ≤ 13 := ez_12 ▸ hFc_11 _
        refine lv_i2l hx hb dX12_isSeen_24 rfl ?_
        refine lv_topl (fun z_13 ez_13 => ?_)
        have hz_13 : z_13.toInt = z_12.toInt := ez_13 ▸ j_of rfl
        refine lv_aload_n hx hb dX12_isSeen_25 rfl (lv_at hl 1 rfl) ?_
        refine lv_iload_n hx hb dX12_isSeen_26 rfl (lv_at hl 2 rfl) ?_
        refine lv_iload_n hx hb dX12_isSeen_27 rfl (lv_at hl 0 rfl) ?_
        refine lv_iconst (v := 1) hx hb dX12_isSeen_28 (by decide) ?_
        refine lv_iadd hx hb dX12_isSeen_29 ?_
        refine lv_topi (fun z_14 ez_14 => ?_)
        have hz_14 : z_14.toInt = v2_2.toInt + 1 := n_add (rfl : v2_2.toInt = v2_2.toInt) (by decide : (1 : Int32).toInt = 1) ez_14 (by omega) (by omega)
        refine s_callj (q := (RX12, TX12, 40)) (As := [.int sl, .int z_14]) (rest := [.long z_13]) X Z (s_X12_numberAt l D cs ad kS K hKO hj g hW sl z_14 (by omega) (by omega)) (cwV 2 X.2.2.2.2.1 gg_X12_isSeen_X12_numberAt rfl rfl rfl (by decide +kernel) ⟨Nat.le_of_ble_eq_true rfl, Nat.le_of_ble_eq_true rfl⟩) (by decide) hgc_1 rfl hP hA hS.2.1 hS rfl hl.1 rfl (Nat.le_of_ble_eq_true rfl) dX12_isSeen_30 ⟨Nat.le_of_ble_eq_true rfl, Nat.le_of_ble_eq_true rfl⟩ (fun r_17 g_16 H locs hw_15 hP hS => ?_)
        obtain ⟨hw_15g, hw_15⟩ := hw_15
        rw [hw_15g] at hP
        refine W.lcmp hx hb dX12_isSeen_33 ?_
        refine lv_if_eq (tgt := 39) hx hb dX12_isSeen_34 (by decide) (fun hc_18 => ?_) (fun hc_18 => ?_)
        · have hhc_18 := j_ceq (rfl : z_13.toInt = z_13.toInt) (rfl : r_17.toInt = r_17.toInt) hc_18
          obtain ⟨x_19, ex_19⟩ : ∃ y : Int32, y = v2_2 + 2 := ⟨_, rfl⟩
          have hx_19 : x_19.toInt = v2_2.toInt + 2 := n_add rfl (by decide : (2 : Int32).toInt = 2) ex_19 (by omega) (by omega)
          refine lv_iinc (v := x_19) (lv' := [(2, .int x_19), (0, .ref (ad 197)), (1, .int sl)]) hx hb dX12_isSeen_39 hl (k := 0) rfl (by rw [ex_19]; rfl) (by decide) rfl (fun ls hl => ?_)
          refine lv_goto (tgt := 2) hx hb dX12_isSeen_42 (by decide) ?_
          exact ih2 x_19 _ _ ls (by omega) (by omega) (by omega) hP hS (lv_sub hl [0, 1, 2] rfl)
        · have hhc_18 := j_cne (rfl : z_13.toInt = z_13.toInt) (rfl : r_17.toInt = r_17.toInt) hc_18
          refine lv_iconst (v := 0) hx hb dX12_isSeen_37 (by decide) ?_
          have hr0 : (0 : Int32).toInt = 0 := by decide
          exact q_zret X hP hS rfl ⟨rfl, (by omega)⟩ dX12_isSeen_38
  have hiv2_2 : (0 : Int32).toInt = 0 := by decide
  exact HL2 _ 0 _ _ ls (Nat.lt_succ_self _) (by omega) (by omega) hP hS (lv_sub hl [0, 1, 2] rfl)

theorem dX12_laySlams_0 : decode cX12_laySlams 0 = .ok (.aload_n 0, 1) := by decide +kernel
theorem dX12_laySlams_1 : decode cX12_laySlams 1 = .ok (.iload_n 1, 1) := by decide +kernel
theorem dX12_laySlams_2 : decode cX12_laySlams 2 = .ok (.iconst 1, 1) := by decide +kernel
theorem dX12_laySlams_3 : decode cX12_laySlams 3 = .ok (.aload_n 0, 1) := by decide +kernel
theorem dX12_laySlams_4 : decode cX12_laySlams 4 = .ok (.getfield 9, 3) := by decide +kernel
theorem dX12_laySlams_7 : decode cX12_laySlams 7 = .ok (.iconst 3, 1) := by decide +kernel
theorem dX12_laySlams_8 : decode cX12_laySlams 8 = .ok (.iaload, 1) := by decide +kernel
theorem dX12_laySlams_9 : decode cX12_laySlams 9 = .ok (.invokevirtual 316, 3) := by decide +kernel
theorem dX12_laySlams_12 : decode cX12_laySlams 12 = .ok (.istore_n 2, 1) := by decide +kernel
theorem dX12_laySlams_13 : decode cX12_laySlams 13 = .ok (.iload_n 2, 1) := by decide +kernel
theorem dX12_laySlams_14 : decode cX12_laySlams 14 = .ok (.ifCond .ge 5, 3) := by decide +kernel
theorem dX12_laySlams_17 : decode cX12_laySlams 17 = .ok (.iload_n 2, 1) := by decide +kernel
theorem dX12_laySlams_18 : decode cX12_laySlams 18 = .ok (.ireturn, 1) := by decide +kernel
theorem dX12_laySlams_19 : decode cX12_laySlams 19 = .ok (.aload_n 0, 1) := by decide +kernel
theorem dX12_laySlams_20 : decode cX12_laySlams 20 = .ok (.iconst 0, 1) := by decide +kernel
theorem dX12_laySlams_21 : decode cX12_laySlams 21 = .ok (.invokevirtual 240, 3) := by decide +kernel
theorem dX12_laySlams_24 : decode cX12_laySlams 24 = .ok (.aload_n 0, 1) := by decide +kernel
theorem dX12_laySlams_25 : decode cX12_laySlams 25 = .ok (.iconst 0, 1) := by decide +kernel
theorem dX12_laySlams_26 : decode cX12_laySlams 26 = .ok (.putfield 320, 3) := by decide +kernel
theorem dX12_laySlams_29 : decode cX12_laySlams 29 = .ok (.iconst 0, 1) := by decide +kernel
theorem dX12_laySlams_30 : decode cX12_laySlams 30 = .ok (.istore_n 3, 1) := by decide +kernel
theorem dX12_laySlams_31 : decode cX12_laySlams 31 = .ok (.iload_n 3, 1) := by decide +kernel
theorem dX12_laySlams_32 : decode cX12_laySlams 32 = .ok (.aload_n 0, 1) := by decide +kernel
theorem dX12_laySlams_33 : decode cX12_laySlams 33 = .ok (.getfield 9, 3) := by decide +kernel
theorem dX12_laySlams_36 : decode cX12_laySlams 36 = .ok (.iconst 4, 1) := by decide +kernel
theorem dX12_laySlams_37 : decode cX12_laySlams 37 = .ok (.iaload, 1) := by decide +kernel
theorem dX12_laySlams_38 : decode cX12_laySlams 38 = .ok (.if_icmp .ge 148, 3) := by decide +kernel
theorem dX12_laySlams_41 : decode cX12_laySlams 41 = .ok (.iconst 0, 1) := by decide +kernel
theorem dX12_laySlams_42 : decode cX12_laySlams 42 = .ok (.istore 4, 2) := by decide +kernel
theorem dX12_laySlams_44 : decode cX12_laySlams 44 = .ok (.iload 4, 2) := by decide +kernel
theorem dX12_laySlams_46 : decode cX12_laySlams 46 = .ok (.aload_n 0, 1) := by decide +kernel
theorem dX12_laySlams_47 : decode cX12_laySlams 47 = .ok (.getfield 231, 3) := by decide +kernel
theorem dX12_laySlams_50 : decode cX12_laySlams 50 = .ok (.if_icmp .ge 130, 3) := by decide +kernel
theorem dX12_laySlams_53 : decode cX12_laySlams 53 = .ok (.aload_n 0, 1) := by decide +kernel
theorem dX12_laySlams_54 : decode cX12_laySlams 54 = .ok (.getfield 34, 3) := by decide +kernel
theorem dX12_laySlams_57 : decode cX12_laySlams 57 = .ok (.bipush 14, 2) := by decide +kernel
theorem dX12_laySlams_59 : decode cX12_laySlams 59 = .ok (.iload_n 3, 1) := by decide +kernel
theorem dX12_laySlams_60 : decode cX12_laySlams 60 = .ok (.imul, 1) := by decide +kernel
theorem dX12_laySlams_61 : decode cX12_laySlams 61 = .ok (.iload 4, 2) := by decide +kernel
theorem dX12_laySlams_63 : decode cX12_laySlams 63 = .ok (.iadd, 1) := by decide +kernel
theorem dX12_laySlams_64 : decode cX12_laySlams 64 = .ok (.dup2, 1) := by decide +kernel
theorem dX12_laySlams_65 : decode cX12_laySlams 65 = .ok (.iaload, 1) := by decide +kernel
theorem dX12_laySlams_66 : decode cX12_laySlams 66 = .ok (.aload_n 0, 1) := by decide +kernel
theorem dX12_laySlams_67 : decode cX12_laySlams 67 = .ok (.getfield 9, 3) := by decide +kernel
theorem dX12_laySlams_70 : decode cX12_laySlams 70 = .ok (.iconst 0, 1) := by decide +kernel
theorem dX12_laySlams_71 : decode cX12_laySlams 71 = .ok (.iaload, 1) := by decide +kernel
theorem dX12_laySlams_72 : decode cX12_laySlams 72 = .ok (.iadd, 1) := by decide +kernel
theorem dX12_laySlams_73 : decode cX12_laySlams 73 = .ok (.iastore, 1) := by decide +kernel
theorem dX12_laySlams_74 : decode cX12_laySlams 74 = .ok (.aload_n 0, 1) := by decide +kernel
theorem dX12_laySlams_75 : decode cX12_laySlams 75 = .ok (.invokevirtual 243, 3) := by decide +kernel
theorem dX12_laySlams_78 : decode cX12_laySlams 78 = .ok (.aload_n 0, 1) := by decide +kernel
theorem dX12_laySlams_79 : decode cX12_laySlams 79 = .ok (.getfield 34, 3) := by decide +kernel
theorem dX12_laySlams_82 : decode cX12_laySlams 82 = .ok (.bipush 14, 2) := by decide +kernel
theorem dX12_laySlams_84 : decode cX12_laySlams 84 = .ok (.iload_n 3, 1) := by decide +kernel
theorem dX12_laySlams_85 : decode cX12_laySlams 85 = .ok (.imul, 1) := by decide +kernel
theorem dX12_laySlams_86 : decode cX12_laySlams 86 = .ok (.iload 4, 2) := by decide +kernel
theorem dX12_laySlams_88 : decode cX12_laySlams 88 = .ok (.iadd, 1) := by decide +kernel
theorem dX12_laySlams_89 : decode cX12_laySlams 89 = .ok (.dup2, 1) := by decide +kernel
theorem dX12_laySlams_90 : decode cX12_laySlams 90 = .ok (.iaload, 1) := by decide +kernel
theorem dX12_laySlams_91 : decode cX12_laySlams 91 = .ok (.aload_n 0, 1) := by decide +kernel
theorem dX12_laySlams_92 : decode cX12_laySlams 92 = .ok (.getfield 9, 3) := by decide +kernel
theorem dX12_laySlams_95 : decode cX12_laySlams 95 = .ok (.iconst 0, 1) := by decide +kernel
theorem dX12_laySlams_96 : decode cX12_laySlams 96 = .ok (.iaload, 1) := by decide +kernel
theorem dX12_laySlams_97 : decode cX12_laySlams 97 = .ok (.isub, 1) := by decide +kernel
theorem dX12_laySlams_98 : decode cX12_laySlams 98 = .ok (.iastore, 1) := by decide +kernel
theorem dX12_laySlams_99 : decode cX12_laySlams 99 = .ok (.aload_n 0, 1) := by decide +kernel
theorem dX12_laySlams_100 : decode cX12_laySlams 100 = .ok (.iload_n 1, 1) := by decide +kernel
theorem dX12_laySlams_101 : decode cX12_laySlams 101 = .ok (.invokevirtual 323, 3) := by decide +kernel
theorem dX12_laySlams_104 : decode cX12_laySlams 104 = .ok (.ifCond .ne 6, 3) := by decide +kernel
theorem dX12_laySlams_107 : decode cX12_laySlams 107 = .ok (.goto 67, 3) := by decide +kernel
theorem dX12_laySlams_110 : decode cX12_laySlams 110 = .ok (.aload_n 0, 1) := by decide +kernel
theorem dX12_laySlams_111 : decode cX12_laySlams 111 = .ok (.getfield 43, 3) := by decide +kernel
theorem dX12_laySlams_114 : decode cX12_laySlams 114 = .ok (.aload_n 0, 1) := by decide +kernel
theorem dX12_laySlams_115 : decode cX12_laySlams 115 = .ok (.getfield 320, 3) := by decide +kernel
theorem dX12_laySlams_118 : decode cX12_laySlams 118 = .ok (.bipush 100, 2) := by decide +kernel
theorem dX12_laySlams_120 : decode cX12_laySlams 120 = .ok (.iload_n 3, 1) := by decide +kernel
theorem dX12_laySlams_121 : decode cX12_laySlams 121 = .ok (.imul, 1) := by decide +kernel
theorem dX12_laySlams_122 : decode cX12_laySlams 122 = .ok (.iload 4, 2) := by decide +kernel
theorem dX12_laySlams_124 : decode cX12_laySlams 124 = .ok (.iadd, 1) := by decide +kernel
theorem dX12_laySlams_125 : decode cX12_laySlams 125 = .ok (.iastore, 1) := by decide +kernel
theorem dX12_laySlams_126 : decode cX12_laySlams 126 = .ok (.iconst 0, 1) := by decide +kernel
theorem dX12_laySlams_127 : decode cX12_laySlams 127 = .ok (.istore 5, 2) := by decide +kernel
theorem dX12_laySlams_129 : decode cX12_laySlams 129 = .ok (.iload 5, 2) := by decide +kernel
theorem dX12_laySlams_131 : decode cX12_laySlams 131 = .ok (.bipush 8, 2) := by decide +kernel
theorem dX12_laySlams_133 : decode cX12_laySlams 133 = .ok (.if_icmp .ge 31, 3) := by decide +kernel
theorem dX12_laySlams_136 : decode cX12_laySlams 136 = .ok (.aload_n 0, 1) := by decide +kernel
theorem dX12_laySlams_137 : decode cX12_laySlams 137 = .ok (.getfield 46, 3) := by decide +kernel
theorem dX12_laySlams_140 : decode cX12_laySlams 140 = .ok (.bipush 8, 2) := by decide +kernel
theorem dX12_laySlams_142 : decode cX12_laySlams 142 = .ok (.aload_n 0, 1) := by decide +kernel
theorem dX12_laySlams_143 : decode cX12_laySlams 143 = .ok (.getfield 320, 3) := by decide +kernel
theorem dX12_laySlams_146 : decode cX12_laySlams 146 = .ok (.imul, 1) := by decide +kernel
theorem dX12_laySlams_147 : decode cX12_laySlams 147 = .ok (.iload 5, 2) := by decide +kernel
theorem dX12_laySlams_149 : decode cX12_laySlams 149 = .ok (.iadd, 1) := by decide +kernel
theorem dX12_laySlams_150 : decode cX12_laySlams 150 = .ok (.aload_n 0, 1) := by decide +kernel
theorem dX12_laySlams_151 : decode cX12_laySlams 151 = .ok (.getfield 37, 3) := by decide +kernel
theorem dX12_laySlams_154 : decode cX12_laySlams 154 = .ok (.iload 5, 2) := by decide +kernel
theorem dX12_laySlams_156 : decode cX12_laySlams 156 = .ok (.iaload, 1) := by decide +kernel
theorem dX12_laySlams_157 : decode cX12_laySlams 157 = .ok (.iastore, 1) := by decide +kernel
theorem dX12_laySlams_158 : decode cX12_laySlams 158 = .ok (.iinc 5 1, 3) := by decide +kernel
theorem dX12_laySlams_161 : decode cX12_laySlams 161 = .ok (.goto (-32), 3) := by decide +kernel
theorem dX12_laySlams_164 : decode cX12_laySlams 164 = .ok (.aload_n 0, 1) := by decide +kernel
theorem dX12_laySlams_165 : decode cX12_laySlams 165 = .ok (.dup, 1) := by decide +kernel
theorem dX12_laySlams_166 : decode cX12_laySlams 166 = .ok (.getfield 320, 3) := by decide +kernel
theorem dX12_laySlams_169 : decode cX12_laySlams 169 = .ok (.iconst 1, 1) := by decide +kernel
theorem dX12_laySlams_170 : decode cX12_laySlams 170 = .ok (.iadd, 1) := by decide +kernel
theorem dX12_laySlams_171 : decode cX12_laySlams 171 = .ok (.putfield 320, 3) := by decide +kernel
theorem dX12_laySlams_174 : decode cX12_laySlams 174 = .ok (.iinc 4 1, 3) := by decide +kernel
theorem dX12_laySlams_177 : decode cX12_laySlams 177 = .ok (.goto (-133), 3) := by decide +kernel
theorem dX12_laySlams_180 : decode cX12_laySlams 180 = .ok (.iinc 3 1, 3) := by decide +kernel
theorem dX12_laySlams_183 : decode cX12_laySlams 183 = .ok (.goto (-152), 3) := by decide +kernel
theorem dX12_laySlams_186 : decode cX12_laySlams 186 = .ok (.iconst 0, 1) := by decide +kernel
theorem dX12_laySlams_187 : decode cX12_laySlams 187 = .ok (.ireturn, 1) := by decide +kernel
noncomputable def vX12_laySlams : List Cond := .code yX12_laySlams cX12_laySlams 6 (some .int) :: (([.fieldLink RX12 9 "IcicleClockModel" "world" "[I", .methodLink RX12 316 yX12_asksSeen, .instanceMethod yX12_asksSeen, .selects RX12 yX12_asksSeen yX12_asksSeen, .initialized RX12, .methodLink RX12 240 yX12_layOff, .instanceMethod yX12_layOff, .selects RX12 yX12_layOff yX12_layOff, .fieldLink RX12 320 "IcicleClockModel" "pairMany" "I", .fieldLink RX12 231 "IcicleClockModel" "days" "I", .fieldLink RX12 34 "IcicleClockModel" "off" "[I", .methodLink RX12 243 yX12_layFalls, .instanceMethod yX12_layFalls, .selects RX12 yX12_layFalls yX12_layFalls, .methodLink RX12 323 yX12_isSeen, .instanceMethod yX12_isSeen, .selects RX12 yX12_isSeen yX12_isSeen, .fieldLink RX12 43 "IcicleClockModel" "pairs" "[I", .fieldLink RX12 46 "IcicleClockModel" "fellBy" "[I", .fieldLink RX12 37 "IcicleClockModel" "fell" "[I"] : List Cond) ++ (wsX120 ++ (vX12_asksSeen ++ (vX12_layOff ++ (vX12_layFalls ++ vX12_isSeen)))))
theorem iX12_laySlams_12 : ∀ w ∈ wsX120, w ∈ vX12_laySlams := fun _ h => List.mem_cons_of_mem _ (List.mem_append_right _ (List.mem_append_left _ h))
theorem gs_X12_laySlams : Gd vX12_laySlams := Gd.cons (by decide +kernel) (Gd.app (Gd.r (by decide +kernel)) (Gd.app gwX_12 (Gd.app gs_X12_asksSeen (Gd.app gs_X12_layOff (Gd.app gs_X12_layFalls gs_X12_isSeen)))))
theorem gg_X12_laySlams_X12_asksSeen : GoodIn vX12_laySlams (wsV RX12 316 RX12 yX12_asksSeen vX12_asksSeen) := goodIn_app (goodIn_r _ [2, 3, 4, 5] (by decide +kernel) (by decide +kernel)) (fun w h => ⟨List.mem_cons_of_mem _ (List.mem_append_right _ (List.mem_append_right _ (List.mem_append_left _ h))), gs_X12_asksSeen w h⟩)
theorem gg_X12_laySlams_X12_layOff : GoodIn vX12_laySlams (wsV RX12 240 RX12 yX12_layOff vX12_layOff) := goodIn_app (goodIn_r _ [6, 7, 8, 5] (by decide +kernel) (by decide +kernel)) (fun w h => ⟨List.mem_cons_of_mem _ (List.mem_append_right _ (List.mem_append_right _ (List.mem_append_right _ (List.mem_append_left _ h)))), gs_X12_layOff w h⟩)
theorem gg_X12_laySlams_X12_layFalls : GoodIn vX12_laySlams (wsV RX12 243 RX12 yX12_layFalls vX12_layFalls) := goodIn_app (goodIn_r _ [12, 13, 14, 5] (by decide +kernel) (by decide +kernel)) (fun w h => ⟨List.mem_cons_of_mem _ (List.mem_append_right _ (List.mem_append_right _ (List.mem_append_right _ (List.mem_append_right _ (List.mem_append_left _ h))))), gs_X12_layFalls w h⟩)
theorem gg_X12_laySlams_X12_isSeen : GoodIn vX12_laySlams (wsV RX12 323 RX12 yX12_isSeen vX12_isSeen) := goodIn_app (goodIn_r _ [15, 16, 17, 5] (by decide +kernel) (by decide +kernel)) (fun w h => ⟨List.mem_cons_of_mem _ (List.mem_append_right _ (List.mem_append_right _ (List.mem_append_right _ (List.mem_append_right _ (List.mem_append_right _ (h)))))), gs_X12_isSeen w h⟩)
set_option maxHeartbeats 4000000 in
set_option maxRecDepth 100000 in
theorem s_X12_laySlams (l : Launch) (D : va_G) (cs : Nat → ClassId) (ad : Nat → Nat) (kS : kSt) (K : sK) (hKO : KO K) (hj : wJ ad 218) (g : Nat → va_E) (hW : WF (shp ad K) ad cs g) (sl : Int32) : sI l yX12_laySlams vX12_laySlams { frames := 3, cells := 0, slots := 0, locals := 71 } D cs ad kS [.ref (ad 197), .int sl] g (fun r g2 => WF (shp ad K) ad cs g2 ∧ (∀ j, j ≠ 197 ∧ j ≠ 204 ∧ j ≠ 205 ∧ j ≠ 207 ∧ j ≠ 208 → g2 j = g j) ∧ (r.toInt ≤ 0)) := by
  refine Met.startS (cc := cX12_laySlams) (maxL := 6) (ret := (some .int)) RX12 rfl (by decide) rfl (Nat.le_of_ble_eq_true rfl) ?_
  intro p e s m below meth c ls X Z hP hl
  have hx := X.1
  have hb := X.2.1
  have hS : va_S (wA ad 218) s.heap s.heap [] := va_S.rf
  have hA : ∀ i, i < 218 → wA ad 218 (ad i) := fun i h => ⟨i, h, rfl⟩
  have hfr : ∀ j, j ≠ 197 ∧ j ≠ 204 ∧ j ≠ 205 ∧ j ≠ 207 ∧ j ≠ 208 → g j = g j := fun _ _ => rfl
  have hl : lv_has ls 6 [(0, .ref (ad 197)), (1, .int sl)] := hl
  obtain ⟨fsc_1, hgc_1, hOc_1⟩ := hW.obj (i := 197) (by decide) (sh_197 ad K)
  obtain ⟨x_3, hk_2, hlx_3, hhx_3⟩ := hOc_1.int 22 rfl
  have hgix_3 := gI_of hgc_1 hk_2
  refine lv_aload_n hx hb dX12_laySlams_0 rfl (lv_at hl 0 rfl) ?_
  refine lv_iload_n hx hb dX12_laySlams_1 rfl (lv_at hl 1 rfl) ?_
  refine lv_iconst (v := 1) hx hb dX12_laySlams_2 (by decide) ?_
  refine lv_aload_n hx hb dX12_laySlams_3 rfl (lv_at hl 0 rfl) ?_
  have hk_4 := hOc_1.ref 1 rfl
  refine q_get X iX12_laySlams_12 hP (by decide) hgc_1 rfl 1 (by decide) (List.mem_of_getElem? (i := 1) rfl) (v := .ref (ad 198)) hk_4 dX12_laySlams_4 ?_
  refine lv_iconst (v := 3) hx hb dX12_laySlams_7 (by decide) ?_
  obtain ⟨fc_5, hgc_5, hFc_5⟩ := hW.arr (i := 198) (by decide) (sh_198 ad K)
  refine q_iald X hP (by decide) hgc_5 (by unfold vp_in; decide) dX12_laySlams_8 ?_
  refine lv_topi (fun z_6 ez_6 => ?_)
  have hqz_6 : wq (3) z_6.toInt := ez_6 ▸ hFc_5 _
  have hz_6 : 0 ≤ z_6.toInt ∧ z_6.toInt ≤ 14 := by unfold wq at hqz_6; omega
  clear hqz_6
  have hgi_7 := gI_of hgc_1 hk_2
  refine s_calli (q := (RX12, TX12, 40)) (As := [.int sl, .int 1, .int z_6]) (rest := []) X Z (s_X12_asksSeen l D cs ad kS K hKO hj g hW sl 1 z_6) (cwV 3 X.2.2.2.2.1 gg_X12_laySlams_X12_asksSeen rfl rfl rfl (by decide +kernel) ⟨Nat.le_of_ble_eq_true rfl, Nat.le_of_ble_eq_true rfl⟩) (by decide) hgc_1 rfl hP hA hS.2.1 hS rfl hl.1 rfl (Nat.le_of_ble_eq_true rfl) dX12_laySlams_9 ⟨Nat.le_of_ble_eq_true rfl, Nat.le_of_ble_eq_true rfl⟩ (fun r_10 g_9 H locs hw_8 hP hS => ?_)
  obtain ⟨hw_8g, hw_8⟩ := hw_8
  rw [hw_8g] at hP
  have hqk_11 : (1 : Int32).toInt = 1 := by decide
  refine lv_istore_n (lv' := [(2, .int r_10), (0, .ref (ad 197)), (1, .int sl)]) hx hb dX12_laySlams_12 rfl hl (by decide) rfl (fun ls hl => ?_)
  refine lv_iload_n hx hb dX12_laySlams_13 rfl (lv_at hl 0 rfl) ?_
  refine lv_if_ge (tgt := 19) hx hb dX12_laySlams_14 (by decide) (fun hc_12 => ?_) (fun hc_12 => ?_)
  · have hhc_12 := n_le (by decide : (0 : Int32).toInt = 0) (rfl : r_10.toInt = r_10.toInt) hc_12
    obtain ⟨hsl0, hsl1, hbo, hsn⟩ := hw_8 (by omega)
    have hsn := hsn.tr (hfr 214 (by omega)).symm (hfr 216 (by omega)).symm
    refine lv_aload_n hx hb dX12_laySlams_19 rfl (lv_at hl 1 rfl) ?_
    refine lv_iconst (v := 0) hx hb dX12_laySlams_20 (by decide) ?_
    have hgi_13 := gI_of hgc_1 hk_2
    refine s_callv (q := (RX12, TX12, 40)) (As := [.int 0]) (rest := []) X Z (s_X12_layOff l D cs ad kS K hKO hj g hW 0) (cwV 1 X.2.2.2.2.1 gg_X12_laySlams_X12_layOff rfl rfl rfl (by decide +kernel) ⟨Nat.le_of_ble_eq_true rfl, Nat.le_of_ble_eq_true rfl⟩) (by decide) hgc_1 rfl hP hA hS.2.1 hS rfl hl.1 rfl (Nat.le_of_ble_eq_true rfl) dX12_laySlams_21 ⟨Nat.le_of_ble_eq_true rfl, Nat.le_of_ble_eq_true rfl⟩ (fun g_15 H locs hw_14 hP hS => ?_)
    obtain ⟨hw_14W, hw_14f⟩ := hw_14
    have hfr_17 : ∀ j, j ≠ 197 ∧ j ≠ 204 ∧ j ≠ 205 ∧ j ≠ 207 ∧ j ≠ 208 → g_15 j = g j := fun j hj => (hw_14f j (by omega)).trans (hfr j hj)
    have hg_18 := (hw_14f 198 (by omega)).trans hgc_5
    refine lv_aload_n hx hb dX12_laySlams_24 rfl (lv_at hl 1 rfl) ?_
    refine lv_iconst (v := 0) hx hb dX12_laySlams_25 (by decide) ?_
    obtain ⟨fsc_19, hgc_19, hOc_19⟩ := hw_14W.obj (i := 197) (by decide) (sh_197 ad K)
    refine s_put X iX12_laySlams_12 tyX12 tyX12_ok nmX12 hP hj hA hS (by decide) hgc_19 rfl 22 (by decide) (List.mem_of_getElem? (i := 9) rfl) rfl (ty := .int) (v := .int 0) (by decide +kernel) rfl rfl dX12_laySlams_26 hw_14W (sh_197 ad K) hOc_19 rfl ⟨0, rfl, by decide, by decide⟩ (fun fsc_20 gc_20 H locs hOc_20 hkc_20 hnc_20 hgc_20 hfc_20 hWc_20 hP hS => ?_)
    have hg_22 := (hfc_20 198 (by decide)).trans hg_18
    have hfr_21 : ∀ j, j ≠ 197 ∧ j ≠ 204 ∧ j ≠ 205 ∧ j ≠ 207 ∧ j ≠ 208 → gc_20 j = g j := fun j hj => (hfc_20 j (by omega)).trans (hfr_17 j hj)
    have hgi_23 := gI_of hgc_20 hkc_20
    rw [(by decide : (0 : Int32).toInt = 0)] at hgi_23
    refine lv_iconst (v := 0) hx hb dX12_laySlams_29 (by decide) ?_
    refine lv_istore_n (lv' := [(3, .int 0), (2, .int r_10), (0, .ref (ad 197)), (1, .int sl)]) hx hb dX12_laySlams_30 rfl hl (by decide) rfl (fun ls hl => ?_)
    have HL31 : ∀ (n31 : Nat) (v31_3 : Int32) (G31 : Nat → va_E) (H : Heap) (locs : List Loc) (ls : Array Slot), (5 - v31_3.toInt).toNat < n31 → (0 ≤ v31_3.toInt ∧ v31_3.toInt ≤ 5) → gI G31 197 22 ≤ 14 * v31_3.toInt → WF (shp ad K) ad cs G31 → (∀ j, j ≠ 197 ∧ j ≠ 204 ∧ j ≠ 205 ∧ j ≠ 207 ∧ j ≠ 208 → G31 j = g j) → va_P D vwCl (wL ad G31 218) H → va_S (wA ad 218) s.heap H locs → lv_has ls 6 [(3, .int v31_3), (0, .ref (ad 197)), (1, .int sl)] → W p l e ({ frames := 3, cells := 0, slots := 0, locals := 71 } : Room) s m ([.ref (ad 197), .int sl] : List Value).toArray below meth c H locs 0 0 (MQ below (qI D ad 218 (fun r g2 => WF (shp ad K) ad cs g2 ∧ (∀ j, j ≠ 197 ∧ j ≠ 204 ∧ j ≠ 205 ∧ j ≠ 207 ∧ j ≠ 208 → g2 j = g j) ∧ (r.toInt ≤ 0))) ([.ref (ad 197), .int sl] : List Value).toArray s 0 0 (wA ad 218)) (F0 m 31 ls []) := by
      intro n31
      induction n31 with
      | zero =>
        intro v31_3 G31 H locs ls hm31 hv31_0 he31_0 hW31 hfr31 hP hS hl
        exact absurd hm31 (Nat.not_lt_zero _)
      | succ n31 ih31 =>
        intro v31_3 G31 H locs ls hm31 hv31_0 he31_0 hW31 hfr31 hP hS hl
        obtain ⟨fsc_24, hgc_24, hOc_24⟩ := hW31.obj (i := 197) (by decide) (sh_197 ad K)
        obtain ⟨x_26, hk_25, hlx_26, hhx_26⟩ := hOc_24.int 22 rfl
        have hgix_26 := gI_of hgc_24 hk_25
        refine lv_iload_n hx hb dX12_laySlams_31 rfl (lv_at hl 0 rfl) ?_
        refine lv_aload_n hx hb dX12_laySlams_32 rfl (lv_at hl 1 rfl) ?_
        have hk_28 := hOc_24.ref 1 rfl
        refine q_get X iX12_laySlams_12 hP (by decide) hgc_24 rfl 1 (by decide) (List.mem_of_getElem? (i := 1) rfl) (v := .ref (ad 198)) hk_28 dX12_laySlams_33 ?_
        refine lv_iconst (v := 4) hx hb dX12_laySlams_36 (by decide) ?_
        obtain ⟨fc_29, hgc_29, hFc_29⟩ := hW31.arr (i := 198) (by decide) (sh_198 ad K)
        refine q_iald X hP (by decide) hgc_29 (by unfold vp_in; decide) dX12_laySlams_37 ?_
        refine lv_topi (fun z_30 ez_30 => ?_)
        have hqz_30 : wq (4) z_30.toInt := ez_30 ▸ hFc_29 _
        have hz_30 : 0 ≤ z_30.toInt ∧ z_30.toInt ≤ 5 := by unfold wq at hqz_30; omega
        clear hqz_30
        refine lv_icmp_ge (tgt := 186) hx hb dX12_laySlams_38 (by decide) (fun hc_31 => ?_) (fun hc_31 => ?_)
        · have hhc_31 := n_le (rfl : z_30.toInt = z_30.toInt) (rfl : v31_3.toInt = v31_3.toInt) hc_31
          refine lv_iconst (v := 0) hx hb dX12_laySlams_186 (by decide) ?_
          have hgi_32 := gI_of hgc_24 hk_25
          have hr0 : (0 : Int32).toInt = 0 := by decide
          exact q_iret X hP hS ⟨hW31, hfr31, (by omega)⟩ dX12_laySlams_187
        · have hhc_31 := n_nle (rfl : z_30.toInt = z_30.toInt) (rfl : v31_3.toInt = v31_3.toInt) hc_31
          refine lv_iconst (v := 0) hx hb dX12_laySlams_41 (by decide) ?_
          refine lv_istore (lv' := [(4, .int 0), (3, .int v31_3), (0, .ref (ad 197)), (1, .int sl)]) hx hb dX12_laySlams_42 hl (by decide) rfl (fun ls hl => ?_)
          have HL44 : ∀ (n44 : Nat) (v44_4 : Int32) (G44 : Nat → va_E) (H : Heap) (locs : List Loc) (ls : Array Slot), (14 - v44_4.toInt).toNat < n44 → (0 ≤ v44_4.toInt ∧ v44_4.toInt ≤ 14) → gI G44 197 22 ≤ 14 * v31_3.toInt + v44_4.toInt → WF (shp ad K) ad cs G44 → (∀ j, j ≠ 197 ∧ j ≠ 204 ∧ j ≠ 205 ∧ j ≠ 207 ∧ j ≠ 208 → G44 j = g j) → va_P D vwCl (wL ad G44 218) H → va_S (wA ad 218) s.heap H locs → lv_has ls 6 [(4, .int v44_4), (3, .int v31_3), (0, .ref (ad 197)), (1, .int sl)] → W p l e ({ frames := 3, cells := 0, slots := 0, locals := 71 } : Room) s m ([.ref (ad 197), .int sl] : List Value).toArray below meth c H locs 0 0 (MQ below (qI D ad 218 (fun r g2 => WF (shp ad K) ad cs g2 ∧ (∀ j, j ≠ 197 ∧ j ≠ 204 ∧ j ≠ 205 ∧ j ≠ 207 ∧ j ≠ 208 → g2 j = g j) ∧ (r.toInt ≤ 0))) ([.ref (ad 197), .int sl] : List Value).toArray s 0 0 (wA ad 218)) (F0 m 44 ls []) := by
            intro n44
            induction n44 with
            | zero =>
              intro v44_4 G44 H locs ls hm44 hv44_0 he44_0 hW44 hfr44 hP hS hl
              exact absurd hm44 (Nat.not_lt_zero _)
            | succ n44 ih44 =>
              intro v44_4 G44 H locs ls hm44 hv44_0 he44_0 hW44 hfr44 hP hS hl
              obtain ⟨fsc_33, hgc_33, hOc_33⟩ := hW44.obj (i := 197) (by decide) (sh_197 ad K)
              obtain ⟨x_35, hk_34, hlx_35, hhx_35⟩ := hOc_33.int 22 rfl
              have hgix_35 := gI_of hgc_33 hk_34
              refine lv_iload hx hb dX12_laySlams_44 (lv_at hl 0 rfl) ?_
              refine lv_aload_n hx hb dX12_laySlams_46 rfl (lv_at hl 2 rfl) ?_
              obtain ⟨x_38, hk_37, hlx_38, hhx_38⟩ := hOc_33.int 17 rfl
              refine q_get X iX12_laySlams_12 hP (by decide) hgc_33 rfl 17 (by decide) (List.mem_of_getElem? (i := 10) rfl) (v := .int x_38) hk_37 dX12_laySlams_47 ?_
              refine lv_icmp_ge (tgt := 180) hx hb dX12_laySlams_50 (by decide) (fun hc_39 => ?_) (fun hc_39 => ?_)
              · have hhc_39 := n_le (rfl : x_38.toInt = x_38.toInt) (rfl : v44_4.toInt = v44_4.toInt) hc_39
                obtain ⟨x_40, ex_40⟩ : ∃ y : Int32, y = v31_3 + 1 := ⟨_, rfl⟩
                have hx_40 : x_40.toInt = v31_3.toInt + 1 := n_add rfl (by decide : (1 : Int32).toInt = 1) ex_40 (by omega) (by omega)
                refine lv_iinc (v := x_40) (lv' := [(3, .int x_40), (4, .int v44_4), (0, .ref (ad 197)), (1, .int sl)]) hx hb dX12_laySlams_180 hl (k := 1) rfl (by rw [ex_40]; rfl) (by decide) rfl (fun ls hl => ?_)
                refine lv_goto (tgt := 31) hx hb dX12_laySlams_183 (by decide) ?_
                have hgi_41 := gI_of hgc_33 hk_34
                exact ih31 x_40 G44 _ _ ls (by omega) (by omega) (by omega) hW44 hfr44 hP hS (lv_sub hl [0, 2, 3] rfl)
              · have hhc_39 := n_nle (rfl : x_38.toInt = x_38.toInt) (rfl : v44_4.toInt = v44_4.toInt) hc_39
                refine lv_aload_n hx hb dX12_laySlams_53 rfl (lv_at hl 2 rfl) ?_
                have hk_42 := hOc_33.ref 15 rfl
                refine q_get X iX12_laySlams_12 hP (by decide) hgc_33 rfl 15 (by decide) (List.mem_of_getElem? (i := 11) rfl) (v := .ref (ad 204)) hk_42 dX12_laySlams_54 ?_
                refine lv_bipush (v := 14) hx hb dX12_laySlams_57 (by decide) ?_
                refine lv_iload_n hx hb dX12_laySlams_59 rfl (lv_at hl 1 rfl) ?_
                refine lv_imul hx hb dX12_laySlams_60 ?_
                refine lv_topi (fun z_43 ez_43 => ?_)
                have hz_43 : z_43.toInt = 14 * v31_3.toInt := n_mul (by decide : (14 : Int32).toInt = 14) (rfl : v31_3.toInt = v31_3.toInt) ez_43 (by omega) (by omega)
                refine lv_iload hx hb dX12_laySlams_61 (lv_at hl 0 rfl) ?_
                refine lv_iadd hx hb dX12_laySlams_63 ?_
                refine lv_topi (fun z_44 ez_44 => ?_)
                have hz_44 : z_44.toInt = z_43.toInt + v44_4.toInt := n_add (rfl : z_43.toInt = z_43.toInt) (rfl : v44_4.toInt = v44_4.toInt) ez_44 (by omega) (by omega)
                refine lv_dup2_11 hx hb dX12_laySlams_64 rfl rfl ?_
                obtain ⟨fc_45, hgc_45, hFc_45⟩ := hW44.arr (i := 204) (by decide) (sh_204 ad K)
                refine q_iald X hP (by decide) hgc_45 (n_in (rfl : z_44.toInt = z_44.toInt) (by omega) (by omega)) dX12_laySlams_65 ?_
                refine lv_topi (fun z_46 ez_46 => ?_)
                refine lv_aload_n hx hb dX12_laySlams_66 rfl (lv_at hl 2 rfl) ?_
                have hk_47 := hOc_33.ref 1 rfl
                refine q_get X iX12_laySlams_12 hP (by decide) hgc_33 rfl 1 (by decide) (List.mem_of_getElem? (i := 1) rfl) (v := .ref (ad 198)) hk_47 dX12_laySlams_67 ?_
                refine lv_iconst (v := 0) hx hb dX12_laySlams_70 (by decide) ?_
                obtain ⟨fc_48, hgc_48, hFc_48⟩ := hW44.arr (i := 198) (by decide) (sh_198 ad K)
                refine q_iald X hP (by decide) hgc_48 (by unfold vp_in; decide) dX12_laySlams_71 ?_
                refine lv_topi (fun z_49 ez_49 => ?_)
                have hqz_49 : wq (0) z_49.toInt := ez_49 ▸ hFc_48 _
                clear hqz_49
                refine lv_iadd hx hb dX12_laySlams_72 ?_
                refine lv_topi (fun z_50 ez_50 => ?_)
                refine s_iast X hP hj hA hS (by decide) hgc_45 (n_in (rfl : z_44.toInt = z_44.toInt) (by omega) (by omega)) dX12_laySlams_73 hW44 (sh_204 ad K) (hFc_45.put trivial) (fun fc_51 gc_51 H locs ec_51 hFc_51 hgc_51 hfc_51 hWc_51 hP hS => ?_)
                have hg_53 := (hfc_51 197 (by decide)).trans hgc_33
                have hg_54 := (hfc_51 198 (by decide)).trans hgc_48
                have hfr_52 : ∀ j, j ≠ 197 ∧ j ≠ 204 ∧ j ≠ 205 ∧ j ≠ 207 ∧ j ≠ 208 → gc_51 j = g j := fun j hj => (hfc_51 j (by omega)).trans (hfr44 j hj)
                refine lv_aload_n hx hb dX12_laySlams_74 rfl (lv_at hl 2 rfl) ?_
                have hgi_55 := gI_of hg_53 hk_34
                refine s_callv (q := (RX12, TX12, 40)) (As := []) (rest := []) X Z (s_X12_layFalls l D cs ad kS K hKO hj gc_51 hWc_51) (cwV 0 X.2.2.2.2.1 gg_X12_laySlams_X12_layFalls rfl rfl rfl (by decide +kernel) ⟨Nat.le_of_ble_eq_true rfl, Nat.le_of_ble_eq_true rfl⟩) (by decide) hg_53 rfl hP hA hS.2.1 hS rfl hl.1 rfl (Nat.le_of_ble_eq_true rfl) dX12_laySlams_75 ⟨Nat.le_of_ble_eq_true rfl, Nat.le_of_ble_eq_true rfl⟩ (fun g_57 H locs hw_56 hP hS => ?_)
                obtain ⟨hw_56W, hw_56f⟩ := hw_56
                have hfr_59 : ∀ j, j ≠ 197 ∧ j ≠ 204 ∧ j ≠ 205 ∧ j ≠ 207 ∧ j ≠ 208 → g_57 j = g j := fun j hj => (hw_56f j (by omega)).trans (hfr_52 j hj)
                have hg_60 := (hw_56f 197 (by omega)).trans hg_53
                have hg_61 := (hw_56f 198 (by omega)).trans hg_54
                have hg_62 := (hw_56f 204 (by omega)).trans hgc_51
                refine lv_aload_n hx hb dX12_laySlams_78 rfl (lv_at hl 2 rfl) ?_
                refine q_get X iX12_laySlams_12 hP (by decide) hg_60 rfl 15 (by decide) (List.mem_of_getElem? (i := 11) rfl) (v := .ref (ad 204)) hk_42 dX12_laySlams_79 ?_
                refine lv_bipush (v := 14) hx hb dX12_laySlams_82 (by decide) ?_
                refine lv_iload_n hx hb dX12_laySlams_84 rfl (lv_at hl 1 rfl) ?_
                refine lv_imul hx hb dX12_laySlams_85 ?_
                refine lv_topi (fun z_63 ez_63 => ?_)
                have hz_63 : z_63.toInt = 14 * v31_3.toInt := n_mul (by decide : (14 : Int32).toInt = 14) (rfl : v31_3.toInt = v31_3.toInt) ez_63 (by omega) (by omega)
                refine lv_iload hx hb dX12_laySlams_86 (lv_at hl 0 rfl) ?_
                refine lv_iadd hx hb dX12_laySlams_88 ?_
                refine lv_topi (fun z_64 ez_64 => ?_)
                have hz_64 : z_64.toInt = z_63.toInt + v44_4.toInt := n_add (rfl : z_63.toInt = z_63.toInt) (rfl : v44_4.toInt = v44_4.toInt) ez_64 (by omega) (by omega)
                refine lv_dup2_11 hx hb dX12_laySlams_89 rfl rfl ?_
                refine q_iald X hP (by decide) hg_62 (n_in (rfl : z_64.toInt = z_64.toInt) (by omega) (by omega)) dX12_laySlams_90 ?_
                refine lv_topi (fun z_65 ez_65 => ?_)
                refine lv_aload_n hx hb dX12_laySlams_91 rfl (lv_at hl 2 rfl) ?_
                refine q_get X iX12_laySlams_12 hP (by decide) hg_60 rfl 1 (by decide) (List.mem_of_getElem? (i := 1) rfl) (v := .ref (ad 198)) hk_47 dX12_laySlams_92 ?_
                refine lv_iconst (v := 0) hx hb dX12_laySlams_95 (by decide) ?_
                refine q_iald X hP (by decide) hg_61 (by unfold vp_in; decide) dX12_laySlams_96 ?_
                refine lv_topi (fun z_66 ez_66 => ?_)
                have hqz_66 : wq (0) z_66.toInt := ez_66 ▸ hFc_48 _
                clear hqz_66
                have hsz_66 : z_66.toInt = z_49.toInt := by rw [ez_66, ez_49]
                refine lv_isub hx hb dX12_laySlams_97 ?_
                refine lv_topi (fun z_67 ez_67 => ?_)
                refine s_iast X hP hj hA hS (by decide) hg_62 (n_in (rfl : z_64.toInt = z_64.toInt) (by omega) (by omega)) dX12_laySlams_98 hw_56W (sh_204 ad K) (hFc_51.put trivial) (fun fc_68 gc_68 H locs ec_68 hFc_68 hgc_68 hfc_68 hWc_68 hP hS => ?_)
                have hg_70 := (hfc_68 197 (by decide)).trans hg_60
                have hg_71 := (hfc_68 198 (by decide)).trans hg_61
                have hfr_69 : ∀ j, j ≠ 197 ∧ j ≠ 204 ∧ j ≠ 205 ∧ j ≠ 207 ∧ j ≠ 208 → gc_68 j = g j := fun j hj => (hfc_68 j (by omega)).trans (hfr_59 j hj)
                refine lv_aload_n hx hb dX12_laySlams_99 rfl (lv_at hl 2 rfl) ?_
                refine lv_iload_n hx hb dX12_laySlams_100 rfl (lv_at hl 3 rfl) ?_
                have hgi_72 := gI_of hg_70 hk_34
                refine s_calli (q := (RX12, TX12, 40)) (As := [.int sl]) (rest := []) X Z (s_X12_isSeen l D cs ad kS K hKO hj gc_68 hWc_68 sl (by omega) (hsn.tr (hfr_69 214 (by omega)) (hfr_69 216 (by omega)))) (cwV 1 X.2.2.2.2.1 gg_X12_laySlams_X12_isSeen rfl rfl rfl (by decide +kernel) ⟨Nat.le_of_ble_eq_true rfl, Nat.le_of_ble_eq_true rfl⟩) (by decide) hg_70 rfl hP hA hS.2.1 hS rfl hl.1 rfl (Nat.le_of_ble_eq_true rfl) dX12_laySlams_101 ⟨Nat.le_of_ble_eq_true rfl, Nat.le_of_ble_eq_true rfl⟩ (fun r_75 g_74 H locs hw_73 hP hS => ?_)
                obtain ⟨hw_73g, hw_73⟩ := hw_73
                rw [hw_73g] at hP
                have HJ174 : ∀ (G174 : Nat → va_E) (H : Heap) (locs : List Loc) (ls : Array Slot), gI G174 197 22 ≤ 14 * v31_3.toInt + v44_4.toInt + 1 → WF (shp ad K) ad cs G174 → (∀ j, j ≠ 197 ∧ j ≠ 204 ∧ j ≠ 205 ∧ j ≠ 207 ∧ j ≠ 208 → G174 j = g j) → va_P D vwCl (wL ad G174 218) H → va_S (wA ad 218) s.heap H locs → lv_has ls 6 [(4, .int v44_4), (3, .int v31_3), (0, .ref (ad 197)), (1, .int sl)] → W p l e ({ frames := 3, cells := 0, slots := 0, locals := 71 } : Room) s m ([.ref (ad 197), .int sl] : List Value).toArray below meth c H locs 0 0 (MQ below (qI D ad 218 (fun r g2 => WF (shp ad K) ad cs g2 ∧ (∀ j, j ≠ 197 ∧ j ≠ 204 ∧ j ≠ 205 ∧ j ≠ 207 ∧ j ≠ 208 → g2 j = g j) ∧ (r.toInt ≤ 0))) ([.ref (ad 197), .int sl] : List Value).toArray s 0 0 (wA ad 218)) (F0 m 174 ls []) := by
                  intro G174 H locs ls he174_0 hW174 hfr174 hP hS hl
                  obtain ⟨fsc_76, hgc_76, hOc_76⟩ := hW174.obj (i := 197) (by decide) (sh_197 ad K)
                  obtain ⟨x_78, hk_77, hlx_78, hhx_78⟩ := hOc_76.int 22 rfl
                  have hgix_78 := gI_of hgc_76 hk_77
                  obtain ⟨x_80, ex_80⟩ : ∃ y : Int32, y = v44_4 + 1 := ⟨_, rfl⟩
                  have hx_80 : x_80.toInt = v44_4.toInt + 1 := n_add rfl (by decide : (1 : Int32).toInt = 1) ex_80 (by omega) (by omega)
                  refine lv_iinc (v := x_80) (lv' := [(4, .int x_80), (3, .int v31_3), (0, .ref (ad 197)), (1, .int sl)]) hx hb dX12_laySlams_174 hl (k := 0) rfl (by rw [ex_80]; rfl) (by decide) rfl (fun ls hl => ?_)
                  refine lv_goto (tgt := 44) hx hb dX12_laySlams_177 (by decide) ?_
                  have hgi_81 := gI_of hgc_76 hk_77
                  exact ih44 x_80 G174 _ _ ls (by omega) (by omega) (by omega) hW174 hfr174 hP hS (lv_sub hl [0, 1, 2, 3] rfl)
                refine lv_if_ne (tgt := 110) hx hb dX12_laySlams_104 (by decide) (fun hc_82 => ?_) (fun hc_82 => ?_)
                · have hhc_82 := n_ne (rfl : r_75.toInt = r_75.toInt) (by decide : (0 : Int32).toInt = 0) hc_82
                  refine lv_aload_n hx hb dX12_laySlams_110 rfl (lv_at hl 2 rfl) ?_
                  have hk_83 := hOc_33.ref 20 rfl
                  refine q_get X iX12_laySlams_12 hP (by decide) hg_70 rfl 20 (by decide) (List.mem_of_getElem? (i := 18) rfl) (v := .ref (ad 207)) hk_83 dX12_laySlams_111 ?_
                  refine lv_aload_n hx hb dX12_laySlams_114 rfl (lv_at hl 2 rfl) ?_
                  refine q_get X iX12_laySlams_12 hP (by decide) hg_70 rfl 22 (by decide) (List.mem_of_getElem? (i := 9) rfl) (v := .int x_35) hk_34 dX12_laySlams_115 ?_
                  refine lv_bipush (v := 100) hx hb dX12_laySlams_118 (by decide) ?_
                  refine lv_iload_n hx hb dX12_laySlams_120 rfl (lv_at hl 1 rfl) ?_
                  refine lv_imul hx hb dX12_laySlams_121 ?_
                  refine lv_topi (fun z_84 ez_84 => ?_)
                  have hz_84 : z_84.toInt = 100 * v31_3.toInt := n_mul (by decide : (100 : Int32).toInt = 100) (rfl : v31_3.toInt = v31_3.toInt) ez_84 (by omega) (by omega)
                  refine lv_iload hx hb dX12_laySlams_122 (lv_at hl 0 rfl) ?_
                  refine lv_iadd hx hb dX12_laySlams_124 ?_
                  refine lv_topi (fun z_85 ez_85 => ?_)
                  have hz_85 : z_85.toInt = z_84.toInt + v44_4.toInt := n_add (rfl : z_84.toInt = z_84.toInt) (rfl : v44_4.toInt = v44_4.toInt) ez_85 (by omega) (by omega)
                  obtain ⟨fc_86, hgc_86, hFc_86⟩ := hWc_68.arr (i := 207) (by decide) (sh_207 ad K)
                  refine s_iast X hP hj hA hS (by decide) hgc_86 (n_in (rfl : x_35.toInt = x_35.toInt) (by omega) (by omega)) dX12_laySlams_125 hWc_68 (sh_207 ad K) (hFc_86.put trivial) (fun fc_87 gc_87 H locs ec_87 hFc_87 hgc_87 hfc_87 hWc_87 hP hS => ?_)
                  have hg_89 := (hfc_87 197 (by decide)).trans hg_70
                  have hg_90 := (hfc_87 198 (by decide)).trans hg_71
                  have hg_91 := (hfc_87 204 (by decide)).trans hgc_68
                  have hfr_88 : ∀ j, j ≠ 197 ∧ j ≠ 204 ∧ j ≠ 205 ∧ j ≠ 207 ∧ j ≠ 208 → gc_87 j = g j := fun j hj => (hfc_87 j (by omega)).trans (hfr_69 j hj)
                  refine lv_iconst (v := 0) hx hb dX12_laySlams_126 (by decide) ?_
                  refine lv_istore (lv' := [(5, .int 0), (4, .int v44_4), (3, .int v31_3), (0, .ref (ad 197)), (1, .int sl)]) hx hb dX12_laySlams_127 hl (by decide) rfl (fun ls hl => ?_)
                  have HL129 : ∀ (n129 : Nat) (v129_5 : Int32) (G129 : Nat → va_E) (H : Heap) (locs : List Loc) (ls : Array Slot), (8 - v129_5.toInt).toNat < n129 → (0 ≤ v129_5.toInt ∧ v129_5.toInt ≤ 8) → gI G129 197 22 ≤ 14 * v31_3.toInt + v44_4.toInt → WF (shp ad K) ad cs G129 → (∀ j, j ≠ 197 ∧ j ≠ 204 ∧ j ≠ 205 ∧ j ≠ 207 ∧ j ≠ 208 → G129 j = g j) → va_P D vwCl (wL ad G129 218) H → va_S (wA ad 218) s.heap H locs → lv_has ls 6 [(5, .int v129_5), (4, .int v44_4), (3, .int v31_3), (0, .ref (ad 197)), (1, .int sl)] → W p l e ({ frames := 3, cells := 0, slots := 0, locals := 71 } : Room) s m ([.ref (ad 197), .int sl] : List Value).toArray below meth c H locs 0 0 (MQ below (qI D ad 218 (fun r g2 => WF (shp ad K) ad cs g2 ∧ (∀ j, j ≠ 197 ∧ j ≠ 204 ∧ j ≠ 205 ∧ j ≠ 207 ∧ j ≠ 208 → g2 j = g j) ∧ (r.toInt ≤ 0))) ([.ref (ad 197), .int sl] : List Value).toArray s 0 0 (wA ad 218)) (F0 m 129 ls []) := by
                    intro n129
                    induction n129 with
                    | zero =>
                      intro v129_5 G129 H locs ls hm129 hv129_0 he129_0 hW129 hfr129 hP hS hl
                      exact absurd hm129 (Nat.not_lt_zero _)
                    | succ n129 ih129 =>
                      intro v129_5 G129 H locs ls hm129 hv129_0 he129_0 hW129 hfr129 hP hS hl
                      obtain ⟨fsc_92, hgc_92, hOc_92⟩ := hW129.obj (i := 197) (by decide) (sh_197 ad K)
                      obtain ⟨x_94, hk_93, hlx_94, hhx_94⟩ := hOc_92.int 22 rfl
                      have hgix_94 := gI_of hgc_92 hk_93
                      refine lv_iload hx hb dX12_laySlams_129 (lv_at hl 0 rfl) ?_
                      refine lv_bipush (v := 8) hx hb dX12_laySlams_131 (by decide) ?_
                      refine lv_icmp_ge (tgt := 164) hx hb dX12_laySlams_133 (by decide) (fun hc_96 => ?_) (fun hc_96 => ?_)
                      · have hhc_96 := n_le (by decide : (8 : Int32).toInt = 8) (rfl : v129_5.toInt = v129_5.toInt) hc_96
                        refine lv_aload_n hx hb dX12_laySlams_164 rfl (lv_at hl 3 rfl) ?_
                        refine lv_dup hx hb dX12_laySlams_165 rfl ?_
                        refine q_get X iX12_laySlams_12 hP (by decide) hgc_92 rfl 22 (by decide) (List.mem_of_getElem? (i := 9) rfl) (v := .int x_94) hk_93 dX12_laySlams_166 ?_
                        refine lv_iconst (v := 1) hx hb dX12_laySlams_169 (by decide) ?_
                        refine lv_iadd hx hb dX12_laySlams_170 ?_
                        refine lv_topi (fun z_97 ez_97 => ?_)
                        have hz_97 : z_97.toInt = x_94.toInt + 1 := n_add (rfl : x_94.toInt = x_94.toInt) (by decide : (1 : Int32).toInt = 1) ez_97 (by omega) (by omega)
                        refine s_put X iX12_laySlams_12 tyX12 tyX12_ok nmX12 hP hj hA hS (by decide) hgc_92 rfl 22 (by decide) (List.mem_of_getElem? (i := 9) rfl) rfl (ty := .int) (v := .int z_97) (by decide +kernel) rfl rfl dX12_laySlams_171 hW129 (sh_197 ad K) hOc_92 rfl ⟨z_97, rfl, by omega, by omega⟩ (fun fsc_98 gc_98 H locs hOc_98 hkc_98 hnc_98 hgc_98 hfc_98 hWc_98 hP hS => ?_)
                        have hfr_99 : ∀ j, j ≠ 197 ∧ j ≠ 204 ∧ j ≠ 205 ∧ j ≠ 207 ∧ j ≠ 208 → gc_98 j = g j := fun j hj => (hfc_98 j (by omega)).trans (hfr129 j hj)
                        have hgi_100 := gI_of hgc_98 hkc_98
                        have hgi_101 := gI_of hgc_98 hkc_98
                        exact HJ174 gc_98 _ _ ls (by omega) hWc_98 hfr_99 hP hS (lv_sub hl [1, 2, 3, 4] rfl)
                      · have hhc_96 := n_nle (by decide : (8 : Int32).toInt = 8) (rfl : v129_5.toInt = v129_5.toInt) hc_96
                        refine lv_aload_n hx hb dX12_laySlams_136 rfl (lv_at hl 3 rfl) ?_
                        have hk_102 := hOc_92.ref 21 rfl
                        refine q_get X iX12_laySlams_12 hP (by decide) hgc_92 rfl 21 (by decide) (List.mem_of_getElem? (i := 19) rfl) (v := .ref (ad 208)) hk_102 dX12_laySlams_137 ?_
                        refine lv_bipush (v := 8) hx hb dX12_laySlams_140 (by decide) ?_
                        refine lv_aload_n hx hb dX12_laySlams_142 rfl (lv_at hl 3 rfl) ?_
                        refine q_get X iX12_laySlams_12 hP (by decide) hgc_92 rfl 22 (by decide) (List.mem_of_getElem? (i := 9) rfl) (v := .int x_94) hk_93 dX12_laySlams_143 ?_
                        refine lv_imul hx hb dX12_laySlams_146 ?_
                        refine lv_topi (fun z_103 ez_103 => ?_)
                        have hz_103 : z_103.toInt = 8 * x_94.toInt := n_mul (by decide : (8 : Int32).toInt = 8) (rfl : x_94.toInt = x_94.toInt) ez_103 (by omega) (by omega)
                        refine lv_iload hx hb dX12_laySlams_147 (lv_at hl 0 rfl) ?_
                        refine lv_iadd hx hb dX12_laySlams_149 ?_
                        refine lv_topi (fun z_104 ez_104 => ?_)
                        have hz_104 : z_104.toInt = z_103.toInt + v129_5.toInt := n_add (rfl : z_103.toInt = z_103.toInt) (rfl : v129_5.toInt = v129_5.toInt) ez_104 (by omega) (by omega)
                        refine lv_aload_n hx hb dX12_laySlams_150 rfl (lv_at hl 3 rfl) ?_
                        have hk_105 := hOc_92.ref 16 rfl
                        refine q_get X iX12_laySlams_12 hP (by decide) hgc_92 rfl 16 (by decide) (List.mem_of_getElem? (i := 20) rfl) (v := .ref (ad 205)) hk_105 dX12_laySlams_151 ?_
                        refine lv_iload hx hb dX12_laySlams_154 (lv_at hl 0 rfl) ?_
                        obtain ⟨fc_106, hgc_106, hFc_106⟩ := hW129.arr (i := 205) (by decide) (sh_205 ad K)
                        refine q_iald X hP (by decide) hgc_106 (n_in (rfl : v129_5.toInt = v129_5.toInt) (by omega) (by omega)) dX12_laySlams_156 ?_
                        refine lv_topi (fun z_107 ez_107 => ?_)
                        have hz_107 : (-1) ≤ z_107.toInt ∧ z_107.toInt ≤ 13 := ez_107 ▸ hFc_106 _
                        obtain ⟨fc_108, hgc_108, hFc_108⟩ := hW129.arr (i := 208) (by decide) (sh_208 ad K)
                        refine s_iast X hP hj hA hS (by decide) hgc_108 (n_in (rfl : z_104.toInt = z_104.toInt) (by omega) (by omega)) dX12_laySlams_157 hW129 (sh_208 ad K) (hFc_108.put trivial) (fun fc_109 gc_109 H locs ec_109 hFc_109 hgc_109 hfc_109 hWc_109 hP hS => ?_)
                        have hg_111 := (hfc_109 197 (by decide)).trans hgc_92
                        have hg_112 := (hfc_109 205 (by decide)).trans hgc_106
                        have hfr_110 : ∀ j, j ≠ 197 ∧ j ≠ 204 ∧ j ≠ 205 ∧ j ≠ 207 ∧ j ≠ 208 → gc_109 j = g j := fun j hj => (hfc_109 j (by omega)).trans (hfr129 j hj)
                        obtain ⟨x_113, ex_113⟩ : ∃ y : Int32, y = v129_5 + 1 := ⟨_, rfl⟩
                        have hx_113 : x_113.toInt = v129_5.toInt + 1 := n_add rfl (by decide : (1 : Int32).toInt = 1) ex_113 (by omega) (by omega)
                        refine lv_iinc (v := x_113) (lv' := [(5, .int x_113), (4, .int v44_4), (3, .int v31_3), (0, .ref (ad 197)), (1, .int sl)]) hx hb dX12_laySlams_158 hl (k := 0) rfl (by rw [ex_113]; rfl) (by decide) rfl (fun ls hl => ?_)
                        refine lv_goto (tgt := 129) hx hb dX12_laySlams_161 (by decide) ?_
                        have hgi_114 := gI_of hg_111 hk_93
                        exact ih129 x_113 gc_109 _ _ ls (by omega) (by omega) (by omega) hWc_109 hfr_110 hP hS (lv_sub hl [0, 1, 2, 3, 4] rfl)
                  have hgi_115 := gI_of hg_89 hk_34
                  have hiv129_5 : (0 : Int32).toInt = 0 := by decide
                  exact HL129 _ 0 gc_87 _ _ ls (Nat.lt_succ_self _) (by omega) (by omega) hWc_87 hfr_88 hP hS (lv_sub hl [0, 1, 2, 3, 4] rfl)
                · have hhc_82 := n_eq (rfl : r_75.toInt = r_75.toInt) (by decide : (0 : Int32).toInt = 0) hc_82
                  refine lv_goto (tgt := 174) hx hb dX12_laySlams_107 (by decide) ?_
                  have hgi_116 := gI_of hg_70 hk_34
                  exact HJ174 gc_68 _ _ ls (by omega) hWc_68 hfr_69 hP hS (lv_sub hl [0, 1, 2, 3] rfl)
          have hgi_117 := gI_of hgc_24 hk_25
          have hiv44_4 : (0 : Int32).toInt = 0 := by decide
          exact HL44 _ 0 G31 _ _ ls (Nat.lt_succ_self _) (by omega) (by omega) hW31 hfr31 hP hS (lv_sub hl [0, 1, 2, 3] rfl)
    have hgi_118 := gI_of hgc_20 hkc_20
    rw [(by decide : (0 : Int32).toInt = 0)] at hgi_118
    have hiv31_3 : (0 : Int32).toInt = 0 := by decide
    exact HL31 _ 0 gc_20 _ _ ls (Nat.lt_succ_self _) (by omega) (by omega) hWc_20 hfr_21 hP hS (lv_sub hl [0, 2, 3] rfl)
  · have hhc_12 := n_nle (by decide : (0 : Int32).toInt = 0) (rfl : r_10.toInt = r_10.toInt) hc_12
    refine lv_iload_n hx hb dX12_laySlams_17 rfl (lv_at hl 0 rfl) ?_
    have hgi_119 := gI_of hgc_1 hk_2
    exact q_iret X hP hS ⟨hW, hfr, (by omega)⟩ dX12_laySlams_18

theorem dX12_slams_0 : decode cX12_slams 0 = .ok (.aload_n 0, 1) := by decide +kernel
theorem dX12_slams_1 : decode cX12_slams 1 = .ok (.iload_n 1, 1) := by decide +kernel
theorem dX12_slams_2 : decode cX12_slams 2 = .ok (.invokevirtual 326, 3) := by decide +kernel
theorem dX12_slams_5 : decode cX12_slams 5 = .ok (.istore_n 2, 1) := by decide +kernel
theorem dX12_slams_6 : decode cX12_slams 6 = .ok (.iload_n 2, 1) := by decide +kernel
theorem dX12_slams_7 : decode cX12_slams 7 = .ok (.ifCond .ge 7, 3) := by decide +kernel
theorem dX12_slams_10 : decode cX12_slams 10 = .ok (.iload_n 2, 1) := by decide +kernel
theorem dX12_slams_11 : decode cX12_slams 11 = .ok (.goto 7, 3) := by decide +kernel
theorem dX12_slams_14 : decode cX12_slams 14 = .ok (.aload_n 0, 1) := by decide +kernel
theorem dX12_slams_15 : decode cX12_slams 15 = .ok (.getfield 320, 3) := by decide +kernel
theorem dX12_slams_18 : decode cX12_slams 18 = .ok (.ireturn, 1) := by decide +kernel
noncomputable def vX12_slams : List Cond := .code yX12_slams cX12_slams 3 (some .int) :: (([.methodLink RX12 326 yX12_laySlams, .instanceMethod yX12_laySlams, .selects RX12 yX12_laySlams yX12_laySlams, .initialized RX12, .fieldLink RX12 320 "IcicleClockModel" "pairMany" "I"] : List Cond) ++ (wsX120 ++ vX12_laySlams))
theorem iX12_slams_12 : ∀ w ∈ wsX120, w ∈ vX12_slams := fun _ h => List.mem_cons_of_mem _ (List.mem_append_right _ (List.mem_append_left _ h))
theorem gs_X12_slams : Gd vX12_slams := Gd.cons (by decide +kernel) (Gd.app (Gd.r (by decide +kernel)) (Gd.app gwX_12 gs_X12_laySlams))
theorem gg_X12_slams_X12_laySlams : GoodIn vX12_slams (wsV RX12 326 RX12 yX12_laySlams vX12_laySlams) := goodIn_app (goodIn_r _ [1, 2, 3, 4] (by decide +kernel) (by decide +kernel)) (fun w h => ⟨List.mem_cons_of_mem _ (List.mem_append_right _ (List.mem_append_right _ (h))), gs_X12_laySlams w h⟩)
set_option maxHeartbeats 4000000 in
set_option maxRecDepth 100000 in
theorem s_X12_slams (l : Launch) (D : va_G) (cs : Nat → ClassId) (ad : Nat → Nat) (kS : kSt) (K : sK) (hKO : KO K) (hj : wJ ad 218) (g : Nat → va_E) (hW : WF (shp ad K) ad cs g) (sl : Int32) : sI l yX12_slams vX12_slams { frames := 4, cells := 0, slots := 0, locals := 96 } D cs ad kS [.ref (ad 197), .int sl] g (fun r g2 => WF (shp ad K) ad cs g2 ∧ (∀ j, j ≠ 197 ∧ j ≠ 204 ∧ j ≠ 205 ∧ j ≠ 207 ∧ j ≠ 208 → g2 j = g j)) := by
  refine Met.startS (cc := cX12_slams) (maxL := 3) (ret := (some .int)) RX12 rfl (by decide) rfl (Nat.le_of_ble_eq_true rfl) ?_
  intro p e s m below meth c ls X Z hP hl
  have hx := X.1
  have hb := X.2.1
  have hS : va_S (wA ad 218) s.heap s.heap [] := va_S.rf
  have hA : ∀ i, i < 218 → wA ad 218 (ad i) := fun i h => ⟨i, h, rfl⟩
  have hfr : ∀ j, j ≠ 197 ∧ j ≠ 204 ∧ j ≠ 205 ∧ j ≠ 207 ∧ j ≠ 208 → g j = g j := fun _ _ => rfl
  have hl : lv_has ls 3 [(0, .ref (ad 197)), (1, .int sl)] := hl
  refine lv_aload_n hx hb dX12_slams_0 rfl (lv_at hl 0 rfl) ?_
  refine lv_iload_n hx hb dX12_slams_1 rfl (lv_at hl 1 rfl) ?_
  obtain ⟨fsc_4, hgc_4, hOc_4⟩ := hW.obj (i := 197) (by decide) (sh_197 ad K)
  refine s_calli (q := (RX12, TX12, 40)) (As := [.int sl]) (rest := []) X Z (s_X12_laySlams l D cs ad kS K hKO hj g hW sl) (cwV 1 X.2.2.2.2.1 gg_X12_slams_X12_laySlams rfl rfl rfl (by decide +kernel) ⟨Nat.le_of_ble_eq_true rfl, Nat.le_of_ble_eq_true rfl⟩) (by decide) hgc_4 rfl hP hA hS.2.1 hS rfl hl.1 rfl (Nat.le_of_ble_eq_true rfl) dX12_slams_2 ⟨Nat.le_of_ble_eq_true rfl, Nat.le_of_ble_eq_true rfl⟩ (fun r_3 g_2 H locs hw_1 hP hS => ?_)
  obtain ⟨hw_1W, hw_1f, hw_1⟩ := hw_1
  have hfr_5 : ∀ j, j ≠ 197 ∧ j ≠ 204 ∧ j ≠ 205 ∧ j ≠ 207 ∧ j ≠ 208 → g_2 j = g j := fun j hj => (hw_1f j (by omega)).trans (hfr j hj)
  refine lv_istore_n (lv' := [(2, .int r_3), (0, .ref (ad 197)), (1, .int sl)]) hx hb dX12_slams_5 rfl hl (by decide) rfl (fun ls hl => ?_)
  refine lv_iload_n hx hb dX12_slams_6 rfl (lv_at hl 0 rfl) ?_
  refine lv_if_ge (tgt := 14) hx hb dX12_slams_7 (by decide) (fun hc_6 => ?_) (fun hc_6 => ?_)
  · have hhc_6 := n_le (by decide : (0 : Int32).toInt = 0) (rfl : r_3.toInt = r_3.toInt) hc_6
    refine lv_aload_n hx hb dX12_slams_14 rfl (lv_at hl 1 rfl) ?_
    obtain ⟨fsc_7, hgc_7, hOc_7⟩ := hw_1W.obj (i := 197) (by decide) (sh_197 ad K)
    obtain ⟨x_9, hk_8, hlx_9, hhx_9⟩ := hOc_7.int 22 rfl
    refine q_get X iX12_slams_12 hP (by decide) hgc_7 rfl 22 (by decide) (List.mem_of_getElem? (i := 5) rfl) (v := .int x_9) hk_8 dX12_slams_15 ?_
    exact q_iret X hP hS ⟨hw_1W, hfr_5⟩ dX12_slams_18
  · have hhc_6 := n_nle (by decide : (0 : Int32).toInt = 0) (rfl : r_3.toInt = r_3.toInt) hc_6
    refine lv_iload_n hx hb dX12_slams_10 rfl (lv_at hl 0 rfl) ?_
    refine lv_goto (tgt := 18) hx hb dX12_slams_11 (by decide) ?_
    exact q_iret X hP hS ⟨hw_1W, hfr_5⟩ dX12_slams_18

theorem dX12_slam_0 : decode cX12_slam 0 = .ok (.aload_n 0, 1) := by decide +kernel
theorem dX12_slam_1 : decode cX12_slam 1 = .ok (.iload_n 1, 1) := by decide +kernel
theorem dX12_slam_2 : decode cX12_slam 2 = .ok (.invokevirtual 326, 3) := by decide +kernel
theorem dX12_slam_5 : decode cX12_slam 5 = .ok (.istore_n 2, 1) := by decide +kernel
theorem dX12_slam_6 : decode cX12_slam 6 = .ok (.iload_n 2, 1) := by decide +kernel
theorem dX12_slam_7 : decode cX12_slam 7 = .ok (.ifCond .ge 5, 3) := by decide +kernel
theorem dX12_slam_10 : decode cX12_slam 10 = .ok (.iload_n 2, 1) := by decide +kernel
theorem dX12_slam_11 : decode cX12_slam 11 = .ok (.ireturn, 1) := by decide +kernel
theorem dX12_slam_12 : decode cX12_slam 12 = .ok (.aload_n 0, 1) := by decide +kernel
theorem dX12_slam_13 : decode cX12_slam 13 = .ok (.getfield 320, 3) := by decide +kernel
theorem dX12_slam_16 : decode cX12_slam 16 = .ok (.ifCond .ne 7, 3) := by decide +kernel
theorem dX12_slam_19 : decode cX12_slam 19 = .ok (.iconst (-1), 1) := by decide +kernel
theorem dX12_slam_20 : decode cX12_slam 20 = .ok (.goto 9, 3) := by decide +kernel
theorem dX12_slam_23 : decode cX12_slam 23 = .ok (.aload_n 0, 1) := by decide +kernel
theorem dX12_slam_24 : decode cX12_slam 24 = .ok (.getfield 43, 3) := by decide +kernel
theorem dX12_slam_27 : decode cX12_slam 27 = .ok (.iconst 0, 1) := by decide +kernel
theorem dX12_slam_28 : decode cX12_slam 28 = .ok (.iaload, 1) := by decide +kernel
theorem dX12_slam_29 : decode cX12_slam 29 = .ok (.ireturn, 1) := by decide +kernel
noncomputable def vX12_slam : List Cond := .code yX12_slam cX12_slam 3 (some .int) :: (([.methodLink RX12 326 yX12_laySlams, .instanceMethod yX12_laySlams, .selects RX12 yX12_laySlams yX12_laySlams, .initialized RX12, .fieldLink RX12 320 "IcicleClockModel" "pairMany" "I", .fieldLink RX12 43 "IcicleClockModel" "pairs" "[I"] : List Cond) ++ (wsX120 ++ vX12_laySlams))
theorem iX12_slam_12 : ∀ w ∈ wsX120, w ∈ vX12_slam := fun _ h => List.mem_cons_of_mem _ (List.mem_append_right _ (List.mem_append_left _ h))
theorem gs_X12_slam : Gd vX12_slam := Gd.cons (by decide +kernel) (Gd.app (Gd.r (by decide +kernel)) (Gd.app gwX_12 gs_X12_laySlams))
theorem gg_X12_slam_X12_laySlams : GoodIn vX12_slam (wsV RX12 326 RX12 yX12_laySlams vX12_laySlams) := goodIn_app (goodIn_r _ [1, 2, 3, 4] (by decide +kernel) (by decide +kernel)) (fun w h => ⟨List.mem_cons_of_mem _ (List.mem_append_right _ (List.mem_append_right _ (h))), gs_X12_laySlams w h⟩)
set_option maxHeartbeats 4000000 in
set_option maxRecDepth 100000 in
theorem s_X12_slam (l : Launch) (D : va_G) (cs : Nat → ClassId) (ad : Nat → Nat) (kS : kSt) (K : sK) (hKO : KO K) (hj : wJ ad 218) (g : Nat → va_E) (hW : WF (shp ad K) ad cs g) (sl : Int32) : sI l yX12_slam vX12_slam { frames := 4, cells := 0, slots := 0, locals := 96 } D cs ad kS [.ref (ad 197), .int sl] g (fun r g2 => WF (shp ad K) ad cs g2 ∧ (∀ j, j ≠ 197 ∧ j ≠ 204 ∧ j ≠ 205 ∧ j ≠ 207 ∧ j ≠ 208 → g2 j = g j)) := by
  refine Met.startS (cc := cX12_slam) (maxL := 3) (ret := (some .int)) RX12 rfl (by decide) rfl (Nat.le_of_ble_eq_true rfl) ?_
  intro p e s m below meth c ls X Z hP hl
  have hx := X.1
  have hb := X.2.1
  have hS : va_S (wA ad 218) s.heap s.heap [] := va_S.rf
  have hA : ∀ i, i < 218 → wA ad 218 (ad i) := fun i h => ⟨i, h, rfl⟩
  have hfr : ∀ j, j ≠ 197 ∧ j ≠ 204 ∧ j ≠ 205 ∧ j ≠ 207 ∧ j ≠ 208 → g j = g j := fun _ _ => rfl
  have hl : lv_has ls 3 [(0, .ref (ad 197)), (1, .int sl)] := hl
  refine lv_aload_n hx hb dX12_slam_0 rfl (lv_at hl 0 rfl) ?_
  refine lv_iload_n hx hb dX12_slam_1 rfl (lv_at hl 1 rfl) ?_
  obtain ⟨fsc_4, hgc_4, hOc_4⟩ := hW.obj (i := 197) (by decide) (sh_197 ad K)
  refine s_calli (q := (RX12, TX12, 40)) (As := [.int sl]) (rest := []) X Z (s_X12_laySlams l D cs ad kS K hKO hj g hW sl) (cwV 1 X.2.2.2.2.1 gg_X12_slam_X12_laySlams rfl rfl rfl (by decide +kernel) ⟨Nat.le_of_ble_eq_true rfl, Nat.le_of_ble_eq_true rfl⟩) (by decide) hgc_4 rfl hP hA hS.2.1 hS rfl hl.1 rfl (Nat.le_of_ble_eq_true rfl) dX12_slam_2 ⟨Nat.le_of_ble_eq_true rfl, Nat.le_of_ble_eq_true rfl⟩ (fun r_3 g_2 H locs hw_1 hP hS => ?_)
  obtain ⟨hw_1W, hw_1f, hw_1⟩ := hw_1
  have hfr_5 : ∀ j, j ≠ 197 ∧ j ≠ 204 ∧ j ≠ 205 ∧ j ≠ 207 ∧ j ≠ 208 → g_2 j = g j := fun j hj => (hw_1f j (by omega)).trans (hfr j hj)
  refine lv_istore_n (lv' := [(2, .int r_3), (0, .ref (ad 197)), (1, .int sl)]) hx hb dX12_slam_5 rfl hl (by decide) rfl (fun ls hl => ?_)
  refine lv_iload_n hx hb dX12_slam_6 rfl (lv_at hl 0 rfl) ?_
  refine lv_if_ge (tgt := 12) hx hb dX12_slam_7 (by decide) (fun hc_6 => ?_) (fun hc_6 => ?_)
  · have hhc_6 := n_le (by decide : (0 : Int32).toInt = 0) (rfl : r_3.toInt = r_3.toInt) hc_6
    refine lv_aload_n hx hb dX12_slam_12 rfl (lv_at hl 1 rfl) ?_
    obtain ⟨fsc_7, hgc_7, hOc_7⟩ := hw_1W.obj (i := 197) (by decide) (sh_197 ad K)
    obtain ⟨x_9, hk_8, hlx_9, hhx_9⟩ := hOc_7.int 22 rfl
    refine q_get X iX12_slam_12 hP (by decide) hgc_7 rfl 22 (by decide) (List.mem_of_getElem? (i := 5) rfl) (v := .int x_9) hk_8 dX12_slam_13 ?_
    refine lv_if_ne (tgt := 23) hx hb dX12_slam_16 (by decide) (fun hc_10 => ?_) (fun hc_10 => ?_)
    · have hhc_10 := n_ne (rfl : x_9.toInt = x_9.toInt) (by decide : (0 : Int32).toInt = 0) hc_10
      refine lv_aload_n hx hb dX12_slam_23 rfl (lv_at hl 1 rfl) ?_
      have hk_11 := hOc_7.ref 20 rfl
      refine q_get X iX12_slam_12 hP (by decide) hgc_7 rfl 20 (by decide) (List.mem_of_getElem? (i := 6) rfl) (v := .ref (ad 207)) hk_11 dX12_slam_24 ?_
      refine lv_iconst (v := 0) hx hb dX12_slam_27 (by decide) ?_
      obtain ⟨fc_12, hgc_12, hFc_12⟩ := hw_1W.arr (i := 207) (by decide) (sh_207 ad K)
      refine q_iald X hP (by decide) hgc_12 (by unfold vp_in; decide) dX12_slam_28 ?_
      refine lv_topi (fun z_13 ez_13 => ?_)
      exact q_iret X hP hS ⟨hw_1W, hfr_5⟩ dX12_slam_29
    · have hhc_10 := n_eq (rfl : x_9.toInt = x_9.toInt) (by decide : (0 : Int32).toInt = 0) hc_10
      refine lv_iconst (v := (-1)) hx hb dX12_slam_19 (by decide) ?_
      refine lv_goto (tgt := 29) hx hb dX12_slam_20 (by decide) ?_
      exact q_iret X hP hS ⟨hw_1W, hfr_5⟩ dX12_slam_29
  · have hhc_6 := n_nle (by decide : (0 : Int32).toInt = 0) (rfl : r_3.toInt = r_3.toInt) hc_6
    refine lv_iload_n hx hb dX12_slam_10 rfl (lv_at hl 0 rfl) ?_
    exact q_iret X hP hS ⟨hw_1W, hfr_5⟩ dX12_slam_11

theorem dX12_ask_0 : decode cX12_ask 0 = .ok (.aload_n 0, 1) := by decide +kernel
theorem dX12_ask_1 : decode cX12_ask 1 = .ok (.iload_n 1, 1) := by decide +kernel
theorem dX12_ask_2 : decode cX12_ask 2 = .ok (.invokevirtual 326, 3) := by decide +kernel
theorem dX12_ask_5 : decode cX12_ask 5 = .ok (.istore_n 2, 1) := by decide +kernel
theorem dX12_ask_6 : decode cX12_ask 6 = .ok (.iload_n 2, 1) := by decide +kernel
theorem dX12_ask_7 : decode cX12_ask 7 = .ok (.ifCond .ge 5, 3) := by decide +kernel
theorem dX12_ask_10 : decode cX12_ask 10 = .ok (.iload_n 2, 1) := by decide +kernel
theorem dX12_ask_11 : decode cX12_ask 11 = .ok (.ireturn, 1) := by decide +kernel
theorem dX12_ask_12 : decode cX12_ask 12 = .ok (.iconst (-1), 1) := by decide +kernel
theorem dX12_ask_13 : decode cX12_ask 13 = .ok (.istore_n 3, 1) := by decide +kernel
theorem dX12_ask_14 : decode cX12_ask 14 = .ok (.aload_n 0, 1) := by decide +kernel
theorem dX12_ask_15 : decode cX12_ask 15 = .ok (.getfield 320, 3) := by decide +kernel
theorem dX12_ask_18 : decode cX12_ask 18 = .ok (.istore 4, 2) := by decide +kernel
theorem dX12_ask_20 : decode cX12_ask 20 = .ok (.iconst 0, 1) := by decide +kernel
theorem dX12_ask_21 : decode cX12_ask 21 = .ok (.istore 5, 2) := by decide +kernel
theorem dX12_ask_23 : decode cX12_ask 23 = .ok (.iload 5, 2) := by decide +kernel
theorem dX12_ask_25 : decode cX12_ask 25 = .ok (.aload_n 0, 1) := by decide +kernel
theorem dX12_ask_26 : decode cX12_ask 26 = .ok (.getfield 9, 3) := by decide +kernel
theorem dX12_ask_29 : decode cX12_ask 29 = .ok (.iconst 5, 1) := by decide +kernel
theorem dX12_ask_30 : decode cX12_ask 30 = .ok (.iaload, 1) := by decide +kernel
theorem dX12_ask_31 : decode cX12_ask 31 = .ok (.if_icmp .ge 105, 3) := by decide +kernel
theorem dX12_ask_34 : decode cX12_ask 34 = .ok (.iconst 0, 1) := by decide +kernel
theorem dX12_ask_35 : decode cX12_ask 35 = .ok (.istore 6, 2) := by decide +kernel
theorem dX12_ask_37 : decode cX12_ask 37 = .ok (.iconst (-1), 1) := by decide +kernel
theorem dX12_ask_38 : decode cX12_ask 38 = .ok (.istore 7, 2) := by decide +kernel
theorem dX12_ask_40 : decode cX12_ask 40 = .ok (.iload 7, 2) := by decide +kernel
theorem dX12_ask_42 : decode cX12_ask 42 = .ok (.aload_n 0, 1) := by decide +kernel
theorem dX12_ask_43 : decode cX12_ask 43 = .ok (.getfield 231, 3) := by decide +kernel
theorem dX12_ask_46 : decode cX12_ask 46 = .ok (.if_icmp .ge 67, 3) := by decide +kernel
theorem dX12_ask_49 : decode cX12_ask 49 = .ok (.iconst 0, 1) := by decide +kernel
theorem dX12_ask_50 : decode cX12_ask 50 = .ok (.istore 8, 2) := by decide +kernel
theorem dX12_ask_52 : decode cX12_ask 52 = .ok (.iconst 0, 1) := by decide +kernel
theorem dX12_ask_53 : decode cX12_ask 53 = .ok (.istore 9, 2) := by decide +kernel
theorem dX12_ask_55 : decode cX12_ask 55 = .ok (.iload 9, 2) := by decide +kernel
theorem dX12_ask_57 : decode cX12_ask 57 = .ok (.aload_n 0, 1) := by decide +kernel
theorem dX12_ask_58 : decode cX12_ask 58 = .ok (.getfield 320, 3) := by decide +kernel
theorem dX12_ask_61 : decode cX12_ask 61 = .ok (.if_icmp .ge 37, 3) := by decide +kernel
theorem dX12_ask_64 : decode cX12_ask 64 = .ok (.iload 8, 2) := by decide +kernel
theorem dX12_ask_66 : decode cX12_ask 66 = .ok (.aload_n 0, 1) := by decide +kernel
theorem dX12_ask_67 : decode cX12_ask 67 = .ok (.getfield 46, 3) := by decide +kernel
theorem dX12_ask_70 : decode cX12_ask 70 = .ok (.bipush 8, 2) := by decide +kernel
theorem dX12_ask_72 : decode cX12_ask 72 = .ok (.iload 9, 2) := by decide +kernel
theorem dX12_ask_74 : decode cX12_ask 74 = .ok (.imul, 1) := by decide +kernel
theorem dX12_ask_75 : decode cX12_ask 75 = .ok (.iload 5, 2) := by decide +kernel
theorem dX12_ask_77 : decode cX12_ask 77 = .ok (.iadd, 1) := by decide +kernel
theorem dX12_ask_78 : decode cX12_ask 78 = .ok (.iaload, 1) := by decide +kernel
theorem dX12_ask_79 : decode cX12_ask 79 = .ok (.iload 7, 2) := by decide +kernel
theorem dX12_ask_81 : decode cX12_ask 81 = .ok (.if_icmp .ne 7, 3) := by decide +kernel
theorem dX12_ask_84 : decode cX12_ask 84 = .ok (.iconst 1, 1) := by decide +kernel
theorem dX12_ask_85 : decode cX12_ask 85 = .ok (.goto 4, 3) := by decide +kernel
theorem dX12_ask_88 : decode cX12_ask 88 = .ok (.iconst 0, 1) := by decide +kernel
theorem dX12_ask_89 : decode cX12_ask 89 = .ok (.iadd, 1) := by decide +kernel
theorem dX12_ask_90 : decode cX12_ask 90 = .ok (.istore 8, 2) := by decide +kernel
theorem dX12_ask_92 : decode cX12_ask 92 = .ok (.iinc 9 1, 3) := by decide +kernel
theorem dX12_ask_95 : decode cX12_ask 95 = .ok (.goto (-40), 3) := by decide +kernel
theorem dX12_ask_98 : decode cX12_ask 98 = .ok (.iload 6, 2) := by decide +kernel
theorem dX12_ask_100 : decode cX12_ask 100 = .ok (.iload 8, 2) := by decide +kernel
theorem dX12_ask_102 : decode cX12_ask 102 = .ok (.invokestatic 252, 3) := by decide +kernel
theorem dX12_ask_105 : decode cX12_ask 105 = .ok (.istore 6, 2) := by decide +kernel
theorem dX12_ask_107 : decode cX12_ask 107 = .ok (.iinc 7 1, 3) := by decide +kernel
theorem dX12_ask_110 : decode cX12_ask 110 = .ok (.goto (-70), 3) := by decide +kernel
theorem dX12_ask_113 : decode cX12_ask 113 = .ok (.iload 6, 2) := by decide +kernel
theorem dX12_ask_115 : decode cX12_ask 115 = .ok (.iload 4, 2) := by decide +kernel
theorem dX12_ask_117 : decode cX12_ask 117 = .ok (.if_icmp .lt 6, 3) := by decide +kernel
theorem dX12_ask_120 : decode cX12_ask 120 = .ok (.goto 10, 3) := by decide +kernel
theorem dX12_ask_123 : decode cX12_ask 123 = .ok (.iload 6, 2) := by decide +kernel
theorem dX12_ask_125 : decode cX12_ask 125 = .ok (.istore 4, 2) := by decide +kernel
theorem dX12_ask_127 : decode cX12_ask 127 = .ok (.iload 5, 2) := by decide +kernel
theorem dX12_ask_129 : decode cX12_ask 129 = .ok (.istore_n 3, 1) := by decide +kernel
theorem dX12_ask_130 : decode cX12_ask 130 = .ok (.iinc 5 1, 3) := by decide +kernel
theorem dX12_ask_133 : decode cX12_ask 133 = .ok (.goto (-110), 3) := by decide +kernel
theorem dX12_ask_136 : decode cX12_ask 136 = .ok (.iload_n 3, 1) := by decide +kernel
theorem dX12_ask_137 : decode cX12_ask 137 = .ok (.ireturn, 1) := by decide +kernel
noncomputable def vX12_ask : List Cond := .code yX12_ask cX12_ask 10 (some .int) :: (([.methodLink RX12 326 yX12_laySlams, .instanceMethod yX12_laySlams, .selects RX12 yX12_laySlams yX12_laySlams, .initialized RX12, .fieldLink RX12 320 "IcicleClockModel" "pairMany" "I", .fieldLink RX12 9 "IcicleClockModel" "world" "[I", .fieldLink RX12 231 "IcicleClockModel" "days" "I", .fieldLink RX12 46 "IcicleClockModel" "fellBy" "[I", .methodLink RX12 252 Lib.Math.max.name, .static Lib.Math.max.name, .initialized "java/lang/Math", .code Lib.Math.max.name Lib.Math.max.code 2 (some .int)] : List Cond) ++ (wsX120 ++ vX12_laySlams))
theorem iX12_ask_12 : ∀ w ∈ wsX120, w ∈ vX12_ask := fun _ h => List.mem_cons_of_mem _ (List.mem_append_right _ (List.mem_append_left _ h))
theorem gs_X12_ask : Gd vX12_ask := Gd.cons (by decide +kernel) (Gd.app (Gd.r (by decide +kernel)) (Gd.app gwX_12 gs_X12_laySlams))
theorem gg_X12_ask_X12_laySlams : GoodIn vX12_ask (wsV RX12 326 RX12 yX12_laySlams vX12_laySlams) := goodIn_app (goodIn_r _ [1, 2, 3, 4] (by decide +kernel) (by decide +kernel)) (fun w h => ⟨List.mem_cons_of_mem _ (List.mem_append_right _ (List.mem_append_right _ (h))), gs_X12_laySlams w h⟩)
set_option maxHeartbeats 4000000 in
set_option maxRecDepth 100000 in
theorem s_X12_ask (l : Launch) (D : va_G) (cs : Nat → ClassId) (ad : Nat → Nat) (kS : kSt) (K : sK) (hKO : KO K) (hj : wJ ad 218) (g : Nat → va_E) (hW : WF (shp ad K) ad cs g) (sl : Int32) : sI l yX12_ask vX12_ask { frames := 4, cells := 0, slots := 0, locals := 96 } D cs ad kS [.ref (ad 197), .int sl] g (fun r g2 => WF (shp ad K) ad cs g2 ∧ (∀ j, j ≠ 197 ∧ j ≠ 204 ∧ j ≠ 205 ∧ j ≠ 207 ∧ j ≠ 208 → g2 j = g j)) := by
  refine Met.startS (cc := cX12_ask) (maxL := 10) (ret := (some .int)) RX12 rfl (by decide) rfl (Nat.le_of_ble_eq_true rfl) ?_
  intro p e s m below meth c ls X Z hP hl
  have hx := X.1
  have hb := X.2.1
  have hS : va_S (wA ad 218) s.heap s.heap [] := va_S.rf
  have hA : ∀ i, i < 218 → wA ad 218 (ad i) := fun i h => ⟨i, h, rfl⟩
  have hfr : ∀ j, j ≠ 197 ∧ j ≠ 204 ∧ j ≠ 205 ∧ j ≠ 207 ∧ j ≠ 208 → g j = g j := fun _ _ => rfl
  have hl : lv_has ls 10 [(0, .ref (ad 197)), (1, .int sl)] := hl
  refine lv_aload_n hx hb dX12_ask_0 rfl (lv_at hl 0 rfl) ?_
  refine lv_iload_n hx hb dX12_ask_1 rfl (lv_at hl 1 rfl) ?_
  obtain ⟨fsc_4, hgc_4, hOc_4⟩ := hW.obj (i := 197) (by decide) (sh_197 ad K)
  refine s_calli (q := (RX12, TX12, 40)) (As := [.int sl]) (rest := []) X Z (s_X12_laySlams l D cs ad kS K hKO hj g hW sl) (cwV 1 X.2.2.2.2.1 gg_X12_ask_X12_laySlams rfl rfl rfl (by decide +kernel) ⟨Nat.le_of_ble_eq_true rfl, Nat.le_of_ble_eq_true rfl⟩) (by decide) hgc_4 rfl hP hA hS.2.1 hS rfl hl.1 rfl (Nat.le_of_ble_eq_true rfl) dX12_ask_2 ⟨Nat.le_of_ble_eq_true rfl, Nat.le_of_ble_eq_true rfl⟩ (fun r_3 g_2 H locs hw_1 hP hS => ?_)
  obtain ⟨hw_1W, hw_1f, hw_1⟩ := hw_1
  have hfr_5 : ∀ j, j ≠ 197 ∧ j ≠ 204 ∧ j ≠ 205 ∧ j ≠ 207 ∧ j ≠ 208 → g_2 j = g j := fun j hj => (hw_1f j (by omega)).trans (hfr j hj)
  refine lv_istore_n (lv' := [(2, .int r_3), (0, .ref (ad 197)), (1, .int sl)]) hx hb dX12_ask_5 rfl hl (by decide) rfl (fun ls hl => ?_)
  refine lv_iload_n hx hb dX12_ask_6 rfl (lv_at hl 0 rfl) ?_
  refine lv_if_ge (tgt := 12) hx hb dX12_ask_7 (by decide) (fun hc_6 => ?_) (fun hc_6 => ?_)
  · have hhc_6 := n_le (by decide : (0 : Int32).toInt = 0) (rfl : r_3.toInt = r_3.toInt) hc_6
    refine lv_iconst (v := (-1)) hx hb dX12_ask_12 (by decide) ?_
    refine lv_istore_n (lv' := [(3, .int (-1)), (2, .int r_3), (0, .ref (ad 197)), (1, .int sl)]) hx hb dX12_ask_13 rfl hl (by decide) rfl (fun ls hl => ?_)
    refine lv_aload_n hx hb dX12_ask_14 rfl (lv_at hl 2 rfl) ?_
    obtain ⟨fsc_7, hgc_7, hOc_7⟩ := hw_1W.obj (i := 197) (by decide) (sh_197 ad K)
    obtain ⟨x_9, hk_8, hlx_9, hhx_9⟩ := hOc_7.int 22 rfl
    refine q_get X iX12_ask_12 hP (by decide) hgc_7 rfl 22 (by decide) (List.mem_of_getElem? (i := 5) rfl) (v := .int x_9) hk_8 dX12_ask_15 ?_
    refine lv_istore (lv' := [(4, .int x_9), (3, .int (-1)), (2, .int r_3), (0, .ref (ad 197)), (1, .int sl)]) hx hb dX12_ask_18 hl (by decide) rfl (fun ls hl => ?_)
    refine lv_iconst (v := 0) hx hb dX12_ask_20 (by decide) ?_
    refine lv_istore (lv' := [(5, .int 0), (4, .int x_9), (3, .int (-1)), (2, .int r_3), (0, .ref (ad 197)), (1, .int sl)]) hx hb dX12_ask_21 hl (by decide) rfl (fun ls hl => ?_)
    have HL23 : ∀ (n23 : Nat) (v23_5 : Int32) (v23_4 : Int32) (v23_3 : Int32) (G23 : Nat → va_E) (H : Heap) (locs : List Loc) (ls : Array Slot), (8 - v23_5.toInt).toNat < n23 → (0 ≤ v23_5.toInt ∧ v23_5.toInt ≤ 8) → (0 ≤ v23_4.toInt ∧ v23_4.toInt ≤ 70) → ((-1) ≤ v23_3.toInt ∧ v23_3.toInt ≤ 7) → WF (shp ad K) ad cs G23 → (∀ j, j ≠ 197 ∧ j ≠ 204 ∧ j ≠ 205 ∧ j ≠ 207 ∧ j ≠ 208 → G23 j = g j) → va_P D vwCl (wL ad G23 218) H → va_S (wA ad 218) s.heap H locs → lv_has ls 10 [(5, .int v23_5), (4, .int v23_4), (3, .int v23_3), (0, .ref (ad 197))] → W p l e ({ frames := 4, cells := 0, slots := 0, locals := 96 } : Room) s m ([.ref (ad 197), .int sl] : List Value).toArray below meth c H locs 0 0 (MQ below (qI D ad 218 (fun r g2 => WF (shp ad K) ad cs g2 ∧ (∀ j, j ≠ 197 ∧ j ≠ 204 ∧ j ≠ 205 ∧ j ≠ 207 ∧ j ≠ 208 → g2 j = g j))) ([.ref (ad 197), .int sl] : List Value).toArray s 0 0 (wA ad 218)) (F0 m 23 ls []) := by
      intro n23
      induction n23 with
      | zero =>
        intro v23_5 v23_4 v23_3 G23 H locs ls hm23 hv23_0 hv23_1 hv23_2 hW23 hfr23 hP hS hl
        exact absurd hm23 (Nat.not_lt_zero _)
      | succ n23 ih23 =>
        intro v23_5 v23_4 v23_3 G23 H locs ls hm23 hv23_0 hv23_1 hv23_2 hW23 hfr23 hP hS hl
        refine lv_iload hx hb dX12_ask_23 (lv_at hl 0 rfl) ?_
        refine lv_aload_n hx hb dX12_ask_25 rfl (lv_at hl 3 rfl) ?_
        obtain ⟨fsc_10, hgc_10, hOc_10⟩ := hW23.obj (i := 197) (by decide) (sh_197 ad K)
        have hk_11 := hOc_10.ref 1 rfl
        refine q_get X iX12_ask_12 hP (by decide) hgc_10 rfl 1 (by decide) (List.mem_of_getElem? (i := 6) rfl) (v := .ref (ad 198)) hk_11 dX12_ask_26 ?_
        refine lv_iconst (v := 5) hx hb dX12_ask_29 (by decide) ?_
        obtain ⟨fc_12, hgc_12, hFc_12⟩ := hW23.arr (i := 198) (by decide) (sh_198 ad K)
        refine q_iald X hP (by decide) hgc_12 (by unfold vp_in; decide) dX12_ask_30 ?_
        refine lv_topi (fun z_13 ez_13 => ?_)
        have hqz_13 : wq (5) z_13.toInt := ez_13 ▸ hFc_12 _
        have hz_13 : 0 ≤ z_13.toInt ∧ z_13.toInt ≤ 8 := by unfold wq at hqz_13; omega
        clear hqz_13
        refine lv_icmp_ge (tgt := 136) hx hb dX12_ask_31 (by decide) (fun hc_14 => ?_) (fun hc_14 => ?_)
        · have hhc_14 := n_le (rfl : z_13.toInt = z_13.toInt) (rfl : v23_5.toInt = v23_5.toInt) hc_14
          refine lv_iload_n hx hb dX12_ask_136 rfl (lv_at hl 2 rfl) ?_
          exact q_iret X hP hS ⟨hW23, hfr23⟩ dX12_ask_137
        · have hhc_14 := n_nle (rfl : z_13.toInt = z_13.toInt) (rfl : v23_5.toInt = v23_5.toInt) hc_14
          refine lv_iconst (v := 0) hx hb dX12_ask_34 (by decide) ?_
          refine lv_istore (lv' := [(6, .int 0), (5, .int v23_5), (4, .int v23_4), (3, .int v23_3), (0, .ref (ad 197))]) hx hb dX12_ask_35 hl (by decide) rfl (fun ls hl => ?_)
          refine lv_iconst (v := (-1)) hx hb dX12_ask_37 (by decide) ?_
          refine lv_istore (lv' := [(7, .int (-1)), (6, .int 0), (5, .int v23_5), (4, .int v23_4), (3, .int v23_3), (0, .ref (ad 197))]) hx hb dX12_ask_38 hl (by decide) rfl (fun ls hl => ?_)
          have HL40 : ∀ (n40 : Nat) (v40_7 : Int32) (v40_6 : Int32) (G40 : Nat → va_E) (H : Heap) (locs : List Loc) (ls : Array Slot), (14 - v40_7.toInt).toNat < n40 → ((-1) ≤ v40_7.toInt ∧ v40_7.toInt ≤ 14) → (0 ≤ v40_6.toInt) → WF (shp ad K) ad cs G40 → (∀ j, j ≠ 197 ∧ j ≠ 204 ∧ j ≠ 205 ∧ j ≠ 207 ∧ j ≠ 208 → G40 j = g j) → va_P D vwCl (wL ad G40 218) H → va_S (wA ad 218) s.heap H locs → lv_has ls 10 [(7, .int v40_7), (6, .int v40_6), (5, .int v23_5), (4, .int v23_4), (3, .int v23_3), (0, .ref (ad 197))] → W p l e ({ frames := 4, cells := 0, slots := 0, locals := 96 } : Room) s m ([.ref (ad 197), .int sl] : List Value).toArray below meth c H locs 0 0 (MQ below (qI D ad 218 (fun r g2 => WF (shp ad K) ad cs g2 ∧ (∀ j, j ≠ 197 ∧ j ≠ 204 ∧ j ≠ 205 ∧ j ≠ 207 ∧ j ≠ 208 → g2 j = g j))) ([.ref (ad 197), .int sl] : List Value).toArray s 0 0 (wA ad 218)) (F0 m 40 ls []) := by
            intro n40
            induction n40 with
            | zero =>
              intro v40_7 v40_6 G40 H locs ls hm40 hv40_0 hv40_1 hW40 hfr40 hP hS hl
              exact absurd hm40 (Nat.not_lt_zero _)
            | succ n40 ih40 =>
              intro v40_7 v40_6 G40 H locs ls hm40 hv40_0 hv40_1 hW40 hfr40 hP hS hl
              refine lv_iload hx hb dX12_ask_40 (lv_at hl 0 rfl) ?_
              refine lv_aload_n hx hb dX12_ask_42 rfl (lv_at hl 5 rfl) ?_
              obtain ⟨fsc_15, hgc_15, hOc_15⟩ := hW40.obj (i := 197) (by decide) (sh_197 ad K)
              obtain ⟨x_17, hk_16, hlx_17, hhx_17⟩ := hOc_15.int 17 rfl
              refine q_get X iX12_ask_12 hP (by decide) hgc_15 rfl 17 (by decide) (List.mem_of_getElem? (i := 7) rfl) (v := .int x_17) hk_16 dX12_ask_43 ?_
              refine lv_icmp_ge (tgt := 113) hx hb dX12_ask_46 (by decide) (fun hc_18 => ?_) (fun hc_18 => ?_)
              · have hhc_18 := n_le (rfl : x_17.toInt = x_17.toInt) (rfl : v40_7.toInt = v40_7.toInt) hc_18
                refine lv_iload hx hb dX12_ask_113 (lv_at hl 1 rfl) ?_
                refine lv_iload hx hb dX12_ask_115 (lv_at hl 3 rfl) ?_
                have HJ130 : ∀ (v130_4 : Int32) (v130_3 : Int32) (G130 : Nat → va_E) (H : Heap) (locs : List Loc) (ls : Array Slot), (0 ≤ v130_4.toInt ∧ v130_4.toInt ≤ 70) → ((-1) ≤ v130_3.toInt ∧ v130_3.toInt ≤ 7) → WF (shp ad K) ad cs G130 → (∀ j, j ≠ 197 ∧ j ≠ 204 ∧ j ≠ 205 ∧ j ≠ 207 ∧ j ≠ 208 → G130 j = g j) → G130 197 = .inr (12, fsc_15) → va_P D vwCl (wL ad G130 218) H → va_S (wA ad 218) s.heap H locs → lv_has ls 10 [(5, .int v23_5), (4, .int v130_4), (3, .int v130_3), (0, .ref (ad 197))] → W p l e ({ frames := 4, cells := 0, slots := 0, locals := 96 } : Room) s m ([.ref (ad 197), .int sl] : List Value).toArray below meth c H locs 0 0 (MQ below (qI D ad 218 (fun r g2 => WF (shp ad K) ad cs g2 ∧ (∀ j, j ≠ 197 ∧ j ≠ 204 ∧ j ≠ 205 ∧ j ≠ 207 ∧ j ≠ 208 → g2 j = g j))) ([.ref (ad 197), .int sl] : List Value).toArray s 0 0 (wA ad 218)) (F0 m 130 ls []) := by
                  intro v130_4 v130_3 G130 H locs ls hv130_0 hv130_1 hW130 hfr130 hg130_0 hP hS hl
                  obtain ⟨x_19, ex_19⟩ : ∃ y : Int32, y = v23_5 + 1 := ⟨_, rfl⟩
                  have hx_19 : x_19.toInt = v23_5.toInt + 1 := n_add rfl (by decide : (1 : Int32).toInt = 1) ex_19 (by omega) (by omega)
                  refine lv_iinc (v := x_19) (lv' := [(5, .int x_19), (4, .int v130_4), (3, .int v130_3), (0, .ref (ad 197))]) hx hb dX12_ask_130 hl (k := 0) rfl (by rw [ex_19]; rfl) (by decide) rfl (fun ls hl => ?_)
                  refine lv_goto (tgt := 23) hx hb dX12_ask_133 (by decide) ?_
                  exact ih23 x_19 v130_4 v130_3 G130 _ _ ls (by omega) (by omega) (by omega) (by omega) hW130 hfr130 hP hS (lv_sub hl [0, 1, 2, 3] rfl)
                refine lv_icmp_lt (tgt := 123) hx hb dX12_ask_117 (by decide) (fun hc_20 => ?_) (fun hc_20 => ?_)
                · have hhc_20 := n_lt (rfl : v40_6.toInt = v40_6.toInt) (rfl : v23_4.toInt = v23_4.toInt) hc_20
                  have := n_hi v40_6
                  refine lv_iload hx hb dX12_ask_123 (lv_at hl 1 rfl) ?_
                  refine lv_istore (lv' := [(4, .int v40_6), (7, .int v40_7), (6, .int v40_6), (5, .int v23_5), (3, .int v23_3), (0, .ref (ad 197))]) hx hb dX12_ask_125 hl (by decide) rfl (fun ls hl => ?_)
                  refine lv_iload hx hb dX12_ask_127 (lv_at hl 3 rfl) ?_
                  refine lv_istore_n (lv' := [(3, .int v23_5), (4, .int v40_6), (7, .int v40_7), (6, .int v40_6), (5, .int v23_5), (0, .ref (ad 197))]) hx hb dX12_ask_129 rfl hl (by decide) rfl (fun ls hl => ?_)
                  exact HJ130 v40_6 v23_5 G40 _ _ ls (by omega) (by omega) hW40 hfr40 hgc_15 hP hS (lv_sub hl [4, 1, 0, 5] rfl)
                · have hhc_20 := n_nlt (rfl : v40_6.toInt = v40_6.toInt) (rfl : v23_4.toInt = v23_4.toInt) hc_20
                  have := n_hi v40_6
                  refine lv_goto (tgt := 130) hx hb dX12_ask_120 (by decide) ?_
                  exact HJ130 v23_4 v23_3 G40 _ _ ls (by omega) (by omega) hW40 hfr40 hgc_15 hP hS (lv_sub hl [2, 3, 4, 5] rfl)
              · have hhc_18 := n_nle (rfl : x_17.toInt = x_17.toInt) (rfl : v40_7.toInt = v40_7.toInt) hc_18
                refine lv_iconst (v := 0) hx hb dX12_ask_49 (by decide) ?_
                refine lv_istore (lv' := [(8, .int 0), (7, .int v40_7), (6, .int v40_6), (5, .int v23_5), (4, .int v23_4), (3, .int v23_3), (0, .ref (ad 197))]) hx hb dX12_ask_50 hl (by decide) rfl (fun ls hl => ?_)
                refine lv_iconst (v := 0) hx hb dX12_ask_52 (by decide) ?_
                refine lv_istore (lv' := [(9, .int 0), (8, .int 0), (7, .int v40_7), (6, .int v40_6), (5, .int v23_5), (4, .int v23_4), (3, .int v23_3), (0, .ref (ad 197))]) hx hb dX12_ask_53 hl (by decide) rfl (fun ls hl => ?_)
                have HL55 : ∀ (n55 : Nat) (v55_9 : Int32) (v55_8 : Int32) (G55 : Nat → va_E) (H : Heap) (locs : List Loc) (ls : Array Slot), (70 - v55_9.toInt).toNat < n55 → (0 ≤ v55_9.toInt ∧ v55_9.toInt ≤ 70) → WF (shp ad K) ad cs G55 → (∀ j, j ≠ 197 ∧ j ≠ 204 ∧ j ≠ 205 ∧ j ≠ 207 ∧ j ≠ 208 → G55 j = g j) → va_P D vwCl (wL ad G55 218) H → va_S (wA ad 218) s.heap H locs → lv_has ls 10 [(9, .int v55_9), (8, .int v55_8), (7, .int v40_7), (6, .int v40_6), (5, .int v23_5), (4, .int v23_4), (3, .int v23_3), (0, .ref (ad 197))] → W p l e ({ frames := 4, cells := 0, slots := 0, locals := 96 } : Room) s m ([.ref (ad 197), .int sl] : List Value).toArray below meth c H locs 0 0 (MQ below (qI D ad 218 (fun r g2 => WF (shp ad K) ad cs g2 ∧ (∀ j, j ≠ 197 ∧ j ≠ 204 ∧ j ≠ 205 ∧ j ≠ 207 ∧ j ≠ 208 → g2 j = g j))) ([.ref (ad 197), .int sl] : List Value).toArray s 0 0 (wA ad 218)) (F0 m 55 ls []) := by
                  intro n55
                  induction n55 with
                  | zero =>
                    intro v55_9 v55_8 G55 H locs ls hm55 hv55_0 hW55 hfr55 hP hS hl
                    exact absurd hm55 (Nat.not_lt_zero _)
                  | succ n55 ih55 =>
                    intro v55_9 v55_8 G55 H locs ls hm55 hv55_0 hW55 hfr55 hP hS hl
                    refine lv_iload hx hb dX12_ask_55 (lv_at hl 0 rfl) ?_
                    refine lv_aload_n hx hb dX12_ask_57 rfl (lv_at hl 7 rfl) ?_
                    obtain ⟨fsc_21, hgc_21, hOc_21⟩ := hW55.obj (i := 197) (by decide) (sh_197 ad K)
                    obtain ⟨x_23, hk_22, hlx_23, hhx_23⟩ := hOc_21.int 22 rfl
                    refine q_get X iX12_ask_12 hP (by decide) hgc_21 rfl 22 (by decide) (List.mem_of_getElem? (i := 5) rfl) (v := .int x_23) hk_22 dX12_ask_58 ?_
                    refine lv_icmp_ge (tgt := 98) hx hb dX12_ask_61 (by decide) (fun hc_24 => ?_) (fun hc_24 => ?_)
                    · have hhc_24 := n_le (rfl : x_23.toInt = x_23.toInt) (rfl : v55_9.toInt = v55_9.toInt) hc_24
                      refine lv_iload hx hb dX12_ask_98 (lv_at hl 3 rfl) ?_
                      refine lv_iload hx hb dX12_ask_100 (lv_at hl 1 rfl) ?_
                      refine va_mmax hx hb (X.2.2.2.1.trans hl.1.symm) X.2.2.2.2.2.1 (X.2.2.2.2.1 _ (List.mem_of_getElem? (i := 9) rfl)) (X.2.2.2.2.1 _ (List.mem_of_getElem? (i := 10) rfl)) (X.2.2.2.2.1 _ (List.mem_of_getElem? (i := 11) rfl)) (X.2.2.2.2.1 _ (List.mem_of_getElem? (i := 12) rfl)) (Nat.le_of_ble_eq_true rfl) (Nat.le_of_ble_eq_true rfl) (Nat.le_of_ble_eq_true rfl) (Nat.le_of_ble_eq_true rfl) dX12_ask_102 ?_
                      refine lv_topi (fun z_25 ez_25 => ?_)
                      have hz_25 := n_max (rfl : v40_6.toInt = v40_6.toInt) (rfl : v55_8.toInt = v55_8.toInt) ez_25
                      refine lv_istore (lv' := [(6, .int z_25), (9, .int v55_9), (8, .int v55_8), (7, .int v40_7), (5, .int v23_5), (4, .int v23_4), (3, .int v23_3), (0, .ref (ad 197))]) hx hb dX12_ask_105 hl (by decide) rfl (fun ls hl => ?_)
                      obtain ⟨x_26, ex_26⟩ : ∃ y : Int32, y = v40_7 + 1 := ⟨_, rfl⟩
                      have hx_26 : x_26.toInt = v40_7.toInt + 1 := n_add rfl (by decide : (1 : Int32).toInt = 1) ex_26 (by omega) (by omega)
                      refine lv_iinc (v := x_26) (lv' := [(7, .int x_26), (6, .int z_25), (9, .int v55_9), (8, .int v55_8), (5, .int v23_5), (4, .int v23_4), (3, .int v23_3), (0, .ref (ad 197))]) hx hb dX12_ask_107 hl (k := 3) rfl (by rw [ex_26]; rfl) (by decide) rfl (fun ls hl => ?_)
                      refine lv_goto (tgt := 40) hx hb dX12_ask_110 (by decide) ?_
                      exact ih40 x_26 z_25 G55 _ _ ls (by omega) (by omega) (by omega) hW55 hfr55 hP hS (lv_sub hl [0, 1, 4, 5, 6, 7] rfl)
                    · have hhc_24 := n_nle (rfl : x_23.toInt = x_23.toInt) (rfl : v55_9.toInt = v55_9.toInt) hc_24
                      refine lv_iload hx hb dX12_ask_64 (lv_at hl 1 rfl) ?_
                      refine lv_aload_n hx hb dX12_ask_66 rfl (lv_at hl 7 rfl) ?_
                      have hk_27 := hOc_21.ref 21 rfl
                      refine q_get X iX12_ask_12 hP (by decide) hgc_21 rfl 21 (by decide) (List.mem_of_getElem? (i := 8) rfl) (v := .ref (ad 208)) hk_27 dX12_ask_67 ?_
                      refine lv_bipush (v := 8) hx hb dX12_ask_70 (by decide) ?_
                      refine lv_iload hx hb dX12_ask_72 (lv_at hl 0 rfl) ?_
                      refine lv_imul hx hb dX12_ask_74 ?_
                      refine lv_topi (fun z_28 ez_28 => ?_)
                      have hz_28 : z_28.toInt = 8 * v55_9.toInt := n_mul (by decide : (8 : Int32).toInt = 8) (rfl : v55_9.toInt = v55_9.toInt) ez_28 (by omega) (by omega)
                      refine lv_iload hx hb dX12_ask_75 (lv_at hl 4 rfl) ?_
                      refine lv_iadd hx hb dX12_ask_77 ?_
                      refine lv_topi (fun z_29 ez_29 => ?_)
                      have hz_29 : z_29.toInt = z_28.toInt + v23_5.toInt := n_add (rfl : z_28.toInt = z_28.toInt) (rfl : v23_5.toInt = v23_5.toInt) ez_29 (by omega) (by omega)
                      obtain ⟨fc_30, hgc_30, hFc_30⟩ := hW55.arr (i := 208) (by decide) (sh_208 ad K)
                      refine q_iald X hP (by decide) hgc_30 (n_in (rfl : z_29.toInt = z_29.toInt) (by omega) (by omega)) dX12_ask_78 ?_
                      refine lv_topi (fun z_31 ez_31 => ?_)
                      refine lv_iload hx hb dX12_ask_79 (lv_at hl 2 rfl) ?_
                      refine lv_icmp_ne (tgt := 88) hx hb dX12_ask_81 (by decide) (fun hc_32 => ?_) (fun hc_32 => ?_)
                      · have hhc_32 := n_ne (rfl : z_31.toInt = z_31.toInt) (rfl : v40_7.toInt = v40_7.toInt) hc_32
                        refine lv_iconst (v := 0) hx hb dX12_ask_88 (by decide) ?_
                        refine lv_iadd hx hb dX12_ask_89 ?_
                        refine lv_topi (fun z_33 ez_33 => ?_)
                        have := n_hi v55_8
                        have := n_lo v55_8
                        have hz_33 : z_33.toInt = v55_8.toInt + 0 := n_add (rfl : v55_8.toInt = v55_8.toInt) (by decide : (0 : Int32).toInt = 0) ez_33 (by omega) (by omega)
                        refine lv_istore (lv' := [(8, .int z_33), (9, .int v55_9), (7, .int v40_7), (6, .int v40_6), (5, .int v23_5), (4, .int v23_4), (3, .int v23_3), (0, .ref (ad 197))]) hx hb dX12_ask_90 hl (by decide) rfl (fun ls hl => ?_)
                        obtain ⟨x_34, ex_34⟩ : ∃ y : Int32, y = v55_9 + 1 := ⟨_, rfl⟩
                        have hx_34 : x_34.toInt = v55_9.toInt + 1 := n_add rfl (by decide : (1 : Int32).toInt = 1) ex_34 (by omega) (by omega)
                        refine lv_iinc (v := x_34) (lv' := [(9, .int x_34), (8, .int z_33), (7, .int v40_7), (6, .int v40_6), (5, .int v23_5), (4, .int v23_4), (3, .int v23_3), (0, .ref (ad 197))]) hx hb dX12_ask_92 hl (k := 1) rfl (by rw [ex_34]; rfl) (by decide) rfl (fun ls hl => ?_)
                        refine lv_goto (tgt := 55) hx hb dX12_ask_95 (by decide) ?_
                        exact ih55 x_34 z_33 G55 _ _ ls (by omega) (by omega) hW55 hfr55 hP hS (lv_sub hl [0, 1, 2, 3, 4, 5, 6, 7] rfl)
                      · have hhc_32 := n_eq (rfl : z_31.toInt = z_31.toInt) (rfl : v40_7.toInt = v40_7.toInt) hc_32
                        refine lv_iconst (v := 1) hx hb dX12_ask_84 (by decide) ?_
                        refine lv_goto (tgt := 89) hx hb dX12_ask_85 (by decide) ?_
                        refine lv_iadd hx hb dX12_ask_89 ?_
                        refine lv_topi (fun z_35 ez_35 => ?_)
                        refine lv_istore (lv' := [(8, .int z_35), (9, .int v55_9), (7, .int v40_7), (6, .int v40_6), (5, .int v23_5), (4, .int v23_4), (3, .int v23_3), (0, .ref (ad 197))]) hx hb dX12_ask_90 hl (by decide) rfl (fun ls hl => ?_)
                        obtain ⟨x_36, ex_36⟩ : ∃ y : Int32, y = v55_9 + 1 := ⟨_, rfl⟩
                        have hx_36 : x_36.toInt = v55_9.toInt + 1 := n_add rfl (by decide : (1 : Int32).toInt = 1) ex_36 (by omega) (by omega)
                        refine lv_iinc (v := x_36) (lv' := [(9, .int x_36), (8, .int z_35), (7, .int v40_7), (6, .int v40_6), (5, .int v23_5), (4, .int v23_4), (3, .int v23_3), (0, .ref (ad 197))]) hx hb dX12_ask_92 hl (k := 1) rfl (by rw [ex_36]; rfl) (by decide) rfl (fun ls hl => ?_)
                        refine lv_goto (tgt := 55) hx hb dX12_ask_95 (by decide) ?_
                        exact ih55 x_36 z_35 G55 _ _ ls (by omega) (by omega) hW55 hfr55 hP hS (lv_sub hl [0, 1, 2, 3, 4, 5, 6, 7] rfl)
                have hiv55_9 : (0 : Int32).toInt = 0 := by decide
                have hiv55_8 : (0 : Int32).toInt = 0 := by decide
                exact HL55 _ 0 0 G40 _ _ ls (Nat.lt_succ_self _) (by omega) hW40 hfr40 hP hS (lv_sub hl [0, 1, 2, 3, 4, 5, 6, 7] rfl)
          have hiv40_7 : ((-1) : Int32).toInt = -1 := by decide
          have hiv40_6 : (0 : Int32).toInt = 0 := by decide
          exact HL40 _ (-1) 0 G23 _ _ ls (Nat.lt_succ_self _) (by omega) (by omega) hW23 hfr23 hP hS (lv_sub hl [0, 1, 2, 3, 4, 5] rfl)
    have hiv23_5 : (0 : Int32).toInt = 0 := by decide
    have hiv23_3 : ((-1) : Int32).toInt = -1 := by decide
    exact HL23 _ 0 x_9 (-1) g_2 _ _ ls (Nat.lt_succ_self _) (by omega) (by omega) (by omega) hw_1W hfr_5 hP hS (lv_sub hl [0, 1, 2, 4] rfl)
  · have hhc_6 := n_nle (by decide : (0 : Int32).toInt = 0) (rfl : r_3.toInt = r_3.toInt) hc_6
    refine lv_iload_n hx hb dX12_ask_10 rfl (lv_at hl 0 rfl) ?_
    exact q_iret X hP hS ⟨hw_1W, hfr_5⟩ dX12_ask_11

theorem dX12_calm_0 : decode cX12_calm 0 = .ok (.aload_n 0, 1) := by decide +kernel
theorem dX12_calm_1 : decode cX12_calm 1 = .ok (.iload_n 1, 1) := by decide +kernel
theorem dX12_calm_2 : decode cX12_calm 2 = .ok (.iconst 1, 1) := by decide +kernel
theorem dX12_calm_3 : decode cX12_calm 3 = .ok (.aload_n 0, 1) := by decide +kernel
theorem dX12_calm_4 : decode cX12_calm 4 = .ok (.getfield 9, 3) := by decide +kernel
theorem dX12_calm_7 : decode cX12_calm 7 = .ok (.iconst 3, 1) := by decide +kernel
theorem dX12_calm_8 : decode cX12_calm 8 = .ok (.iaload, 1) := by decide +kernel
theorem dX12_calm_9 : decode cX12_calm 9 = .ok (.invokevirtual 316, 3) := by decide +kernel
theorem dX12_calm_12 : decode cX12_calm 12 = .ok (.istore_n 2, 1) := by decide +kernel
theorem dX12_calm_13 : decode cX12_calm 13 = .ok (.iload_n 2, 1) := by decide +kernel
theorem dX12_calm_14 : decode cX12_calm 14 = .ok (.ifCond .ge 5, 3) := by decide +kernel
theorem dX12_calm_17 : decode cX12_calm 17 = .ok (.iload_n 2, 1) := by decide +kernel
theorem dX12_calm_18 : decode cX12_calm 18 = .ok (.ireturn, 1) := by decide +kernel
theorem dX12_calm_19 : decode cX12_calm 19 = .ok (.aload_n 0, 1) := by decide +kernel
theorem dX12_calm_20 : decode cX12_calm 20 = .ok (.invokevirtual 246, 3) := by decide +kernel
theorem dX12_calm_23 : decode cX12_calm 23 = .ok (.aload_n 0, 1) := by decide +kernel
theorem dX12_calm_24 : decode cX12_calm 24 = .ok (.iload_n 1, 1) := by decide +kernel
theorem dX12_calm_25 : decode cX12_calm 25 = .ok (.invokevirtual 323, 3) := by decide +kernel
theorem dX12_calm_28 : decode cX12_calm 28 = .ok (.ifCond .eq 7, 3) := by decide +kernel
theorem dX12_calm_31 : decode cX12_calm 31 = .ok (.iconst 1, 1) := by decide +kernel
theorem dX12_calm_32 : decode cX12_calm 32 = .ok (.goto 4, 3) := by decide +kernel
theorem dX12_calm_35 : decode cX12_calm 35 = .ok (.iconst 0, 1) := by decide +kernel
theorem dX12_calm_36 : decode cX12_calm 36 = .ok (.ireturn, 1) := by decide +kernel
noncomputable def vX12_calm : List Cond := .code yX12_calm cX12_calm 3 (some .int) :: (([.fieldLink RX12 9 "IcicleClockModel" "world" "[I", .methodLink RX12 316 yX12_asksSeen, .instanceMethod yX12_asksSeen, .selects RX12 yX12_asksSeen yX12_asksSeen, .initialized RX12, .methodLink RX12 246 yX12_layAll, .instanceMethod yX12_layAll, .selects RX12 yX12_layAll yX12_layAll, .methodLink RX12 323 yX12_isSeen, .instanceMethod yX12_isSeen, .selects RX12 yX12_isSeen yX12_isSeen] : List Cond) ++ (wsX120 ++ (vX12_asksSeen ++ (vX12_layAll ++ vX12_isSeen))))
theorem iX12_calm_12 : ∀ w ∈ wsX120, w ∈ vX12_calm := fun _ h => List.mem_cons_of_mem _ (List.mem_append_right _ (List.mem_append_left _ h))
theorem gs_X12_calm : Gd vX12_calm := Gd.cons (by decide +kernel) (Gd.app (Gd.r (by decide +kernel)) (Gd.app gwX_12 (Gd.app gs_X12_asksSeen (Gd.app gs_X12_layAll gs_X12_isSeen))))
theorem gg_X12_calm_X12_asksSeen : GoodIn vX12_calm (wsV RX12 316 RX12 yX12_asksSeen vX12_asksSeen) := goodIn_app (goodIn_r _ [2, 3, 4, 5] (by decide +kernel) (by decide +kernel)) (fun w h => ⟨List.mem_cons_of_mem _ (List.mem_append_right _ (List.mem_append_right _ (List.mem_append_left _ h))), gs_X12_asksSeen w h⟩)
theorem gg_X12_calm_X12_layAll : GoodIn vX12_calm (wsV RX12 246 RX12 yX12_layAll vX12_layAll) := goodIn_app (goodIn_r _ [6, 7, 8, 5] (by decide +kernel) (by decide +kernel)) (fun w h => ⟨List.mem_cons_of_mem _ (List.mem_append_right _ (List.mem_append_right _ (List.mem_append_right _ (List.mem_append_left _ h)))), gs_X12_layAll w h⟩)
theorem gg_X12_calm_X12_isSeen : GoodIn vX12_calm (wsV RX12 323 RX12 yX12_isSeen vX12_isSeen) := goodIn_app (goodIn_r _ [9, 10, 11, 5] (by decide +kernel) (by decide +kernel)) (fun w h => ⟨List.mem_cons_of_mem _ (List.mem_append_right _ (List.mem_append_right _ (List.mem_append_right _ (List.mem_append_right _ (h))))), gs_X12_isSeen w h⟩)
set_option maxHeartbeats 4000000 in
set_option maxRecDepth 100000 in
theorem s_X12_calm (l : Launch) (D : va_G) (cs : Nat → ClassId) (ad : Nat → Nat) (kS : kSt) (K : sK) (hKO : KO K) (hj : wJ ad 218) (g : Nat → va_E) (hW : WF (shp ad K) ad cs g) (sl : Int32) : sI l yX12_calm vX12_calm { frames := 3, cells := 0, slots := 0, locals := 71 } D cs ad kS [.ref (ad 197), .int sl] g (fun r g2 => WF (shp ad K) ad cs g2 ∧ (∀ j, j ≠ 197 ∧ j ≠ 204 ∧ j ≠ 205 → g2 j = g j)) := by
  refine Met.startS (cc := cX12_calm) (maxL := 3) (ret := (some .int)) RX12 rfl (by decide) rfl (Nat.le_of_ble_eq_true rfl) ?_
  intro p e s m below meth c ls X Z hP hl
  have hx := X.1
  have hb := X.2.1
  have hS : va_S (wA ad 218) s.heap s.heap [] := va_S.rf
  have hA : ∀ i, i < 218 → wA ad 218 (ad i) := fun i h => ⟨i, h, rfl⟩
  have hfr : ∀ j, j ≠ 197 ∧ j ≠ 204 ∧ j ≠ 205 → g j = g j := fun _ _ => rfl
  have hl : lv_has ls 3 [(0, .ref (ad 197)), (1, .int sl)] := hl
  refine lv_aload_n hx hb dX12_calm_0 rfl (lv_at hl 0 rfl) ?_
  refine lv_iload_n hx hb dX12_calm_1 rfl (lv_at hl 1 rfl) ?_
  refine lv_iconst (v := 1) hx hb dX12_calm_2 (by decide) ?_
  refine lv_aload_n hx hb dX12_calm_3 rfl (lv_at hl 0 rfl) ?_
  obtain ⟨fsc_1, hgc_1, hOc_1⟩ := hW.obj (i := 197) (by decide) (sh_197 ad K)
  have hk_2 := hOc_1.ref 1 rfl
  refine q_get X iX12_calm_12 hP (by decide) hgc_1 rfl 1 (by decide) (List.mem_of_getElem? (i := 1) rfl) (v := .ref (ad 198)) hk_2 dX12_calm_4 ?_
  refine lv_iconst (v := 3) hx hb dX12_calm_7 (by decide) ?_
  obtain ⟨fc_3, hgc_3, hFc_3⟩ := hW.arr (i := 198) (by decide) (sh_198 ad K)
  refine q_iald X hP (by decide) hgc_3 (by unfold vp_in; decide) dX12_calm_8 ?_
  refine lv_topi (fun z_4 ez_4 => ?_)
  have hqz_4 : wq (3) z_4.toInt := ez_4 ▸ hFc_3 _
  have hz_4 : 0 ≤ z_4.toInt ∧ z_4.toInt ≤ 14 := by unfold wq at hqz_4; omega
  clear hqz_4
  refine s_calli (q := (RX12, TX12, 40)) (As := [.int sl, .int 1, .int z_4]) (rest := []) X Z (s_X12_asksSeen l D cs ad kS K hKO hj g hW sl 1 z_4) (cwV 3 X.2.2.2.2.1 gg_X12_calm_X12_asksSeen rfl rfl rfl (by decide +kernel) ⟨Nat.le_of_ble_eq_true rfl, Nat.le_of_ble_eq_true rfl⟩) (by decide) hgc_1 rfl hP hA hS.2.1 hS rfl hl.1 rfl (Nat.le_of_ble_eq_true rfl) dX12_calm_9 ⟨Nat.le_of_ble_eq_true rfl, Nat.le_of_ble_eq_true rfl⟩ (fun r_7 g_6 H locs hw_5 hP hS => ?_)
  obtain ⟨hw_5g, hw_5⟩ := hw_5
  rw [hw_5g] at hP
  have hqk_8 : (1 : Int32).toInt = 1 := by decide
  refine lv_istore_n (lv' := [(2, .int r_7), (0, .ref (ad 197)), (1, .int sl)]) hx hb dX12_calm_12 rfl hl (by decide) rfl (fun ls hl => ?_)
  refine lv_iload_n hx hb dX12_calm_13 rfl (lv_at hl 0 rfl) ?_
  refine lv_if_ge (tgt := 19) hx hb dX12_calm_14 (by decide) (fun hc_9 => ?_) (fun hc_9 => ?_)
  · have hhc_9 := n_le (by decide : (0 : Int32).toInt = 0) (rfl : r_7.toInt = r_7.toInt) hc_9
    obtain ⟨hsl0, hsl1, hbo, hsn⟩ := hw_5 (by omega)
    have hsn := hsn.tr (hfr 214 (by omega)).symm (hfr 216 (by omega)).symm
    refine lv_aload_n hx hb dX12_calm_19 rfl (lv_at hl 1 rfl) ?_
    refine s_callv (q := (RX12, TX12, 40)) (As := []) (rest := []) X Z (s_X12_layAll l D cs ad kS K hKO hj g hW) (cwV 0 X.2.2.2.2.1 gg_X12_calm_X12_layAll rfl rfl rfl (by decide +kernel) ⟨Nat.le_of_ble_eq_true rfl, Nat.le_of_ble_eq_true rfl⟩) (by decide) hgc_1 rfl hP hA hS.2.1 hS rfl hl.1 rfl (Nat.le_of_ble_eq_true rfl) dX12_calm_20 ⟨Nat.le_of_ble_eq_true rfl, Nat.le_of_ble_eq_true rfl⟩ (fun g_11 H locs hw_10 hP hS => ?_)
    obtain ⟨hw_10W, hw_10f⟩ := hw_10
    have hfr_13 : ∀ j, j ≠ 197 ∧ j ≠ 204 ∧ j ≠ 205 → g_11 j = g j := fun j hj => (hw_10f j (by omega)).trans (hfr j hj)
    have hg_14 := (hw_10f 198 (by omega)).trans hgc_3
    refine lv_aload_n hx hb dX12_calm_23 rfl (lv_at hl 1 rfl) ?_
    refine lv_iload_n hx hb dX12_calm_24 rfl (lv_at hl 2 rfl) ?_
    obtain ⟨fsc_18, hgc_18, hOc_18⟩ := hw_10W.obj (i := 197) (by decide) (sh_197 ad K)
    refine s_calli (q := (RX12, TX12, 40)) (As := [.int sl]) (rest := []) X Z (s_X12_isSeen l D cs ad kS K hKO hj g_11 hw_10W sl (by omega) (hsn.tr (hfr_13 214 (by omega)) (hfr_13 216 (by omega)))) (cwV 1 X.2.2.2.2.1 gg_X12_calm_X12_isSeen rfl rfl rfl (by decide +kernel) ⟨Nat.le_of_ble_eq_true rfl, Nat.le_of_ble_eq_true rfl⟩) (by decide) hgc_18 rfl hP hA hS.2.1 hS rfl hl.1 rfl (Nat.le_of_ble_eq_true rfl) dX12_calm_25 ⟨Nat.le_of_ble_eq_true rfl, Nat.le_of_ble_eq_true rfl⟩ (fun r_17 g_16 H locs hw_15 hP hS => ?_)
    obtain ⟨hw_15g, hw_15⟩ := hw_15
    rw [hw_15g] at hP
    refine lv_if_eq (tgt := 35) hx hb dX12_calm_28 (by decide) (fun hc_19 => ?_) (fun hc_19 => ?_)
    · have hhc_19 := n_eq (rfl : r_17.toInt = r_17.toInt) (by decide : (0 : Int32).toInt = 0) hc_19
      refine lv_iconst (v := 0) hx hb dX12_calm_35 (by decide) ?_
      exact q_iret X hP hS ⟨hw_10W, hfr_13⟩ dX12_calm_36
    · have hhc_19 := n_ne (rfl : r_17.toInt = r_17.toInt) (by decide : (0 : Int32).toInt = 0) hc_19
      refine lv_iconst (v := 1) hx hb dX12_calm_31 (by decide) ?_
      refine lv_goto (tgt := 36) hx hb dX12_calm_32 (by decide) ?_
      exact q_iret X hP hS ⟨hw_10W, hfr_13⟩ dX12_calm_36
  · have hhc_9 := n_nle (by decide : (0 : Int32).toInt = 0) (rfl : r_7.toInt = r_7.toInt) hc_9
    refine lv_iload_n hx hb dX12_calm_17 rfl (lv_at hl 0 rfl) ?_
    exact q_iret X hP hS ⟨hW, hfr⟩ dX12_calm_18

theorem dX12_layWeathers_0 : decode cX12_layWeathers 0 = .ok (.aload_n 0, 1) := by decide +kernel
theorem dX12_layWeathers_1 : decode cX12_layWeathers 1 = .ok (.iload_n 1, 1) := by decide +kernel
theorem dX12_layWeathers_2 : decode cX12_layWeathers 2 = .ok (.iload_n 2, 1) := by decide +kernel
theorem dX12_layWeathers_3 : decode cX12_layWeathers 3 = .ok (.i2l, 1) := by decide +kernel
theorem dX12_layWeathers_4 : decode cX12_layWeathers 4 = .ok (.lconst 1, 1) := by decide +kernel
theorem dX12_layWeathers_5 : decode cX12_layWeathers 5 = .ok (.ldc2_w 329, 3) := by decide +kernel
theorem dX12_layWeathers_8 : decode cX12_layWeathers 8 = .ok (.invokestatic 82, 3) := by decide +kernel
theorem dX12_layWeathers_11 : decode cX12_layWeathers 11 = .ok (.ifCond .eq 11, 3) := by decide +kernel
theorem dX12_layWeathers_14 : decode cX12_layWeathers 14 = .ok (.iload_n 3, 1) := by decide +kernel
theorem dX12_layWeathers_15 : decode cX12_layWeathers 15 = .ok (.ifCond .eq 7, 3) := by decide +kernel
theorem dX12_layWeathers_18 : decode cX12_layWeathers 18 = .ok (.iconst 1, 1) := by decide +kernel
theorem dX12_layWeathers_19 : decode cX12_layWeathers 19 = .ok (.goto 4, 3) := by decide +kernel
theorem dX12_layWeathers_22 : decode cX12_layWeathers 22 = .ok (.iconst 0, 1) := by decide +kernel
theorem dX12_layWeathers_23 : decode cX12_layWeathers 23 = .ok (.iload_n 2, 1) := by decide +kernel
theorem dX12_layWeathers_24 : decode cX12_layWeathers 24 = .ok (.invokevirtual 316, 3) := by decide +kernel
theorem dX12_layWeathers_27 : decode cX12_layWeathers 27 = .ok (.istore 4, 2) := by decide +kernel
theorem dX12_layWeathers_29 : decode cX12_layWeathers 29 = .ok (.iload 4, 2) := by decide +kernel
theorem dX12_layWeathers_31 : decode cX12_layWeathers 31 = .ok (.ifCond .ge 6, 3) := by decide +kernel
theorem dX12_layWeathers_34 : decode cX12_layWeathers 34 = .ok (.iload 4, 2) := by decide +kernel
theorem dX12_layWeathers_36 : decode cX12_layWeathers 36 = .ok (.ireturn, 1) := by decide +kernel
theorem dX12_layWeathers_37 : decode cX12_layWeathers 37 = .ok (.aload_n 0, 1) := by decide +kernel
theorem dX12_layWeathers_38 : decode cX12_layWeathers 38 = .ok (.iconst 0, 1) := by decide +kernel
theorem dX12_layWeathers_39 : decode cX12_layWeathers 39 = .ok (.putfield 331, 3) := by decide +kernel
theorem dX12_layWeathers_42 : decode cX12_layWeathers 42 = .ok (.aload_n 0, 1) := by decide +kernel
theorem dX12_layWeathers_43 : decode cX12_layWeathers 43 = .ok (.iconst (-1), 1) := by decide +kernel
theorem dX12_layWeathers_44 : decode cX12_layWeathers 44 = .ok (.putfield 334, 3) := by decide +kernel
theorem dX12_layWeathers_47 : decode cX12_layWeathers 47 = .ok (.aload_n 0, 1) := by decide +kernel
theorem dX12_layWeathers_48 : decode cX12_layWeathers 48 = .ok (.ldc_w 285, 3) := by decide +kernel
theorem dX12_layWeathers_51 : decode cX12_layWeathers 51 = .ok (.putfield 337, 3) := by decide +kernel
theorem dX12_layWeathers_54 : decode cX12_layWeathers 54 = .ok (.aload_n 0, 1) := by decide +kernel
theorem dX12_layWeathers_55 : decode cX12_layWeathers 55 = .ok (.iconst (-1), 1) := by decide +kernel
theorem dX12_layWeathers_56 : decode cX12_layWeathers 56 = .ok (.putfield 340, 3) := by decide +kernel
theorem dX12_layWeathers_59 : decode cX12_layWeathers 59 = .ok (.iconst 0, 1) := by decide +kernel
theorem dX12_layWeathers_60 : decode cX12_layWeathers 60 = .ok (.istore 5, 2) := by decide +kernel
theorem dX12_layWeathers_62 : decode cX12_layWeathers 62 = .ok (.iload 5, 2) := by decide +kernel
theorem dX12_layWeathers_64 : decode cX12_layWeathers 64 = .ok (.iconst 1, 1) := by decide +kernel
theorem dX12_layWeathers_65 : decode cX12_layWeathers 65 = .ok (.iconst 2, 1) := by decide +kernel
theorem dX12_layWeathers_66 : decode cX12_layWeathers 66 = .ok (.iload_n 2, 1) := by decide +kernel
theorem dX12_layWeathers_67 : decode cX12_layWeathers 67 = .ok (.imul, 1) := by decide +kernel
theorem dX12_layWeathers_68 : decode cX12_layWeathers 68 = .ok (.ishl, 1) := by decide +kernel
theorem dX12_layWeathers_69 : decode cX12_layWeathers 69 = .ok (.if_icmp .ge 161, 3) := by decide +kernel
theorem dX12_layWeathers_72 : decode cX12_layWeathers 72 = .ok (.aload_n 0, 1) := by decide +kernel
theorem dX12_layWeathers_73 : decode cX12_layWeathers 73 = .ok (.iload_n 2, 1) := by decide +kernel
theorem dX12_layWeathers_74 : decode cX12_layWeathers 74 = .ok (.putfield 231, 3) := by decide +kernel
theorem dX12_layWeathers_77 : decode cX12_layWeathers 77 = .ok (.iconst 0, 1) := by decide +kernel
theorem dX12_layWeathers_78 : decode cX12_layWeathers 78 = .ok (.istore 6, 2) := by decide +kernel
theorem dX12_layWeathers_80 : decode cX12_layWeathers 80 = .ok (.iconst 0, 1) := by decide +kernel
theorem dX12_layWeathers_81 : decode cX12_layWeathers 81 = .ok (.istore 7, 2) := by decide +kernel
theorem dX12_layWeathers_83 : decode cX12_layWeathers 83 = .ok (.iload 7, 2) := by decide +kernel
theorem dX12_layWeathers_85 : decode cX12_layWeathers 85 = .ok (.iload_n 2, 1) := by decide +kernel
theorem dX12_layWeathers_86 : decode cX12_layWeathers 86 = .ok (.if_icmp .ge 67, 3) := by decide +kernel
theorem dX12_layWeathers_89 : decode cX12_layWeathers 89 = .ok (.iload 6, 2) := by decide +kernel
theorem dX12_layWeathers_91 : decode cX12_layWeathers 91 = .ok (.iload 5, 2) := by decide +kernel
theorem dX12_layWeathers_93 : decode cX12_layWeathers 93 = .ok (.iload_n 2, 1) := by decide +kernel
theorem dX12_layWeathers_94 : decode cX12_layWeathers 94 = .ok (.iload 7, 2) := by decide +kernel
theorem dX12_layWeathers_96 : decode cX12_layWeathers 96 = .ok (.invokestatic 343, 3) := by decide +kernel
theorem dX12_layWeathers_99 : decode cX12_layWeathers 99 = .ok (.iadd, 1) := by decide +kernel
theorem dX12_layWeathers_100 : decode cX12_layWeathers 100 = .ok (.istore 6, 2) := by decide +kernel
theorem dX12_layWeathers_102 : decode cX12_layWeathers 102 = .ok (.iconst 0, 1) := by decide +kernel
theorem dX12_layWeathers_103 : decode cX12_layWeathers 103 = .ok (.istore 8, 2) := by decide +kernel
theorem dX12_layWeathers_105 : decode cX12_layWeathers 105 = .ok (.iload 8, 2) := by decide +kernel
theorem dX12_layWeathers_107 : decode cX12_layWeathers 107 = .ok (.iconst 5, 1) := by decide +kernel
theorem dX12_layWeathers_108 : decode cX12_layWeathers 108 = .ok (.if_icmp .ge 39, 3) := by decide +kernel
theorem dX12_layWeathers_111 : decode cX12_layWeathers 111 = .ok (.aload_n 0, 1) := by decide +kernel
theorem dX12_layWeathers_112 : decode cX12_layWeathers 112 = .ok (.getfield 34, 3) := by decide +kernel
theorem dX12_layWeathers_115 : decode cX12_layWeathers 115 = .ok (.bipush 14, 2) := by decide +kernel
theorem dX12_layWeathers_117 : decode cX12_layWeathers 117 = .ok (.iload 8, 2) := by decide +kernel
theorem dX12_layWeathers_119 : decode cX12_layWeathers 119 = .ok (.imul, 1) := by decide +kernel
theorem dX12_layWeathers_120 : decode cX12_layWeathers 120 = .ok (.iload 7, 2) := by decide +kernel
theorem dX12_layWeathers_122 : decode cX12_layWeathers 122 = .ok (.iadd, 1) := by decide +kernel
theorem dX12_layWeathers_123 : decode cX12_layWeathers 123 = .ok (.iload 5, 2) := by decide +kernel
theorem dX12_layWeathers_125 : decode cX12_layWeathers 125 = .ok (.iload_n 2, 1) := by decide +kernel
theorem dX12_layWeathers_126 : decode cX12_layWeathers 126 = .ok (.iload 7, 2) := by decide +kernel
theorem dX12_layWeathers_128 : decode cX12_layWeathers 128 = .ok (.invokestatic 343, 3) := by decide +kernel
theorem dX12_layWeathers_131 : decode cX12_layWeathers 131 = .ok (.aload_n 0, 1) := by decide +kernel
theorem dX12_layWeathers_132 : decode cX12_layWeathers 132 = .ok (.iload 8, 2) := by decide +kernel
theorem dX12_layWeathers_134 : decode cX12_layWeathers 134 = .ok (.invokevirtual 215, 3) := by decide +kernel
theorem dX12_layWeathers_137 : decode cX12_layWeathers 137 = .ok (.invokestatic 218, 3) := by decide +kernel
theorem dX12_layWeathers_140 : decode cX12_layWeathers 140 = .ok (.iastore, 1) := by decide +kernel
theorem dX12_layWeathers_141 : decode cX12_layWeathers 141 = .ok (.iinc 8 1, 3) := by decide +kernel
theorem dX12_layWeathers_144 : decode cX12_layWeathers 144 = .ok (.goto (-39), 3) := by decide +kernel
theorem dX12_layWeathers_147 : decode cX12_layWeathers 147 = .ok (.iinc 7 1, 3) := by decide +kernel
theorem dX12_layWeathers_150 : decode cX12_layWeathers 150 = .ok (.goto (-67), 3) := by decide +kernel
theorem dX12_layWeathers_153 : decode cX12_layWeathers 153 = .ok (.aload_n 0, 1) := by decide +kernel
theorem dX12_layWeathers_154 : decode cX12_layWeathers 154 = .ok (.invokevirtual 243, 3) := by decide +kernel
theorem dX12_layWeathers_157 : decode cX12_layWeathers 157 = .ok (.aload_n 0, 1) := by decide +kernel
theorem dX12_layWeathers_158 : decode cX12_layWeathers 158 = .ok (.iload_n 1, 1) := by decide +kernel
theorem dX12_layWeathers_159 : decode cX12_layWeathers 159 = .ok (.invokevirtual 323, 3) := by decide +kernel
theorem dX12_layWeathers_162 : decode cX12_layWeathers 162 = .ok (.ifCond .ne 6, 3) := by decide +kernel
theorem dX12_layWeathers_165 : decode cX12_layWeathers 165 = .ok (.goto 59, 3) := by decide +kernel
theorem dX12_layWeathers_168 : decode cX12_layWeathers 168 = .ok (.aload_n 0, 1) := by decide +kernel
theorem dX12_layWeathers_169 : decode cX12_layWeathers 169 = .ok (.aload_n 0, 1) := by decide +kernel
theorem dX12_layWeathers_170 : decode cX12_layWeathers 170 = .ok (.getfield 331, 3) := by decide +kernel
theorem dX12_layWeathers_173 : decode cX12_layWeathers 173 = .ok (.ifCond .ne 8, 3) := by decide +kernel
theorem dX12_layWeathers_176 : decode cX12_layWeathers 176 = .ok (.iload 5, 2) := by decide +kernel
theorem dX12_layWeathers_178 : decode cX12_layWeathers 178 = .ok (.goto 7, 3) := by decide +kernel
theorem dX12_layWeathers_181 : decode cX12_layWeathers 181 = .ok (.aload_n 0, 1) := by decide +kernel
theorem dX12_layWeathers_182 : decode cX12_layWeathers 182 = .ok (.getfield 334, 3) := by decide +kernel
theorem dX12_layWeathers_185 : decode cX12_layWeathers 185 = .ok (.putfield 334, 3) := by decide +kernel
theorem dX12_layWeathers_188 : decode cX12_layWeathers 188 = .ok (.aload_n 0, 1) := by decide +kernel
theorem dX12_layWeathers_189 : decode cX12_layWeathers 189 = .ok (.dup, 1) := by decide +kernel
theorem dX12_layWeathers_190 : decode cX12_layWeathers 190 = .ok (.getfield 331, 3) := by decide +kernel
theorem dX12_layWeathers_193 : decode cX12_layWeathers 193 = .ok (.iconst 1, 1) := by decide +kernel
theorem dX12_layWeathers_194 : decode cX12_layWeathers 194 = .ok (.iadd, 1) := by decide +kernel
theorem dX12_layWeathers_195 : decode cX12_layWeathers 195 = .ok (.putfield 331, 3) := by decide +kernel
theorem dX12_layWeathers_198 : decode cX12_layWeathers 198 = .ok (.aload_n 0, 1) := by decide +kernel
theorem dX12_layWeathers_199 : decode cX12_layWeathers 199 = .ok (.aload_n 0, 1) := by decide +kernel
theorem dX12_layWeathers_200 : decode cX12_layWeathers 200 = .ok (.getfield 337, 3) := by decide +kernel
theorem dX12_layWeathers_203 : decode cX12_layWeathers 203 = .ok (.iload 6, 2) := by decide +kernel
theorem dX12_layWeathers_205 : decode cX12_layWeathers 205 = .ok (.invokestatic 117, 3) := by decide +kernel
theorem dX12_layWeathers_208 : decode cX12_layWeathers 208 = .ok (.putfield 337, 3) := by decide +kernel
theorem dX12_layWeathers_211 : decode cX12_layWeathers 211 = .ok (.aload_n 0, 1) := by decide +kernel
theorem dX12_layWeathers_212 : decode cX12_layWeathers 212 = .ok (.aload_n 0, 1) := by decide +kernel
theorem dX12_layWeathers_213 : decode cX12_layWeathers 213 = .ok (.getfield 340, 3) := by decide +kernel
theorem dX12_layWeathers_216 : decode cX12_layWeathers 216 = .ok (.iload 6, 2) := by decide +kernel
theorem dX12_layWeathers_218 : decode cX12_layWeathers 218 = .ok (.invokestatic 252, 3) := by decide +kernel
theorem dX12_layWeathers_221 : decode cX12_layWeathers 221 = .ok (.putfield 340, 3) := by decide +kernel
theorem dX12_layWeathers_224 : decode cX12_layWeathers 224 = .ok (.iinc 5 1, 3) := by decide +kernel
theorem dX12_layWeathers_227 : decode cX12_layWeathers 227 = .ok (.goto (-165), 3) := by decide +kernel
theorem dX12_layWeathers_230 : decode cX12_layWeathers 230 = .ok (.iconst 0, 1) := by decide +kernel
theorem dX12_layWeathers_231 : decode cX12_layWeathers 231 = .ok (.ireturn, 1) := by decide +kernel
noncomputable def vX12_layWeathers : List Cond := .code yX12_layWeathers cX12_layWeathers 9 (some .int) :: (([.constantLong RX12 329 (5), .methodLink RX12 82 yX12_in, .static yX12_in, .initialized RX12, .methodLink RX12 316 yX12_asksSeen, .instanceMethod yX12_asksSeen, .selects RX12 yX12_asksSeen yX12_asksSeen, .fieldLink RX12 331 "IcicleClockModel" "weatherMany" "I", .fieldLink RX12 334 "IcicleClockModel" "weatherFirst" "I", .constant RX12 285 (1000000000), .fieldLink RX12 337 "IcicleClockModel" "weatherLeast" "I", .fieldLink RX12 340 "IcicleClockModel" "weatherMost" "I", .fieldLink RX12 231 "IcicleClockModel" "days" "I", .methodLink RX12 343 yX12_thawIn, .static yX12_thawIn, .fieldLink RX12 34 "IcicleClockModel" "off" "[I", .methodLink RX12 215 yX12_sunOf, .instanceMethod yX12_sunOf, .selects RX12 yX12_sunOf yX12_sunOf, .methodLink RX12 218 yX12_meltBy, .static yX12_meltBy, .methodLink RX12 243 yX12_layFalls, .instanceMethod yX12_layFalls, .selects RX12 yX12_layFalls yX12_layFalls, .methodLink RX12 323 yX12_isSeen, .instanceMethod yX12_isSeen, .selects RX12 yX12_isSeen yX12_isSeen, .methodLink RX12 117 Lib.Math.min.name, .static Lib.Math.min.name, .initialized "java/lang/Math", .code Lib.Math.min.name Lib.Math.min.code 2 (some .int), .methodLink RX12 252 Lib.Math.max.name, .static Lib.Math.max.name, .code Lib.Math.max.name Lib.Math.max.code 2 (some .int)] : List Cond) ++ (wsX120 ++ (vX12_in ++ (vX12_asksSeen ++ (vX12_thawIn ++ (vX12_sunOf ++ (vX12_meltBy ++ (vX12_layFalls ++ vX12_isSeen))))))))
theorem iX12_layWeathers_12 : ∀ w ∈ wsX120, w ∈ vX12_layWeathers := fun _ h => List.mem_cons_of_mem _ (List.mem_append_right _ (List.mem_append_left _ h))
theorem gs_X12_layWeathers : Gd vX12_layWeathers := Gd.cons (by decide +kernel) (Gd.app (Gd.r (by decide +kernel)) (Gd.app gwX_12 (Gd.app gs_X12_in (Gd.app gs_X12_asksSeen (Gd.app gs_X12_thawIn (Gd.app gs_X12_sunOf (Gd.app gs_X12_meltBy (Gd.app gs_X12_layFalls gs_X12_isSeen))))))))
theorem gg_X12_layWeathers_X12_in : GoodIn vX12_layWeathers (wsS RX12 82 yX12_in vX12_in) := goodIn_app (goodIn_r _ [2, 3, 4] (by decide +kernel) (by decide +kernel)) (fun w h => ⟨List.mem_cons_of_mem _ (List.mem_append_right _ (List.mem_append_right _ (List.mem_append_left _ h))), gs_X12_in w h⟩)
theorem gg_X12_layWeathers_X12_asksSeen : GoodIn vX12_layWeathers (wsV RX12 316 RX12 yX12_asksSeen vX12_asksSeen) := goodIn_app (goodIn_r _ [5, 6, 7, 4] (by decide +kernel) (by decide +kernel)) (fun w h => ⟨List.mem_cons_of_mem _ (List.mem_append_right _ (List.mem_append_right _ (List.mem_append_right _ (List.mem_append_left _ h)))), gs_X12_asksSeen w h⟩)
theorem gg_X12_layWeathers_X12_thawIn : GoodIn vX12_layWeathers (wsS RX12 343 yX12_thawIn vX12_thawIn) := goodIn_app (goodIn_r _ [14, 15, 4] (by decide +kernel) (by decide +kernel)) (fun w h => ⟨List.mem_cons_of_mem _ (List.mem_append_right _ (List.mem_append_right _ (List.mem_append_right _ (List.mem_append_right _ (List.mem_append_left _ h))))), gs_X12_thawIn w h⟩)
theorem gg_X12_layWeathers_X12_sunOf : GoodIn vX12_layWeathers (wsV RX12 215 RX12 yX12_sunOf vX12_sunOf) := goodIn_app (goodIn_r _ [17, 18, 19, 4] (by decide +kernel) (by decide +kernel)) (fun w h => ⟨List.mem_cons_of_mem _ (List.mem_append_right _ (List.mem_append_right _ (List.mem_append_right _ (List.mem_append_right _ (List.mem_append_right _ (List.mem_append_left _ h)))))), gs_X12_sunOf w h⟩)
theorem gg_X12_layWeathers_X12_meltBy : GoodIn vX12_layWeathers (wsS RX12 218 yX12_meltBy vX12_meltBy) := goodIn_app (goodIn_r _ [20, 21, 4] (by decide +kernel) (by decide +kernel)) (fun w h => ⟨List.mem_cons_of_mem _ (List.mem_append_right _ (List.mem_append_right _ (List.mem_append_right _ (List.mem_append_right _ (List.mem_append_right _ (List.mem_append_right _ (List.mem_append_left _ h))))))), gs_X12_meltBy w h⟩)
theorem gg_X12_layWeathers_X12_layFalls : GoodIn vX12_layWeathers (wsV RX12 243 RX12 yX12_layFalls vX12_layFalls) := goodIn_app (goodIn_r _ [22, 23, 24, 4] (by decide +kernel) (by decide +kernel)) (fun w h => ⟨List.mem_cons_of_mem _ (List.mem_append_right _ (List.mem_append_right _ (List.mem_append_right _ (List.mem_append_right _ (List.mem_append_right _ (List.mem_append_right _ (List.mem_append_right _ (List.mem_append_left _ h)))))))), gs_X12_layFalls w h⟩)
theorem gg_X12_layWeathers_X12_isSeen : GoodIn vX12_layWeathers (wsV RX12 323 RX12 yX12_isSeen vX12_isSeen) := goodIn_app (goodIn_r _ [25, 26, 27, 4] (by decide +kernel) (by decide +kernel)) (fun w h => ⟨List.mem_cons_of_mem _ (List.mem_append_right _ (List.mem_append_right _ (List.mem_append_right _ (List.mem_append_right _ (List.mem_append_right _ (List.mem_append_right _ (List.mem_append_right _ (List.mem_append_right _ (h))))))))), gs_X12_isSeen w h⟩)
set_option maxHeartbeats 4000000 in
set_option maxRecDepth 100000 in
theorem s_X12_layWeathers (l : Launch) (D : va_G) (cs : Nat → ClassId) (ad : Nat → Nat) (kS : kSt) (K : sK) (hKO : KO K) (hj : wJ ad 218) (g : Nat → va_E) (hW : WF (shp ad K) ad cs g) (sl : Int32) (nn : Int32) (bo : Int32) : sI l yX12_layWeathers vX12_layWeathers { frames := 3, cells := 0, slots := 0, locals := 71 } D cs ad kS [.ref (ad 197), .int sl, .int nn, .int bo] g (fun r g2 => WF (shp ad K) ad cs g2 ∧ (∀ j, j ≠ 197 ∧ j ≠ 204 ∧ j ≠ 205 → g2 j = g j) ∧ (r.toInt ≤ 0)) := by
  refine Met.startS (cc := cX12_layWeathers) (maxL := 9) (ret := (some .int)) RX12 rfl (by decide) rfl (Nat.le_of_ble_eq_true rfl) ?_
  intro p e s m below meth c ls X Z hP hl
  have hx := X.1
  have hb := X.2.1
  have hS : va_S (wA ad 218) s.heap s.heap [] := va_S.rf
  have hA : ∀ i, i < 218 → wA ad 218 (ad i) := fun i h => ⟨i, h, rfl⟩
  have hfr : ∀ j, j ≠ 197 ∧ j ≠ 204 ∧ j ≠ 205 → g j = g j := fun _ _ => rfl
  have hl : lv_has ls 9 [(0, .ref (ad 197)), (1, .int sl), (2, .int nn), (3, .int bo)] := hl
  refine lv_aload_n hx hb dX12_layWeathers_0 rfl (lv_at hl 0 rfl) ?_
  refine lv_iload_n hx hb dX12_layWeathers_1 rfl (lv_at hl 1 rfl) ?_
  refine lv_iload_n hx hb dX12_layWeathers_2 rfl (lv_at hl 2 rfl) ?_
  refine lv_i2l hx hb dX12_layWeathers_3 rfl ?_
  refine lv_topl (fun z_1 ez_1 => ?_)
  have hz_1 : z_1.toInt = nn.toInt := ez_1 ▸ j_of rfl
  have := n_hi nn
  have := n_lo nn
  refine lv_lconst (v := 1) hx hb dX12_layWeathers_4 (by decide) ?_
  refine lv_ldc2 (v := 5) hx hb X.2.2.2.2.2.1 (X.2.2.2.2.1 _ (List.mem_of_getElem? (i := 1) rfl)) dX12_layWeathers_5 ?_
  refine s_callSi (As := [.long z_1, .long 1, .long 5]) (rest := [.int sl, .ref (ad 197)]) X Z (s_X12_in l D cs ad kS K hKO hj g hW z_1 1 5) (cwS 3 X.2.2.2.2.1 gg_X12_layWeathers_X12_in rfl rfl rfl (by decide +kernel) ⟨Nat.le_of_ble_eq_true rfl, Nat.le_of_ble_eq_true rfl⟩) hP hA hS.2.1 hS rfl hl.1 rfl (Nat.le_of_ble_eq_true rfl) dX12_layWeathers_8 ⟨Nat.le_of_ble_eq_true rfl, Nat.le_of_ble_eq_true rfl⟩ (fun r_4 g_3 H locs hw_2 hP hS => ?_)
  obtain ⟨hw_2g, hw_2⟩ := hw_2
  rw [hw_2g] at hP
  have hqk_5 : (1 : Int64).toInt = 1 := by decide
  have hqk_6 : (5 : Int64).toInt = 5 := by decide
  have HJ23 : ∀ (v23_s0 : Int32) (G23 : Nat → va_E) (H : Heap) (locs : List Loc) (ls : Array Slot), (0 ≤ v23_s0.toInt ∧ v23_s0.toInt ≤ 1) → (v23_s0.toInt ≠ 0 → 1 ≤ nn.toInt ∧ nn.toInt ≤ 5) → WF (shp ad K) ad cs G23 → (∀ j, j ≠ 197 ∧ j ≠ 204 ∧ j ≠ 205 → G23 j = g j) → va_P D vwCl (wL ad G23 218) H → va_S (wA ad 218) s.heap H locs → lv_has ls 9 [(0, .ref (ad 197)), (1, .int sl), (2, .int nn)] → W p l e ({ frames := 3, cells := 0, slots := 0, locals := 71 } : Room) s m ([.ref (ad 197), .int sl, .int nn, .int bo] : List Value).toArray below meth c H locs 0 0 (MQ below (qI D ad 218 (fun r g2 => WF (shp ad K) ad cs g2 ∧ (∀ j, j ≠ 197 ∧ j ≠ 204 ∧ j ≠ 205 → g2 j = g j) ∧ (r.toInt ≤ 0))) ([.ref (ad 197), .int sl, .int nn, .int bo] : List Value).toArray s 0 0 (wA ad 218)) (F0 m 23 ls [.int v23_s0, .int sl, .ref (ad 197)]) := by
    intro v23_s0 G23 H locs ls hv23_0 he23_0 hW23 hfr23 hP hS hl
    refine lv_iload_n hx hb dX12_layWeathers_23 rfl (lv_at hl 2 rfl) ?_
    obtain ⟨fsc_10, hgc_10, hOc_10⟩ := hW23.obj (i := 197) (by decide) (sh_197 ad K)
    refine s_calli (q := (RX12, TX12, 40)) (As := [.int sl, .int v23_s0, .int nn]) (rest := []) X Z (s_X12_asksSeen l D cs ad kS K hKO hj G23 hW23 sl v23_s0 nn) (cwV 3 X.2.2.2.2.1 gg_X12_layWeathers_X12_asksSeen rfl rfl rfl (by decide +kernel) ⟨Nat.le_of_ble_eq_true rfl, Nat.le_of_ble_eq_true rfl⟩) (by decide) hgc_10 rfl hP hA hS.2.1 hS rfl hl.1 rfl (Nat.le_of_ble_eq_true rfl) dX12_layWeathers_24 ⟨Nat.le_of_ble_eq_true rfl, Nat.le_of_ble_eq_true rfl⟩ (fun r_9 g_8 H locs hw_7 hP hS => ?_)
    obtain ⟨hw_7g, hw_7⟩ := hw_7
    rw [hw_7g] at hP
    refine lv_istore (lv' := [(4, .int r_9), (0, .ref (ad 197)), (1, .int sl), (2, .int nn)]) hx hb dX12_layWeathers_27 hl (by decide) rfl (fun ls hl => ?_)
    refine lv_iload hx hb dX12_layWeathers_29 (lv_at hl 0 rfl) ?_
    refine lv_if_ge (tgt := 37) hx hb dX12_layWeathers_31 (by decide) (fun hc_11 => ?_) (fun hc_11 => ?_)
    · have hhc_11 := n_le (by decide : (0 : Int32).toInt = 0) (rfl : r_9.toInt = r_9.toInt) hc_11
      obtain ⟨hsl0, hsl1, hbo, hsn⟩ := hw_7 (by omega)
      have hsn := hsn.tr (hfr23 214 (by omega)).symm (hfr23 216 (by omega)).symm
      have hnn : 1 ≤ nn.toInt ∧ nn.toInt ≤ 5 := by omega
      refine lv_aload_n hx hb dX12_layWeathers_37 rfl (lv_at hl 1 rfl) ?_
      refine lv_iconst (v := 0) hx hb dX12_layWeathers_38 (by decide) ?_
      refine s_put X iX12_layWeathers_12 tyX12 tyX12_ok nmX12 hP hj hA hS (by decide) hgc_10 rfl 23 (by decide) (List.mem_of_getElem? (i := 8) rfl) rfl (ty := .int) (v := .int 0) (by decide +kernel) rfl rfl dX12_layWeathers_39 hW23 (sh_197 ad K) hOc_10 rfl ⟨0, rfl, n_lo _, n_hi _⟩ (fun fsc_12 gc_12 H locs hOc_12 hkc_12 hnc_12 hgc_12 hfc_12 hWc_12 hP hS => ?_)
      have hfr_13 : ∀ j, j ≠ 197 ∧ j ≠ 204 ∧ j ≠ 205 → gc_12 j = g j := fun j hj => (hfc_12 j (by omega)).trans (hfr23 j hj)
      refine lv_aload_n hx hb dX12_layWeathers_42 rfl (lv_at hl 1 rfl) ?_
      refine lv_iconst (v := (-1)) hx hb dX12_layWeathers_43 (by decide) ?_
      refine s_put X iX12_layWeathers_12 tyX12 tyX12_ok nmX12 hP hj hA hS (by decide) hgc_12 rfl 24 (by decide) (List.mem_of_getElem? (i := 9) rfl) rfl (ty := .int) (v := .int (-1)) (by decide +kernel) rfl rfl dX12_layWeathers_44 hWc_12 (sh_197 ad K) hOc_12 rfl ⟨(-1), rfl, n_lo _, n_hi _⟩ (fun fsc_14 gc_14 H locs hOc_14 hkc_14 hnc_14 hgc_14 hfc_14 hWc_14 hP hS => ?_)
      have hk_15 := (hnc_14 23 (by decide)).trans hkc_12
      have hfr_16 : ∀ j, j ≠ 197 ∧ j ≠ 204 ∧ j ≠ 205 → gc_14 j = g j := fun j hj => (hfc_14 j (by omega)).trans (hfr_13 j hj)
      refine lv_aload_n hx hb dX12_layWeathers_47 rfl (lv_at hl 1 rfl) ?_
      refine lv_ldcw (v := 1000000000) hx hb X.2.2.2.2.2.1 (X.2.2.2.2.1 _ (List.mem_of_getElem? (i := 10) rfl)) dX12_layWeathers_48 ?_
      refine s_put X iX12_layWeathers_12 tyX12 tyX12_ok nmX12 hP hj hA hS (by decide) hgc_14 rfl 25 (by decide) (List.mem_of_getElem? (i := 11) rfl) rfl (ty := .int) (v := .int 1000000000) (by decide +kernel) rfl rfl dX12_layWeathers_51 hWc_14 (sh_197 ad K) hOc_14 rfl ⟨1000000000, rfl, n_lo _, n_hi _⟩ (fun fsc_17 gc_17 H locs hOc_17 hkc_17 hnc_17 hgc_17 hfc_17 hWc_17 hP hS => ?_)
      have hk_18 := (hnc_17 24 (by decide)).trans hkc_14
      have hk_19 := (hnc_17 23 (by decide)).trans hk_15
      have hfr_20 : ∀ j, j ≠ 197 ∧ j ≠ 204 ∧ j ≠ 205 → gc_17 j = g j := fun j hj => (hfc_17 j (by omega)).trans (hfr_16 j hj)
      refine lv_aload_n hx hb dX12_layWeathers_54 rfl (lv_at hl 1 rfl) ?_
      refine lv_iconst (v := (-1)) hx hb dX12_layWeathers_55 (by decide) ?_
      refine s_put X iX12_layWeathers_12 tyX12 tyX12_ok nmX12 hP hj hA hS (by decide) hgc_17 rfl 26 (by decide) (List.mem_of_getElem? (i := 12) rfl) rfl (ty := .int) (v := .int (-1)) (by decide +kernel) rfl rfl dX12_layWeathers_56 hWc_17 (sh_197 ad K) hOc_17 rfl ⟨(-1), rfl, n_lo _, n_hi _⟩ (fun fsc_21 gc_21 H locs hOc_21 hkc_21 hnc_21 hgc_21 hfc_21 hWc_21 hP hS => ?_)
      have hk_22 := (hnc_21 25 (by decide)).trans hkc_17
      have hk_23 := (hnc_21 24 (by decide)).trans hk_18
      have hk_24 := (hnc_21 23 (by decide)).trans hk_19
      have hfr_25 : ∀ j, j ≠ 197 ∧ j ≠ 204 ∧ j ≠ 205 → gc_21 j = g j := fun j hj => (hfc_21 j (by omega)).trans (hfr_20 j hj)
      refine lv_iconst (v := 0) hx hb dX12_layWeathers_59 (by decide) ?_
      refine lv_istore (lv' := [(5, .int 0), (4, .int r_9), (0, .ref (ad 197)), (1, .int sl), (2, .int nn)]) hx hb dX12_layWeathers_60 hl (by decide) rfl (fun ls hl => ?_)
      have HL62 : ∀ (n62 : Nat) (v62_5 : Int32) (G62 : Nat → va_E) (H : Heap) (locs : List Loc) (ls : Array Slot), (2147483647 - v62_5.toInt).toNat < n62 → (0 ≤ v62_5.toInt) → WF (shp ad K) ad cs G62 → (∀ j, j ≠ 197 ∧ j ≠ 204 ∧ j ≠ 205 → G62 j = g j) → va_P D vwCl (wL ad G62 218) H → va_S (wA ad 218) s.heap H locs → lv_has ls 9 [(5, .int v62_5), (0, .ref (ad 197)), (1, .int sl), (2, .int nn)] → W p l e ({ frames := 3, cells := 0, slots := 0, locals := 71 } : Room) s m ([.ref (ad 197), .int sl, .int nn, .int bo] : List Value).toArray below meth c H locs 0 0 (MQ below (qI D ad 218 (fun r g2 => WF (shp ad K) ad cs g2 ∧ (∀ j, j ≠ 197 ∧ j ≠ 204 ∧ j ≠ 205 → g2 j = g j) ∧ (r.toInt ≤ 0))) ([.ref (ad 197), .int sl, .int nn, .int bo] : List Value).toArray s 0 0 (wA ad 218)) (F0 m 62 ls []) := by
        intro n62
        induction n62 with
        | zero =>
          intro v62_5 G62 H locs ls hm62 hv62_0 hW62 hfr62 hP hS hl
          exact absurd hm62 (Nat.not_lt_zero _)
        | succ n62 ih62 =>
          intro v62_5 G62 H locs ls hm62 hv62_0 hW62 hfr62 hP hS hl
          refine lv_iload hx hb dX12_layWeathers_62 (lv_at hl 0 rfl) ?_
          refine lv_iconst (v := 1) hx hb dX12_layWeathers_64 (by decide) ?_
          refine lv_iconst (v := 2) hx hb dX12_layWeathers_65 (by decide) ?_
          refine lv_iload_n hx hb dX12_layWeathers_66 rfl (lv_at hl 3 rfl) ?_
          refine lv_imul hx hb dX12_layWeathers_67 ?_
          refine lv_topi (fun z_26 ez_26 => ?_)
          have hz_26 : z_26.toInt = 2 * nn.toInt := n_mul (by decide : (2 : Int32).toInt = 2) (rfl : nn.toInt = nn.toInt) ez_26 (by omega) (by omega)
          refine lv_ishl hx hb dX12_layWeathers_68 ?_
          refine lv_topi (fun z_27 ez_27 => ?_)
          refine lv_icmp_ge (tgt := 230) hx hb dX12_layWeathers_69 (by decide) (fun hc_28 => ?_) (fun hc_28 => ?_)
          · have hhc_28 := n_le (rfl : z_27.toInt = z_27.toInt) (rfl : v62_5.toInt = v62_5.toInt) hc_28
            have := n_hi z_27
            have := n_lo z_27
            have := n_hi v62_5
            refine lv_iconst (v := 0) hx hb dX12_layWeathers_230 (by decide) ?_
            have hr0 : (0 : Int32).toInt = 0 := by decide
            exact q_iret X hP hS ⟨hW62, hfr62, (by omega)⟩ dX12_layWeathers_231
          · have hhc_28 := n_nle (rfl : z_27.toInt = z_27.toInt) (rfl : v62_5.toInt = v62_5.toInt) hc_28
            have := n_hi z_27
            have := n_lo z_27
            have := n_hi v62_5
            refine lv_aload_n hx hb dX12_layWeathers_72 rfl (lv_at hl 1 rfl) ?_
            refine lv_iload_n hx hb dX12_layWeathers_73 rfl (lv_at hl 3 rfl) ?_
            obtain ⟨fsc_29, hgc_29, hOc_29⟩ := hW62.obj (i := 197) (by decide) (sh_197 ad K)
            refine s_put X iX12_layWeathers_12 tyX12 tyX12_ok nmX12 hP hj hA hS (by decide) hgc_29 rfl 17 (by decide) (List.mem_of_getElem? (i := 13) rfl) rfl (ty := .int) (v := .int nn) (by decide +kernel) rfl rfl dX12_layWeathers_74 hW62 (sh_197 ad K) hOc_29 rfl ⟨nn, rfl, by omega, by omega⟩ (fun fsc_30 gc_30 H locs hOc_30 hkc_30 hnc_30 hgc_30 hfc_30 hWc_30 hP hS => ?_)
            have hfr_31 : ∀ j, j ≠ 197 ∧ j ≠ 204 ∧ j ≠ 205 → gc_30 j = g j := fun j hj => (hfc_30 j (by omega)).trans (hfr62 j hj)
            refine lv_iconst (v := 0) hx hb dX12_layWeathers_77 (by decide) ?_
            refine lv_istore (lv' := [(6, .int 0), (5, .int v62_5), (0, .ref (ad 197)), (1, .int sl), (2, .int nn)]) hx hb dX12_layWeathers_78 hl (by decide) rfl (fun ls hl => ?_)
            refine lv_iconst (v := 0) hx hb dX12_layWeathers_80 (by decide) ?_
            refine lv_istore (lv' := [(7, .int 0), (6, .int 0), (5, .int v62_5), (0, .ref (ad 197)), (1, .int sl), (2, .int nn)]) hx hb dX12_layWeathers_81 hl (by decide) rfl (fun ls hl => ?_)
            have HL83 : ∀ (n83 : Nat) (v83_7 : Int32) (v83_6 : Int32) (G83 : Nat → va_E) (H : Heap) (locs : List Loc) (ls : Array Slot), (5 - v83_7.toInt).toNat < n83 → (0 ≤ v83_7.toInt ∧ v83_7.toInt ≤ 5) → WF (shp ad K) ad cs G83 → (∀ j, j ≠ 197 ∧ j ≠ 204 ∧ j ≠ 205 → G83 j = g j) → va_P D vwCl (wL ad G83 218) H → va_S (wA ad 218) s.heap H locs → lv_has ls 9 [(7, .int v83_7), (6, .int v83_6), (5, .int v62_5), (0, .ref (ad 197)), (1, .int sl), (2, .int nn)] → W p l e ({ frames := 3, cells := 0, slots := 0, locals := 71 } : Room) s m ([.ref (ad 197), .int sl, .int nn, .int bo] : List Value).toArray below meth c H locs 0 0 (MQ below (qI D ad 218 (fun r g2 => WF (shp ad K) ad cs g2 ∧ (∀ j, j ≠ 197 ∧ j ≠ 204 ∧ j ≠ 205 → g2 j = g j) ∧ (r.toInt ≤ 0))) ([.ref (ad 197), .int sl, .int nn, .int bo] : List Value).toArray s 0 0 (wA ad 218)) (F0 m 83 ls []) := by
              intro n83
              induction n83 with
              | zero =>
                intro v83_7 v83_6 G83 H locs ls hm83 hv83_0 hW83 hfr83 hP hS hl
                exact absurd hm83 (Nat.not_lt_zero _)
              | succ n83 ih83 =>
                intro v83_7 v83_6 G83 H locs ls hm83 hv83_0 hW83 hfr83 hP hS hl
                refine lv_iload hx hb dX12_layWeathers_83 (lv_at hl 0 rfl) ?_
                refine lv_iload_n hx hb dX12_layWeathers_85 rfl (lv_at hl 5 rfl) ?_
                refine lv_icmp_ge (tgt := 153) hx hb dX12_layWeathers_86 (by decide) (fun hc_32 => ?_) (fun hc_32 => ?_)
                · have hhc_32 := n_le (rfl : nn.toInt = nn.toInt) (rfl : v83_7.toInt = v83_7.toInt) hc_32
                  refine lv_aload_n hx hb dX12_layWeathers_153 rfl (lv_at hl 3 rfl) ?_
                  obtain ⟨fsc_36, hgc_36, hOc_36⟩ := hW83.obj (i := 197) (by decide) (sh_197 ad K)
                  refine s_callv (q := (RX12, TX12, 40)) (As := []) (rest := []) X Z (s_X12_layFalls l D cs ad kS K hKO hj G83 hW83) (cwV 0 X.2.2.2.2.1 gg_X12_layWeathers_X12_layFalls rfl rfl rfl (by decide +kernel) ⟨Nat.le_of_ble_eq_true rfl, Nat.le_of_ble_eq_true rfl⟩) (by decide) hgc_36 rfl hP hA hS.2.1 hS rfl hl.1 rfl (Nat.le_of_ble_eq_true rfl) dX12_layWeathers_154 ⟨Nat.le_of_ble_eq_true rfl, Nat.le_of_ble_eq_true rfl⟩ (fun g_34 H locs hw_33 hP hS => ?_)
                  obtain ⟨hw_33W, hw_33f⟩ := hw_33
                  have hfr_37 : ∀ j, j ≠ 197 ∧ j ≠ 204 ∧ j ≠ 205 → g_34 j = g j := fun j hj => (hw_33f j (by omega)).trans (hfr83 j hj)
                  have hg_38 := (hw_33f 197 (by omega)).trans hgc_36
                  refine lv_aload_n hx hb dX12_layWeathers_157 rfl (lv_at hl 3 rfl) ?_
                  refine lv_iload_n hx hb dX12_layWeathers_158 rfl (lv_at hl 4 rfl) ?_
                  refine s_calli (q := (RX12, TX12, 40)) (As := [.int sl]) (rest := []) X Z (s_X12_isSeen l D cs ad kS K hKO hj g_34 hw_33W sl (by omega) (hsn.tr (hfr_37 214 (by omega)) (hfr_37 216 (by omega)))) (cwV 1 X.2.2.2.2.1 gg_X12_layWeathers_X12_isSeen rfl rfl rfl (by decide +kernel) ⟨Nat.le_of_ble_eq_true rfl, Nat.le_of_ble_eq_true rfl⟩) (by decide) hg_38 rfl hP hA hS.2.1 hS rfl hl.1 rfl (Nat.le_of_ble_eq_true rfl) dX12_layWeathers_159 ⟨Nat.le_of_ble_eq_true rfl, Nat.le_of_ble_eq_true rfl⟩ (fun r_41 g_40 H locs hw_39 hP hS => ?_)
                  obtain ⟨hw_39g, hw_39⟩ := hw_39
                  rw [hw_39g] at hP
                  have HJ224 : ∀ (G224 : Nat → va_E) (H : Heap) (locs : List Loc) (ls : Array Slot), WF (shp ad K) ad cs G224 → (∀ j, j ≠ 197 ∧ j ≠ 204 ∧ j ≠ 205 → G224 j = g j) → va_P D vwCl (wL ad G224 218) H → va_S (wA ad 218) s.heap H locs → lv_has ls 9 [(5, .int v62_5), (0, .ref (ad 197)), (1, .int sl), (2, .int nn)] → W p l e ({ frames := 3, cells := 0, slots := 0, locals := 71 } : Room) s m ([.ref (ad 197), .int sl, .int nn, .int bo] : List Value).toArray below meth c H locs 0 0 (MQ below (qI D ad 218 (fun r g2 => WF (shp ad K) ad cs g2 ∧ (∀ j, j ≠ 197 ∧ j ≠ 204 ∧ j ≠ 205 → g2 j = g j) ∧ (r.toInt ≤ 0))) ([.ref (ad 197), .int sl, .int nn, .int bo] : List Value).toArray s 0 0 (wA ad 218)) (F0 m 224 ls []) := by
                    intro G224 H locs ls hW224 hfr224 hP hS hl
                    obtain ⟨x_42, ex_42⟩ : ∃ y : Int32, y = v62_5 + 1 := ⟨_, rfl⟩
                    have hx_42 : x_42.toInt = v62_5.toInt + 1 := n_add rfl (by decide : (1 : Int32).toInt = 1) ex_42 (by omega) (by omega)
                    refine lv_iinc (v := x_42) (lv' := [(5, .int x_42), (0, .ref (ad 197)), (1, .int sl), (2, .int nn)]) hx hb dX12_layWeathers_224 hl (k := 0) rfl (by rw [ex_42]; rfl) (by decide) rfl (fun ls hl => ?_)
                    refine lv_goto (tgt := 62) hx hb dX12_layWeathers_227 (by decide) ?_
                    exact ih62 x_42 G224 _ _ ls (by omega) (by omega) hW224 hfr224 hP hS (lv_sub hl [0, 1, 2, 3] rfl)
                  refine lv_if_ne (tgt := 168) hx hb dX12_layWeathers_162 (by decide) (fun hc_43 => ?_) (fun hc_43 => ?_)
                  · have hhc_43 := n_ne (rfl : r_41.toInt = r_41.toInt) (by decide : (0 : Int32).toInt = 0) hc_43
                    refine lv_aload_n hx hb dX12_layWeathers_168 rfl (lv_at hl 3 rfl) ?_
                    refine lv_aload_n hx hb dX12_layWeathers_169 rfl (lv_at hl 3 rfl) ?_
                    obtain ⟨x_45, hk_44, -⟩ := hOc_36.int 23 rfl
                    refine q_get X iX12_layWeathers_12 hP (by decide) hg_38 rfl 23 (by decide) (List.mem_of_getElem? (i := 8) rfl) (v := .int x_45) hk_44 dX12_layWeathers_170 ?_
                    refine lv_if_ne (tgt := 181) hx hb dX12_layWeathers_173 (by decide) (fun hc_46 => ?_) (fun hc_46 => ?_)
                    · have hhc_46 := n_ne (rfl : x_45.toInt = x_45.toInt) (by decide : (0 : Int32).toInt = 0) hc_46
                      refine lv_aload_n hx hb dX12_layWeathers_181 rfl (lv_at hl 3 rfl) ?_
                      obtain ⟨x_48, hk_47, -⟩ := hOc_36.int 24 rfl
                      refine q_get X iX12_layWeathers_12 hP (by decide) hg_38 rfl 24 (by decide) (List.mem_of_getElem? (i := 9) rfl) (v := .int x_48) hk_47 dX12_layWeathers_182 ?_
                      refine s_put X iX12_layWeathers_12 tyX12 tyX12_ok nmX12 hP hj hA hS (by decide) hg_38 rfl 24 (by decide) (List.mem_of_getElem? (i := 9) rfl) rfl (ty := .int) (v := .int x_48) (by decide +kernel) rfl rfl dX12_layWeathers_185 hw_33W (sh_197 ad K) hOc_36 rfl ⟨x_48, rfl, n_lo _, n_hi _⟩ (fun fsc_49 gc_49 H locs hOc_49 hkc_49 hnc_49 hgc_49 hfc_49 hWc_49 hP hS => ?_)
                      have hk_50 := (hnc_49 23 (by decide)).trans hk_44
                      have hfr_51 : ∀ j, j ≠ 197 ∧ j ≠ 204 ∧ j ≠ 205 → gc_49 j = g j := fun j hj => (hfc_49 j (by omega)).trans (hfr_37 j hj)
                      refine lv_aload_n hx hb dX12_layWeathers_188 rfl (lv_at hl 3 rfl) ?_
                      refine lv_dup hx hb dX12_layWeathers_189 rfl ?_
                      refine q_get X iX12_layWeathers_12 hP (by decide) hgc_49 rfl 23 (by decide) (List.mem_of_getElem? (i := 8) rfl) (v := .int x_45) hk_50 dX12_layWeathers_190 ?_
                      refine lv_iconst (v := 1) hx hb dX12_layWeathers_193 (by decide) ?_
                      refine lv_iadd hx hb dX12_layWeathers_194 ?_
                      refine lv_topi (fun z_52 ez_52 => ?_)
                      refine s_put X iX12_layWeathers_12 tyX12 tyX12_ok nmX12 hP hj hA hS (by decide) hgc_49 rfl 23 (by decide) (List.mem_of_getElem? (i := 8) rfl) rfl (ty := .int) (v := .int z_52) (by decide +kernel) rfl rfl dX12_layWeathers_195 hWc_49 (sh_197 ad K) hOc_49 rfl ⟨z_52, rfl, n_lo _, n_hi _⟩ (fun fsc_53 gc_53 H locs hOc_53 hkc_53 hnc_53 hgc_53 hfc_53 hWc_53 hP hS => ?_)
                      have hk_54 := (hnc_53 24 (by decide)).trans hkc_49
                      have hfr_55 : ∀ j, j ≠ 197 ∧ j ≠ 204 ∧ j ≠ 205 → gc_53 j = g j := fun j hj => (hfc_53 j (by omega)).trans (hfr_51 j hj)
                      refine lv_aload_n hx hb dX12_layWeathers_198 rfl (lv_at hl 3 rfl) ?_
                      refine lv_aload_n hx hb dX12_layWeathers_199 rfl (lv_at hl 3 rfl) ?_
                      obtain ⟨x_57, hk_56, -⟩ := hOc_53.int 25 rfl
                      refine q_get X iX12_layWeathers_12 hP (by decide) hgc_53 rfl 25 (by decide) (List.mem_of_getElem? (i := 11) rfl) (v := .int x_57) hk_56 dX12_layWeathers_200 ?_
                      refine lv_iload hx hb dX12_layWeathers_203 (lv_at hl 1 rfl) ?_
                      refine va_mmin hx hb (X.2.2.2.1.trans hl.1.symm) X.2.2.2.2.2.1 (X.2.2.2.2.1 _ (List.mem_of_getElem? (i := 28) rfl)) (X.2.2.2.2.1 _ (List.mem_of_getElem? (i := 29) rfl)) (X.2.2.2.2.1 _ (List.mem_of_getElem? (i := 30) rfl)) (X.2.2.2.2.1 _ (List.mem_of_getElem? (i := 31) rfl)) (Nat.le_of_ble_eq_true rfl) (Nat.le_of_ble_eq_true rfl) (Nat.le_of_ble_eq_true rfl) (Nat.le_of_ble_eq_true rfl) dX12_layWeathers_205 ?_
                      refine lv_topi (fun z_58 ez_58 => ?_)
                      have hz_58 := n_min (rfl : x_57.toInt = x_57.toInt) (rfl : v83_6.toInt = v83_6.toInt) ez_58
                      refine s_put X iX12_layWeathers_12 tyX12 tyX12_ok nmX12 hP hj hA hS (by decide) hgc_53 rfl 25 (by decide) (List.mem_of_getElem? (i := 11) rfl) rfl (ty := .int) (v := .int z_58) (by decide +kernel) rfl rfl dX12_layWeathers_208 hWc_53 (sh_197 ad K) hOc_53 rfl ⟨z_58, rfl, n_lo _, n_hi _⟩ (fun fsc_59 gc_59 H locs hOc_59 hkc_59 hnc_59 hgc_59 hfc_59 hWc_59 hP hS => ?_)
                      have hk_60 := (hnc_59 23 (by decide)).trans hkc_53
                      have hk_61 := (hnc_59 24 (by decide)).trans hk_54
                      have hfr_62 : ∀ j, j ≠ 197 ∧ j ≠ 204 ∧ j ≠ 205 → gc_59 j = g j := fun j hj => (hfc_59 j (by omega)).trans (hfr_55 j hj)
                      refine lv_aload_n hx hb dX12_layWeathers_211 rfl (lv_at hl 3 rfl) ?_
                      refine lv_aload_n hx hb dX12_layWeathers_212 rfl (lv_at hl 3 rfl) ?_
                      obtain ⟨x_64, hk_63, -⟩ := hOc_59.int 26 rfl
                      refine q_get X iX12_layWeathers_12 hP (by decide) hgc_59 rfl 26 (by decide) (List.mem_of_getElem? (i := 12) rfl) (v := .int x_64) hk_63 dX12_layWeathers_213 ?_
                      refine lv_iload hx hb dX12_layWeathers_216 (lv_at hl 1 rfl) ?_
                      refine va_mmax hx hb (X.2.2.2.1.trans hl.1.symm) X.2.2.2.2.2.1 (X.2.2.2.2.1 _ (List.mem_of_getElem? (i := 32) rfl)) (X.2.2.2.2.1 _ (List.mem_of_getElem? (i := 33) rfl)) (X.2.2.2.2.1 _ (List.mem_of_getElem? (i := 30) rfl)) (X.2.2.2.2.1 _ (List.mem_of_getElem? (i := 34) rfl)) (Nat.le_of_ble_eq_true rfl) (Nat.le_of_ble_eq_true rfl) (Nat.le_of_ble_eq_true rfl) (Nat.le_of_ble_eq_true rfl) dX12_layWeathers_218 ?_
                      refine lv_topi (fun z_65 ez_65 => ?_)
                      have hz_65 := n_max (rfl : x_64.toInt = x_64.toInt) (rfl : v83_6.toInt = v83_6.toInt) ez_65
                      refine s_put X iX12_layWeathers_12 tyX12 tyX12_ok nmX12 hP hj hA hS (by decide) hgc_59 rfl 26 (by decide) (List.mem_of_getElem? (i := 12) rfl) rfl (ty := .int) (v := .int z_65) (by decide +kernel) rfl rfl dX12_layWeathers_221 hWc_59 (sh_197 ad K) hOc_59 rfl ⟨z_65, rfl, n_lo _, n_hi _⟩ (fun fsc_66 gc_66 H locs hOc_66 hkc_66 hnc_66 hgc_66 hfc_66 hWc_66 hP hS => ?_)
                      have hk_67 := (hnc_66 25 (by decide)).trans hkc_59
                      have hk_68 := (hnc_66 23 (by decide)).trans hk_60
                      have hk_69 := (hnc_66 24 (by decide)).trans hk_61
                      have hfr_70 : ∀ j, j ≠ 197 ∧ j ≠ 204 ∧ j ≠ 205 → gc_66 j = g j := fun j hj => (hfc_66 j (by omega)).trans (hfr_62 j hj)
                      exact HJ224 gc_66 _ _ ls hWc_66 hfr_70 hP hS (lv_sub hl [2, 3, 4, 5] rfl)
                    · have hhc_46 := n_eq (rfl : x_45.toInt = x_45.toInt) (by decide : (0 : Int32).toInt = 0) hc_46
                      refine lv_iload hx hb dX12_layWeathers_176 (lv_at hl 2 rfl) ?_
                      refine lv_goto (tgt := 185) hx hb dX12_layWeathers_178 (by decide) ?_
                      refine s_put X iX12_layWeathers_12 tyX12 tyX12_ok nmX12 hP hj hA hS (by decide) hg_38 rfl 24 (by decide) (List.mem_of_getElem? (i := 9) rfl) rfl (ty := .int) (v := .int v62_5) (by decide +kernel) rfl rfl dX12_layWeathers_185 hw_33W (sh_197 ad K) hOc_36 rfl ⟨v62_5, rfl, n_lo _, n_hi _⟩ (fun fsc_71 gc_71 H locs hOc_71 hkc_71 hnc_71 hgc_71 hfc_71 hWc_71 hP hS => ?_)
                      have hk_72 := (hnc_71 23 (by decide)).trans hk_44
                      have hfr_73 : ∀ j, j ≠ 197 ∧ j ≠ 204 ∧ j ≠ 205 → gc_71 j = g j := fun j hj => (hfc_71 j (by omega)).trans (hfr_37 j hj)
                      refine lv_aload_n hx hb dX12_layWeathers_188 rfl (lv_at hl 3 rfl) ?_
                      refine lv_dup hx hb dX12_layWeathers_189 rfl ?_
                      refine q_get X iX12_layWeathers_12 hP (by decide) hgc_71 rfl 23 (by decide) (List.mem_of_getElem? (i := 8) rfl) (v := .int x_45) hk_72 dX12_layWeathers_190 ?_
                      refine lv_iconst (v := 1) hx hb dX12_layWeathers_193 (by decide) ?_
                      refine lv_iadd hx hb dX12_layWeathers_194 ?_
                      refine lv_topi (fun z_74 ez_74 => ?_)
                      have hz_74 : z_74.toInt = x_45.toInt + 1 := n_add (rfl : x_45.toInt = x_45.toInt) (by decide : (1 : Int32).toInt = 1) ez_74 (by omega) (by omega)
                      refine s_put X iX12_layWeathers_12 tyX12 tyX12_ok nmX12 hP hj hA hS (by decide) hgc_71 rfl 23 (by decide) (List.mem_of_getElem? (i := 8) rfl) rfl (ty := .int) (v := .int z_74) (by decide +kernel) rfl rfl dX12_layWeathers_195 hWc_71 (sh_197 ad K) hOc_71 rfl ⟨z_74, rfl, n_lo _, n_hi _⟩ (fun fsc_75 gc_75 H locs hOc_75 hkc_75 hnc_75 hgc_75 hfc_75 hWc_75 hP hS => ?_)
                      have hk_76 := (hnc_75 24 (by decide)).trans hkc_71
                      have hfr_77 : ∀ j, j ≠ 197 ∧ j ≠ 204 ∧ j ≠ 205 → gc_75 j = g j := fun j hj => (hfc_75 j (by omega)).trans (hfr_73 j hj)
                      refine lv_aload_n hx hb dX12_layWeathers_198 rfl (lv_at hl 3 rfl) ?_
                      refine lv_aload_n hx hb dX12_layWeathers_199 rfl (lv_at hl 3 rfl) ?_
                      obtain ⟨x_79, hk_78, -⟩ := hOc_75.int 25 rfl
                      refine q_get X iX12_layWeathers_12 hP (by decide) hgc_75 rfl 25 (by decide) (List.mem_of_getElem? (i := 11) rfl) (v := .int x_79) hk_78 dX12_layWeathers_200 ?_
                      refine lv_iload hx hb dX12_layWeathers_203 (lv_at hl 1 rfl) ?_
                      refine va_mmin hx hb (X.2.2.2.1.trans hl.1.symm) X.2.2.2.2.2.1 (X.2.2.2.2.1 _ (List.mem_of_getElem? (i := 28) rfl)) (X.2.2.2.2.1 _ (List.mem_of_getElem? (i := 29) rfl)) (X.2.2.2.2.1 _ (List.mem_of_getElem? (i := 30) rfl)) (X.2.2.2.2.1 _ (List.mem_of_getElem? (i := 31) rfl)) (Nat.le_of_ble_eq_true rfl) (Nat.le_of_ble_eq_true rfl) (Nat.le_of_ble_eq_true rfl) (Nat.le_of_ble_eq_true rfl) dX12_layWeathers_205 ?_
                      refine lv_topi (fun z_80 ez_80 => ?_)
                      have hz_80 := n_min (rfl : x_79.toInt = x_79.toInt) (rfl : v83_6.toInt = v83_6.toInt) ez_80
                      refine s_put X iX12_layWeathers_12 tyX12 tyX12_ok nmX12 hP hj hA hS (by decide) hgc_75 rfl 25 (by decide) (List.mem_of_getElem? (i := 11) rfl) rfl (ty := .int) (v := .int z_80) (by decide +kernel) rfl rfl dX12_layWeathers_208 hWc_75 (sh_197 ad K) hOc_75 rfl ⟨z_80, rfl, n_lo _, n_hi _⟩ (fun fsc_81 gc_81 H locs hOc_81 hkc_81 hnc_81 hgc_81 hfc_81 hWc_81 hP hS => ?_)
                      have hk_82 := (hnc_81 23 (by decide)).trans hkc_75
                      have hk_83 := (hnc_81 24 (by decide)).trans hk_76
                      have hfr_84 : ∀ j, j ≠ 197 ∧ j ≠ 204 ∧ j ≠ 205 → gc_81 j = g j := fun j hj => (hfc_81 j (by omega)).trans (hfr_77 j hj)
                      refine lv_aload_n hx hb dX12_layWeathers_211 rfl (lv_at hl 3 rfl) ?_
                      refine lv_aload_n hx hb dX12_layWeathers_212 rfl (lv_at hl 3 rfl) ?_
                      obtain ⟨x_86, hk_85, -⟩ := hOc_81.int 26 rfl
                      refine q_get X iX12_layWeathers_12 hP (by decide) hgc_81 rfl 26 (by decide) (List.mem_of_getElem? (i := 12) rfl) (v := .int x_86) hk_85 dX12_layWeathers_213 ?_
                      refine lv_iload hx hb dX12_layWeathers_216 (lv_at hl 1 rfl) ?_
                      refine va_mmax hx hb (X.2.2.2.1.trans hl.1.symm) X.2.2.2.2.2.1 (X.2.2.2.2.1 _ (List.mem_of_getElem? (i := 32) rfl)) (X.2.2.2.2.1 _ (List.mem_of_getElem? (i := 33) rfl)) (X.2.2.2.2.1 _ (List.mem_of_getElem? (i := 30) rfl)) (X.2.2.2.2.1 _ (List.mem_of_getElem? (i := 34) rfl)) (Nat.le_of_ble_eq_true rfl) (Nat.le_of_ble_eq_true rfl) (Nat.le_of_ble_eq_true rfl) (Nat.le_of_ble_eq_true rfl) dX12_layWeathers_218 ?_
                      refine lv_topi (fun z_87 ez_87 => ?_)
                      have hz_87 := n_max (rfl : x_86.toInt = x_86.toInt) (rfl : v83_6.toInt = v83_6.toInt) ez_87
                      refine s_put X iX12_layWeathers_12 tyX12 tyX12_ok nmX12 hP hj hA hS (by decide) hgc_81 rfl 26 (by decide) (List.mem_of_getElem? (i := 12) rfl) rfl (ty := .int) (v := .int z_87) (by decide +kernel) rfl rfl dX12_layWeathers_221 hWc_81 (sh_197 ad K) hOc_81 rfl ⟨z_87, rfl, n_lo _, n_hi _⟩ (fun fsc_88 gc_88 H locs hOc_88 hkc_88 hnc_88 hgc_88 hfc_88 hWc_88 hP hS => ?_)
                      have hk_89 := (hnc_88 25 (by decide)).trans hkc_81
                      have hk_90 := (hnc_88 23 (by decide)).trans hk_82
                      have hk_91 := (hnc_88 24 (by decide)).trans hk_83
                      have hfr_92 : ∀ j, j ≠ 197 ∧ j ≠ 204 ∧ j ≠ 205 → gc_88 j = g j := fun j hj => (hfc_88 j (by omega)).trans (hfr_84 j hj)
                      exact HJ224 gc_88 _ _ ls hWc_88 hfr_92 hP hS (lv_sub hl [2, 3, 4, 5] rfl)
                  · have hhc_43 := n_eq (rfl : r_41.toInt = r_41.toInt) (by decide : (0 : Int32).toInt = 0) hc_43
                    refine lv_goto (tgt := 224) hx hb dX12_layWeathers_165 (by decide) ?_
                    exact HJ224 g_34 _ _ ls hw_33W hfr_37 hP hS (lv_sub hl [2, 3, 4, 5] rfl)
                · have hhc_32 := n_nle (rfl : nn.toInt = nn.toInt) (rfl : v83_7.toInt = v83_7.toInt) hc_32
                  refine lv_iload hx hb dX12_layWeathers_89 (lv_at hl 1 rfl) ?_
                  refine lv_iload hx hb dX12_layWeathers_91 (lv_at hl 2 rfl) ?_
                  refine lv_iload_n hx hb dX12_layWeathers_93 rfl (lv_at hl 5 rfl) ?_
                  refine lv_iload hx hb dX12_layWeathers_94 (lv_at hl 0 rfl) ?_
                  refine s_callSi (As := [.int v62_5, .int nn, .int v83_7]) (rest := [.int v83_6]) X Z (s_X12_thawIn l D cs ad kS K hKO hj G83 hW83 v62_5 nn v83_7) (cwS 3 X.2.2.2.2.1 gg_X12_layWeathers_X12_thawIn rfl rfl rfl (by decide +kernel) ⟨Nat.le_of_ble_eq_true rfl, Nat.le_of_ble_eq_true rfl⟩) hP hA hS.2.1 hS rfl hl.1 rfl (Nat.le_of_ble_eq_true rfl) dX12_layWeathers_96 ⟨Nat.le_of_ble_eq_true rfl, Nat.le_of_ble_eq_true rfl⟩ (fun r_95 g_94 H locs hw_93 hP hS => ?_)
                  rw [hw_93] at hP
                  refine lv_iadd hx hb dX12_layWeathers_99 ?_
                  refine lv_topi (fun z_96 ez_96 => ?_)
                  refine lv_istore (lv' := [(6, .int z_96), (7, .int v83_7), (5, .int v62_5), (0, .ref (ad 197)), (1, .int sl), (2, .int nn)]) hx hb dX12_layWeathers_100 hl (by decide) rfl (fun ls hl => ?_)
                  refine lv_iconst (v := 0) hx hb dX12_layWeathers_102 (by decide) ?_
                  refine lv_istore (lv' := [(8, .int 0), (6, .int z_96), (7, .int v83_7), (5, .int v62_5), (0, .ref (ad 197)), (1, .int sl), (2, .int nn)]) hx hb dX12_layWeathers_103 hl (by decide) rfl (fun ls hl => ?_)
                  have HL105 : ∀ (n105 : Nat) (v105_8 : Int32) (G105 : Nat → va_E) (H : Heap) (locs : List Loc) (ls : Array Slot), (5 - v105_8.toInt).toNat < n105 → (0 ≤ v105_8.toInt ∧ v105_8.toInt ≤ 5) → WF (shp ad K) ad cs G105 → (∀ j, j ≠ 197 ∧ j ≠ 204 ∧ j ≠ 205 → G105 j = g j) → va_P D vwCl (wL ad G105 218) H → va_S (wA ad 218) s.heap H locs → lv_has ls 9 [(8, .int v105_8), (6, .int z_96), (7, .int v83_7), (5, .int v62_5), (0, .ref (ad 197)), (1, .int sl), (2, .int nn)] → W p l e ({ frames := 3, cells := 0, slots := 0, locals := 71 } : Room) s m ([.ref (ad 197), .int sl, .int nn, .int bo] : List Value).toArray below meth c H locs 0 0 (MQ below (qI D ad 218 (fun r g2 => WF (shp ad K) ad cs g2 ∧ (∀ j, j ≠ 197 ∧ j ≠ 204 ∧ j ≠ 205 → g2 j = g j) ∧ (r.toInt ≤ 0))) ([.ref (ad 197), .int sl, .int nn, .int bo] : List Value).toArray s 0 0 (wA ad 218)) (F0 m 105 ls []) := by
                    intro n105
                    induction n105 with
                    | zero =>
                      intro v105_8 G105 H locs ls hm105 hv105_0 hW105 hfr105 hP hS hl
                      exact absurd hm105 (Nat.not_lt_zero _)
                    | succ n105 ih105 =>
                      intro v105_8 G105 H locs ls hm105 hv105_0 hW105 hfr105 hP hS hl
                      refine lv_iload hx hb dX12_layWeathers_105 (lv_at hl 0 rfl) ?_
                      refine lv_iconst (v := 5) hx hb dX12_layWeathers_107 (by decide) ?_
                      refine lv_icmp_ge (tgt := 147) hx hb dX12_layWeathers_108 (by decide) (fun hc_97 => ?_) (fun hc_97 => ?_)
                      · have hhc_97 := n_le (by decide : (5 : Int32).toInt = 5) (rfl : v105_8.toInt = v105_8.toInt) hc_97
                        obtain ⟨x_98, ex_98⟩ : ∃ y : Int32, y = v83_7 + 1 := ⟨_, rfl⟩
                        have hx_98 : x_98.toInt = v83_7.toInt + 1 := n_add rfl (by decide : (1 : Int32).toInt = 1) ex_98 (by omega) (by omega)
                        refine lv_iinc (v := x_98) (lv' := [(7, .int x_98), (8, .int v105_8), (6, .int z_96), (5, .int v62_5), (0, .ref (ad 197)), (1, .int sl), (2, .int nn)]) hx hb dX12_layWeathers_147 hl (k := 2) rfl (by rw [ex_98]; rfl) (by decide) rfl (fun ls hl => ?_)
                        refine lv_goto (tgt := 83) hx hb dX12_layWeathers_150 (by decide) ?_
                        exact ih83 x_98 z_96 G105 _ _ ls (by omega) (by omega) hW105 hfr105 hP hS (lv_sub hl [0, 2, 3, 4, 5, 6] rfl)
                      · have hhc_97 := n_nle (by decide : (5 : Int32).toInt = 5) (rfl : v105_8.toInt = v105_8.toInt) hc_97
                        refine lv_aload_n hx hb dX12_layWeathers_111 rfl (lv_at hl 4 rfl) ?_
                        obtain ⟨fsc_99, hgc_99, hOc_99⟩ := hW105.obj (i := 197) (by decide) (sh_197 ad K)
                        have hk_100 := hOc_99.ref 15 rfl
                        refine q_get X iX12_layWeathers_12 hP (by decide) hgc_99 rfl 15 (by decide) (List.mem_of_getElem? (i := 16) rfl) (v := .ref (ad 204)) hk_100 dX12_layWeathers_112 ?_
                        refine lv_bipush (v := 14) hx hb dX12_layWeathers_115 (by decide) ?_
                        refine lv_iload hx hb dX12_layWeathers_117 (lv_at hl 0 rfl) ?_
                        refine lv_imul hx hb dX12_layWeathers_119 ?_
                        refine lv_topi (fun z_101 ez_101 => ?_)
                        have hz_101 : z_101.toInt = 14 * v105_8.toInt := n_mul (by decide : (14 : Int32).toInt = 14) (rfl : v105_8.toInt = v105_8.toInt) ez_101 (by omega) (by omega)
                        refine lv_iload hx hb dX12_layWeathers_120 (lv_at hl 2 rfl) ?_
                        refine lv_iadd hx hb dX12_layWeathers_122 ?_
                        refine lv_topi (fun z_102 ez_102 => ?_)
                        have hz_102 : z_102.toInt = z_101.toInt + v83_7.toInt := n_add (rfl : z_101.toInt = z_101.toInt) (rfl : v83_7.toInt = v83_7.toInt) ez_102 (by omega) (by omega)
                        refine lv_iload hx hb dX12_layWeathers_123 (lv_at hl 3 rfl) ?_
                        refine lv_iload_n hx hb dX12_layWeathers_125 rfl (lv_at hl 6 rfl) ?_
                        refine lv_iload hx hb dX12_layWeathers_126 (lv_at hl 2 rfl) ?_
                        refine s_callSi (As := [.int v62_5, .int nn, .int v83_7]) (rest := [.int z_102, .ref (ad 204)]) X Z (s_X12_thawIn l D cs ad kS K hKO hj G105 hW105 v62_5 nn v83_7) (cwS 3 X.2.2.2.2.1 gg_X12_layWeathers_X12_thawIn rfl rfl rfl (by decide +kernel) ⟨Nat.le_of_ble_eq_true rfl, Nat.le_of_ble_eq_true rfl⟩) hP hA hS.2.1 hS rfl hl.1 rfl (Nat.le_of_ble_eq_true rfl) dX12_layWeathers_128 ⟨Nat.le_of_ble_eq_true rfl, Nat.le_of_ble_eq_true rfl⟩ (fun r_105 g_104 H locs hw_103 hP hS => ?_)
                        rw [hw_103] at hP
                        refine lv_aload_n hx hb dX12_layWeathers_131 rfl (lv_at hl 4 rfl) ?_
                        refine lv_iload hx hb dX12_layWeathers_132 (lv_at hl 0 rfl) ?_
                        refine s_calli (q := (RX12, TX12, 40)) (As := [.int v105_8]) (rest := [.int r_105, .int z_102, .ref (ad 204)]) X Z (s_X12_sunOf l D cs ad kS K hKO hj G105 hW105 v105_8 (by omega)) (cwV 1 X.2.2.2.2.1 gg_X12_layWeathers_X12_sunOf rfl rfl rfl (by decide +kernel) ⟨Nat.le_of_ble_eq_true rfl, Nat.le_of_ble_eq_true rfl⟩) (by decide) hgc_99 rfl hP hA hS.2.1 hS rfl hl.1 rfl (Nat.le_of_ble_eq_true rfl) dX12_layWeathers_134 ⟨Nat.le_of_ble_eq_true rfl, Nat.le_of_ble_eq_true rfl⟩ (fun r_108 g_107 H locs hw_106 hP hS => ?_)
                        rw [hw_106] at hP
                        refine s_callSi (As := [.int r_105, .int r_108]) (rest := [.int z_102, .ref (ad 204)]) X Z (s_X12_meltBy l D cs ad kS K hKO hj G105 hW105 r_105 r_108) (cwS 2 X.2.2.2.2.1 gg_X12_layWeathers_X12_meltBy rfl rfl rfl (by decide +kernel) ⟨Nat.le_of_ble_eq_true rfl, Nat.le_of_ble_eq_true rfl⟩) hP hA hS.2.1 hS rfl hl.1 rfl (Nat.le_of_ble_eq_true rfl) dX12_layWeathers_137 ⟨Nat.le_of_ble_eq_true rfl, Nat.le_of_ble_eq_true rfl⟩ (fun r_111 g_110 H locs hw_109 hP hS => ?_)
                        rw [hw_109] at hP
                        obtain ⟨fc_112, hgc_112, hFc_112⟩ := hW105.arr (i := 204) (by decide) (sh_204 ad K)
                        refine s_iast X hP hj hA hS (by decide) hgc_112 (n_in (rfl : z_102.toInt = z_102.toInt) (by omega) (by omega)) dX12_layWeathers_140 hW105 (sh_204 ad K) (hFc_112.put trivial) (fun fc_113 gc_113 H locs ec_113 hFc_113 hgc_113 hfc_113 hWc_113 hP hS => ?_)
                        have hg_115 := (hfc_113 197 (by decide)).trans hgc_99
                        have hfr_114 : ∀ j, j ≠ 197 ∧ j ≠ 204 ∧ j ≠ 205 → gc_113 j = g j := fun j hj => (hfc_113 j (by omega)).trans (hfr105 j hj)
                        obtain ⟨x_116, ex_116⟩ : ∃ y : Int32, y = v105_8 + 1 := ⟨_, rfl⟩
                        have hx_116 : x_116.toInt = v105_8.toInt + 1 := n_add rfl (by decide : (1 : Int32).toInt = 1) ex_116 (by omega) (by omega)
                        refine lv_iinc (v := x_116) (lv' := [(8, .int x_116), (6, .int z_96), (7, .int v83_7), (5, .int v62_5), (0, .ref (ad 197)), (1, .int sl), (2, .int nn)]) hx hb dX12_layWeathers_141 hl (k := 0) rfl (by rw [ex_116]; rfl) (by decide) rfl (fun ls hl => ?_)
                        refine lv_goto (tgt := 105) hx hb dX12_layWeathers_144 (by decide) ?_
                        exact ih105 x_116 gc_113 _ _ ls (by omega) (by omega) hWc_113 hfr_114 hP hS (lv_sub hl [0, 1, 2, 3, 4, 5, 6] rfl)
                  have hiv105_8 : (0 : Int32).toInt = 0 := by decide
                  exact HL105 _ 0 G83 _ _ ls (Nat.lt_succ_self _) (by omega) hW83 hfr83 hP hS (lv_sub hl [0, 1, 2, 3, 4, 5, 6] rfl)
            have hiv83_7 : (0 : Int32).toInt = 0 := by decide
            have hiv83_6 : (0 : Int32).toInt = 0 := by decide
            exact HL83 _ 0 0 gc_30 _ _ ls (Nat.lt_succ_self _) (by omega) hWc_30 hfr_31 hP hS (lv_sub hl [0, 1, 2, 3, 4, 5] rfl)
      have hiv62_5 : (0 : Int32).toInt = 0 := by decide
      exact HL62 _ 0 gc_21 _ _ ls (Nat.lt_succ_self _) (by omega) hWc_21 hfr_25 hP hS (lv_sub hl [0, 2, 3, 4] rfl)
    · have hhc_11 := n_nle (by decide : (0 : Int32).toInt = 0) (rfl : r_9.toInt = r_9.toInt) hc_11
      refine lv_iload hx hb dX12_layWeathers_34 (lv_at hl 0 rfl) ?_
      exact q_iret X hP hS ⟨hW23, hfr23, (by omega)⟩ dX12_layWeathers_36
  refine lv_if_eq (tgt := 22) hx hb dX12_layWeathers_11 (by decide) (fun hc_117 => ?_) (fun hc_117 => ?_)
  · have hhc_117 := n_eq (rfl : r_4.toInt = r_4.toInt) (by decide : (0 : Int32).toInt = 0) hc_117
    refine lv_iconst (v := 0) hx hb dX12_layWeathers_22 (by decide) ?_
    have hiv23_s0 : (0 : Int32).toInt = 0 := by decide
    exact HJ23 0 g _ _ ls (by omega) (by omega) hW hfr hP hS (lv_sub hl [0, 1, 2] rfl)
  · have hhc_117 := n_ne (rfl : r_4.toInt = r_4.toInt) (by decide : (0 : Int32).toInt = 0) hc_117
    refine lv_iload_n hx hb dX12_layWeathers_14 rfl (lv_at hl 3 rfl) ?_
    refine lv_if_eq (tgt := 22) hx hb dX12_layWeathers_15 (by decide) (fun hc_118 => ?_) (fun hc_118 => ?_)
    · have hhc_118 := n_eq (rfl : bo.toInt = bo.toInt) (by decide : (0 : Int32).toInt = 0) hc_118
      refine lv_iconst (v := 0) hx hb dX12_layWeathers_22 (by decide) ?_
      have hiv23_s0 : (0 : Int32).toInt = 0 := by decide
      exact HJ23 0 g _ _ ls (by omega) (by omega) hW hfr hP hS (lv_sub hl [0, 1, 2] rfl)
    · have hhc_118 := n_ne (rfl : bo.toInt = bo.toInt) (by decide : (0 : Int32).toInt = 0) hc_118
      refine lv_iconst (v := 1) hx hb dX12_layWeathers_18 (by decide) ?_
      refine lv_goto (tgt := 23) hx hb dX12_layWeathers_19 (by decide) ?_
      have hiv23_s0 : (1 : Int32).toInt = 1 := by decide
      exact HJ23 1 g _ _ ls (by omega) (by omega) hW hfr hP hS (lv_sub hl [0, 1, 2] rfl)

theorem dX12_weathers_0 : decode cX12_weathers 0 = .ok (.aload_n 0, 1) := by decide +kernel
theorem dX12_weathers_1 : decode cX12_weathers 1 = .ok (.iload_n 1, 1) := by decide +kernel
theorem dX12_weathers_2 : decode cX12_weathers 2 = .ok (.iload_n 2, 1) := by decide +kernel
theorem dX12_weathers_3 : decode cX12_weathers 3 = .ok (.iconst 1, 1) := by decide +kernel
theorem dX12_weathers_4 : decode cX12_weathers 4 = .ok (.invokevirtual 346, 3) := by decide +kernel
theorem dX12_weathers_7 : decode cX12_weathers 7 = .ok (.istore_n 3, 1) := by decide +kernel
theorem dX12_weathers_8 : decode cX12_weathers 8 = .ok (.iload_n 3, 1) := by decide +kernel
theorem dX12_weathers_9 : decode cX12_weathers 9 = .ok (.ifCond .ge 7, 3) := by decide +kernel
theorem dX12_weathers_12 : decode cX12_weathers 12 = .ok (.iload_n 3, 1) := by decide +kernel
theorem dX12_weathers_13 : decode cX12_weathers 13 = .ok (.goto 7, 3) := by decide +kernel
theorem dX12_weathers_16 : decode cX12_weathers 16 = .ok (.aload_n 0, 1) := by decide +kernel
theorem dX12_weathers_17 : decode cX12_weathers 17 = .ok (.getfield 331, 3) := by decide +kernel
theorem dX12_weathers_20 : decode cX12_weathers 20 = .ok (.ireturn, 1) := by decide +kernel
noncomputable def vX12_weathers : List Cond := .code yX12_weathers cX12_weathers 4 (some .int) :: (([.methodLink RX12 346 yX12_layWeathers, .instanceMethod yX12_layWeathers, .selects RX12 yX12_layWeathers yX12_layWeathers, .initialized RX12, .fieldLink RX12 331 "IcicleClockModel" "weatherMany" "I"] : List Cond) ++ (wsX120 ++ vX12_layWeathers))
theorem iX12_weathers_12 : ∀ w ∈ wsX120, w ∈ vX12_weathers := fun _ h => List.mem_cons_of_mem _ (List.mem_append_right _ (List.mem_append_left _ h))
theorem gs_X12_weathers : Gd vX12_weathers := Gd.cons (by decide +kernel) (Gd.app (Gd.r (by decide +kernel)) (Gd.app gwX_12 gs_X12_layWeathers))
theorem gg_X12_weathers_X12_layWeathers : GoodIn vX12_weathers (wsV RX12 346 RX12 yX12_layWeathers vX12_layWeathers) := goodIn_app (goodIn_r _ [1, 2, 3, 4] (by decide +kernel) (by decide +kernel)) (fun w h => ⟨List.mem_cons_of_mem _ (List.mem_append_right _ (List.mem_append_right _ (h))), gs_X12_layWeathers w h⟩)
set_option maxHeartbeats 4000000 in
set_option maxRecDepth 100000 in
theorem s_X12_weathers (l : Launch) (D : va_G) (cs : Nat → ClassId) (ad : Nat → Nat) (kS : kSt) (K : sK) (hKO : KO K) (hj : wJ ad 218) (g : Nat → va_E) (hW : WF (shp ad K) ad cs g) (sl : Int32) (nn : Int32) : sI l yX12_weathers vX12_weathers { frames := 4, cells := 0, slots := 0, locals := 99 } D cs ad kS [.ref (ad 197), .int sl, .int nn] g (fun r g2 => WF (shp ad K) ad cs g2 ∧ (∀ j, j ≠ 197 ∧ j ≠ 204 ∧ j ≠ 205 → g2 j = g j)) := by
  refine Met.startS (cc := cX12_weathers) (maxL := 4) (ret := (some .int)) RX12 rfl (by decide) rfl (Nat.le_of_ble_eq_true rfl) ?_
  intro p e s m below meth c ls X Z hP hl
  have hx := X.1
  have hb := X.2.1
  have hS : va_S (wA ad 218) s.heap s.heap [] := va_S.rf
  have hA : ∀ i, i < 218 → wA ad 218 (ad i) := fun i h => ⟨i, h, rfl⟩
  have hfr : ∀ j, j ≠ 197 ∧ j ≠ 204 ∧ j ≠ 205 → g j = g j := fun _ _ => rfl
  have hl : lv_has ls 4 [(0, .ref (ad 197)), (1, .int sl), (2, .int nn)] := hl
  refine lv_aload_n hx hb dX12_weathers_0 rfl (lv_at hl 0 rfl) ?_
  refine lv_iload_n hx hb dX12_weathers_1 rfl (lv_at hl 1 rfl) ?_
  refine lv_iload_n hx hb dX12_weathers_2 rfl (lv_at hl 2 rfl) ?_
  refine lv_iconst (v := 1) hx hb dX12_weathers_3 (by decide) ?_
  obtain ⟨fsc_4, hgc_4, hOc_4⟩ := hW.obj (i := 197) (by decide) (sh_197 ad K)
  refine s_calli (q := (RX12, TX12, 40)) (As := [.int sl, .int nn, .int 1]) (rest := []) X Z (s_X12_layWeathers l D cs ad kS K hKO hj g hW sl nn 1) (cwV 3 X.2.2.2.2.1 gg_X12_weathers_X12_layWeathers rfl rfl rfl (by decide +kernel) ⟨Nat.le_of_ble_eq_true rfl, Nat.le_of_ble_eq_true rfl⟩) (by decide) hgc_4 rfl hP hA hS.2.1 hS rfl hl.1 rfl (Nat.le_of_ble_eq_true rfl) dX12_weathers_4 ⟨Nat.le_of_ble_eq_true rfl, Nat.le_of_ble_eq_true rfl⟩ (fun r_3 g_2 H locs hw_1 hP hS => ?_)
  obtain ⟨hw_1W, hw_1f, hw_1⟩ := hw_1
  have hfr_5 : ∀ j, j ≠ 197 ∧ j ≠ 204 ∧ j ≠ 205 → g_2 j = g j := fun j hj => (hw_1f j (by omega)).trans (hfr j hj)
  refine lv_istore_n (lv' := [(3, .int r_3), (0, .ref (ad 197)), (1, .int sl), (2, .int nn)]) hx hb dX12_weathers_7 rfl hl (by decide) rfl (fun ls hl => ?_)
  refine lv_iload_n hx hb dX12_weathers_8 rfl (lv_at hl 0 rfl) ?_
  refine lv_if_ge (tgt := 16) hx hb dX12_weathers_9 (by decide) (fun hc_6 => ?_) (fun hc_6 => ?_)
  · have hhc_6 := n_le (by decide : (0 : Int32).toInt = 0) (rfl : r_3.toInt = r_3.toInt) hc_6
    refine lv_aload_n hx hb dX12_weathers_16 rfl (lv_at hl 1 rfl) ?_
    obtain ⟨fsc_7, hgc_7, hOc_7⟩ := hw_1W.obj (i := 197) (by decide) (sh_197 ad K)
    obtain ⟨x_9, hk_8, -⟩ := hOc_7.int 23 rfl
    refine q_get X iX12_weathers_12 hP (by decide) hgc_7 rfl 23 (by decide) (List.mem_of_getElem? (i := 5) rfl) (v := .int x_9) hk_8 dX12_weathers_17 ?_
    exact q_iret X hP hS ⟨hw_1W, hfr_5⟩ dX12_weathers_20
  · have hhc_6 := n_nle (by decide : (0 : Int32).toInt = 0) (rfl : r_3.toInt = r_3.toInt) hc_6
    refine lv_iload_n hx hb dX12_weathers_12 rfl (lv_at hl 0 rfl) ?_
    refine lv_goto (tgt := 20) hx hb dX12_weathers_13 (by decide) ?_
    exact q_iret X hP hS ⟨hw_1W, hfr_5⟩ dX12_weathers_20

theorem dX12_weather_0 : decode cX12_weather 0 = .ok (.aload_n 0, 1) := by decide +kernel
theorem dX12_weather_1 : decode cX12_weather 1 = .ok (.iload_n 1, 1) := by decide +kernel
theorem dX12_weather_2 : decode cX12_weather 2 = .ok (.iload_n 2, 1) := by decide +kernel
theorem dX12_weather_3 : decode cX12_weather 3 = .ok (.iload_n 3, 1) := by decide +kernel
theorem dX12_weather_4 : decode cX12_weather 4 = .ok (.i2l, 1) := by decide +kernel
theorem dX12_weather_5 : decode cX12_weather 5 = .ok (.lconst 0, 1) := by decide +kernel
theorem dX12_weather_6 : decode cX12_weather 6 = .ok (.iload_n 2, 1) := by decide +kernel
theorem dX12_weather_7 : decode cX12_weather 7 = .ok (.iconst 1, 1) := by decide +kernel
theorem dX12_weather_8 : decode cX12_weather 8 = .ok (.isub, 1) := by decide +kernel
theorem dX12_weather_9 : decode cX12_weather 9 = .ok (.i2l, 1) := by decide +kernel
theorem dX12_weather_10 : decode cX12_weather 10 = .ok (.invokestatic 82, 3) := by decide +kernel
theorem dX12_weather_13 : decode cX12_weather 13 = .ok (.invokevirtual 346, 3) := by decide +kernel
theorem dX12_weather_16 : decode cX12_weather 16 = .ok (.istore 4, 2) := by decide +kernel
theorem dX12_weather_18 : decode cX12_weather 18 = .ok (.iload 4, 2) := by decide +kernel
theorem dX12_weather_20 : decode cX12_weather 20 = .ok (.ifCond .ge 6, 3) := by decide +kernel
theorem dX12_weather_23 : decode cX12_weather 23 = .ok (.iload 4, 2) := by decide +kernel
theorem dX12_weather_25 : decode cX12_weather 25 = .ok (.ireturn, 1) := by decide +kernel
theorem dX12_weather_26 : decode cX12_weather 26 = .ok (.aload_n 0, 1) := by decide +kernel
theorem dX12_weather_27 : decode cX12_weather 27 = .ok (.getfield 331, 3) := by decide +kernel
theorem dX12_weather_30 : decode cX12_weather 30 = .ok (.ifCond .ne 7, 3) := by decide +kernel
theorem dX12_weather_33 : decode cX12_weather 33 = .ok (.iconst (-1), 1) := by decide +kernel
theorem dX12_weather_34 : decode cX12_weather 34 = .ok (.goto 12, 3) := by decide +kernel
theorem dX12_weather_37 : decode cX12_weather 37 = .ok (.aload_n 0, 1) := by decide +kernel
theorem dX12_weather_38 : decode cX12_weather 38 = .ok (.getfield 334, 3) := by decide +kernel
theorem dX12_weather_41 : decode cX12_weather 41 = .ok (.iload_n 2, 1) := by decide +kernel
theorem dX12_weather_42 : decode cX12_weather 42 = .ok (.iload_n 3, 1) := by decide +kernel
theorem dX12_weather_43 : decode cX12_weather 43 = .ok (.invokestatic 343, 3) := by decide +kernel
theorem dX12_weather_46 : decode cX12_weather 46 = .ok (.ireturn, 1) := by decide +kernel
noncomputable def vX12_weather : List Cond := .code yX12_weather cX12_weather 5 (some .int) :: (([.methodLink RX12 82 yX12_in, .static yX12_in, .initialized RX12, .methodLink RX12 346 yX12_layWeathers, .instanceMethod yX12_layWeathers, .selects RX12 yX12_layWeathers yX12_layWeathers, .fieldLink RX12 331 "IcicleClockModel" "weatherMany" "I", .fieldLink RX12 334 "IcicleClockModel" "weatherFirst" "I", .methodLink RX12 343 yX12_thawIn, .static yX12_thawIn] : List Cond) ++ (wsX120 ++ (vX12_in ++ (vX12_layWeathers ++ vX12_thawIn))))
theorem iX12_weather_12 : ∀ w ∈ wsX120, w ∈ vX12_weather := fun _ h => List.mem_cons_of_mem _ (List.mem_append_right _ (List.mem_append_left _ h))
theorem gs_X12_weather : Gd vX12_weather := Gd.cons (by decide +kernel) (Gd.app (Gd.r (by decide +kernel)) (Gd.app gwX_12 (Gd.app gs_X12_in (Gd.app gs_X12_layWeathers gs_X12_thawIn))))
theorem gg_X12_weather_X12_in : GoodIn vX12_weather (wsS RX12 82 yX12_in vX12_in) := goodIn_app (goodIn_r _ [1, 2, 3] (by decide +kernel) (by decide +kernel)) (fun w h => ⟨List.mem_cons_of_mem _ (List.mem_append_right _ (List.mem_append_right _ (List.mem_append_left _ h))), gs_X12_in w h⟩)
theorem gg_X12_weather_X12_layWeathers : GoodIn vX12_weather (wsV RX12 346 RX12 yX12_layWeathers vX12_layWeathers) := goodIn_app (goodIn_r _ [4, 5, 6, 3] (by decide +kernel) (by decide +kernel)) (fun w h => ⟨List.mem_cons_of_mem _ (List.mem_append_right _ (List.mem_append_right _ (List.mem_append_right _ (List.mem_append_left _ h)))), gs_X12_layWeathers w h⟩)
theorem gg_X12_weather_X12_thawIn : GoodIn vX12_weather (wsS RX12 343 yX12_thawIn vX12_thawIn) := goodIn_app (goodIn_r _ [9, 10, 3] (by decide +kernel) (by decide +kernel)) (fun w h => ⟨List.mem_cons_of_mem _ (List.mem_append_right _ (List.mem_append_right _ (List.mem_append_right _ (List.mem_append_right _ (h))))), gs_X12_thawIn w h⟩)
set_option maxHeartbeats 4000000 in
set_option maxRecDepth 100000 in
theorem s_X12_weather (l : Launch) (D : va_G) (cs : Nat → ClassId) (ad : Nat → Nat) (kS : kSt) (K : sK) (hKO : KO K) (hj : wJ ad 218) (g : Nat → va_E) (hW : WF (shp ad K) ad cs g) (sl : Int32) (nn : Int32) (dy : Int32) : sI l yX12_weather vX12_weather { frames := 4, cells := 0, slots := 0, locals := 99 } D cs ad kS [.ref (ad 197), .int sl, .int nn, .int dy] g (fun r g2 => WF (shp ad K) ad cs g2 ∧ (∀ j, j ≠ 197 ∧ j ≠ 204 ∧ j ≠ 205 → g2 j = g j)) := by
  refine Met.startS (cc := cX12_weather) (maxL := 5) (ret := (some .int)) RX12 rfl (by decide) rfl (Nat.le_of_ble_eq_true rfl) ?_
  intro p e s m below meth c ls X Z hP hl
  have hx := X.1
  have hb := X.2.1
  have hS : va_S (wA ad 218) s.heap s.heap [] := va_S.rf
  have hA : ∀ i, i < 218 → wA ad 218 (ad i) := fun i h => ⟨i, h, rfl⟩
  have hfr : ∀ j, j ≠ 197 ∧ j ≠ 204 ∧ j ≠ 205 → g j = g j := fun _ _ => rfl
  have hl : lv_has ls 5 [(0, .ref (ad 197)), (1, .int sl), (2, .int nn), (3, .int dy)] := hl
  refine lv_aload_n hx hb dX12_weather_0 rfl (lv_at hl 0 rfl) ?_
  refine lv_iload_n hx hb dX12_weather_1 rfl (lv_at hl 1 rfl) ?_
  refine lv_iload_n hx hb dX12_weather_2 rfl (lv_at hl 2 rfl) ?_
  refine lv_iload_n hx hb dX12_weather_3 rfl (lv_at hl 3 rfl) ?_
  refine lv_i2l hx hb dX12_weather_4 rfl ?_
  refine lv_topl (fun z_1 ez_1 => ?_)
  have hz_1 : z_1.toInt = dy.toInt := ez_1 ▸ j_of rfl
  have := n_hi dy
  have := n_lo dy
  refine lv_lconst (v := 0) hx hb dX12_weather_5 (by decide) ?_
  refine lv_iload_n hx hb dX12_weather_6 rfl (lv_at hl 2 rfl) ?_
  refine lv_iconst (v := 1) hx hb dX12_weather_7 (by decide) ?_
  refine lv_isub hx hb dX12_weather_8 ?_
  refine lv_topi (fun z_2 ez_2 => ?_)
  refine lv_i2l hx hb dX12_weather_9 rfl ?_
  refine lv_topl (fun z_3 ez_3 => ?_)
  have hz_3 : z_3.toInt = z_2.toInt := ez_3 ▸ j_of rfl
  have := n_hi z_2
  have := n_lo z_2
  refine s_callSi (As := [.long z_1, .long 0, .long z_3]) (rest := [.int nn, .int sl, .ref (ad 197)]) X Z (s_X12_in l D cs ad kS K hKO hj g hW z_1 0 z_3) (cwS 3 X.2.2.2.2.1 gg_X12_weather_X12_in rfl rfl rfl (by decide +kernel) ⟨Nat.le_of_ble_eq_true rfl, Nat.le_of_ble_eq_true rfl⟩) hP hA hS.2.1 hS rfl hl.1 rfl (Nat.le_of_ble_eq_true rfl) dX12_weather_10 ⟨Nat.le_of_ble_eq_true rfl, Nat.le_of_ble_eq_true rfl⟩ (fun r_6 g_5 H locs hw_4 hP hS => ?_)
  obtain ⟨hw_4g, hw_4⟩ := hw_4
  rw [hw_4g] at hP
  have hqk_7 : (0 : Int64).toInt = 0 := by decide
  obtain ⟨fsc_11, hgc_11, hOc_11⟩ := hW.obj (i := 197) (by decide) (sh_197 ad K)
  refine s_calli (q := (RX12, TX12, 40)) (As := [.int sl, .int nn, .int r_6]) (rest := []) X Z (s_X12_layWeathers l D cs ad kS K hKO hj g hW sl nn r_6) (cwV 3 X.2.2.2.2.1 gg_X12_weather_X12_layWeathers rfl rfl rfl (by decide +kernel) ⟨Nat.le_of_ble_eq_true rfl, Nat.le_of_ble_eq_true rfl⟩) (by decide) hgc_11 rfl hP hA hS.2.1 hS rfl hl.1 rfl (Nat.le_of_ble_eq_true rfl) dX12_weather_13 ⟨Nat.le_of_ble_eq_true rfl, Nat.le_of_ble_eq_true rfl⟩ (fun r_10 g_9 H locs hw_8 hP hS => ?_)
  obtain ⟨hw_8W, hw_8f, hw_8⟩ := hw_8
  have hfr_12 : ∀ j, j ≠ 197 ∧ j ≠ 204 ∧ j ≠ 205 → g_9 j = g j := fun j hj => (hw_8f j (by omega)).trans (hfr j hj)
  refine lv_istore (lv' := [(4, .int r_10), (0, .ref (ad 197)), (1, .int sl), (2, .int nn), (3, .int dy)]) hx hb dX12_weather_16 hl (by decide) rfl (fun ls hl => ?_)
  refine lv_iload hx hb dX12_weather_18 (lv_at hl 0 rfl) ?_
  refine lv_if_ge (tgt := 26) hx hb dX12_weather_20 (by decide) (fun hc_13 => ?_) (fun hc_13 => ?_)
  · have hhc_13 := n_le (by decide : (0 : Int32).toInt = 0) (rfl : r_10.toInt = r_10.toInt) hc_13
    refine lv_aload_n hx hb dX12_weather_26 rfl (lv_at hl 1 rfl) ?_
    obtain ⟨fsc_14, hgc_14, hOc_14⟩ := hw_8W.obj (i := 197) (by decide) (sh_197 ad K)
    obtain ⟨x_16, hk_15, -⟩ := hOc_14.int 23 rfl
    refine q_get X iX12_weather_12 hP (by decide) hgc_14 rfl 23 (by decide) (List.mem_of_getElem? (i := 7) rfl) (v := .int x_16) hk_15 dX12_weather_27 ?_
    refine lv_if_ne (tgt := 37) hx hb dX12_weather_30 (by decide) (fun hc_17 => ?_) (fun hc_17 => ?_)
    · have hhc_17 := n_ne (rfl : x_16.toInt = x_16.toInt) (by decide : (0 : Int32).toInt = 0) hc_17
      refine lv_aload_n hx hb dX12_weather_37 rfl (lv_at hl 1 rfl) ?_
      obtain ⟨x_19, hk_18, -⟩ := hOc_14.int 24 rfl
      refine q_get X iX12_weather_12 hP (by decide) hgc_14 rfl 24 (by decide) (List.mem_of_getElem? (i := 8) rfl) (v := .int x_19) hk_18 dX12_weather_38 ?_
      refine lv_iload_n hx hb dX12_weather_41 rfl (lv_at hl 3 rfl) ?_
      refine lv_iload_n hx hb dX12_weather_42 rfl (lv_at hl 4 rfl) ?_
      refine s_callSi (As := [.int x_19, .int nn, .int dy]) (rest := []) X Z (s_X12_thawIn l D cs ad kS K hKO hj g_9 hw_8W x_19 nn dy) (cwS 3 X.2.2.2.2.1 gg_X12_weather_X12_thawIn rfl rfl rfl (by decide +kernel) ⟨Nat.le_of_ble_eq_true rfl, Nat.le_of_ble_eq_true rfl⟩) hP hA hS.2.1 hS rfl hl.1 rfl (Nat.le_of_ble_eq_true rfl) dX12_weather_43 ⟨Nat.le_of_ble_eq_true rfl, Nat.le_of_ble_eq_true rfl⟩ (fun r_22 g_21 H locs hw_20 hP hS => ?_)
      rw [hw_20] at hP
      exact q_iret X hP hS ⟨hw_8W, hfr_12⟩ dX12_weather_46
    · have hhc_17 := n_eq (rfl : x_16.toInt = x_16.toInt) (by decide : (0 : Int32).toInt = 0) hc_17
      refine lv_iconst (v := (-1)) hx hb dX12_weather_33 (by decide) ?_
      refine lv_goto (tgt := 46) hx hb dX12_weather_34 (by decide) ?_
      exact q_iret X hP hS ⟨hw_8W, hfr_12⟩ dX12_weather_46
  · have hhc_13 := n_nle (by decide : (0 : Int32).toInt = 0) (rfl : r_10.toInt = r_10.toInt) hc_13
    refine lv_iload hx hb dX12_weather_23 (lv_at hl 0 rfl) ?_
    exact q_iret X hP hS ⟨hw_8W, hfr_12⟩ dX12_weather_25

theorem dX12_warmth_0 : decode cX12_warmth 0 = .ok (.aload_n 0, 1) := by decide +kernel
theorem dX12_warmth_1 : decode cX12_warmth 1 = .ok (.iload_n 1, 1) := by decide +kernel
theorem dX12_warmth_2 : decode cX12_warmth 2 = .ok (.iload_n 2, 1) := by decide +kernel
theorem dX12_warmth_3 : decode cX12_warmth 3 = .ok (.iload_n 3, 1) := by decide +kernel
theorem dX12_warmth_4 : decode cX12_warmth 4 = .ok (.i2l, 1) := by decide +kernel
theorem dX12_warmth_5 : decode cX12_warmth 5 = .ok (.lconst 0, 1) := by decide +kernel
theorem dX12_warmth_6 : decode cX12_warmth 6 = .ok (.lconst 1, 1) := by decide +kernel
theorem dX12_warmth_7 : decode cX12_warmth 7 = .ok (.invokestatic 82, 3) := by decide +kernel
theorem dX12_warmth_10 : decode cX12_warmth 10 = .ok (.invokevirtual 346, 3) := by decide +kernel
theorem dX12_warmth_13 : decode cX12_warmth 13 = .ok (.istore 4, 2) := by decide +kernel
theorem dX12_warmth_15 : decode cX12_warmth 15 = .ok (.iload 4, 2) := by decide +kernel
theorem dX12_warmth_17 : decode cX12_warmth 17 = .ok (.ifCond .ge 6, 3) := by decide +kernel
theorem dX12_warmth_20 : decode cX12_warmth 20 = .ok (.iload 4, 2) := by decide +kernel
theorem dX12_warmth_22 : decode cX12_warmth 22 = .ok (.ireturn, 1) := by decide +kernel
theorem dX12_warmth_23 : decode cX12_warmth 23 = .ok (.aload_n 0, 1) := by decide +kernel
theorem dX12_warmth_24 : decode cX12_warmth 24 = .ok (.getfield 331, 3) := by decide +kernel
theorem dX12_warmth_27 : decode cX12_warmth 27 = .ok (.ifCond .ne 7, 3) := by decide +kernel
theorem dX12_warmth_30 : decode cX12_warmth 30 = .ok (.iconst (-1), 1) := by decide +kernel
theorem dX12_warmth_31 : decode cX12_warmth 31 = .ok (.goto 18, 3) := by decide +kernel
theorem dX12_warmth_34 : decode cX12_warmth 34 = .ok (.iload_n 3, 1) := by decide +kernel
theorem dX12_warmth_35 : decode cX12_warmth 35 = .ok (.ifCond .ne 10, 3) := by decide +kernel
theorem dX12_warmth_38 : decode cX12_warmth 38 = .ok (.aload_n 0, 1) := by decide +kernel
theorem dX12_warmth_39 : decode cX12_warmth 39 = .ok (.getfield 337, 3) := by decide +kernel
theorem dX12_warmth_42 : decode cX12_warmth 42 = .ok (.goto 7, 3) := by decide +kernel
theorem dX12_warmth_45 : decode cX12_warmth 45 = .ok (.aload_n 0, 1) := by decide +kernel
theorem dX12_warmth_46 : decode cX12_warmth 46 = .ok (.getfield 340, 3) := by decide +kernel
theorem dX12_warmth_49 : decode cX12_warmth 49 = .ok (.ireturn, 1) := by decide +kernel
noncomputable def vX12_warmth : List Cond := .code yX12_warmth cX12_warmth 5 (some .int) :: (([.methodLink RX12 82 yX12_in, .static yX12_in, .initialized RX12, .methodLink RX12 346 yX12_layWeathers, .instanceMethod yX12_layWeathers, .selects RX12 yX12_layWeathers yX12_layWeathers, .fieldLink RX12 331 "IcicleClockModel" "weatherMany" "I", .fieldLink RX12 337 "IcicleClockModel" "weatherLeast" "I", .fieldLink RX12 340 "IcicleClockModel" "weatherMost" "I"] : List Cond) ++ (wsX120 ++ (vX12_in ++ vX12_layWeathers)))
theorem iX12_warmth_12 : ∀ w ∈ wsX120, w ∈ vX12_warmth := fun _ h => List.mem_cons_of_mem _ (List.mem_append_right _ (List.mem_append_left _ h))
theorem gs_X12_warmth : Gd vX12_warmth := Gd.cons (by decide +kernel) (Gd.app (Gd.r (by decide +kernel)) (Gd.app gwX_12 (Gd.app gs_X12_in gs_X12_layWeathers)))
theorem gg_X12_warmth_X12_in : GoodIn vX12_warmth (wsS RX12 82 yX12_in vX12_in) := goodIn_app (goodIn_r _ [1, 2, 3] (by decide +kernel) (by decide +kernel)) (fun w h => ⟨List.mem_cons_of_mem _ (List.mem_append_right _ (List.mem_append_right _ (List.mem_append_left _ h))), gs_X12_in w h⟩)
theorem gg_X12_warmth_X12_layWeathers : GoodIn vX12_warmth (wsV RX12 346 RX12 yX12_layWeathers vX12_layWeathers) := goodIn_app (goodIn_r _ [4, 5, 6, 3] (by decide +kernel) (by decide +kernel)) (fun w h => ⟨List.mem_cons_of_mem _ (List.mem_append_right _ (List.mem_append_right _ (List.mem_append_right _ (h)))), gs_X12_layWeathers w h⟩)
set_option maxHeartbeats 4000000 in
set_option maxRecDepth 100000 in
theorem s_X12_warmth (l : Launch) (D : va_G) (cs : Nat → ClassId) (ad : Nat → Nat) (kS : kSt) (K : sK) (hKO : KO K) (hj : wJ ad 218) (g : Nat → va_E) (hW : WF (shp ad K) ad cs g) (sl : Int32) (nn : Int32) (wh : Int32) : sI l yX12_warmth vX12_warmth { frames := 4, cells := 0, slots := 0, locals := 99 } D cs ad kS [.ref (ad 197), .int sl, .int nn, .int wh] g (fun r g2 => WF (shp ad K) ad cs g2 ∧ (∀ j, j ≠ 197 ∧ j ≠ 204 ∧ j ≠ 205 → g2 j = g j)) := by
  refine Met.startS (cc := cX12_warmth) (maxL := 5) (ret := (some .int)) RX12 rfl (by decide) rfl (Nat.le_of_ble_eq_true rfl) ?_
  intro p e s m below meth c ls X Z hP hl
  have hx := X.1
  have hb := X.2.1
  have hS : va_S (wA ad 218) s.heap s.heap [] := va_S.rf
  have hA : ∀ i, i < 218 → wA ad 218 (ad i) := fun i h => ⟨i, h, rfl⟩
  have hfr : ∀ j, j ≠ 197 ∧ j ≠ 204 ∧ j ≠ 205 → g j = g j := fun _ _ => rfl
  have hl : lv_has ls 5 [(0, .ref (ad 197)), (1, .int sl), (2, .int nn), (3, .int wh)] := hl
  refine lv_aload_n hx hb dX12_warmth_0 rfl (lv_at hl 0 rfl) ?_
  refine lv_iload_n hx hb dX12_warmth_1 rfl (lv_at hl 1 rfl) ?_
  refine lv_iload_n hx hb dX12_warmth_2 rfl (lv_at hl 2 rfl) ?_
  refine lv_iload_n hx hb dX12_warmth_3 rfl (lv_at hl 3 rfl) ?_
  refine lv_i2l hx hb dX12_warmth_4 rfl ?_
  refine lv_topl (fun z_1 ez_1 => ?_)
  have hz_1 : z_1.toInt = wh.toInt := ez_1 ▸ j_of rfl
  have := n_hi wh
  have := n_lo wh
  refine lv_lconst (v := 0) hx hb dX12_warmth_5 (by decide) ?_
  refine lv_lconst (v := 1) hx hb dX12_warmth_6 (by decide) ?_
  refine s_callSi (As := [.long z_1, .long 0, .long 1]) (rest := [.int nn, .int sl, .ref (ad 197)]) X Z (s_X12_in l D cs ad kS K hKO hj g hW z_1 0 1) (cwS 3 X.2.2.2.2.1 gg_X12_warmth_X12_in rfl rfl rfl (by decide +kernel) ⟨Nat.le_of_ble_eq_true rfl, Nat.le_of_ble_eq_true rfl⟩) hP hA hS.2.1 hS rfl hl.1 rfl (Nat.le_of_ble_eq_true rfl) dX12_warmth_7 ⟨Nat.le_of_ble_eq_true rfl, Nat.le_of_ble_eq_true rfl⟩ (fun r_4 g_3 H locs hw_2 hP hS => ?_)
  obtain ⟨hw_2g, hw_2⟩ := hw_2
  rw [hw_2g] at hP
  have hqk_5 : (0 : Int64).toInt = 0 := by decide
  have hqk_6 : (1 : Int64).toInt = 1 := by decide
  obtain ⟨fsc_10, hgc_10, hOc_10⟩ := hW.obj (i := 197) (by decide) (sh_197 ad K)
  refine s_calli (q := (RX12, TX12, 40)) (As := [.int sl, .int nn, .int r_4]) (rest := []) X Z (s_X12_layWeathers l D cs ad kS K hKO hj g hW sl nn r_4) (cwV 3 X.2.2.2.2.1 gg_X12_warmth_X12_layWeathers rfl rfl rfl (by decide +kernel) ⟨Nat.le_of_ble_eq_true rfl, Nat.le_of_ble_eq_true rfl⟩) (by decide) hgc_10 rfl hP hA hS.2.1 hS rfl hl.1 rfl (Nat.le_of_ble_eq_true rfl) dX12_warmth_10 ⟨Nat.le_of_ble_eq_true rfl, Nat.le_of_ble_eq_true rfl⟩ (fun r_9 g_8 H locs hw_7 hP hS => ?_)
  obtain ⟨hw_7W, hw_7f, hw_7⟩ := hw_7
  have hfr_11 : ∀ j, j ≠ 197 ∧ j ≠ 204 ∧ j ≠ 205 → g_8 j = g j := fun j hj => (hw_7f j (by omega)).trans (hfr j hj)
  refine lv_istore (lv' := [(4, .int r_9), (0, .ref (ad 197)), (1, .int sl), (2, .int nn), (3, .int wh)]) hx hb dX12_warmth_13 hl (by decide) rfl (fun ls hl => ?_)
  refine lv_iload hx hb dX12_warmth_15 (lv_at hl 0 rfl) ?_
  refine lv_if_ge (tgt := 23) hx hb dX12_warmth_17 (by decide) (fun hc_12 => ?_) (fun hc_12 => ?_)
  · have hhc_12 := n_le (by decide : (0 : Int32).toInt = 0) (rfl : r_9.toInt = r_9.toInt) hc_12
    refine lv_aload_n hx hb dX12_warmth_23 rfl (lv_at hl 1 rfl) ?_
    obtain ⟨fsc_13, hgc_13, hOc_13⟩ := hw_7W.obj (i := 197) (by decide) (sh_197 ad K)
    obtain ⟨x_15, hk_14, -⟩ := hOc_13.int 23 rfl
    refine q_get X iX12_warmth_12 hP (by decide) hgc_13 rfl 23 (by decide) (List.mem_of_getElem? (i := 7) rfl) (v := .int x_15) hk_14 dX12_warmth_24 ?_
    refine lv_if_ne (tgt := 34) hx hb dX12_warmth_27 (by decide) (fun hc_16 => ?_) (fun hc_16 => ?_)
    · have hhc_16 := n_ne (rfl : x_15.toInt = x_15.toInt) (by decide : (0 : Int32).toInt = 0) hc_16
      refine lv_iload_n hx hb dX12_warmth_34 rfl (lv_at hl 4 rfl) ?_
      refine lv_if_ne (tgt := 45) hx hb dX12_warmth_35 (by decide) (fun hc_17 => ?_) (fun hc_17 => ?_)
      · have hhc_17 := n_ne (rfl : wh.toInt = wh.toInt) (by decide : (0 : Int32).toInt = 0) hc_17
        refine lv_aload_n hx hb dX12_warmth_45 rfl (lv_at hl 1 rfl) ?_
        obtain ⟨x_19, hk_18, -⟩ := hOc_13.int 26 rfl
        refine q_get X iX12_warmth_12 hP (by decide) hgc_13 rfl 26 (by decide) (List.mem_of_getElem? (i := 9) rfl) (v := .int x_19) hk_18 dX12_warmth_46 ?_
        exact q_iret X hP hS ⟨hw_7W, hfr_11⟩ dX12_warmth_49
      · have hhc_17 := n_eq (rfl : wh.toInt = wh.toInt) (by decide : (0 : Int32).toInt = 0) hc_17
        refine lv_aload_n hx hb dX12_warmth_38 rfl (lv_at hl 1 rfl) ?_
        obtain ⟨x_21, hk_20, -⟩ := hOc_13.int 25 rfl
        refine q_get X iX12_warmth_12 hP (by decide) hgc_13 rfl 25 (by decide) (List.mem_of_getElem? (i := 8) rfl) (v := .int x_21) hk_20 dX12_warmth_39 ?_
        refine lv_goto (tgt := 49) hx hb dX12_warmth_42 (by decide) ?_
        exact q_iret X hP hS ⟨hw_7W, hfr_11⟩ dX12_warmth_49
    · have hhc_16 := n_eq (rfl : x_15.toInt = x_15.toInt) (by decide : (0 : Int32).toInt = 0) hc_16
      refine lv_iconst (v := (-1)) hx hb dX12_warmth_30 (by decide) ?_
      refine lv_goto (tgt := 49) hx hb dX12_warmth_31 (by decide) ?_
      exact q_iret X hP hS ⟨hw_7W, hfr_11⟩ dX12_warmth_49
  · have hhc_12 := n_nle (by decide : (0 : Int32).toInt = 0) (rfl : r_9.toInt = r_9.toInt) hc_12
    refine lv_iload hx hb dX12_warmth_20 (lv_at hl 0 rfl) ?_
    exact q_iret X hP hS ⟨hw_7W, hfr_11⟩ dX12_warmth_22

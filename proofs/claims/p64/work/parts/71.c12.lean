theorem dX2_firstHas_0 : decode cX2_firstHas 0 = .ok (.aload_n 0, 1) := by decide +kernel
theorem dX2_firstHas_1 : decode cX2_firstHas 1 = .ok (.getfield 11, 3) := by decide +kernel
theorem dX2_firstHas_4 : decode cX2_firstHas 4 = .ok (.iload_n 2, 1) := by decide +kernel
theorem dX2_firstHas_5 : decode cX2_firstHas 5 = .ok (.aaload, 1) := by decide +kernel
theorem dX2_firstHas_6 : decode cX2_firstHas 6 = .ok (.iload_n 3, 1) := by decide +kernel
theorem dX2_firstHas_7 : decode cX2_firstHas 7 = .ok (.iaload, 1) := by decide +kernel
theorem dX2_firstHas_8 : decode cX2_firstHas 8 = .ok (.aload_n 1, 1) := by decide +kernel
theorem dX2_firstHas_9 : decode cX2_firstHas 9 = .ok (.getfield 50, 3) := by decide +kernel
theorem dX2_firstHas_12 : decode cX2_firstHas 12 = .ok (.iload_n 2, 1) := by decide +kernel
theorem dX2_firstHas_13 : decode cX2_firstHas 13 = .ok (.iaload, 1) := by decide +kernel
theorem dX2_firstHas_14 : decode cX2_firstHas 14 = .ok (.iadd, 1) := by decide +kernel
theorem dX2_firstHas_15 : decode cX2_firstHas 15 = .ok (.ireturn, 1) := by decide +kernel
noncomputable def vX2_firstHas : List Cond := .code yX2_firstHas cX2_firstHas 4 (some .int) :: (([.fieldLink RX2 11 "IcicleClock$Clerks" "shared" "[[I", .fieldLink RX2 50 "IcicleClock$Street" "sun" "[I"] : List Cond) ++ (wsX20 ++ wsX60))
theorem iX2_firstHas_2 : ∀ w ∈ wsX20, w ∈ vX2_firstHas := fun _ h => List.mem_cons_of_mem _ (List.mem_append_right _ (List.mem_append_left _ h))
theorem iX2_firstHas_6 : ∀ w ∈ wsX60, w ∈ vX2_firstHas := fun _ h => List.mem_cons_of_mem _ (List.mem_append_right _ (List.mem_append_right _ (h)))
theorem gs_X2_firstHas : Gd vX2_firstHas := Gd.cons (by decide +kernel) (Gd.app (Gd.r (by decide +kernel)) (Gd.app gwX_2 gwX_6))
set_option maxHeartbeats 4000000 in
set_option maxRecDepth 100000 in
theorem s_X2_firstHas (l : Launch) (D : va_G) (cs : Nat → ClassId) (ad : Nat → Nat) (kS : kSt) (K : sK) (hKO : KO K) (hj : wJ ad 218) (g : Nat → va_E) (hW : WF (shp ad K) ad cs g) (on : Int32) (tw : Int32) (hp0 : 0 ≤ on.toInt ∧ on.toInt ≤ 4) (hp1 : 0 ≤ tw.toInt ∧ tw.toInt ≤ 4) : sI l yX2_firstHas vX2_firstHas { frames := 0, cells := 0, slots := 0, locals := 0 } D cs ad kS [.ref (ad 190), .ref (ad 3), .int on, .int tw] g (fun r g2 => g2 = g) := by
  refine Met.startS (cc := cX2_firstHas) (maxL := 4) (ret := (some .int)) RX2 rfl (by decide) rfl (Nat.le_of_ble_eq_true rfl) ?_
  intro p e s m below meth c ls X Z hP hl
  have hx := X.1
  have hb := X.2.1
  have hS : va_S (wA ad 218) s.heap s.heap [] := va_S.rf
  have hA : ∀ i, i < 218 → wA ad 218 (ad i) := fun i h => ⟨i, h, rfl⟩
  have hl : lv_has ls 4 [(0, .ref (ad 190)), (1, .ref (ad 3)), (2, .int on), (3, .int tw)] := hl
  refine lv_aload_n hx hb dX2_firstHas_0 rfl (lv_at hl 0 rfl) ?_
  obtain ⟨fsc_1, hgc_1, hOc_1⟩ := hW.obj (i := 190) (by decide) (sh_190 ad K)
  have hk_2 := hOc_1.ref 2 rfl
  refine q_get X iX2_firstHas_2 hP (by decide) hgc_1 rfl 2 (by decide) (List.mem_of_getElem? (i := 1) rfl) (v := .ref (ad 191)) hk_2 dX2_firstHas_1 ?_
  refine lv_iload_n hx hb dX2_firstHas_4 rfl (lv_at hl 2 rfl) ?_
  obtain ⟨fc_3, hgc_3, hFc_3⟩ := hW.aref (i := 191) (by decide) (sh_191 ad K)
  obtain ⟨e_4, h_e_4, e_e_4⟩ : ∃ q : Nat, q < 5 ∧ on.toNatClampNeg = q := ⟨_, by have := n_cl (rfl : on.toInt = on.toInt) (by omega); omega, rfl⟩
  refine s_aald X hP 6 rfl rfl (by decide) hgc_3 (n_in (rfl : on.toInt = on.toInt) (by omega) (by omega)) (v := ad (192 + e_4)) (by rw [e_e_4, hFc_3 _ h_e_4, Nat.one_mul]) dX2_firstHas_5 ?_
  refine lv_iload_n hx hb dX2_firstHas_6 rfl (lv_at hl 3 rfl) ?_
  obtain ⟨fc_5, hgc_5, hFc_5⟩ := hW.arr (i := (192 + e_4)) (by omega) (shR_192 ad K h_e_4)
  refine q_iald X hP (by omega) hgc_5 (n_in (rfl : tw.toInt = tw.toInt) (by omega) (by omega)) dX2_firstHas_7 ?_
  refine lv_topi (fun z_6 ez_6 => ?_)
  refine lv_aload_n hx hb dX2_firstHas_8 rfl (lv_at hl 1 rfl) ?_
  obtain ⟨fsc_7, hgc_7, hOc_7⟩ := hW.obj (i := 3) (by decide) (sh_3 ad K)
  have hk_8 := hOc_7.ref 10 rfl
  refine q_get X iX2_firstHas_6 hP (by decide) hgc_7 rfl 10 (by decide) (List.mem_of_getElem? (i := 2) rfl) (v := .ref (ad 6)) hk_8 dX2_firstHas_9 ?_
  refine lv_iload_n hx hb dX2_firstHas_12 rfl (lv_at hl 2 rfl) ?_
  obtain ⟨fc_9, hgc_9, hFc_9⟩ := hW.arr (i := 6) (by decide) (sh_6 ad K)
  refine q_iald X hP (by decide) hgc_9 (n_in (rfl : on.toInt = on.toInt) (by omega) (by omega)) dX2_firstHas_13 ?_
  refine lv_topi (fun z_10 ez_10 => ?_)
  refine lv_iadd hx hb dX2_firstHas_14 ?_
  refine lv_topi (fun z_11 ez_11 => ?_)
  exact q_iret X hP hS rfl dX2_firstHas_15

theorem dX2_secondHas_0 : decode cX2_secondHas 0 = .ok (.aload_n 1, 1) := by decide +kernel
theorem dX2_secondHas_1 : decode cX2_secondHas 1 = .ok (.getfield 54, 3) := by decide +kernel
theorem dX2_secondHas_4 : decode cX2_secondHas 4 = .ok (.aload_n 0, 1) := by decide +kernel
theorem dX2_secondHas_5 : decode cX2_secondHas 5 = .ok (.getfield 11, 3) := by decide +kernel
theorem dX2_secondHas_8 : decode cX2_secondHas 8 = .ok (.iload_n 2, 1) := by decide +kernel
theorem dX2_secondHas_9 : decode cX2_secondHas 9 = .ok (.aaload, 1) := by decide +kernel
theorem dX2_secondHas_10 : decode cX2_secondHas 10 = .ok (.iload_n 3, 1) := by decide +kernel
theorem dX2_secondHas_11 : decode cX2_secondHas 11 = .ok (.iaload, 1) := by decide +kernel
theorem dX2_secondHas_12 : decode cX2_secondHas 12 = .ok (.isub, 1) := by decide +kernel
theorem dX2_secondHas_13 : decode cX2_secondHas 13 = .ok (.aload_n 1, 1) := by decide +kernel
theorem dX2_secondHas_14 : decode cX2_secondHas 14 = .ok (.getfield 50, 3) := by decide +kernel
theorem dX2_secondHas_17 : decode cX2_secondHas 17 = .ok (.iload_n 3, 1) := by decide +kernel
theorem dX2_secondHas_18 : decode cX2_secondHas 18 = .ok (.iaload, 1) := by decide +kernel
theorem dX2_secondHas_19 : decode cX2_secondHas 19 = .ok (.iadd, 1) := by decide +kernel
theorem dX2_secondHas_20 : decode cX2_secondHas 20 = .ok (.ireturn, 1) := by decide +kernel
noncomputable def vX2_secondHas : List Cond := .code yX2_secondHas cX2_secondHas 4 (some .int) :: (([.fieldLink RX2 54 "IcicleClock$Street" "days" "I", .fieldLink RX2 11 "IcicleClock$Clerks" "shared" "[[I", .fieldLink RX2 50 "IcicleClock$Street" "sun" "[I"] : List Cond) ++ (wsX60 ++ wsX20))
theorem iX2_secondHas_6 : ∀ w ∈ wsX60, w ∈ vX2_secondHas := fun _ h => List.mem_cons_of_mem _ (List.mem_append_right _ (List.mem_append_left _ h))
theorem iX2_secondHas_2 : ∀ w ∈ wsX20, w ∈ vX2_secondHas := fun _ h => List.mem_cons_of_mem _ (List.mem_append_right _ (List.mem_append_right _ (h)))
theorem gs_X2_secondHas : Gd vX2_secondHas := Gd.cons (by decide +kernel) (Gd.app (Gd.r (by decide +kernel)) (Gd.app gwX_6 gwX_2))
set_option maxHeartbeats 4000000 in
set_option maxRecDepth 100000 in
theorem s_X2_secondHas (l : Launch) (D : va_G) (cs : Nat → ClassId) (ad : Nat → Nat) (kS : kSt) (K : sK) (hKO : KO K) (hj : wJ ad 218) (g : Nat → va_E) (hW : WF (shp ad K) ad cs g) (on : Int32) (tw : Int32) (hp0 : 0 ≤ on.toInt ∧ on.toInt ≤ 4) (hp1 : 0 ≤ tw.toInt ∧ tw.toInt ≤ 4) : sI l yX2_secondHas vX2_secondHas { frames := 0, cells := 0, slots := 0, locals := 0 } D cs ad kS [.ref (ad 190), .ref (ad 3), .int on, .int tw] g (fun r g2 => g2 = g) := by
  refine Met.startS (cc := cX2_secondHas) (maxL := 4) (ret := (some .int)) RX2 rfl (by decide) rfl (Nat.le_of_ble_eq_true rfl) ?_
  intro p e s m below meth c ls X Z hP hl
  have hx := X.1
  have hb := X.2.1
  have hS : va_S (wA ad 218) s.heap s.heap [] := va_S.rf
  have hA : ∀ i, i < 218 → wA ad 218 (ad i) := fun i h => ⟨i, h, rfl⟩
  have hl : lv_has ls 4 [(0, .ref (ad 190)), (1, .ref (ad 3)), (2, .int on), (3, .int tw)] := hl
  refine lv_aload_n hx hb dX2_secondHas_0 rfl (lv_at hl 1 rfl) ?_
  obtain ⟨fsc_1, hgc_1, hOc_1⟩ := hW.obj (i := 3) (by decide) (sh_3 ad K)
  obtain ⟨x_3, hk_2, hlx_3, hhx_3⟩ := hOc_1.int 3 rfl
  refine q_get X iX2_secondHas_6 hP (by decide) hgc_1 rfl 3 (by decide) (List.mem_of_getElem? (i := 1) rfl) (v := .int x_3) hk_2 dX2_secondHas_1 ?_
  refine lv_aload_n hx hb dX2_secondHas_4 rfl (lv_at hl 0 rfl) ?_
  obtain ⟨fsc_4, hgc_4, hOc_4⟩ := hW.obj (i := 190) (by decide) (sh_190 ad K)
  have hk_5 := hOc_4.ref 2 rfl
  refine q_get X iX2_secondHas_2 hP (by decide) hgc_4 rfl 2 (by decide) (List.mem_of_getElem? (i := 2) rfl) (v := .ref (ad 191)) hk_5 dX2_secondHas_5 ?_
  refine lv_iload_n hx hb dX2_secondHas_8 rfl (lv_at hl 2 rfl) ?_
  obtain ⟨fc_6, hgc_6, hFc_6⟩ := hW.aref (i := 191) (by decide) (sh_191 ad K)
  obtain ⟨e_7, h_e_7, e_e_7⟩ : ∃ q : Nat, q < 5 ∧ on.toNatClampNeg = q := ⟨_, by have := n_cl (rfl : on.toInt = on.toInt) (by omega); omega, rfl⟩
  refine s_aald X hP 6 rfl rfl (by decide) hgc_6 (n_in (rfl : on.toInt = on.toInt) (by omega) (by omega)) (v := ad (192 + e_7)) (by rw [e_e_7, hFc_6 _ h_e_7, Nat.one_mul]) dX2_secondHas_9 ?_
  refine lv_iload_n hx hb dX2_secondHas_10 rfl (lv_at hl 3 rfl) ?_
  obtain ⟨fc_8, hgc_8, hFc_8⟩ := hW.arr (i := (192 + e_7)) (by omega) (shR_192 ad K h_e_7)
  refine q_iald X hP (by omega) hgc_8 (n_in (rfl : tw.toInt = tw.toInt) (by omega) (by omega)) dX2_secondHas_11 ?_
  refine lv_topi (fun z_9 ez_9 => ?_)
  refine lv_isub hx hb dX2_secondHas_12 ?_
  refine lv_topi (fun z_10 ez_10 => ?_)
  refine lv_aload_n hx hb dX2_secondHas_13 rfl (lv_at hl 1 rfl) ?_
  have hk_11 := hOc_1.ref 10 rfl
  refine q_get X iX2_secondHas_6 hP (by decide) hgc_1 rfl 10 (by decide) (List.mem_of_getElem? (i := 3) rfl) (v := .ref (ad 6)) hk_11 dX2_secondHas_14 ?_
  refine lv_iload_n hx hb dX2_secondHas_17 rfl (lv_at hl 3 rfl) ?_
  obtain ⟨fc_12, hgc_12, hFc_12⟩ := hW.arr (i := 6) (by decide) (sh_6 ad K)
  refine q_iald X hP (by decide) hgc_12 (n_in (rfl : tw.toInt = tw.toInt) (by omega) (by omega)) dX2_secondHas_18 ?_
  refine lv_topi (fun z_13 ez_13 => ?_)
  refine lv_iadd hx hb dX2_secondHas_19 ?_
  refine lv_topi (fun z_14 ez_14 => ?_)
  exact q_iret X hP hS rfl dX2_secondHas_20

theorem dX2_isRest_0 : decode cX2_isRest 0 = .ok (.iconst 0, 1) := by decide +kernel
theorem dX2_isRest_1 : decode cX2_isRest 1 = .ok (.istore 4, 2) := by decide +kernel
theorem dX2_isRest_3 : decode cX2_isRest 3 = .ok (.iload 4, 2) := by decide +kernel
theorem dX2_isRest_5 : decode cX2_isRest 5 = .ok (.aload_n 1, 1) := by decide +kernel
theorem dX2_isRest_6 : decode cX2_isRest 6 = .ok (.getfield 16, 3) := by decide +kernel
theorem dX2_isRest_9 : decode cX2_isRest 9 = .ok (.if_icmp .ge 71, 3) := by decide +kernel
theorem dX2_isRest_12 : decode cX2_isRest 12 = .ok (.aload_n 0, 1) := by decide +kernel
theorem dX2_isRest_13 : decode cX2_isRest 13 = .ok (.aload_n 1, 1) := by decide +kernel
theorem dX2_isRest_14 : decode cX2_isRest 14 = .ok (.iload 4, 2) := by decide +kernel
theorem dX2_isRest_16 : decode cX2_isRest 16 = .ok (.iload_n 3, 1) := by decide +kernel
theorem dX2_isRest_17 : decode cX2_isRest 17 = .ok (.invokevirtual 44, 3) := by decide +kernel
theorem dX2_isRest_20 : decode cX2_isRest 20 = .ok (.aload_n 0, 1) := by decide +kernel
theorem dX2_isRest_21 : decode cX2_isRest 21 = .ok (.aload_n 1, 1) := by decide +kernel
theorem dX2_isRest_22 : decode cX2_isRest 22 = .ok (.iload_n 2, 1) := by decide +kernel
theorem dX2_isRest_23 : decode cX2_isRest 23 = .ok (.iload_n 3, 1) := by decide +kernel
theorem dX2_isRest_24 : decode cX2_isRest 24 = .ok (.invokevirtual 44, 3) := by decide +kernel
theorem dX2_isRest_27 : decode cX2_isRest 27 = .ok (.if_icmp .le 7, 3) := by decide +kernel
theorem dX2_isRest_30 : decode cX2_isRest 30 = .ok (.iconst 1, 1) := by decide +kernel
theorem dX2_isRest_31 : decode cX2_isRest 31 = .ok (.goto 4, 3) := by decide +kernel
theorem dX2_isRest_34 : decode cX2_isRest 34 = .ok (.iconst 0, 1) := by decide +kernel
theorem dX2_isRest_35 : decode cX2_isRest 35 = .ok (.istore 5, 2) := by decide +kernel
theorem dX2_isRest_37 : decode cX2_isRest 37 = .ok (.aload_n 0, 1) := by decide +kernel
theorem dX2_isRest_38 : decode cX2_isRest 38 = .ok (.aload_n 1, 1) := by decide +kernel
theorem dX2_isRest_39 : decode cX2_isRest 39 = .ok (.iload_n 2, 1) := by decide +kernel
theorem dX2_isRest_40 : decode cX2_isRest 40 = .ok (.iload 4, 2) := by decide +kernel
theorem dX2_isRest_42 : decode cX2_isRest 42 = .ok (.invokevirtual 47, 3) := by decide +kernel
theorem dX2_isRest_45 : decode cX2_isRest 45 = .ok (.aload_n 0, 1) := by decide +kernel
theorem dX2_isRest_46 : decode cX2_isRest 46 = .ok (.aload_n 1, 1) := by decide +kernel
theorem dX2_isRest_47 : decode cX2_isRest 47 = .ok (.iload_n 2, 1) := by decide +kernel
theorem dX2_isRest_48 : decode cX2_isRest 48 = .ok (.iload_n 3, 1) := by decide +kernel
theorem dX2_isRest_49 : decode cX2_isRest 49 = .ok (.invokevirtual 47, 3) := by decide +kernel
theorem dX2_isRest_52 : decode cX2_isRest 52 = .ok (.if_icmp .le 7, 3) := by decide +kernel
theorem dX2_isRest_55 : decode cX2_isRest 55 = .ok (.iconst 1, 1) := by decide +kernel
theorem dX2_isRest_56 : decode cX2_isRest 56 = .ok (.goto 4, 3) := by decide +kernel
theorem dX2_isRest_59 : decode cX2_isRest 59 = .ok (.iconst 0, 1) := by decide +kernel
theorem dX2_isRest_60 : decode cX2_isRest 60 = .ok (.istore 6, 2) := by decide +kernel
theorem dX2_isRest_62 : decode cX2_isRest 62 = .ok (.iload 5, 2) := by decide +kernel
theorem dX2_isRest_64 : decode cX2_isRest 64 = .ok (.ifCond .ne 8, 3) := by decide +kernel
theorem dX2_isRest_67 : decode cX2_isRest 67 = .ok (.iload 6, 2) := by decide +kernel
theorem dX2_isRest_69 : decode cX2_isRest 69 = .ok (.ifCond .eq 5, 3) := by decide +kernel
theorem dX2_isRest_74 : decode cX2_isRest 74 = .ok (.iinc 4 1, 3) := by decide +kernel
theorem dX2_isRest_77 : decode cX2_isRest 77 = .ok (.goto (-74), 3) := by decide +kernel
theorem dX2_isRest_72 : decode cX2_isRest 72 = .ok (.iconst 0, 1) := by decide +kernel
theorem dX2_isRest_73 : decode cX2_isRest 73 = .ok (.ireturn, 1) := by decide +kernel
theorem dX2_isRest_80 : decode cX2_isRest 80 = .ok (.iconst 1, 1) := by decide +kernel
theorem dX2_isRest_81 : decode cX2_isRest 81 = .ok (.ireturn, 1) := by decide +kernel
noncomputable def vX2_isRest : List Cond := .code yX2_isRest cX2_isRest 7 (some .boolean) :: (([.fieldLink RX2 16 "IcicleClock$Street" "eaves" "I", .methodLink RX2 44 yX2_firstHas, .instanceMethod yX2_firstHas, .selects RX2 yX2_firstHas yX2_firstHas, .initialized RX2, .methodLink RX2 47 yX2_secondHas, .instanceMethod yX2_secondHas, .selects RX2 yX2_secondHas yX2_secondHas] : List Cond) ++ (wsX60 ++ (vX2_firstHas ++ vX2_secondHas)))
theorem iX2_isRest_6 : ∀ w ∈ wsX60, w ∈ vX2_isRest := fun _ h => List.mem_cons_of_mem _ (List.mem_append_right _ (List.mem_append_left _ h))
theorem gs_X2_isRest : Gd vX2_isRest := Gd.cons (by decide +kernel) (Gd.app (Gd.r (by decide +kernel)) (Gd.app gwX_6 (Gd.app gs_X2_firstHas gs_X2_secondHas)))
theorem gg_X2_isRest_X2_firstHas : GoodIn vX2_isRest (wsV RX2 44 RX2 yX2_firstHas vX2_firstHas) := goodIn_app (goodIn_r _ [2, 3, 4, 5] (by decide +kernel) (by decide +kernel)) (fun w h => ⟨List.mem_cons_of_mem _ (List.mem_append_right _ (List.mem_append_right _ (List.mem_append_left _ h))), gs_X2_firstHas w h⟩)
theorem gg_X2_isRest_X2_secondHas : GoodIn vX2_isRest (wsV RX2 47 RX2 yX2_secondHas vX2_secondHas) := goodIn_app (goodIn_r _ [6, 7, 8, 5] (by decide +kernel) (by decide +kernel)) (fun w h => ⟨List.mem_cons_of_mem _ (List.mem_append_right _ (List.mem_append_right _ (List.mem_append_right _ (h)))), gs_X2_secondHas w h⟩)
set_option maxHeartbeats 4000000 in
set_option maxRecDepth 100000 in
theorem s_X2_isRest (l : Launch) (D : va_G) (cs : Nat → ClassId) (ad : Nat → Nat) (kS : kSt) (K : sK) (hKO : KO K) (hj : wJ ad 218) (g : Nat → va_E) (hW : WF (shp ad K) ad cs g) (on : Int32) (tw : Int32) (hp0 : 0 ≤ on.toInt ∧ on.toInt ≤ 4) (hp1 : 0 ≤ tw.toInt ∧ tw.toInt ≤ 4) : sI l yX2_isRest vX2_isRest { frames := 1, cells := 0, slots := 0, locals := 23 } D cs ad kS [.ref (ad 190), .ref (ad 3), .int on, .int tw] g (fun r g2 => g2 = g ∧ (0 ≤ r.toInt ∧ r.toInt ≤ 1)) := by
  refine Met.startS (cc := cX2_isRest) (maxL := 7) (ret := (some .boolean)) RX2 rfl (by decide) rfl (Nat.le_of_ble_eq_true rfl) ?_
  intro p e s m below meth c ls X Z hP hl
  have hx := X.1
  have hb := X.2.1
  have hS : va_S (wA ad 218) s.heap s.heap [] := va_S.rf
  have hA : ∀ i, i < 218 → wA ad 218 (ad i) := fun i h => ⟨i, h, rfl⟩
  have hl : lv_has ls 7 [(0, .ref (ad 190)), (1, .ref (ad 3)), (2, .int on), (3, .int tw)] := hl
  refine lv_iconst (v := 0) hx hb dX2_isRest_0 (by decide) ?_
  refine lv_istore (lv' := [(4, .int 0), (0, .ref (ad 190)), (1, .ref (ad 3)), (2, .int on), (3, .int tw)]) hx hb dX2_isRest_1 hl (by decide) rfl (fun ls hl => ?_)
  have HL3 : ∀ (n3 : Nat) (v3_4 : Int32) (H : Heap) (locs : List Loc) (ls : Array Slot), (5 - v3_4.toInt).toNat < n3 → (0 ≤ v3_4.toInt ∧ v3_4.toInt ≤ 5) → va_P D vwCl (wL ad g 218) H → va_S (wA ad 218) s.heap H locs → lv_has ls 7 [(4, .int v3_4), (0, .ref (ad 190)), (1, .ref (ad 3)), (2, .int on), (3, .int tw)] → W p l e ({ frames := 1, cells := 0, slots := 0, locals := 23 } : Room) s m ([.ref (ad 190), .ref (ad 3), .int on, .int tw] : List Value).toArray below meth c H locs 0 0 (MQ below (qI D ad 218 (fun r g2 => g2 = g ∧ (0 ≤ r.toInt ∧ r.toInt ≤ 1))) ([.ref (ad 190), .ref (ad 3), .int on, .int tw] : List Value).toArray s 0 0 (wA ad 218)) (F0 m 3 ls []) := by
    intro n3
    induction n3 with
    | zero =>
      intro v3_4 H locs ls hm3 hv3_0 hP hS hl
      exact absurd hm3 (Nat.not_lt_zero _)
    | succ n3 ih3 =>
      intro v3_4 H locs ls hm3 hv3_0 hP hS hl
      refine lv_iload hx hb dX2_isRest_3 (lv_at hl 0 rfl) ?_
      refine lv_aload_n hx hb dX2_isRest_5 rfl (lv_at hl 2 rfl) ?_
      obtain ⟨fsc_1, hgc_1, hOc_1⟩ := hW.obj (i := 3) (by decide) (sh_3 ad K)
      obtain ⟨x_3, hk_2, hlx_3, hhx_3⟩ := hOc_1.int 4 rfl
      refine q_get X iX2_isRest_6 hP (by decide) hgc_1 rfl 4 (by decide) (List.mem_of_getElem? (i := 1) rfl) (v := .int x_3) hk_2 dX2_isRest_6 ?_
      refine lv_icmp_ge (tgt := 80) hx hb dX2_isRest_9 (by decide) (fun hc_4 => ?_) (fun hc_4 => ?_)
      · have hhc_4 := n_le (rfl : x_3.toInt = x_3.toInt) (rfl : v3_4.toInt = v3_4.toInt) hc_4
        refine lv_iconst (v := 1) hx hb dX2_isRest_80 (by decide) ?_
        have hr0 : (1 : Int32).toInt = 1 := by decide
        exact q_zret X hP hS rfl ⟨rfl, (by omega)⟩ dX2_isRest_81
      · have hhc_4 := n_nle (rfl : x_3.toInt = x_3.toInt) (rfl : v3_4.toInt = v3_4.toInt) hc_4
        refine lv_aload_n hx hb dX2_isRest_12 rfl (lv_at hl 1 rfl) ?_
        refine lv_aload_n hx hb dX2_isRest_13 rfl (lv_at hl 2 rfl) ?_
        refine lv_iload hx hb dX2_isRest_14 (lv_at hl 0 rfl) ?_
        refine lv_iload_n hx hb dX2_isRest_16 rfl (lv_at hl 4 rfl) ?_
        obtain ⟨fsc_8, hgc_8, hOc_8⟩ := hW.obj (i := 190) (by decide) (sh_190 ad K)
        refine s_calli (q := (RX2, TX2, 3)) (As := [.ref (ad 3), .int v3_4, .int tw]) (rest := []) X Z (s_X2_firstHas l D cs ad kS K hKO hj g hW v3_4 tw (by omega) (by omega)) (cwV 3 X.2.2.2.2.1 gg_X2_isRest_X2_firstHas rfl rfl rfl (by decide +kernel) ⟨Nat.le_of_ble_eq_true rfl, Nat.le_of_ble_eq_true rfl⟩) (by decide) hgc_8 rfl hP hA hS.2.1 hS rfl hl.1 rfl (Nat.le_of_ble_eq_true rfl) dX2_isRest_17 ⟨Nat.le_of_ble_eq_true rfl, Nat.le_of_ble_eq_true rfl⟩ (fun r_7 g_6 H locs hw_5 hP hS => ?_)
        rw [hw_5] at hP
        refine lv_aload_n hx hb dX2_isRest_20 rfl (lv_at hl 1 rfl) ?_
        refine lv_aload_n hx hb dX2_isRest_21 rfl (lv_at hl 2 rfl) ?_
        refine lv_iload_n hx hb dX2_isRest_22 rfl (lv_at hl 3 rfl) ?_
        refine lv_iload_n hx hb dX2_isRest_23 rfl (lv_at hl 4 rfl) ?_
        refine s_calli (q := (RX2, TX2, 3)) (As := [.ref (ad 3), .int on, .int tw]) (rest := [.int r_7]) X Z (s_X2_firstHas l D cs ad kS K hKO hj g hW on tw (by omega) (by omega)) (cwV 3 X.2.2.2.2.1 gg_X2_isRest_X2_firstHas rfl rfl rfl (by decide +kernel) ⟨Nat.le_of_ble_eq_true rfl, Nat.le_of_ble_eq_true rfl⟩) (by decide) hgc_8 rfl hP hA hS.2.1 hS rfl hl.1 rfl (Nat.le_of_ble_eq_true rfl) dX2_isRest_24 ⟨Nat.le_of_ble_eq_true rfl, Nat.le_of_ble_eq_true rfl⟩ (fun r_11 g_10 H locs hw_9 hP hS => ?_)
        rw [hw_9] at hP
        refine lv_icmp_le (tgt := 34) hx hb dX2_isRest_27 (by decide) (fun hc_12 => ?_) (fun hc_12 => ?_)
        · have hhc_12 := n_le (rfl : r_7.toInt = r_7.toInt) (rfl : r_11.toInt = r_11.toInt) hc_12
          have := n_hi r_11
          have := n_lo r_11
          have := n_hi r_7
          have := n_lo r_7
          refine lv_iconst (v := 0) hx hb dX2_isRest_34 (by decide) ?_
          refine lv_istore (lv' := [(5, .int 0), (4, .int v3_4), (0, .ref (ad 190)), (1, .ref (ad 3)), (2, .int on), (3, .int tw)]) hx hb dX2_isRest_35 hl (by decide) rfl (fun ls hl => ?_)
          refine lv_aload_n hx hb dX2_isRest_37 rfl (lv_at hl 2 rfl) ?_
          refine lv_aload_n hx hb dX2_isRest_38 rfl (lv_at hl 3 rfl) ?_
          refine lv_iload_n hx hb dX2_isRest_39 rfl (lv_at hl 4 rfl) ?_
          refine lv_iload hx hb dX2_isRest_40 (lv_at hl 1 rfl) ?_
          refine s_calli (q := (RX2, TX2, 3)) (As := [.ref (ad 3), .int on, .int v3_4]) (rest := []) X Z (s_X2_secondHas l D cs ad kS K hKO hj g hW on v3_4 (by omega) (by omega)) (cwV 3 X.2.2.2.2.1 gg_X2_isRest_X2_secondHas rfl rfl rfl (by decide +kernel) ⟨Nat.le_of_ble_eq_true rfl, Nat.le_of_ble_eq_true rfl⟩) (by decide) hgc_8 rfl hP hA hS.2.1 hS rfl hl.1 rfl (Nat.le_of_ble_eq_true rfl) dX2_isRest_42 ⟨Nat.le_of_ble_eq_true rfl, Nat.le_of_ble_eq_true rfl⟩ (fun r_15 g_14 H locs hw_13 hP hS => ?_)
          rw [hw_13] at hP
          refine lv_aload_n hx hb dX2_isRest_45 rfl (lv_at hl 2 rfl) ?_
          refine lv_aload_n hx hb dX2_isRest_46 rfl (lv_at hl 3 rfl) ?_
          refine lv_iload_n hx hb dX2_isRest_47 rfl (lv_at hl 4 rfl) ?_
          refine lv_iload_n hx hb dX2_isRest_48 rfl (lv_at hl 5 rfl) ?_
          refine s_calli (q := (RX2, TX2, 3)) (As := [.ref (ad 3), .int on, .int tw]) (rest := [.int r_15]) X Z (s_X2_secondHas l D cs ad kS K hKO hj g hW on tw (by omega) (by omega)) (cwV 3 X.2.2.2.2.1 gg_X2_isRest_X2_secondHas rfl rfl rfl (by decide +kernel) ⟨Nat.le_of_ble_eq_true rfl, Nat.le_of_ble_eq_true rfl⟩) (by decide) hgc_8 rfl hP hA hS.2.1 hS rfl hl.1 rfl (Nat.le_of_ble_eq_true rfl) dX2_isRest_49 ⟨Nat.le_of_ble_eq_true rfl, Nat.le_of_ble_eq_true rfl⟩ (fun r_18 g_17 H locs hw_16 hP hS => ?_)
          rw [hw_16] at hP
          refine lv_icmp_le (tgt := 59) hx hb dX2_isRest_52 (by decide) (fun hc_19 => ?_) (fun hc_19 => ?_)
          · have hhc_19 := n_le (rfl : r_15.toInt = r_15.toInt) (rfl : r_18.toInt = r_18.toInt) hc_19
            have := n_hi r_18
            have := n_lo r_18
            have := n_hi r_15
            have := n_lo r_15
            refine lv_iconst (v := 0) hx hb dX2_isRest_59 (by decide) ?_
            refine lv_istore (lv' := [(6, .int 0), (5, .int 0), (4, .int v3_4), (0, .ref (ad 190)), (1, .ref (ad 3)), (2, .int on), (3, .int tw)]) hx hb dX2_isRest_60 hl (by decide) rfl (fun ls hl => ?_)
            refine lv_iload hx hb dX2_isRest_62 (lv_at hl 1 rfl) ?_
            have HJ72 : ∀ (H : Heap) (locs : List Loc) (ls : Array Slot), va_P D vwCl (wL ad g 218) H → va_S (wA ad 218) s.heap H locs → lv_has ls 7 [] → W p l e ({ frames := 1, cells := 0, slots := 0, locals := 23 } : Room) s m ([.ref (ad 190), .ref (ad 3), .int on, .int tw] : List Value).toArray below meth c H locs 0 0 (MQ below (qI D ad 218 (fun r g2 => g2 = g ∧ (0 ≤ r.toInt ∧ r.toInt ≤ 1))) ([.ref (ad 190), .ref (ad 3), .int on, .int tw] : List Value).toArray s 0 0 (wA ad 218)) (F0 m 72 ls []) := by
              intro H locs ls hP hS hl
              refine lv_iconst (v := 0) hx hb dX2_isRest_72 (by decide) ?_
              have hr0 : (0 : Int32).toInt = 0 := by decide
              exact q_zret X hP hS rfl ⟨rfl, (by omega)⟩ dX2_isRest_73
            refine lv_if_ne (tgt := 72) hx hb dX2_isRest_64 (by decide) (fun h => absurd h (by decide)) (fun _ => ?_)
            refine lv_iload hx hb dX2_isRest_67 (lv_at hl 0 rfl) ?_
            refine lv_if_eq (tgt := 74) hx hb dX2_isRest_69 (by decide) (fun _ => ?_) (fun h => absurd h (by decide))
            obtain ⟨x_20, ex_20⟩ : ∃ y : Int32, y = v3_4 + 1 := ⟨_, rfl⟩
            have hx_20 : x_20.toInt = v3_4.toInt + 1 := n_add rfl (by decide : (1 : Int32).toInt = 1) ex_20 (by omega) (by omega)
            refine lv_iinc (v := x_20) (lv' := [(4, .int x_20), (6, .int 0), (5, .int 0), (0, .ref (ad 190)), (1, .ref (ad 3)), (2, .int on), (3, .int tw)]) hx hb dX2_isRest_74 hl (k := 2) rfl (by rw [ex_20]; rfl) (by decide) rfl (fun ls hl => ?_)
            refine lv_goto (tgt := 3) hx hb dX2_isRest_77 (by decide) ?_
            exact ih3 x_20 _ _ ls (by omega) (by omega) hP hS (lv_sub hl [0, 3, 4, 5, 6] rfl)
          · have hhc_19 := n_nle (rfl : r_15.toInt = r_15.toInt) (rfl : r_18.toInt = r_18.toInt) hc_19
            have := n_hi r_18
            have := n_lo r_18
            have := n_hi r_15
            have := n_lo r_15
            refine lv_iconst (v := 1) hx hb dX2_isRest_55 (by decide) ?_
            refine lv_goto (tgt := 60) hx hb dX2_isRest_56 (by decide) ?_
            refine lv_istore (lv' := [(6, .int 1), (5, .int 0), (4, .int v3_4), (0, .ref (ad 190)), (1, .ref (ad 3)), (2, .int on), (3, .int tw)]) hx hb dX2_isRest_60 hl (by decide) rfl (fun ls hl => ?_)
            refine lv_iload hx hb dX2_isRest_62 (lv_at hl 1 rfl) ?_
            have HJ72 : ∀ (H : Heap) (locs : List Loc) (ls : Array Slot), va_P D vwCl (wL ad g 218) H → va_S (wA ad 218) s.heap H locs → lv_has ls 7 [] → W p l e ({ frames := 1, cells := 0, slots := 0, locals := 23 } : Room) s m ([.ref (ad 190), .ref (ad 3), .int on, .int tw] : List Value).toArray below meth c H locs 0 0 (MQ below (qI D ad 218 (fun r g2 => g2 = g ∧ (0 ≤ r.toInt ∧ r.toInt ≤ 1))) ([.ref (ad 190), .ref (ad 3), .int on, .int tw] : List Value).toArray s 0 0 (wA ad 218)) (F0 m 72 ls []) := by
              intro H locs ls hP hS hl
              refine lv_iconst (v := 0) hx hb dX2_isRest_72 (by decide) ?_
              have hr0 : (0 : Int32).toInt = 0 := by decide
              exact q_zret X hP hS rfl ⟨rfl, (by omega)⟩ dX2_isRest_73
            refine lv_if_ne (tgt := 72) hx hb dX2_isRest_64 (by decide) (fun h => absurd h (by decide)) (fun _ => ?_)
            refine lv_iload hx hb dX2_isRest_67 (lv_at hl 0 rfl) ?_
            refine lv_if_eq (tgt := 74) hx hb dX2_isRest_69 (by decide) (fun h => absurd h (by decide)) (fun _ => ?_)
            exact HJ72 _ _ ls hP hS (lv_sub hl [] rfl)
        · have hhc_12 := n_nle (rfl : r_7.toInt = r_7.toInt) (rfl : r_11.toInt = r_11.toInt) hc_12
          have := n_hi r_11
          have := n_lo r_11
          have := n_hi r_7
          have := n_lo r_7
          refine lv_iconst (v := 1) hx hb dX2_isRest_30 (by decide) ?_
          refine lv_goto (tgt := 35) hx hb dX2_isRest_31 (by decide) ?_
          refine lv_istore (lv' := [(5, .int 1), (4, .int v3_4), (0, .ref (ad 190)), (1, .ref (ad 3)), (2, .int on), (3, .int tw)]) hx hb dX2_isRest_35 hl (by decide) rfl (fun ls hl => ?_)
          refine lv_aload_n hx hb dX2_isRest_37 rfl (lv_at hl 2 rfl) ?_
          refine lv_aload_n hx hb dX2_isRest_38 rfl (lv_at hl 3 rfl) ?_
          refine lv_iload_n hx hb dX2_isRest_39 rfl (lv_at hl 4 rfl) ?_
          refine lv_iload hx hb dX2_isRest_40 (lv_at hl 1 rfl) ?_
          refine s_calli (q := (RX2, TX2, 3)) (As := [.ref (ad 3), .int on, .int v3_4]) (rest := []) X Z (s_X2_secondHas l D cs ad kS K hKO hj g hW on v3_4 (by omega) (by omega)) (cwV 3 X.2.2.2.2.1 gg_X2_isRest_X2_secondHas rfl rfl rfl (by decide +kernel) ⟨Nat.le_of_ble_eq_true rfl, Nat.le_of_ble_eq_true rfl⟩) (by decide) hgc_8 rfl hP hA hS.2.1 hS rfl hl.1 rfl (Nat.le_of_ble_eq_true rfl) dX2_isRest_42 ⟨Nat.le_of_ble_eq_true rfl, Nat.le_of_ble_eq_true rfl⟩ (fun r_23 g_22 H locs hw_21 hP hS => ?_)
          rw [hw_21] at hP
          refine lv_aload_n hx hb dX2_isRest_45 rfl (lv_at hl 2 rfl) ?_
          refine lv_aload_n hx hb dX2_isRest_46 rfl (lv_at hl 3 rfl) ?_
          refine lv_iload_n hx hb dX2_isRest_47 rfl (lv_at hl 4 rfl) ?_
          refine lv_iload_n hx hb dX2_isRest_48 rfl (lv_at hl 5 rfl) ?_
          refine s_calli (q := (RX2, TX2, 3)) (As := [.ref (ad 3), .int on, .int tw]) (rest := [.int r_23]) X Z (s_X2_secondHas l D cs ad kS K hKO hj g hW on tw (by omega) (by omega)) (cwV 3 X.2.2.2.2.1 gg_X2_isRest_X2_secondHas rfl rfl rfl (by decide +kernel) ⟨Nat.le_of_ble_eq_true rfl, Nat.le_of_ble_eq_true rfl⟩) (by decide) hgc_8 rfl hP hA hS.2.1 hS rfl hl.1 rfl (Nat.le_of_ble_eq_true rfl) dX2_isRest_49 ⟨Nat.le_of_ble_eq_true rfl, Nat.le_of_ble_eq_true rfl⟩ (fun r_26 g_25 H locs hw_24 hP hS => ?_)
          rw [hw_24] at hP
          refine lv_icmp_le (tgt := 59) hx hb dX2_isRest_52 (by decide) (fun hc_27 => ?_) (fun hc_27 => ?_)
          · have hhc_27 := n_le (rfl : r_23.toInt = r_23.toInt) (rfl : r_26.toInt = r_26.toInt) hc_27
            have := n_hi r_26
            have := n_lo r_26
            have := n_hi r_23
            have := n_lo r_23
            refine lv_iconst (v := 0) hx hb dX2_isRest_59 (by decide) ?_
            refine lv_istore (lv' := [(6, .int 0), (5, .int 1), (4, .int v3_4), (0, .ref (ad 190)), (1, .ref (ad 3)), (2, .int on), (3, .int tw)]) hx hb dX2_isRest_60 hl (by decide) rfl (fun ls hl => ?_)
            refine lv_iload hx hb dX2_isRest_62 (lv_at hl 1 rfl) ?_
            have HJ72 : ∀ (H : Heap) (locs : List Loc) (ls : Array Slot), va_P D vwCl (wL ad g 218) H → va_S (wA ad 218) s.heap H locs → lv_has ls 7 [] → W p l e ({ frames := 1, cells := 0, slots := 0, locals := 23 } : Room) s m ([.ref (ad 190), .ref (ad 3), .int on, .int tw] : List Value).toArray below meth c H locs 0 0 (MQ below (qI D ad 218 (fun r g2 => g2 = g ∧ (0 ≤ r.toInt ∧ r.toInt ≤ 1))) ([.ref (ad 190), .ref (ad 3), .int on, .int tw] : List Value).toArray s 0 0 (wA ad 218)) (F0 m 72 ls []) := by
              intro H locs ls hP hS hl
              refine lv_iconst (v := 0) hx hb dX2_isRest_72 (by decide) ?_
              have hr0 : (0 : Int32).toInt = 0 := by decide
              exact q_zret X hP hS rfl ⟨rfl, (by omega)⟩ dX2_isRest_73
            refine lv_if_ne (tgt := 72) hx hb dX2_isRest_64 (by decide) (fun _ => ?_) (fun h => absurd h (by decide))
            exact HJ72 _ _ ls hP hS (lv_sub hl [] rfl)
          · have hhc_27 := n_nle (rfl : r_23.toInt = r_23.toInt) (rfl : r_26.toInt = r_26.toInt) hc_27
            have := n_hi r_26
            have := n_lo r_26
            have := n_hi r_23
            have := n_lo r_23
            refine lv_iconst (v := 1) hx hb dX2_isRest_55 (by decide) ?_
            refine lv_goto (tgt := 60) hx hb dX2_isRest_56 (by decide) ?_
            refine lv_istore (lv' := [(6, .int 1), (5, .int 1), (4, .int v3_4), (0, .ref (ad 190)), (1, .ref (ad 3)), (2, .int on), (3, .int tw)]) hx hb dX2_isRest_60 hl (by decide) rfl (fun ls hl => ?_)
            refine lv_iload hx hb dX2_isRest_62 (lv_at hl 1 rfl) ?_
            have HJ72 : ∀ (H : Heap) (locs : List Loc) (ls : Array Slot), va_P D vwCl (wL ad g 218) H → va_S (wA ad 218) s.heap H locs → lv_has ls 7 [] → W p l e ({ frames := 1, cells := 0, slots := 0, locals := 23 } : Room) s m ([.ref (ad 190), .ref (ad 3), .int on, .int tw] : List Value).toArray below meth c H locs 0 0 (MQ below (qI D ad 218 (fun r g2 => g2 = g ∧ (0 ≤ r.toInt ∧ r.toInt ≤ 1))) ([.ref (ad 190), .ref (ad 3), .int on, .int tw] : List Value).toArray s 0 0 (wA ad 218)) (F0 m 72 ls []) := by
              intro H locs ls hP hS hl
              refine lv_iconst (v := 0) hx hb dX2_isRest_72 (by decide) ?_
              have hr0 : (0 : Int32).toInt = 0 := by decide
              exact q_zret X hP hS rfl ⟨rfl, (by omega)⟩ dX2_isRest_73
            refine lv_if_ne (tgt := 72) hx hb dX2_isRest_64 (by decide) (fun _ => ?_) (fun h => absurd h (by decide))
            exact HJ72 _ _ ls hP hS (lv_sub hl [] rfl)
  have hiv3_4 : (0 : Int32).toInt = 0 := by decide
  exact HL3 _ 0 _ _ ls (Nat.lt_succ_self _) (by omega) hP hS (lv_sub hl [0, 1, 2, 3, 4] rfl)

theorem dX2_compare_0 : decode cX2_compare 0 = .ok (.iconst 0, 1) := by decide +kernel
theorem dX2_compare_1 : decode cX2_compare 1 = .ok (.istore_n 3, 1) := by decide +kernel
theorem dX2_compare_2 : decode cX2_compare 2 = .ok (.iload_n 3, 1) := by decide +kernel
theorem dX2_compare_3 : decode cX2_compare 3 = .ok (.aload_n 1, 1) := by decide +kernel
theorem dX2_compare_4 : decode cX2_compare 4 = .ok (.getfield 16, 3) := by decide +kernel
theorem dX2_compare_7 : decode cX2_compare 7 = .ok (.if_icmp .ge 47, 3) := by decide +kernel
theorem dX2_compare_10 : decode cX2_compare 10 = .ok (.iconst 0, 1) := by decide +kernel
theorem dX2_compare_11 : decode cX2_compare 11 = .ok (.istore 4, 2) := by decide +kernel
theorem dX2_compare_13 : decode cX2_compare 13 = .ok (.iload 4, 2) := by decide +kernel
theorem dX2_compare_15 : decode cX2_compare 15 = .ok (.aload_n 1, 1) := by decide +kernel
theorem dX2_compare_16 : decode cX2_compare 16 = .ok (.getfield 16, 3) := by decide +kernel
theorem dX2_compare_19 : decode cX2_compare 19 = .ok (.if_icmp .ge 29, 3) := by decide +kernel
theorem dX2_compare_22 : decode cX2_compare 22 = .ok (.aload_n 0, 1) := by decide +kernel
theorem dX2_compare_23 : decode cX2_compare 23 = .ok (.getfield 11, 3) := by decide +kernel
theorem dX2_compare_26 : decode cX2_compare 26 = .ok (.iload_n 3, 1) := by decide +kernel
theorem dX2_compare_27 : decode cX2_compare 27 = .ok (.aaload, 1) := by decide +kernel
theorem dX2_compare_28 : decode cX2_compare 28 = .ok (.iload 4, 2) := by decide +kernel
theorem dX2_compare_30 : decode cX2_compare 30 = .ok (.aload_n 2, 1) := by decide +kernel
theorem dX2_compare_31 : decode cX2_compare 31 = .ok (.aload_n 1, 1) := by decide +kernel
theorem dX2_compare_32 : decode cX2_compare 32 = .ok (.iload_n 3, 1) := by decide +kernel
theorem dX2_compare_33 : decode cX2_compare 33 = .ok (.iload 4, 2) := by decide +kernel
theorem dX2_compare_35 : decode cX2_compare 35 = .ok (.invokevirtual 22, 3) := by decide +kernel
theorem dX2_compare_38 : decode cX2_compare 38 = .ok (.invokestatic 28, 3) := by decide +kernel
theorem dX2_compare_41 : decode cX2_compare 41 = .ok (.iastore, 1) := by decide +kernel
theorem dX2_compare_42 : decode cX2_compare 42 = .ok (.iinc 4 1, 3) := by decide +kernel
theorem dX2_compare_45 : decode cX2_compare 45 = .ok (.goto (-32), 3) := by decide +kernel
theorem dX2_compare_48 : decode cX2_compare 48 = .ok (.iinc 3 1, 3) := by decide +kernel
theorem dX2_compare_51 : decode cX2_compare 51 = .ok (.goto (-49), 3) := by decide +kernel
theorem dX2_compare_54 : decode cX2_compare 54 = .ok (.aload_n 0, 1) := by decide +kernel
theorem dX2_compare_55 : decode cX2_compare 55 = .ok (.iconst 0, 1) := by decide +kernel
theorem dX2_compare_56 : decode cX2_compare 56 = .ok (.putfield 34, 3) := by decide +kernel
theorem dX2_compare_59 : decode cX2_compare 59 = .ok (.aload_n 0, 1) := by decide +kernel
theorem dX2_compare_60 : decode cX2_compare 60 = .ok (.iconst (-1), 1) := by decide +kernel
theorem dX2_compare_61 : decode cX2_compare 61 = .ok (.putfield 37, 3) := by decide +kernel
theorem dX2_compare_64 : decode cX2_compare 64 = .ok (.iconst 0, 1) := by decide +kernel
theorem dX2_compare_65 : decode cX2_compare 65 = .ok (.istore_n 3, 1) := by decide +kernel
theorem dX2_compare_66 : decode cX2_compare 66 = .ok (.iload_n 3, 1) := by decide +kernel
theorem dX2_compare_67 : decode cX2_compare 67 = .ok (.aload_n 1, 1) := by decide +kernel
theorem dX2_compare_68 : decode cX2_compare 68 = .ok (.getfield 16, 3) := by decide +kernel
theorem dX2_compare_71 : decode cX2_compare 71 = .ok (.if_icmp .ge 73, 3) := by decide +kernel
theorem dX2_compare_74 : decode cX2_compare 74 = .ok (.iconst 0, 1) := by decide +kernel
theorem dX2_compare_75 : decode cX2_compare 75 = .ok (.istore 4, 2) := by decide +kernel
theorem dX2_compare_77 : decode cX2_compare 77 = .ok (.iload 4, 2) := by decide +kernel
theorem dX2_compare_79 : decode cX2_compare 79 = .ok (.aload_n 1, 1) := by decide +kernel
theorem dX2_compare_80 : decode cX2_compare 80 = .ok (.getfield 16, 3) := by decide +kernel
theorem dX2_compare_83 : decode cX2_compare 83 = .ok (.if_icmp .ge 55, 3) := by decide +kernel
theorem dX2_compare_86 : decode cX2_compare 86 = .ok (.aload_n 0, 1) := by decide +kernel
theorem dX2_compare_87 : decode cX2_compare 87 = .ok (.aload_n 1, 1) := by decide +kernel
theorem dX2_compare_88 : decode cX2_compare 88 = .ok (.iload_n 3, 1) := by decide +kernel
theorem dX2_compare_89 : decode cX2_compare 89 = .ok (.iload 4, 2) := by decide +kernel
theorem dX2_compare_91 : decode cX2_compare 91 = .ok (.invokevirtual 40, 3) := by decide +kernel
theorem dX2_compare_94 : decode cX2_compare 94 = .ok (.ifCond .eq 38, 3) := by decide +kernel
theorem dX2_compare_97 : decode cX2_compare 97 = .ok (.aload_n 0, 1) := by decide +kernel
theorem dX2_compare_98 : decode cX2_compare 98 = .ok (.aload_n 0, 1) := by decide +kernel
theorem dX2_compare_99 : decode cX2_compare 99 = .ok (.getfield 34, 3) := by decide +kernel
theorem dX2_compare_102 : decode cX2_compare 102 = .ok (.ifCond .ne 13, 3) := by decide +kernel
theorem dX2_compare_105 : decode cX2_compare 105 = .ok (.bipush 10, 2) := by decide +kernel
theorem dX2_compare_107 : decode cX2_compare 107 = .ok (.iload_n 3, 1) := by decide +kernel
theorem dX2_compare_108 : decode cX2_compare 108 = .ok (.imul, 1) := by decide +kernel
theorem dX2_compare_109 : decode cX2_compare 109 = .ok (.iload 4, 2) := by decide +kernel
theorem dX2_compare_111 : decode cX2_compare 111 = .ok (.iadd, 1) := by decide +kernel
theorem dX2_compare_112 : decode cX2_compare 112 = .ok (.goto 7, 3) := by decide +kernel
theorem dX2_compare_115 : decode cX2_compare 115 = .ok (.aload_n 0, 1) := by decide +kernel
theorem dX2_compare_116 : decode cX2_compare 116 = .ok (.getfield 37, 3) := by decide +kernel
theorem dX2_compare_119 : decode cX2_compare 119 = .ok (.putfield 37, 3) := by decide +kernel
theorem dX2_compare_122 : decode cX2_compare 122 = .ok (.aload_n 0, 1) := by decide +kernel
theorem dX2_compare_123 : decode cX2_compare 123 = .ok (.dup, 1) := by decide +kernel
theorem dX2_compare_124 : decode cX2_compare 124 = .ok (.getfield 34, 3) := by decide +kernel
theorem dX2_compare_127 : decode cX2_compare 127 = .ok (.iconst 1, 1) := by decide +kernel
theorem dX2_compare_128 : decode cX2_compare 128 = .ok (.iadd, 1) := by decide +kernel
theorem dX2_compare_129 : decode cX2_compare 129 = .ok (.putfield 34, 3) := by decide +kernel
theorem dX2_compare_132 : decode cX2_compare 132 = .ok (.iinc 4 1, 3) := by decide +kernel
theorem dX2_compare_135 : decode cX2_compare 135 = .ok (.goto (-58), 3) := by decide +kernel
theorem dX2_compare_138 : decode cX2_compare 138 = .ok (.iinc 3 1, 3) := by decide +kernel
theorem dX2_compare_141 : decode cX2_compare 141 = .ok (.goto (-75), 3) := by decide +kernel
theorem dX2_compare_144 : decode cX2_compare 144 = .ok (.return_, 1) := by decide +kernel
noncomputable def vX2_compare : List Cond := .code yX2_compare cX2_compare 5 none :: (([.fieldLink RX2 16 "IcicleClock$Street" "eaves" "I", .fieldLink RX2 11 "IcicleClock$Clerks" "shared" "[[I", .methodLink RX2 22 yX10_daysOfOneTime, .instanceMethod yX10_daysOfOneTime, .selects RX10 yX10_daysOfOneTime yX10_daysOfOneTime, .initialized RX10, .methodLink RX2 28 yJ6_bitCount_0f7a4, .static yJ6_bitCount_0f7a4, .initialized RJ6, .fieldLink RX2 34 "IcicleClock$Clerks" "resting" "I", .fieldLink RX2 37 "IcicleClock$Clerks" "first" "I", .methodLink RX2 40 yX2_isRest, .instanceMethod yX2_isRest, .selects RX2 yX2_isRest yX2_isRest, .initialized RX2] : List Cond) ++ (wsX60 ++ (wsX20 ++ (vX10_daysOfOneTime ++ (vJ6_bitCount_0f7a4 ++ vX2_isRest)))))
theorem iX2_compare_6 : ∀ w ∈ wsX60, w ∈ vX2_compare := fun _ h => List.mem_cons_of_mem _ (List.mem_append_right _ (List.mem_append_left _ h))
theorem iX2_compare_2 : ∀ w ∈ wsX20, w ∈ vX2_compare := fun _ h => List.mem_cons_of_mem _ (List.mem_append_right _ (List.mem_append_right _ (List.mem_append_left _ h)))
theorem gs_X2_compare : Gd vX2_compare := Gd.cons (by decide +kernel) (Gd.app (Gd.r (by decide +kernel)) (Gd.app gwX_6 (Gd.app gwX_2 (Gd.app gs_X10_daysOfOneTime (Gd.app gs_J6_bitCount_0f7a4 gs_X2_isRest)))))
theorem gg_X2_compare_X10_daysOfOneTime : GoodIn vX2_compare (wsV RX2 22 RX10 yX10_daysOfOneTime vX10_daysOfOneTime) := goodIn_app (goodIn_r _ [3, 4, 5, 6] (by decide +kernel) (by decide +kernel)) (fun w h => ⟨List.mem_cons_of_mem _ (List.mem_append_right _ (List.mem_append_right _ (List.mem_append_right _ (List.mem_append_left _ h)))), gs_X10_daysOfOneTime w h⟩)
theorem gg_X2_compare_J6_bitCount_0f7a4 : GoodIn vX2_compare (va_wsS RX2 28 yJ6_bitCount_0f7a4 vJ6_bitCount_0f7a4) := goodIn_app (goodIn_r _ [7, 8, 9] (by decide +kernel) (by decide +kernel)) (fun w h => ⟨List.mem_cons_of_mem _ (List.mem_append_right _ (List.mem_append_right _ (List.mem_append_right _ (List.mem_append_right _ (List.mem_append_left _ h))))), gs_J6_bitCount_0f7a4 w h⟩)
theorem gg_X2_compare_X2_isRest : GoodIn vX2_compare (wsV RX2 40 RX2 yX2_isRest vX2_isRest) := goodIn_app (goodIn_r _ [12, 13, 14, 15] (by decide +kernel) (by decide +kernel)) (fun w h => ⟨List.mem_cons_of_mem _ (List.mem_append_right _ (List.mem_append_right _ (List.mem_append_right _ (List.mem_append_right _ (List.mem_append_right _ (h)))))), gs_X2_isRest w h⟩)
set_option maxHeartbeats 4000000 in
set_option maxRecDepth 100000 in
theorem s_X2_compare (l : Launch) (D : va_G) (cs : Nat → ClassId) (ad : Nat → Nat) (kS : kSt) (K : sK) (hKO : KO K) (hj : wJ ad 218) (g : Nat → va_E) (hW : WF (shp ad K) ad cs g) : sV l yX2_compare vX2_compare { frames := 3, cells := 0, slots := 0, locals := 75 } D cs ad kS [.ref (ad 190), .ref (ad 3), .ref (ad 114)] g (fun g2 => WF (shp ad K) ad cs g2 ∧ (∀ j, j ≠ 190 ∧ (j < 192 ∨ 197 ≤ j) → g2 j = g j)) := by
  refine Met.startS (cc := cX2_compare) (maxL := 5) (ret := none) RX2 rfl (by decide) rfl (Nat.le_of_ble_eq_true rfl) ?_
  intro p e s m below meth c ls X Z hP hl
  have hx := X.1
  have hb := X.2.1
  have hS : va_S (wA ad 218) s.heap s.heap [] := va_S.rf
  have hA : ∀ i, i < 218 → wA ad 218 (ad i) := fun i h => ⟨i, h, rfl⟩
  have hfr : ∀ j, j ≠ 190 ∧ (j < 192 ∨ 197 ≤ j) → g j = g j := fun _ _ => rfl
  have hl : lv_has ls 5 [(0, .ref (ad 190)), (1, .ref (ad 3)), (2, .ref (ad 114))] := hl
  refine lv_iconst (v := 0) hx hb dX2_compare_0 (by decide) ?_
  refine lv_istore_n (lv' := [(3, .int 0), (0, .ref (ad 190)), (1, .ref (ad 3)), (2, .ref (ad 114))]) hx hb dX2_compare_1 rfl hl (by decide) rfl (fun ls hl => ?_)
  have HL2 : ∀ (n2 : Nat) (v2_3 : Int32) (G2 : Nat → va_E) (H : Heap) (locs : List Loc) (ls : Array Slot), (5 - v2_3.toInt).toNat < n2 → (0 ≤ v2_3.toInt ∧ v2_3.toInt ≤ 5) → WF (shp ad K) ad cs G2 → (∀ j, j ≠ 190 ∧ (j < 192 ∨ 197 ≤ j) → G2 j = g j) → va_P D vwCl (wL ad G2 218) H → va_S (wA ad 218) s.heap H locs → lv_has ls 5 [(3, .int v2_3), (0, .ref (ad 190)), (1, .ref (ad 3)), (2, .ref (ad 114))] → W p l e ({ frames := 3, cells := 0, slots := 0, locals := 75 } : Room) s m ([.ref (ad 190), .ref (ad 3), .ref (ad 114)] : List Value).toArray below meth c H locs 0 0 (MQ below (qV D ad 218 (fun g2 => WF (shp ad K) ad cs g2 ∧ (∀ j, j ≠ 190 ∧ (j < 192 ∨ 197 ≤ j) → g2 j = g j))) ([.ref (ad 190), .ref (ad 3), .ref (ad 114)] : List Value).toArray s 0 0 (wA ad 218)) (F0 m 2 ls []) := by
    intro n2
    induction n2 with
    | zero =>
      intro v2_3 G2 H locs ls hm2 hv2_0 hW2 hfr2 hP hS hl
      exact absurd hm2 (Nat.not_lt_zero _)
    | succ n2 ih2 =>
      intro v2_3 G2 H locs ls hm2 hv2_0 hW2 hfr2 hP hS hl
      refine lv_iload_n hx hb dX2_compare_2 rfl (lv_at hl 0 rfl) ?_
      refine lv_aload_n hx hb dX2_compare_3 rfl (lv_at hl 2 rfl) ?_
      obtain ⟨fsc_1, hgc_1, hOc_1⟩ := hW2.obj (i := 3) (by decide) (sh_3 ad K)
      obtain ⟨x_3, hk_2, hlx_3, hhx_3⟩ := hOc_1.int 4 rfl
      refine q_get X iX2_compare_6 hP (by decide) hgc_1 rfl 4 (by decide) (List.mem_of_getElem? (i := 1) rfl) (v := .int x_3) hk_2 dX2_compare_4 ?_
      refine lv_icmp_ge (tgt := 54) hx hb dX2_compare_7 (by decide) (fun hc_4 => ?_) (fun hc_4 => ?_)
      · have hhc_4 := n_le (rfl : x_3.toInt = x_3.toInt) (rfl : v2_3.toInt = v2_3.toInt) hc_4
        refine lv_aload_n hx hb dX2_compare_54 rfl (lv_at hl 1 rfl) ?_
        refine lv_iconst (v := 0) hx hb dX2_compare_55 (by decide) ?_
        obtain ⟨fsc_5, hgc_5, hOc_5⟩ := hW2.obj (i := 190) (by decide) (sh_190 ad K)
        refine s_put X iX2_compare_2 tyX2 tyX2_ok nmX2 hP hj hA hS (by decide) hgc_5 rfl 0 (by decide) (List.mem_of_getElem? (i := 10) rfl) rfl (ty := .int) (v := .int 0) (by decide +kernel) rfl rfl dX2_compare_56 hW2 (sh_190 ad K) hOc_5 rfl ⟨0, rfl, n_lo _, n_hi _⟩ (fun fsc_6 gc_6 H locs hOc_6 hkc_6 hnc_6 hgc_6 hfc_6 hWc_6 hP hS => ?_)
        have hg_8 := (hfc_6 3 (by decide)).trans hgc_1
        have hfr_7 : ∀ j, j ≠ 190 ∧ (j < 192 ∨ 197 ≤ j) → gc_6 j = g j := fun j hj => (hfc_6 j (by omega)).trans (hfr2 j hj)
        refine lv_aload_n hx hb dX2_compare_59 rfl (lv_at hl 1 rfl) ?_
        refine lv_iconst (v := (-1)) hx hb dX2_compare_60 (by decide) ?_
        refine s_put X iX2_compare_2 tyX2 tyX2_ok nmX2 hP hj hA hS (by decide) hgc_6 rfl 1 (by decide) (List.mem_of_getElem? (i := 11) rfl) rfl (ty := .int) (v := .int (-1)) (by decide +kernel) rfl rfl dX2_compare_61 hWc_6 (sh_190 ad K) hOc_6 rfl ⟨(-1), rfl, n_lo _, n_hi _⟩ (fun fsc_9 gc_9 H locs hOc_9 hkc_9 hnc_9 hgc_9 hfc_9 hWc_9 hP hS => ?_)
        have hk_10 := (hnc_9 0 (by decide)).trans hkc_6
        have hg_12 := (hfc_9 3 (by decide)).trans hg_8
        have hfr_11 : ∀ j, j ≠ 190 ∧ (j < 192 ∨ 197 ≤ j) → gc_9 j = g j := fun j hj => (hfc_9 j (by omega)).trans (hfr_7 j hj)
        refine lv_iconst (v := 0) hx hb dX2_compare_64 (by decide) ?_
        refine lv_istore_n (lv' := [(3, .int 0), (0, .ref (ad 190)), (1, .ref (ad 3)), (2, .ref (ad 114))]) hx hb dX2_compare_65 rfl hl (by decide) rfl (fun ls hl => ?_)
        have HL66 : ∀ (n66 : Nat) (v66_3 : Int32) (G66 : Nat → va_E) (H : Heap) (locs : List Loc) (ls : Array Slot), (5 - v66_3.toInt).toNat < n66 → (0 ≤ v66_3.toInt ∧ v66_3.toInt ≤ 5) → WF (shp ad K) ad cs G66 → (∀ j, j ≠ 190 ∧ (j < 192 ∨ 197 ≤ j) → G66 j = g j) → va_P D vwCl (wL ad G66 218) H → va_S (wA ad 218) s.heap H locs → lv_has ls 5 [(3, .int v66_3), (0, .ref (ad 190)), (1, .ref (ad 3))] → W p l e ({ frames := 3, cells := 0, slots := 0, locals := 75 } : Room) s m ([.ref (ad 190), .ref (ad 3), .ref (ad 114)] : List Value).toArray below meth c H locs 0 0 (MQ below (qV D ad 218 (fun g2 => WF (shp ad K) ad cs g2 ∧ (∀ j, j ≠ 190 ∧ (j < 192 ∨ 197 ≤ j) → g2 j = g j))) ([.ref (ad 190), .ref (ad 3), .ref (ad 114)] : List Value).toArray s 0 0 (wA ad 218)) (F0 m 66 ls []) := by
          intro n66
          induction n66 with
          | zero =>
            intro v66_3 G66 H locs ls hm66 hv66_0 hW66 hfr66 hP hS hl
            exact absurd hm66 (Nat.not_lt_zero _)
          | succ n66 ih66 =>
            intro v66_3 G66 H locs ls hm66 hv66_0 hW66 hfr66 hP hS hl
            refine lv_iload_n hx hb dX2_compare_66 rfl (lv_at hl 0 rfl) ?_
            refine lv_aload_n hx hb dX2_compare_67 rfl (lv_at hl 2 rfl) ?_
            obtain ⟨fsc_13, hgc_13, hOc_13⟩ := hW66.obj (i := 3) (by decide) (sh_3 ad K)
            obtain ⟨x_15, hk_14, hlx_15, hhx_15⟩ := hOc_13.int 4 rfl
            refine q_get X iX2_compare_6 hP (by decide) hgc_13 rfl 4 (by decide) (List.mem_of_getElem? (i := 1) rfl) (v := .int x_15) hk_14 dX2_compare_68 ?_
            refine lv_icmp_ge (tgt := 144) hx hb dX2_compare_71 (by decide) (fun hc_16 => ?_) (fun hc_16 => ?_)
            · have hhc_16 := n_le (rfl : x_15.toInt = x_15.toInt) (rfl : v66_3.toInt = v66_3.toInt) hc_16
              exact q_vret X hP hS ⟨hW66, hfr66⟩ dX2_compare_144
            · have hhc_16 := n_nle (rfl : x_15.toInt = x_15.toInt) (rfl : v66_3.toInt = v66_3.toInt) hc_16
              refine lv_iconst (v := 0) hx hb dX2_compare_74 (by decide) ?_
              refine lv_istore (lv' := [(4, .int 0), (3, .int v66_3), (0, .ref (ad 190)), (1, .ref (ad 3))]) hx hb dX2_compare_75 hl (by decide) rfl (fun ls hl => ?_)
              have HL77 : ∀ (n77 : Nat) (v77_4 : Int32) (G77 : Nat → va_E) (H : Heap) (locs : List Loc) (ls : Array Slot), (5 - v77_4.toInt).toNat < n77 → (0 ≤ v77_4.toInt ∧ v77_4.toInt ≤ 5) → WF (shp ad K) ad cs G77 → (∀ j, j ≠ 190 ∧ (j < 192 ∨ 197 ≤ j) → G77 j = g j) → va_P D vwCl (wL ad G77 218) H → va_S (wA ad 218) s.heap H locs → lv_has ls 5 [(4, .int v77_4), (3, .int v66_3), (0, .ref (ad 190)), (1, .ref (ad 3))] → W p l e ({ frames := 3, cells := 0, slots := 0, locals := 75 } : Room) s m ([.ref (ad 190), .ref (ad 3), .ref (ad 114)] : List Value).toArray below meth c H locs 0 0 (MQ below (qV D ad 218 (fun g2 => WF (shp ad K) ad cs g2 ∧ (∀ j, j ≠ 190 ∧ (j < 192 ∨ 197 ≤ j) → g2 j = g j))) ([.ref (ad 190), .ref (ad 3), .ref (ad 114)] : List Value).toArray s 0 0 (wA ad 218)) (F0 m 77 ls []) := by
                intro n77
                induction n77 with
                | zero =>
                  intro v77_4 G77 H locs ls hm77 hv77_0 hW77 hfr77 hP hS hl
                  exact absurd hm77 (Nat.not_lt_zero _)
                | succ n77 ih77 =>
                  intro v77_4 G77 H locs ls hm77 hv77_0 hW77 hfr77 hP hS hl
                  refine lv_iload hx hb dX2_compare_77 (lv_at hl 0 rfl) ?_
                  refine lv_aload_n hx hb dX2_compare_79 rfl (lv_at hl 3 rfl) ?_
                  obtain ⟨fsc_17, hgc_17, hOc_17⟩ := hW77.obj (i := 3) (by decide) (sh_3 ad K)
                  obtain ⟨x_19, hk_18, hlx_19, hhx_19⟩ := hOc_17.int 4 rfl
                  refine q_get X iX2_compare_6 hP (by decide) hgc_17 rfl 4 (by decide) (List.mem_of_getElem? (i := 1) rfl) (v := .int x_19) hk_18 dX2_compare_80 ?_
                  refine lv_icmp_ge (tgt := 138) hx hb dX2_compare_83 (by decide) (fun hc_20 => ?_) (fun hc_20 => ?_)
                  · have hhc_20 := n_le (rfl : x_19.toInt = x_19.toInt) (rfl : v77_4.toInt = v77_4.toInt) hc_20
                    obtain ⟨x_21, ex_21⟩ : ∃ y : Int32, y = v66_3 + 1 := ⟨_, rfl⟩
                    have hx_21 : x_21.toInt = v66_3.toInt + 1 := n_add rfl (by decide : (1 : Int32).toInt = 1) ex_21 (by omega) (by omega)
                    refine lv_iinc (v := x_21) (lv' := [(3, .int x_21), (4, .int v77_4), (0, .ref (ad 190)), (1, .ref (ad 3))]) hx hb dX2_compare_138 hl (k := 1) rfl (by rw [ex_21]; rfl) (by decide) rfl (fun ls hl => ?_)
                    refine lv_goto (tgt := 66) hx hb dX2_compare_141 (by decide) ?_
                    exact ih66 x_21 G77 _ _ ls (by omega) (by omega) hW77 hfr77 hP hS (lv_sub hl [0, 2, 3] rfl)
                  · have hhc_20 := n_nle (rfl : x_19.toInt = x_19.toInt) (rfl : v77_4.toInt = v77_4.toInt) hc_20
                    refine lv_aload_n hx hb dX2_compare_86 rfl (lv_at hl 2 rfl) ?_
                    refine lv_aload_n hx hb dX2_compare_87 rfl (lv_at hl 3 rfl) ?_
                    refine lv_iload_n hx hb dX2_compare_88 rfl (lv_at hl 1 rfl) ?_
                    refine lv_iload hx hb dX2_compare_89 (lv_at hl 0 rfl) ?_
                    obtain ⟨fsc_25, hgc_25, hOc_25⟩ := hW77.obj (i := 190) (by decide) (sh_190 ad K)
                    refine s_calli (q := (RX2, TX2, 3)) (As := [.ref (ad 3), .int v66_3, .int v77_4]) (rest := []) X Z (s_X2_isRest l D cs ad kS K hKO hj G77 hW77 v66_3 v77_4 (by omega) (by omega)) (cwV 3 X.2.2.2.2.1 gg_X2_compare_X2_isRest rfl rfl rfl (by decide +kernel) ⟨Nat.le_of_ble_eq_true rfl, Nat.le_of_ble_eq_true rfl⟩) (by decide) hgc_25 rfl hP hA hS.2.1 hS rfl hl.1 rfl (Nat.le_of_ble_eq_true rfl) dX2_compare_91 ⟨Nat.le_of_ble_eq_true rfl, Nat.le_of_ble_eq_true rfl⟩ (fun r_24 g_23 H locs hw_22 hP hS => ?_)
                    obtain ⟨hw_22g, hw_22⟩ := hw_22
                    rw [hw_22g] at hP
                    have HJ132 : ∀ (G132 : Nat → va_E) (H : Heap) (locs : List Loc) (ls : Array Slot), WF (shp ad K) ad cs G132 → (∀ j, j ≠ 190 ∧ (j < 192 ∨ 197 ≤ j) → G132 j = g j) → G132 3 = .inr (6, fsc_17) → va_P D vwCl (wL ad G132 218) H → va_S (wA ad 218) s.heap H locs → lv_has ls 5 [(4, .int v77_4), (3, .int v66_3), (0, .ref (ad 190)), (1, .ref (ad 3))] → W p l e ({ frames := 3, cells := 0, slots := 0, locals := 75 } : Room) s m ([.ref (ad 190), .ref (ad 3), .ref (ad 114)] : List Value).toArray below meth c H locs 0 0 (MQ below (qV D ad 218 (fun g2 => WF (shp ad K) ad cs g2 ∧ (∀ j, j ≠ 190 ∧ (j < 192 ∨ 197 ≤ j) → g2 j = g j))) ([.ref (ad 190), .ref (ad 3), .ref (ad 114)] : List Value).toArray s 0 0 (wA ad 218)) (F0 m 132 ls []) := by
                      intro G132 H locs ls hW132 hfr132 hg132_0 hP hS hl
                      obtain ⟨x_26, ex_26⟩ : ∃ y : Int32, y = v77_4 + 1 := ⟨_, rfl⟩
                      have hx_26 : x_26.toInt = v77_4.toInt + 1 := n_add rfl (by decide : (1 : Int32).toInt = 1) ex_26 (by omega) (by omega)
                      refine lv_iinc (v := x_26) (lv' := [(4, .int x_26), (3, .int v66_3), (0, .ref (ad 190)), (1, .ref (ad 3))]) hx hb dX2_compare_132 hl (k := 0) rfl (by rw [ex_26]; rfl) (by decide) rfl (fun ls hl => ?_)
                      refine lv_goto (tgt := 77) hx hb dX2_compare_135 (by decide) ?_
                      exact ih77 x_26 G132 _ _ ls (by omega) (by omega) hW132 hfr132 hP hS (lv_sub hl [0, 1, 2, 3] rfl)
                    refine lv_if_eq (tgt := 132) hx hb dX2_compare_94 (by decide) (fun hc_27 => ?_) (fun hc_27 => ?_)
                    · have hhc_27 := n_eq (rfl : r_24.toInt = r_24.toInt) (by decide : (0 : Int32).toInt = 0) hc_27
                      exact HJ132 G77 _ _ ls hW77 hfr77 hgc_17 hP hS (lv_sub hl [0, 1, 2, 3] rfl)
                    · have hhc_27 := n_ne (rfl : r_24.toInt = r_24.toInt) (by decide : (0 : Int32).toInt = 0) hc_27
                      refine lv_aload_n hx hb dX2_compare_97 rfl (lv_at hl 2 rfl) ?_
                      refine lv_aload_n hx hb dX2_compare_98 rfl (lv_at hl 2 rfl) ?_
                      obtain ⟨x_29, hk_28, -⟩ := hOc_25.int 0 rfl
                      refine q_get X iX2_compare_2 hP (by decide) hgc_25 rfl 0 (by decide) (List.mem_of_getElem? (i := 10) rfl) (v := .int x_29) hk_28 dX2_compare_99 ?_
                      refine lv_if_ne (tgt := 115) hx hb dX2_compare_102 (by decide) (fun hc_30 => ?_) (fun hc_30 => ?_)
                      · have hhc_30 := n_ne (rfl : x_29.toInt = x_29.toInt) (by decide : (0 : Int32).toInt = 0) hc_30
                        refine lv_aload_n hx hb dX2_compare_115 rfl (lv_at hl 2 rfl) ?_
                        obtain ⟨x_32, hk_31, -⟩ := hOc_25.int 1 rfl
                        refine q_get X iX2_compare_2 hP (by decide) hgc_25 rfl 1 (by decide) (List.mem_of_getElem? (i := 11) rfl) (v := .int x_32) hk_31 dX2_compare_116 ?_
                        refine s_put X iX2_compare_2 tyX2 tyX2_ok nmX2 hP hj hA hS (by decide) hgc_25 rfl 1 (by decide) (List.mem_of_getElem? (i := 11) rfl) rfl (ty := .int) (v := .int x_32) (by decide +kernel) rfl rfl dX2_compare_119 hW77 (sh_190 ad K) hOc_25 rfl ⟨x_32, rfl, n_lo _, n_hi _⟩ (fun fsc_33 gc_33 H locs hOc_33 hkc_33 hnc_33 hgc_33 hfc_33 hWc_33 hP hS => ?_)
                        have hk_34 := (hnc_33 0 (by decide)).trans hk_28
                        have hg_36 := (hfc_33 3 (by decide)).trans hgc_17
                        have hfr_35 : ∀ j, j ≠ 190 ∧ (j < 192 ∨ 197 ≤ j) → gc_33 j = g j := fun j hj => (hfc_33 j (by omega)).trans (hfr77 j hj)
                        refine lv_aload_n hx hb dX2_compare_122 rfl (lv_at hl 2 rfl) ?_
                        refine lv_dup hx hb dX2_compare_123 rfl ?_
                        refine q_get X iX2_compare_2 hP (by decide) hgc_33 rfl 0 (by decide) (List.mem_of_getElem? (i := 10) rfl) (v := .int x_29) hk_34 dX2_compare_124 ?_
                        refine lv_iconst (v := 1) hx hb dX2_compare_127 (by decide) ?_
                        refine lv_iadd hx hb dX2_compare_128 ?_
                        refine lv_topi (fun z_37 ez_37 => ?_)
                        refine s_put X iX2_compare_2 tyX2 tyX2_ok nmX2 hP hj hA hS (by decide) hgc_33 rfl 0 (by decide) (List.mem_of_getElem? (i := 10) rfl) rfl (ty := .int) (v := .int z_37) (by decide +kernel) rfl rfl dX2_compare_129 hWc_33 (sh_190 ad K) hOc_33 rfl ⟨z_37, rfl, n_lo _, n_hi _⟩ (fun fsc_38 gc_38 H locs hOc_38 hkc_38 hnc_38 hgc_38 hfc_38 hWc_38 hP hS => ?_)
                        have hk_39 := (hnc_38 1 (by decide)).trans hkc_33
                        have hg_41 := (hfc_38 3 (by decide)).trans hg_36
                        have hfr_40 : ∀ j, j ≠ 190 ∧ (j < 192 ∨ 197 ≤ j) → gc_38 j = g j := fun j hj => (hfc_38 j (by omega)).trans (hfr_35 j hj)
                        exact HJ132 gc_38 _ _ ls hWc_38 hfr_40 hg_41 hP hS (lv_sub hl [0, 1, 2, 3] rfl)
                      · have hhc_30 := n_eq (rfl : x_29.toInt = x_29.toInt) (by decide : (0 : Int32).toInt = 0) hc_30
                        refine lv_bipush (v := 10) hx hb dX2_compare_105 (by decide) ?_
                        refine lv_iload_n hx hb dX2_compare_107 rfl (lv_at hl 1 rfl) ?_
                        refine lv_imul hx hb dX2_compare_108 ?_
                        refine lv_topi (fun z_42 ez_42 => ?_)
                        have hz_42 : z_42.toInt = 10 * v66_3.toInt := n_mul (by decide : (10 : Int32).toInt = 10) (rfl : v66_3.toInt = v66_3.toInt) ez_42 (by omega) (by omega)
                        refine lv_iload hx hb dX2_compare_109 (lv_at hl 0 rfl) ?_
                        refine lv_iadd hx hb dX2_compare_111 ?_
                        refine lv_topi (fun z_43 ez_43 => ?_)
                        have hz_43 : z_43.toInt = z_42.toInt + v77_4.toInt := n_add (rfl : z_42.toInt = z_42.toInt) (rfl : v77_4.toInt = v77_4.toInt) ez_43 (by omega) (by omega)
                        refine lv_goto (tgt := 119) hx hb dX2_compare_112 (by decide) ?_
                        refine s_put X iX2_compare_2 tyX2 tyX2_ok nmX2 hP hj hA hS (by decide) hgc_25 rfl 1 (by decide) (List.mem_of_getElem? (i := 11) rfl) rfl (ty := .int) (v := .int z_43) (by decide +kernel) rfl rfl dX2_compare_119 hW77 (sh_190 ad K) hOc_25 rfl ⟨z_43, rfl, n_lo _, n_hi _⟩ (fun fsc_44 gc_44 H locs hOc_44 hkc_44 hnc_44 hgc_44 hfc_44 hWc_44 hP hS => ?_)
                        have hk_45 := (hnc_44 0 (by decide)).trans hk_28
                        have hg_47 := (hfc_44 3 (by decide)).trans hgc_17
                        have hfr_46 : ∀ j, j ≠ 190 ∧ (j < 192 ∨ 197 ≤ j) → gc_44 j = g j := fun j hj => (hfc_44 j (by omega)).trans (hfr77 j hj)
                        refine lv_aload_n hx hb dX2_compare_122 rfl (lv_at hl 2 rfl) ?_
                        refine lv_dup hx hb dX2_compare_123 rfl ?_
                        refine q_get X iX2_compare_2 hP (by decide) hgc_44 rfl 0 (by decide) (List.mem_of_getElem? (i := 10) rfl) (v := .int x_29) hk_45 dX2_compare_124 ?_
                        refine lv_iconst (v := 1) hx hb dX2_compare_127 (by decide) ?_
                        refine lv_iadd hx hb dX2_compare_128 ?_
                        refine lv_topi (fun z_48 ez_48 => ?_)
                        have hz_48 : z_48.toInt = x_29.toInt + 1 := n_add (rfl : x_29.toInt = x_29.toInt) (by decide : (1 : Int32).toInt = 1) ez_48 (by omega) (by omega)
                        refine s_put X iX2_compare_2 tyX2 tyX2_ok nmX2 hP hj hA hS (by decide) hgc_44 rfl 0 (by decide) (List.mem_of_getElem? (i := 10) rfl) rfl (ty := .int) (v := .int z_48) (by decide +kernel) rfl rfl dX2_compare_129 hWc_44 (sh_190 ad K) hOc_44 rfl ⟨z_48, rfl, n_lo _, n_hi _⟩ (fun fsc_49 gc_49 H locs hOc_49 hkc_49 hnc_49 hgc_49 hfc_49 hWc_49 hP hS => ?_)
                        have hk_50 := (hnc_49 1 (by decide)).trans hkc_44
                        have hg_52 := (hfc_49 3 (by decide)).trans hg_47
                        have hfr_51 : ∀ j, j ≠ 190 ∧ (j < 192 ∨ 197 ≤ j) → gc_49 j = g j := fun j hj => (hfc_49 j (by omega)).trans (hfr_46 j hj)
                        exact HJ132 gc_49 _ _ ls hWc_49 hfr_51 hg_52 hP hS (lv_sub hl [0, 1, 2, 3] rfl)
              have hiv77_4 : (0 : Int32).toInt = 0 := by decide
              exact HL77 _ 0 G66 _ _ ls (Nat.lt_succ_self _) (by omega) hW66 hfr66 hP hS (lv_sub hl [0, 1, 2, 3] rfl)
        have hiv66_3 : (0 : Int32).toInt = 0 := by decide
        exact HL66 _ 0 gc_9 _ _ ls (Nat.lt_succ_self _) (by omega) hWc_9 hfr_11 hP hS (lv_sub hl [0, 1, 2] rfl)
      · have hhc_4 := n_nle (rfl : x_3.toInt = x_3.toInt) (rfl : v2_3.toInt = v2_3.toInt) hc_4
        refine lv_iconst (v := 0) hx hb dX2_compare_10 (by decide) ?_
        refine lv_istore (lv' := [(4, .int 0), (3, .int v2_3), (0, .ref (ad 190)), (1, .ref (ad 3)), (2, .ref (ad 114))]) hx hb dX2_compare_11 hl (by decide) rfl (fun ls hl => ?_)
        have HL13 : ∀ (n13 : Nat) (v13_4 : Int32) (G13 : Nat → va_E) (H : Heap) (locs : List Loc) (ls : Array Slot), (5 - v13_4.toInt).toNat < n13 → (0 ≤ v13_4.toInt ∧ v13_4.toInt ≤ 5) → WF (shp ad K) ad cs G13 → (∀ j, j ≠ 190 ∧ (j < 192 ∨ 197 ≤ j) → G13 j = g j) → va_P D vwCl (wL ad G13 218) H → va_S (wA ad 218) s.heap H locs → lv_has ls 5 [(4, .int v13_4), (3, .int v2_3), (0, .ref (ad 190)), (1, .ref (ad 3)), (2, .ref (ad 114))] → W p l e ({ frames := 3, cells := 0, slots := 0, locals := 75 } : Room) s m ([.ref (ad 190), .ref (ad 3), .ref (ad 114)] : List Value).toArray below meth c H locs 0 0 (MQ below (qV D ad 218 (fun g2 => WF (shp ad K) ad cs g2 ∧ (∀ j, j ≠ 190 ∧ (j < 192 ∨ 197 ≤ j) → g2 j = g j))) ([.ref (ad 190), .ref (ad 3), .ref (ad 114)] : List Value).toArray s 0 0 (wA ad 218)) (F0 m 13 ls []) := by
          intro n13
          induction n13 with
          | zero =>
            intro v13_4 G13 H locs ls hm13 hv13_0 hW13 hfr13 hP hS hl
            exact absurd hm13 (Nat.not_lt_zero _)
          | succ n13 ih13 =>
            intro v13_4 G13 H locs ls hm13 hv13_0 hW13 hfr13 hP hS hl
            refine lv_iload hx hb dX2_compare_13 (lv_at hl 0 rfl) ?_
            refine lv_aload_n hx hb dX2_compare_15 rfl (lv_at hl 3 rfl) ?_
            obtain ⟨fsc_53, hgc_53, hOc_53⟩ := hW13.obj (i := 3) (by decide) (sh_3 ad K)
            obtain ⟨x_55, hk_54, hlx_55, hhx_55⟩ := hOc_53.int 4 rfl
            refine q_get X iX2_compare_6 hP (by decide) hgc_53 rfl 4 (by decide) (List.mem_of_getElem? (i := 1) rfl) (v := .int x_55) hk_54 dX2_compare_16 ?_
            refine lv_icmp_ge (tgt := 48) hx hb dX2_compare_19 (by decide) (fun hc_56 => ?_) (fun hc_56 => ?_)
            · have hhc_56 := n_le (rfl : x_55.toInt = x_55.toInt) (rfl : v13_4.toInt = v13_4.toInt) hc_56
              obtain ⟨x_57, ex_57⟩ : ∃ y : Int32, y = v2_3 + 1 := ⟨_, rfl⟩
              have hx_57 : x_57.toInt = v2_3.toInt + 1 := n_add rfl (by decide : (1 : Int32).toInt = 1) ex_57 (by omega) (by omega)
              refine lv_iinc (v := x_57) (lv' := [(3, .int x_57), (4, .int v13_4), (0, .ref (ad 190)), (1, .ref (ad 3)), (2, .ref (ad 114))]) hx hb dX2_compare_48 hl (k := 1) rfl (by rw [ex_57]; rfl) (by decide) rfl (fun ls hl => ?_)
              refine lv_goto (tgt := 2) hx hb dX2_compare_51 (by decide) ?_
              exact ih2 x_57 G13 _ _ ls (by omega) (by omega) hW13 hfr13 hP hS (lv_sub hl [0, 2, 3, 4] rfl)
            · have hhc_56 := n_nle (rfl : x_55.toInt = x_55.toInt) (rfl : v13_4.toInt = v13_4.toInt) hc_56
              refine lv_aload_n hx hb dX2_compare_22 rfl (lv_at hl 2 rfl) ?_
              obtain ⟨fsc_58, hgc_58, hOc_58⟩ := hW13.obj (i := 190) (by decide) (sh_190 ad K)
              have hk_59 := hOc_58.ref 2 rfl
              refine q_get X iX2_compare_2 hP (by decide) hgc_58 rfl 2 (by decide) (List.mem_of_getElem? (i := 2) rfl) (v := .ref (ad 191)) hk_59 dX2_compare_23 ?_
              refine lv_iload_n hx hb dX2_compare_26 rfl (lv_at hl 1 rfl) ?_
              obtain ⟨fc_60, hgc_60, hFc_60⟩ := hW13.aref (i := 191) (by decide) (sh_191 ad K)
              obtain ⟨e_61, h_e_61, e_e_61⟩ : ∃ q : Nat, q < 5 ∧ v2_3.toNatClampNeg = q := ⟨_, by have := n_cl (rfl : v2_3.toInt = v2_3.toInt) (by omega); omega, rfl⟩
              refine s_aald X hP 6 rfl rfl (by decide) hgc_60 (n_in (rfl : v2_3.toInt = v2_3.toInt) (by omega) (by omega)) (v := ad (192 + e_61)) (by rw [e_e_61, hFc_60 _ h_e_61, Nat.one_mul]) dX2_compare_27 ?_
              refine lv_iload hx hb dX2_compare_28 (lv_at hl 0 rfl) ?_
              refine lv_aload_n hx hb dX2_compare_30 rfl (lv_at hl 4 rfl) ?_
              refine lv_aload_n hx hb dX2_compare_31 rfl (lv_at hl 3 rfl) ?_
              refine lv_iload_n hx hb dX2_compare_32 rfl (lv_at hl 1 rfl) ?_
              refine lv_iload hx hb dX2_compare_33 (lv_at hl 0 rfl) ?_
              obtain ⟨fsc_65, hgc_65, hOc_65⟩ := hW13.obj (i := 114) (by decide) (sh_114 ad K)
              refine s_calli (q := (RX10, TX10, 4)) (As := [.ref (ad 3), .int v2_3, .int v13_4]) (rest := [.int v13_4, .ref (ad (192 + e_61))]) X Z (s_X10_daysOfOneTime l D cs ad kS K hKO hj G13 hW13 114 v2_3 v13_4 (by omega)) (cwV 3 X.2.2.2.2.1 gg_X2_compare_X10_daysOfOneTime rfl rfl rfl (by decide +kernel) ⟨Nat.le_of_ble_eq_true rfl, Nat.le_of_ble_eq_true rfl⟩) (by decide) hgc_65 rfl hP hA hS.2.1 hS rfl hl.1 rfl (Nat.le_of_ble_eq_true rfl) dX2_compare_35 ⟨Nat.le_of_ble_eq_true rfl, Nat.le_of_ble_eq_true rfl⟩ (fun r_64 g_63 H locs hw_62 hP hS => ?_)
              rw [hw_62] at hP
              refine s_callSi (As := [.int r_64]) (rest := [.int v13_4, .ref (ad (192 + e_61))]) X Z (s_J6_bitCount_0f7a4 l D cs ad kS K hKO hj G13 hW13 r_64) (va_cwS 1 X.2.2.2.2.1 gg_X2_compare_J6_bitCount_0f7a4 rfl rfl rfl (by decide +kernel) ⟨Nat.le_of_ble_eq_true rfl, Nat.le_of_ble_eq_true rfl⟩) hP hA hS.2.1 hS rfl hl.1 rfl (Nat.le_of_ble_eq_true rfl) dX2_compare_38 ⟨Nat.le_of_ble_eq_true rfl, Nat.le_of_ble_eq_true rfl⟩ (fun r_68 g_67 H locs hw_66 hP hS => ?_)
              obtain ⟨hw_66g, hw_66⟩ := hw_66
              rw [hw_66g] at hP
              obtain ⟨fc_69, hgc_69, hFc_69⟩ := hW13.arr (i := (192 + e_61)) (by omega) (shR_192 ad K h_e_61)
              refine s_iast X hP hj hA hS (by omega) hgc_69 (n_in (rfl : v13_4.toInt = v13_4.toInt) (by omega) (by omega)) dX2_compare_41 hW13 (shR_192 ad K h_e_61) (hFc_69.put trivial) (fun fc_70 gc_70 H locs ec_70 hFc_70 hgc_70 hfc_70 hWc_70 hP hS => ?_)
              have hg_72 := (hfc_70 3 (by omega)).trans hgc_53
              have hg_73 := (hfc_70 190 (by omega)).trans hgc_58
              have hg_74 := (hfc_70 191 (by omega)).trans hgc_60
              have hg_75 := (hfc_70 114 (by omega)).trans hgc_65
              have hfr_71 : ∀ j, j ≠ 190 ∧ (j < 192 ∨ 197 ≤ j) → gc_70 j = g j := fun j hj => (hfc_70 j (by omega)).trans (hfr13 j hj)
              obtain ⟨x_76, ex_76⟩ : ∃ y : Int32, y = v13_4 + 1 := ⟨_, rfl⟩
              have hx_76 : x_76.toInt = v13_4.toInt + 1 := n_add rfl (by decide : (1 : Int32).toInt = 1) ex_76 (by omega) (by omega)
              refine lv_iinc (v := x_76) (lv' := [(4, .int x_76), (3, .int v2_3), (0, .ref (ad 190)), (1, .ref (ad 3)), (2, .ref (ad 114))]) hx hb dX2_compare_42 hl (k := 0) rfl (by rw [ex_76]; rfl) (by decide) rfl (fun ls hl => ?_)
              refine lv_goto (tgt := 13) hx hb dX2_compare_45 (by decide) ?_
              exact ih13 x_76 gc_70 _ _ ls (by omega) (by omega) hWc_70 hfr_71 hP hS (lv_sub hl [0, 1, 2, 3, 4] rfl)
        have hiv13_4 : (0 : Int32).toInt = 0 := by decide
        exact HL13 _ 0 G2 _ _ ls (Nat.lt_succ_self _) (by omega) hW2 hfr2 hP hS (lv_sub hl [0, 1, 2, 3, 4] rfl)
  have hiv2_3 : (0 : Int32).toInt = 0 := by decide
  exact HL2 _ 0 g _ _ ls (Nat.lt_succ_self _) (by omega) hW hfr hP hS (lv_sub hl [0, 1, 2, 3] rfl)

theorem dX11_rests_0 : decode cX11_rests 0 = .ok (.aload_n 0, 1) := by decide +kernel
theorem dX11_rests_1 : decode cX11_rests 1 = .ok (.invokevirtual 195, 3) := by decide +kernel
theorem dX11_rests_4 : decode cX11_rests 4 = .ok (.ifCond .ne 6, 3) := by decide +kernel
theorem dX11_rests_7 : decode cX11_rests 7 = .ok (.bipush (-2), 2) := by decide +kernel
theorem dX11_rests_9 : decode cX11_rests 9 = .ok (.ireturn, 1) := by decide +kernel
theorem dX11_rests_10 : decode cX11_rests 10 = .ok (.aload_n 0, 1) := by decide +kernel
theorem dX11_rests_11 : decode cX11_rests 11 = .ok (.getfield 89, 3) := by decide +kernel
theorem dX11_rests_14 : decode cX11_rests 14 = .ok (.aload_n 0, 1) := by decide +kernel
theorem dX11_rests_15 : decode cX11_rests 15 = .ok (.getfield 19, 3) := by decide +kernel
theorem dX11_rests_18 : decode cX11_rests 18 = .ok (.aload_n 0, 1) := by decide +kernel
theorem dX11_rests_19 : decode cX11_rests 19 = .ok (.getfield 44, 3) := by decide +kernel
theorem dX11_rests_22 : decode cX11_rests 22 = .ok (.invokevirtual 333, 3) := by decide +kernel
theorem dX11_rests_25 : decode cX11_rests 25 = .ok (.aload_n 0, 1) := by decide +kernel
theorem dX11_rests_26 : decode cX11_rests 26 = .ok (.getfield 89, 3) := by decide +kernel
theorem dX11_rests_29 : decode cX11_rests 29 = .ok (.getfield 336, 3) := by decide +kernel
theorem dX11_rests_32 : decode cX11_rests 32 = .ok (.ireturn, 1) := by decide +kernel
noncomputable def vX11_rests : List Cond := .code yX11_rests cX11_rests 1 (some .int) :: (([.methodLink RX11 195 yX11_isTold, .instanceMethod yX11_isTold, .selects RX11 yX11_isTold yX11_isTold, .initialized RX11, .fieldLink RX11 89 "IcicleClock" "clerks" "LIcicleClock$Clerks;", .fieldLink RX11 19 "IcicleClock" "now" "LIcicleClock$Street;", .fieldLink RX11 44 "IcicleClock" "winter" "LIcicleClock$Winter;", .methodLink RX11 333 yX2_compare, .instanceMethod yX2_compare, .selects RX2 yX2_compare yX2_compare, .initialized RX2, .fieldLink RX11 336 "IcicleClock$Clerks" "resting" "I"] : List Cond) ++ (wsX110 ++ (wsX20 ++ (vX11_isTold ++ vX2_compare))))
theorem iX11_rests_11 : ∀ w ∈ wsX110, w ∈ vX11_rests := fun _ h => List.mem_cons_of_mem _ (List.mem_append_right _ (List.mem_append_left _ h))
theorem iX11_rests_2 : ∀ w ∈ wsX20, w ∈ vX11_rests := fun _ h => List.mem_cons_of_mem _ (List.mem_append_right _ (List.mem_append_right _ (List.mem_append_left _ h)))
theorem gs_X11_rests : Gd vX11_rests := Gd.cons (by decide +kernel) (Gd.app (Gd.r (by decide +kernel)) (Gd.app gwX_11 (Gd.app gwX_2 (Gd.app gs_X11_isTold gs_X2_compare))))
theorem gg_X11_rests_X11_isTold : GoodIn vX11_rests (wsV RX11 195 RX11 yX11_isTold vX11_isTold) := goodIn_app (goodIn_r _ [1, 2, 3, 4] (by decide +kernel) (by decide +kernel)) (fun w h => ⟨List.mem_cons_of_mem _ (List.mem_append_right _ (List.mem_append_right _ (List.mem_append_right _ (List.mem_append_left _ h)))), gs_X11_isTold w h⟩)
theorem gg_X11_rests_X2_compare : GoodIn vX11_rests (wsV RX11 333 RX2 yX2_compare vX2_compare) := goodIn_app (goodIn_r _ [8, 9, 10, 11] (by decide +kernel) (by decide +kernel)) (fun w h => ⟨List.mem_cons_of_mem _ (List.mem_append_right _ (List.mem_append_right _ (List.mem_append_right _ (List.mem_append_right _ (h))))), gs_X2_compare w h⟩)
set_option maxHeartbeats 4000000 in
set_option maxRecDepth 100000 in
theorem s_X11_rests (l : Launch) (D : va_G) (cs : Nat → ClassId) (ad : Nat → Nat) (kS : kSt) (K : sK) (hKO : KO K) (hj : wJ ad 218) (g : Nat → va_E) (hW : WF (shp ad K) ad cs g) : sI l yX11_rests vX11_rests { frames := 4, cells := 0, slots := 0, locals := 99 } D cs ad kS [.ref (ad 0)] g (fun r g2 => WF (shp ad K) ad cs g2 ∧ (∀ j, j ≠ 190 ∧ (j < 192 ∨ 197 ≤ j) → g2 j = g j)) := by
  refine Met.startS (cc := cX11_rests) (maxL := 1) (ret := (some .int)) RX11 rfl (by decide) rfl (Nat.le_of_ble_eq_true rfl) ?_
  intro p e s m below meth c ls X Z hP hl
  have hx := X.1
  have hb := X.2.1
  have hS : va_S (wA ad 218) s.heap s.heap [] := va_S.rf
  have hA : ∀ i, i < 218 → wA ad 218 (ad i) := fun i h => ⟨i, h, rfl⟩
  have hfr : ∀ j, j ≠ 190 ∧ (j < 192 ∨ 197 ≤ j) → g j = g j := fun _ _ => rfl
  have hl : lv_has ls 1 [(0, .ref (ad 0))] := hl
  refine lv_aload_n hx hb dX11_rests_0 rfl (lv_at hl 0 rfl) ?_
  obtain ⟨fsc_4, hgc_4, hOc_4⟩ := hW.obj (i := 0) (by decide) (sh_0 ad K)
  refine s_calli (q := (RX11, TX11, 14)) (As := []) (rest := []) X Z (s_X11_isTold l D cs ad kS K hKO hj g hW) (cwV 0 X.2.2.2.2.1 gg_X11_rests_X11_isTold rfl rfl rfl (by decide +kernel) ⟨Nat.le_of_ble_eq_true rfl, Nat.le_of_ble_eq_true rfl⟩) (by decide) hgc_4 rfl hP hA hS.2.1 hS rfl hl.1 rfl (Nat.le_of_ble_eq_true rfl) dX11_rests_1 ⟨Nat.le_of_ble_eq_true rfl, Nat.le_of_ble_eq_true rfl⟩ (fun r_3 g_2 H locs hw_1 hP hS => ?_)
  obtain ⟨hw_1g, hw_1⟩ := hw_1
  rw [hw_1g] at hP
  refine lv_if_ne (tgt := 10) hx hb dX11_rests_4 (by decide) (fun hc_5 => ?_) (fun hc_5 => ?_)
  · have hhc_5 := n_ne (rfl : r_3.toInt = r_3.toInt) (by decide : (0 : Int32).toInt = 0) hc_5
    refine lv_aload_n hx hb dX11_rests_10 rfl (lv_at hl 0 rfl) ?_
    have hk_6 := hOc_4.ref 13 rfl
    refine q_get X iX11_rests_11 hP (by decide) hgc_4 rfl 13 (by decide) (List.mem_of_getElem? (i := 5) rfl) (v := .ref (ad 190)) hk_6 dX11_rests_11 ?_
    refine lv_aload_n hx hb dX11_rests_14 rfl (lv_at hl 0 rfl) ?_
    have hk_7 := hOc_4.ref 1 rfl
    refine q_get X iX11_rests_11 hP (by decide) hgc_4 rfl 1 (by decide) (List.mem_of_getElem? (i := 6) rfl) (v := .ref (ad 3)) hk_7 dX11_rests_15 ?_
    refine lv_aload_n hx hb dX11_rests_18 rfl (lv_at hl 0 rfl) ?_
    have hk_8 := hOc_4.ref 6 rfl
    refine q_get X iX11_rests_11 hP (by decide) hgc_4 rfl 6 (by decide) (List.mem_of_getElem? (i := 7) rfl) (v := .ref (ad 114)) hk_8 dX11_rests_19 ?_
    obtain ⟨fsc_12, hgc_12, hOc_12⟩ := hW.obj (i := 190) (by decide) (sh_190 ad K)
    refine s_callv (q := (RX2, TX2, 3)) (As := [.ref (ad 3), .ref (ad 114)]) (rest := []) X Z (s_X2_compare l D cs ad kS K hKO hj g hW) (cwV 2 X.2.2.2.2.1 gg_X11_rests_X2_compare rfl rfl rfl (by decide +kernel) ⟨Nat.le_of_ble_eq_true rfl, Nat.le_of_ble_eq_true rfl⟩) (by decide) hgc_12 rfl hP hA hS.2.1 hS rfl hl.1 rfl (Nat.le_of_ble_eq_true rfl) dX11_rests_22 ⟨Nat.le_of_ble_eq_true rfl, Nat.le_of_ble_eq_true rfl⟩ (fun g_10 H locs hw_9 hP hS => ?_)
    obtain ⟨hw_9W, hw_9f⟩ := hw_9
    have hfr_13 : ∀ j, j ≠ 190 ∧ (j < 192 ∨ 197 ≤ j) → g_10 j = g j := fun j hj => (hw_9f j (by omega)).trans (hfr j hj)
    have hg_14 := (hw_9f 0 (by omega)).trans hgc_4
    refine lv_aload_n hx hb dX11_rests_25 rfl (lv_at hl 0 rfl) ?_
    refine q_get X iX11_rests_11 hP (by decide) hg_14 rfl 13 (by decide) (List.mem_of_getElem? (i := 5) rfl) (v := .ref (ad 190)) hk_6 dX11_rests_26 ?_
    obtain ⟨fsc_15, hgc_15, hOc_15⟩ := hw_9W.obj (i := 190) (by decide) (sh_190 ad K)
    obtain ⟨x_17, hk_16, -⟩ := hOc_15.int 0 rfl
    refine q_get X iX11_rests_2 hP (by decide) hgc_15 rfl 0 (by decide) (List.mem_of_getElem? (i := 12) rfl) (v := .int x_17) hk_16 dX11_rests_29 ?_
    exact q_iret X hP hS ⟨hw_9W, hfr_13⟩ dX11_rests_32
  · have hhc_5 := n_eq (rfl : r_3.toInt = r_3.toInt) (by decide : (0 : Int32).toInt = 0) hc_5
    refine lv_bipush (v := (-2)) hx hb dX11_rests_7 (by decide) ?_
    exact q_iret X hP hS ⟨hW, hfr⟩ dX11_rests_9

theorem dX11_rest_0 : decode cX11_rest 0 = .ok (.aload_n 0, 1) := by decide +kernel
theorem dX11_rest_1 : decode cX11_rest 1 = .ok (.invokevirtual 195, 3) := by decide +kernel
theorem dX11_rest_4 : decode cX11_rest 4 = .ok (.ifCond .ne 6, 3) := by decide +kernel
theorem dX11_rest_7 : decode cX11_rest 7 = .ok (.bipush (-2), 2) := by decide +kernel
theorem dX11_rest_9 : decode cX11_rest 9 = .ok (.ireturn, 1) := by decide +kernel
theorem dX11_rest_10 : decode cX11_rest 10 = .ok (.aload_n 0, 1) := by decide +kernel
theorem dX11_rest_11 : decode cX11_rest 11 = .ok (.getfield 89, 3) := by decide +kernel
theorem dX11_rest_14 : decode cX11_rest 14 = .ok (.aload_n 0, 1) := by decide +kernel
theorem dX11_rest_15 : decode cX11_rest 15 = .ok (.getfield 19, 3) := by decide +kernel
theorem dX11_rest_18 : decode cX11_rest 18 = .ok (.aload_n 0, 1) := by decide +kernel
theorem dX11_rest_19 : decode cX11_rest 19 = .ok (.getfield 44, 3) := by decide +kernel
theorem dX11_rest_22 : decode cX11_rest 22 = .ok (.invokevirtual 333, 3) := by decide +kernel
theorem dX11_rest_25 : decode cX11_rest 25 = .ok (.aload_n 0, 1) := by decide +kernel
theorem dX11_rest_26 : decode cX11_rest 26 = .ok (.getfield 89, 3) := by decide +kernel
theorem dX11_rest_29 : decode cX11_rest 29 = .ok (.getfield 339, 3) := by decide +kernel
theorem dX11_rest_32 : decode cX11_rest 32 = .ok (.ireturn, 1) := by decide +kernel
noncomputable def vX11_rest : List Cond := .code yX11_rest cX11_rest 1 (some .int) :: (([.methodLink RX11 195 yX11_isTold, .instanceMethod yX11_isTold, .selects RX11 yX11_isTold yX11_isTold, .initialized RX11, .fieldLink RX11 89 "IcicleClock" "clerks" "LIcicleClock$Clerks;", .fieldLink RX11 19 "IcicleClock" "now" "LIcicleClock$Street;", .fieldLink RX11 44 "IcicleClock" "winter" "LIcicleClock$Winter;", .methodLink RX11 333 yX2_compare, .instanceMethod yX2_compare, .selects RX2 yX2_compare yX2_compare, .initialized RX2, .fieldLink RX11 339 "IcicleClock$Clerks" "first" "I"] : List Cond) ++ (wsX110 ++ (wsX20 ++ (vX11_isTold ++ vX2_compare))))
theorem iX11_rest_11 : ∀ w ∈ wsX110, w ∈ vX11_rest := fun _ h => List.mem_cons_of_mem _ (List.mem_append_right _ (List.mem_append_left _ h))
theorem iX11_rest_2 : ∀ w ∈ wsX20, w ∈ vX11_rest := fun _ h => List.mem_cons_of_mem _ (List.mem_append_right _ (List.mem_append_right _ (List.mem_append_left _ h)))
theorem gs_X11_rest : Gd vX11_rest := Gd.cons (by decide +kernel) (Gd.app (Gd.r (by decide +kernel)) (Gd.app gwX_11 (Gd.app gwX_2 (Gd.app gs_X11_isTold gs_X2_compare))))
theorem gg_X11_rest_X11_isTold : GoodIn vX11_rest (wsV RX11 195 RX11 yX11_isTold vX11_isTold) := goodIn_app (goodIn_r _ [1, 2, 3, 4] (by decide +kernel) (by decide +kernel)) (fun w h => ⟨List.mem_cons_of_mem _ (List.mem_append_right _ (List.mem_append_right _ (List.mem_append_right _ (List.mem_append_left _ h)))), gs_X11_isTold w h⟩)
theorem gg_X11_rest_X2_compare : GoodIn vX11_rest (wsV RX11 333 RX2 yX2_compare vX2_compare) := goodIn_app (goodIn_r _ [8, 9, 10, 11] (by decide +kernel) (by decide +kernel)) (fun w h => ⟨List.mem_cons_of_mem _ (List.mem_append_right _ (List.mem_append_right _ (List.mem_append_right _ (List.mem_append_right _ (h))))), gs_X2_compare w h⟩)
set_option maxHeartbeats 4000000 in
set_option maxRecDepth 100000 in
theorem s_X11_rest (l : Launch) (D : va_G) (cs : Nat → ClassId) (ad : Nat → Nat) (kS : kSt) (K : sK) (hKO : KO K) (hj : wJ ad 218) (g : Nat → va_E) (hW : WF (shp ad K) ad cs g) : sI l yX11_rest vX11_rest { frames := 4, cells := 0, slots := 0, locals := 99 } D cs ad kS [.ref (ad 0)] g (fun r g2 => WF (shp ad K) ad cs g2 ∧ (∀ j, j ≠ 190 ∧ (j < 192 ∨ 197 ≤ j) → g2 j = g j)) := by
  refine Met.startS (cc := cX11_rest) (maxL := 1) (ret := (some .int)) RX11 rfl (by decide) rfl (Nat.le_of_ble_eq_true rfl) ?_
  intro p e s m below meth c ls X Z hP hl
  have hx := X.1
  have hb := X.2.1
  have hS : va_S (wA ad 218) s.heap s.heap [] := va_S.rf
  have hA : ∀ i, i < 218 → wA ad 218 (ad i) := fun i h => ⟨i, h, rfl⟩
  have hfr : ∀ j, j ≠ 190 ∧ (j < 192 ∨ 197 ≤ j) → g j = g j := fun _ _ => rfl
  have hl : lv_has ls 1 [(0, .ref (ad 0))] := hl
  refine lv_aload_n hx hb dX11_rest_0 rfl (lv_at hl 0 rfl) ?_
  obtain ⟨fsc_4, hgc_4, hOc_4⟩ := hW.obj (i := 0) (by decide) (sh_0 ad K)
  refine s_calli (q := (RX11, TX11, 14)) (As := []) (rest := []) X Z (s_X11_isTold l D cs ad kS K hKO hj g hW) (cwV 0 X.2.2.2.2.1 gg_X11_rest_X11_isTold rfl rfl rfl (by decide +kernel) ⟨Nat.le_of_ble_eq_true rfl, Nat.le_of_ble_eq_true rfl⟩) (by decide) hgc_4 rfl hP hA hS.2.1 hS rfl hl.1 rfl (Nat.le_of_ble_eq_true rfl) dX11_rest_1 ⟨Nat.le_of_ble_eq_true rfl, Nat.le_of_ble_eq_true rfl⟩ (fun r_3 g_2 H locs hw_1 hP hS => ?_)
  obtain ⟨hw_1g, hw_1⟩ := hw_1
  rw [hw_1g] at hP
  refine lv_if_ne (tgt := 10) hx hb dX11_rest_4 (by decide) (fun hc_5 => ?_) (fun hc_5 => ?_)
  · have hhc_5 := n_ne (rfl : r_3.toInt = r_3.toInt) (by decide : (0 : Int32).toInt = 0) hc_5
    refine lv_aload_n hx hb dX11_rest_10 rfl (lv_at hl 0 rfl) ?_
    have hk_6 := hOc_4.ref 13 rfl
    refine q_get X iX11_rest_11 hP (by decide) hgc_4 rfl 13 (by decide) (List.mem_of_getElem? (i := 5) rfl) (v := .ref (ad 190)) hk_6 dX11_rest_11 ?_
    refine lv_aload_n hx hb dX11_rest_14 rfl (lv_at hl 0 rfl) ?_
    have hk_7 := hOc_4.ref 1 rfl
    refine q_get X iX11_rest_11 hP (by decide) hgc_4 rfl 1 (by decide) (List.mem_of_getElem? (i := 6) rfl) (v := .ref (ad 3)) hk_7 dX11_rest_15 ?_
    refine lv_aload_n hx hb dX11_rest_18 rfl (lv_at hl 0 rfl) ?_
    have hk_8 := hOc_4.ref 6 rfl
    refine q_get X iX11_rest_11 hP (by decide) hgc_4 rfl 6 (by decide) (List.mem_of_getElem? (i := 7) rfl) (v := .ref (ad 114)) hk_8 dX11_rest_19 ?_
    obtain ⟨fsc_12, hgc_12, hOc_12⟩ := hW.obj (i := 190) (by decide) (sh_190 ad K)
    refine s_callv (q := (RX2, TX2, 3)) (As := [.ref (ad 3), .ref (ad 114)]) (rest := []) X Z (s_X2_compare l D cs ad kS K hKO hj g hW) (cwV 2 X.2.2.2.2.1 gg_X11_rest_X2_compare rfl rfl rfl (by decide +kernel) ⟨Nat.le_of_ble_eq_true rfl, Nat.le_of_ble_eq_true rfl⟩) (by decide) hgc_12 rfl hP hA hS.2.1 hS rfl hl.1 rfl (Nat.le_of_ble_eq_true rfl) dX11_rest_22 ⟨Nat.le_of_ble_eq_true rfl, Nat.le_of_ble_eq_true rfl⟩ (fun g_10 H locs hw_9 hP hS => ?_)
    obtain ⟨hw_9W, hw_9f⟩ := hw_9
    have hfr_13 : ∀ j, j ≠ 190 ∧ (j < 192 ∨ 197 ≤ j) → g_10 j = g j := fun j hj => (hw_9f j (by omega)).trans (hfr j hj)
    have hg_14 := (hw_9f 0 (by omega)).trans hgc_4
    refine lv_aload_n hx hb dX11_rest_25 rfl (lv_at hl 0 rfl) ?_
    refine q_get X iX11_rest_11 hP (by decide) hg_14 rfl 13 (by decide) (List.mem_of_getElem? (i := 5) rfl) (v := .ref (ad 190)) hk_6 dX11_rest_26 ?_
    obtain ⟨fsc_15, hgc_15, hOc_15⟩ := hw_9W.obj (i := 190) (by decide) (sh_190 ad K)
    obtain ⟨x_17, hk_16, -⟩ := hOc_15.int 1 rfl
    refine q_get X iX11_rest_2 hP (by decide) hgc_15 rfl 1 (by decide) (List.mem_of_getElem? (i := 12) rfl) (v := .int x_17) hk_16 dX11_rest_29 ?_
    exact q_iret X hP hS ⟨hw_9W, hfr_13⟩ dX11_rest_32
  · have hhc_5 := n_eq (rfl : r_3.toInt = r_3.toInt) (by decide : (0 : Int32).toInt = 0) hc_5
    refine lv_bipush (v := (-2)) hx hb dX11_rest_7 (by decide) ?_
    exact q_iret X hP hS ⟨hW, hfr⟩ dX11_rest_9

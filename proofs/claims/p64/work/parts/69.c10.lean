theorem dX1_warmOrNot_0 : decode cX1_warmOrNot 0 = .ok (.aload_n 0, 1) := by decide +kernel
theorem dX1_warmOrNot_1 : decode cX1_warmOrNot 1 = .ok (.aload_n 0, 1) := by decide +kernel
theorem dX1_warmOrNot_2 : decode cX1_warmOrNot 2 = .ok (.getfield 27, 3) := by decide +kernel
theorem dX1_warmOrNot_5 : decode cX1_warmOrNot 5 = .ok (.iconst 1, 1) := by decide +kernel
theorem dX1_warmOrNot_6 : decode cX1_warmOrNot 6 = .ok (.iadd, 1) := by decide +kernel
theorem dX1_warmOrNot_7 : decode cX1_warmOrNot 7 = .ok (.bipush 14, 2) := by decide +kernel
theorem dX1_warmOrNot_9 : decode cX1_warmOrNot 9 = .ok (.invokestatic 63, 3) := by decide +kernel
theorem dX1_warmOrNot_12 : decode cX1_warmOrNot 12 = .ok (.putfield 27, 3) := by decide +kernel
theorem dX1_warmOrNot_15 : decode cX1_warmOrNot 15 = .ok (.aload_n 0, 1) := by decide +kernel
theorem dX1_warmOrNot_16 : decode cX1_warmOrNot 16 = .ok (.getfield 27, 3) := by decide +kernel
theorem dX1_warmOrNot_19 : decode cX1_warmOrNot 19 = .ok (.istore_n 2, 1) := by decide +kernel
theorem dX1_warmOrNot_20 : decode cX1_warmOrNot 20 = .ok (.iload_n 2, 1) := by decide +kernel
theorem dX1_warmOrNot_21 : decode cX1_warmOrNot 21 = .ok (.ifCond .le 39, 3) := by decide +kernel
theorem dX1_warmOrNot_24 : decode cX1_warmOrNot 24 = .ok (.aload_n 0, 1) := by decide +kernel
theorem dX1_warmOrNot_25 : decode cX1_warmOrNot 25 = .ok (.getfield 9, 3) := by decide +kernel
theorem dX1_warmOrNot_28 : decode cX1_warmOrNot 28 = .ok (.iload_n 2, 1) := by decide +kernel
theorem dX1_warmOrNot_29 : decode cX1_warmOrNot 29 = .ok (.aload_n 0, 1) := by decide +kernel
theorem dX1_warmOrNot_30 : decode cX1_warmOrNot 30 = .ok (.getfield 9, 3) := by decide +kernel
theorem dX1_warmOrNot_33 : decode cX1_warmOrNot 33 = .ok (.iload_n 2, 1) := by decide +kernel
theorem dX1_warmOrNot_34 : decode cX1_warmOrNot 34 = .ok (.laload, 1) := by decide +kernel
theorem dX1_warmOrNot_35 : decode cX1_warmOrNot 35 = .ok (.bipush 10, 2) := by decide +kernel
theorem dX1_warmOrNot_37 : decode cX1_warmOrNot 37 = .ok (.iload_n 1, 1) := by decide +kernel
theorem dX1_warmOrNot_38 : decode cX1_warmOrNot 38 = .ok (.isub, 1) := by decide +kernel
theorem dX1_warmOrNot_39 : decode cX1_warmOrNot 39 = .ok (.i2l, 1) := by decide +kernel
theorem dX1_warmOrNot_40 : decode cX1_warmOrNot 40 = .ok (.lmul, 1) := by decide +kernel
theorem dX1_warmOrNot_41 : decode cX1_warmOrNot 41 = .ok (.aload_n 0, 1) := by decide +kernel
theorem dX1_warmOrNot_42 : decode cX1_warmOrNot 42 = .ok (.getfield 9, 3) := by decide +kernel
theorem dX1_warmOrNot_45 : decode cX1_warmOrNot 45 = .ok (.iload_n 2, 1) := by decide +kernel
theorem dX1_warmOrNot_46 : decode cX1_warmOrNot 46 = .ok (.iconst 1, 1) := by decide +kernel
theorem dX1_warmOrNot_47 : decode cX1_warmOrNot 47 = .ok (.isub, 1) := by decide +kernel
theorem dX1_warmOrNot_48 : decode cX1_warmOrNot 48 = .ok (.laload, 1) := by decide +kernel
theorem dX1_warmOrNot_49 : decode cX1_warmOrNot 49 = .ok (.iload_n 1, 1) := by decide +kernel
theorem dX1_warmOrNot_50 : decode cX1_warmOrNot 50 = .ok (.i2l, 1) := by decide +kernel
theorem dX1_warmOrNot_51 : decode cX1_warmOrNot 51 = .ok (.lmul, 1) := by decide +kernel
theorem dX1_warmOrNot_52 : decode cX1_warmOrNot 52 = .ok (.ladd, 1) := by decide +kernel
theorem dX1_warmOrNot_53 : decode cX1_warmOrNot 53 = .ok (.lastore, 1) := by decide +kernel
theorem dX1_warmOrNot_54 : decode cX1_warmOrNot 54 = .ok (.iinc 2 (-1), 3) := by decide +kernel
theorem dX1_warmOrNot_57 : decode cX1_warmOrNot 57 = .ok (.goto (-37), 3) := by decide +kernel
theorem dX1_warmOrNot_60 : decode cX1_warmOrNot 60 = .ok (.aload_n 0, 1) := by decide +kernel
theorem dX1_warmOrNot_61 : decode cX1_warmOrNot 61 = .ok (.getfield 9, 3) := by decide +kernel
theorem dX1_warmOrNot_64 : decode cX1_warmOrNot 64 = .ok (.iconst 0, 1) := by decide +kernel
theorem dX1_warmOrNot_65 : decode cX1_warmOrNot 65 = .ok (.dup2, 1) := by decide +kernel
theorem dX1_warmOrNot_66 : decode cX1_warmOrNot 66 = .ok (.laload, 1) := by decide +kernel
theorem dX1_warmOrNot_67 : decode cX1_warmOrNot 67 = .ok (.bipush 10, 2) := by decide +kernel
theorem dX1_warmOrNot_69 : decode cX1_warmOrNot 69 = .ok (.iload_n 1, 1) := by decide +kernel
theorem dX1_warmOrNot_70 : decode cX1_warmOrNot 70 = .ok (.isub, 1) := by decide +kernel
theorem dX1_warmOrNot_71 : decode cX1_warmOrNot 71 = .ok (.i2l, 1) := by decide +kernel
theorem dX1_warmOrNot_72 : decode cX1_warmOrNot 72 = .ok (.lmul, 1) := by decide +kernel
theorem dX1_warmOrNot_73 : decode cX1_warmOrNot 73 = .ok (.lastore, 1) := by decide +kernel
theorem dX1_warmOrNot_74 : decode cX1_warmOrNot 74 = .ok (.return_, 1) := by decide +kernel
noncomputable def vX1_warmOrNot : List Cond := .code yX1_warmOrNot cX1_warmOrNot 3 none :: (([.fieldLink RX1 27 "IcicleClock$Chances" "mostWarm" "I", .methodLink RX1 63 Lib.Math.min.name, .static Lib.Math.min.name, .initialized "java/lang/Math", .code Lib.Math.min.name Lib.Math.min.code 2 (some .int), .fieldLink RX1 9 "IcicleClock$Chances" "hanging" "[J"] : List Cond) ++ wsX10)
theorem iX1_warmOrNot_1 : ∀ w ∈ wsX10, w ∈ vX1_warmOrNot := fun _ h => List.mem_cons_of_mem _ (List.mem_append_right _ (h))
theorem gs_X1_warmOrNot : Gd vX1_warmOrNot := Gd.cons (by decide +kernel) (Gd.app (Gd.r (by decide +kernel)) gwX_1)
set_option maxHeartbeats 4000000 in
set_option maxRecDepth 100000 in
theorem s_X1_warmOrNot (l : Launch) (D : va_G) (cs : Nat → ClassId) (ad : Nat → Nat) (kS : kSt) (K : sK) (hKO : KO K) (hj : wJ ad 218) (g : Nat → va_E) (hW : WF (shp ad K) ad cs g) (od : Int32) : sV l yX1_warmOrNot vX1_warmOrNot { frames := 1, cells := 0, slots := 0, locals := 14 } D cs ad kS [.ref (ad 140), .int od] g (fun g2 => WF (shp ad K) ad cs g2 ∧ (∀ j, j ≠ 140 ∧ j ≠ 141 → g2 j = g j)) := by
  refine Met.startS (cc := cX1_warmOrNot) (maxL := 3) (ret := none) RX1 rfl (by decide) rfl (Nat.le_of_ble_eq_true rfl) ?_
  intro p e s m below meth c ls X Z hP hl
  have hx := X.1
  have hb := X.2.1
  have hS : va_S (wA ad 218) s.heap s.heap [] := va_S.rf
  have hA : ∀ i, i < 218 → wA ad 218 (ad i) := fun i h => ⟨i, h, rfl⟩
  have hfr : ∀ j, j ≠ 140 ∧ j ≠ 141 → g j = g j := fun _ _ => rfl
  have hl : lv_has ls 3 [(0, .ref (ad 140)), (1, .int od)] := hl
  refine lv_aload_n hx hb dX1_warmOrNot_0 rfl (lv_at hl 0 rfl) ?_
  refine lv_aload_n hx hb dX1_warmOrNot_1 rfl (lv_at hl 0 rfl) ?_
  obtain ⟨fsc_1, hgc_1, hOc_1⟩ := hW.obj (i := 140) (by decide) (sh_140 ad K)
  obtain ⟨x_3, hk_2, hlx_3, hhx_3⟩ := hOc_1.int 3 rfl
  refine q_get X iX1_warmOrNot_1 hP (by decide) hgc_1 rfl 3 (by decide) (List.mem_of_getElem? (i := 1) rfl) (v := .int x_3) hk_2 dX1_warmOrNot_2 ?_
  refine lv_iconst (v := 1) hx hb dX1_warmOrNot_5 (by decide) ?_
  refine lv_iadd hx hb dX1_warmOrNot_6 ?_
  refine lv_topi (fun z_4 ez_4 => ?_)
  have hz_4 : z_4.toInt = x_3.toInt + 1 := n_add (rfl : x_3.toInt = x_3.toInt) (by decide : (1 : Int32).toInt = 1) ez_4 (by omega) (by omega)
  refine lv_bipush (v := 14) hx hb dX1_warmOrNot_7 (by decide) ?_
  refine va_mmin hx hb (X.2.2.2.1.trans hl.1.symm) X.2.2.2.2.2.1 (X.2.2.2.2.1 _ (List.mem_of_getElem? (i := 2) rfl)) (X.2.2.2.2.1 _ (List.mem_of_getElem? (i := 3) rfl)) (X.2.2.2.2.1 _ (List.mem_of_getElem? (i := 4) rfl)) (X.2.2.2.2.1 _ (List.mem_of_getElem? (i := 5) rfl)) (Nat.le_of_ble_eq_true rfl) (Nat.le_of_ble_eq_true rfl) (Nat.le_of_ble_eq_true rfl) (Nat.le_of_ble_eq_true rfl) dX1_warmOrNot_9 ?_
  refine lv_topi (fun z_5 ez_5 => ?_)
  have hz_5 := n_min (rfl : z_4.toInt = z_4.toInt) (by decide : (14 : Int32).toInt = 14) ez_5
  refine s_put X iX1_warmOrNot_1 tyX1 tyX1_ok nmX1 hP hj hA hS (by decide) hgc_1 rfl 3 (by decide) (List.mem_of_getElem? (i := 1) rfl) rfl (ty := .int) (v := .int z_5) (by decide +kernel) rfl rfl dX1_warmOrNot_12 hW (sh_140 ad K) hOc_1 rfl ⟨z_5, rfl, by omega, by omega⟩ (fun fsc_6 gc_6 H locs hOc_6 hkc_6 hnc_6 hgc_6 hfc_6 hWc_6 hP hS => ?_)
  have hfr_7 : ∀ j, j ≠ 140 ∧ j ≠ 141 → gc_6 j = g j := fun j hj => (hfc_6 j (by omega)).trans (hfr j hj)
  refine lv_aload_n hx hb dX1_warmOrNot_15 rfl (lv_at hl 0 rfl) ?_
  refine q_get X iX1_warmOrNot_1 hP (by decide) hgc_6 rfl 3 (by decide) (List.mem_of_getElem? (i := 1) rfl) (v := .int z_5) hkc_6 dX1_warmOrNot_16 ?_
  refine lv_istore_n (lv' := [(2, .int z_5), (0, .ref (ad 140)), (1, .int od)]) hx hb dX1_warmOrNot_19 rfl hl (by decide) rfl (fun ls hl => ?_)
  have HL20 : ∀ (n20 : Nat) (v20_2 : Int32) (G20 : Nat → va_E) (H : Heap) (locs : List Loc) (ls : Array Slot), (v20_2.toInt - 0).toNat < n20 → (0 ≤ v20_2.toInt ∧ v20_2.toInt ≤ 14) → WF (shp ad K) ad cs G20 → (∀ j, j ≠ 140 ∧ j ≠ 141 → G20 j = g j) → va_P D vwCl (wL ad G20 218) H → va_S (wA ad 218) s.heap H locs → lv_has ls 3 [(2, .int v20_2), (0, .ref (ad 140)), (1, .int od)] → W p l e ({ frames := 1, cells := 0, slots := 0, locals := 14 } : Room) s m ([.ref (ad 140), .int od] : List Value).toArray below meth c H locs 0 0 (MQ below (qV D ad 218 (fun g2 => WF (shp ad K) ad cs g2 ∧ (∀ j, j ≠ 140 ∧ j ≠ 141 → g2 j = g j))) ([.ref (ad 140), .int od] : List Value).toArray s 0 0 (wA ad 218)) (F0 m 20 ls []) := by
    intro n20
    induction n20 with
    | zero =>
      intro v20_2 G20 H locs ls hm20 hv20_0 hW20 hfr20 hP hS hl
      exact absurd hm20 (Nat.not_lt_zero _)
    | succ n20 ih20 =>
      intro v20_2 G20 H locs ls hm20 hv20_0 hW20 hfr20 hP hS hl
      refine lv_iload_n hx hb dX1_warmOrNot_20 rfl (lv_at hl 0 rfl) ?_
      refine lv_if_le (tgt := 60) hx hb dX1_warmOrNot_21 (by decide) (fun hc_8 => ?_) (fun hc_8 => ?_)
      · have hhc_8 := n_le (rfl : v20_2.toInt = v20_2.toInt) (by decide : (0 : Int32).toInt = 0) hc_8
        refine lv_aload_n hx hb dX1_warmOrNot_60 rfl (lv_at hl 1 rfl) ?_
        obtain ⟨fsc_9, hgc_9, hOc_9⟩ := hW20.obj (i := 140) (by decide) (sh_140 ad K)
        have hk_10 := hOc_9.ref 0 rfl
        refine q_get X iX1_warmOrNot_1 hP (by decide) hgc_9 rfl 0 (by decide) (List.mem_of_getElem? (i := 6) rfl) (v := .ref (ad 141)) hk_10 dX1_warmOrNot_61 ?_
        refine lv_iconst (v := 0) hx hb dX1_warmOrNot_64 (by decide) ?_
        refine lv_dup2_11 hx hb dX1_warmOrNot_65 rfl rfl ?_
        obtain ⟨fc_11, hgc_11, hFc_11⟩ := hW20.arj (i := 141) (by decide) (sh_141 ad K)
        refine q_lald X hP (by decide) hgc_11 (by unfold vp_in; decide) dX1_warmOrNot_66 ?_
        refine lv_topl (fun z_12 ez_12 => ?_)
        refine lv_bipush (v := 10) hx hb dX1_warmOrNot_67 (by decide) ?_
        refine lv_iload_n hx hb dX1_warmOrNot_69 rfl (lv_at hl 2 rfl) ?_
        refine lv_isub hx hb dX1_warmOrNot_70 ?_
        refine lv_topi (fun z_13 ez_13 => ?_)
        refine lv_i2l hx hb dX1_warmOrNot_71 rfl ?_
        refine lv_topl (fun z_14 ez_14 => ?_)
        have hz_14 : z_14.toInt = z_13.toInt := ez_14 ▸ j_of rfl
        have := n_hi z_13
        have := n_lo z_13
        refine lv_lmul hx hb dX1_warmOrNot_72 ?_
        refine lv_topl (fun z_15 ez_15 => ?_)
        refine s_last X hP hj hA hS (by decide) hgc_11 (by unfold vp_in; decide) dX1_warmOrNot_73 hW20 (sh_141 ad K) (hFc_11.put trivial) (fun fc_16 gc_16 H locs ec_16 hFc_16 hgc_16 hfc_16 hWc_16 hP hS => ?_)
        have hg_18 := (hfc_16 140 (by decide)).trans hgc_9
        have hfr_17 : ∀ j, j ≠ 140 ∧ j ≠ 141 → gc_16 j = g j := fun j hj => (hfc_16 j (by omega)).trans (hfr20 j hj)
        exact q_vret X hP hS ⟨hWc_16, hfr_17⟩ dX1_warmOrNot_74
      · have hhc_8 := n_nle (rfl : v20_2.toInt = v20_2.toInt) (by decide : (0 : Int32).toInt = 0) hc_8
        refine lv_aload_n hx hb dX1_warmOrNot_24 rfl (lv_at hl 1 rfl) ?_
        obtain ⟨fsc_19, hgc_19, hOc_19⟩ := hW20.obj (i := 140) (by decide) (sh_140 ad K)
        have hk_20 := hOc_19.ref 0 rfl
        refine q_get X iX1_warmOrNot_1 hP (by decide) hgc_19 rfl 0 (by decide) (List.mem_of_getElem? (i := 6) rfl) (v := .ref (ad 141)) hk_20 dX1_warmOrNot_25 ?_
        refine lv_iload_n hx hb dX1_warmOrNot_28 rfl (lv_at hl 0 rfl) ?_
        refine lv_aload_n hx hb dX1_warmOrNot_29 rfl (lv_at hl 1 rfl) ?_
        refine q_get X iX1_warmOrNot_1 hP (by decide) hgc_19 rfl 0 (by decide) (List.mem_of_getElem? (i := 6) rfl) (v := .ref (ad 141)) hk_20 dX1_warmOrNot_30 ?_
        refine lv_iload_n hx hb dX1_warmOrNot_33 rfl (lv_at hl 0 rfl) ?_
        obtain ⟨fc_21, hgc_21, hFc_21⟩ := hW20.arj (i := 141) (by decide) (sh_141 ad K)
        refine q_lald X hP (by decide) hgc_21 (n_in (rfl : v20_2.toInt = v20_2.toInt) (by omega) (by omega)) dX1_warmOrNot_34 ?_
        refine lv_topl (fun z_22 ez_22 => ?_)
        refine lv_bipush (v := 10) hx hb dX1_warmOrNot_35 (by decide) ?_
        refine lv_iload_n hx hb dX1_warmOrNot_37 rfl (lv_at hl 2 rfl) ?_
        refine lv_isub hx hb dX1_warmOrNot_38 ?_
        refine lv_topi (fun z_23 ez_23 => ?_)
        refine lv_i2l hx hb dX1_warmOrNot_39 rfl ?_
        refine lv_topl (fun z_24 ez_24 => ?_)
        have hz_24 : z_24.toInt = z_23.toInt := ez_24 ▸ j_of rfl
        have := n_hi z_23
        have := n_lo z_23
        refine lv_lmul hx hb dX1_warmOrNot_40 ?_
        refine lv_topl (fun z_25 ez_25 => ?_)
        refine lv_aload_n hx hb dX1_warmOrNot_41 rfl (lv_at hl 1 rfl) ?_
        refine q_get X iX1_warmOrNot_1 hP (by decide) hgc_19 rfl 0 (by decide) (List.mem_of_getElem? (i := 6) rfl) (v := .ref (ad 141)) hk_20 dX1_warmOrNot_42 ?_
        refine lv_iload_n hx hb dX1_warmOrNot_45 rfl (lv_at hl 0 rfl) ?_
        refine lv_iconst (v := 1) hx hb dX1_warmOrNot_46 (by decide) ?_
        refine lv_isub hx hb dX1_warmOrNot_47 ?_
        refine lv_topi (fun z_26 ez_26 => ?_)
        have hz_26 : z_26.toInt = v20_2.toInt - 1 := n_sub (rfl : v20_2.toInt = v20_2.toInt) (by decide : (1 : Int32).toInt = 1) ez_26 (by omega) (by omega)
        refine q_lald X hP (by decide) hgc_21 (n_in (rfl : z_26.toInt = z_26.toInt) (by omega) (by omega)) dX1_warmOrNot_48 ?_
        refine lv_topl (fun z_27 ez_27 => ?_)
        refine lv_iload_n hx hb dX1_warmOrNot_49 rfl (lv_at hl 2 rfl) ?_
        refine lv_i2l hx hb dX1_warmOrNot_50 rfl ?_
        refine lv_topl (fun z_28 ez_28 => ?_)
        have hz_28 : z_28.toInt = od.toInt := ez_28 ▸ j_of rfl
        have := n_hi od
        have := n_lo od
        refine lv_lmul hx hb dX1_warmOrNot_51 ?_
        refine lv_topl (fun z_29 ez_29 => ?_)
        refine lv_ladd hx hb dX1_warmOrNot_52 ?_
        refine lv_topl (fun z_30 ez_30 => ?_)
        refine s_last X hP hj hA hS (by decide) hgc_21 (n_in (rfl : v20_2.toInt = v20_2.toInt) (by omega) (by omega)) dX1_warmOrNot_53 hW20 (sh_141 ad K) (hFc_21.put trivial) (fun fc_31 gc_31 H locs ec_31 hFc_31 hgc_31 hfc_31 hWc_31 hP hS => ?_)
        have hg_33 := (hfc_31 140 (by decide)).trans hgc_19
        have hfr_32 : ∀ j, j ≠ 140 ∧ j ≠ 141 → gc_31 j = g j := fun j hj => (hfc_31 j (by omega)).trans (hfr20 j hj)
        obtain ⟨x_34, ex_34⟩ : ∃ y : Int32, y = v20_2 + (-1) := ⟨_, rfl⟩
        have hx_34 : x_34.toInt = v20_2.toInt + (-1) := n_add rfl (by decide : (-1 : Int32).toInt = -1) ex_34 (by omega) (by omega)
        refine lv_iinc (v := x_34) (lv' := [(2, .int x_34), (0, .ref (ad 140)), (1, .int od)]) hx hb dX1_warmOrNot_54 hl (k := 0) rfl (by rw [ex_34]; rfl) (by decide) rfl (fun ls hl => ?_)
        refine lv_goto (tgt := 20) hx hb dX1_warmOrNot_57 (by decide) ?_
        exact ih20 x_34 gc_31 _ _ ls (by omega) (by omega) hWc_31 hfr_32 hP hS (lv_sub hl [0, 1, 2] rfl)
  exact HL20 _ z_5 gc_6 _ _ ls (Nat.lt_succ_self _) (by omega) hWc_6 hfr_7 hP hS (lv_sub hl [0, 1, 2] rfl)

theorem dX1_letFall_0 : decode cX1_letFall 0 = .ok (.lconst 0, 1) := by decide +kernel
theorem dX1_letFall_1 : decode cX1_letFall 1 = .ok (.lstore_n 3, 1) := by decide +kernel
theorem dX1_letFall_2 : decode cX1_letFall 2 = .ok (.iconst 0, 1) := by decide +kernel
theorem dX1_letFall_3 : decode cX1_letFall 3 = .ok (.istore 5, 2) := by decide +kernel
theorem dX1_letFall_5 : decode cX1_letFall 5 = .ok (.iload 5, 2) := by decide +kernel
theorem dX1_letFall_7 : decode cX1_letFall 7 = .ok (.aload_n 0, 1) := by decide +kernel
theorem dX1_letFall_8 : decode cX1_letFall 8 = .ok (.getfield 27, 3) := by decide +kernel
theorem dX1_letFall_11 : decode cX1_letFall 11 = .ok (.if_icmp .gt 36, 3) := by decide +kernel
theorem dX1_letFall_14 : decode cX1_letFall 14 = .ok (.iload_n 1, 1) := by decide +kernel
theorem dX1_letFall_15 : decode cX1_letFall 15 = .ok (.iload 5, 2) := by decide +kernel
theorem dX1_letFall_17 : decode cX1_letFall 17 = .ok (.iload_n 2, 1) := by decide +kernel
theorem dX1_letFall_18 : decode cX1_letFall 18 = .ok (.imul, 1) := by decide +kernel
theorem dX1_letFall_19 : decode cX1_letFall 19 = .ok (.isub, 1) := by decide +kernel
theorem dX1_letFall_20 : decode cX1_letFall 20 = .ok (.ifCond .gt 21, 3) := by decide +kernel
theorem dX1_letFall_23 : decode cX1_letFall 23 = .ok (.lload_n 3, 1) := by decide +kernel
theorem dX1_letFall_24 : decode cX1_letFall 24 = .ok (.aload_n 0, 1) := by decide +kernel
theorem dX1_letFall_25 : decode cX1_letFall 25 = .ok (.getfield 9, 3) := by decide +kernel
theorem dX1_letFall_28 : decode cX1_letFall 28 = .ok (.iload 5, 2) := by decide +kernel
theorem dX1_letFall_30 : decode cX1_letFall 30 = .ok (.laload, 1) := by decide +kernel
theorem dX1_letFall_31 : decode cX1_letFall 31 = .ok (.ladd, 1) := by decide +kernel
theorem dX1_letFall_32 : decode cX1_letFall 32 = .ok (.lstore_n 3, 1) := by decide +kernel
theorem dX1_letFall_33 : decode cX1_letFall 33 = .ok (.aload_n 0, 1) := by decide +kernel
theorem dX1_letFall_34 : decode cX1_letFall 34 = .ok (.getfield 9, 3) := by decide +kernel
theorem dX1_letFall_37 : decode cX1_letFall 37 = .ok (.iload 5, 2) := by decide +kernel
theorem dX1_letFall_39 : decode cX1_letFall 39 = .ok (.lconst 0, 1) := by decide +kernel
theorem dX1_letFall_40 : decode cX1_letFall 40 = .ok (.lastore, 1) := by decide +kernel
theorem dX1_letFall_41 : decode cX1_letFall 41 = .ok (.iinc 5 1, 3) := by decide +kernel
theorem dX1_letFall_44 : decode cX1_letFall 44 = .ok (.goto (-39), 3) := by decide +kernel
theorem dX1_letFall_47 : decode cX1_letFall 47 = .ok (.lload_n 3, 1) := by decide +kernel
theorem dX1_letFall_48 : decode cX1_letFall 48 = .ok (.lreturn, 1) := by decide +kernel
noncomputable def vX1_letFall : List Cond := .code yX1_letFall cX1_letFall 6 (some .long) :: (([.fieldLink RX1 27 "IcicleClock$Chances" "mostWarm" "I", .fieldLink RX1 9 "IcicleClock$Chances" "hanging" "[J"] : List Cond) ++ wsX10)
theorem iX1_letFall_1 : ∀ w ∈ wsX10, w ∈ vX1_letFall := fun _ h => List.mem_cons_of_mem _ (List.mem_append_right _ (h))
theorem gs_X1_letFall : Gd vX1_letFall := Gd.cons (by decide +kernel) (Gd.app (Gd.r (by decide +kernel)) gwX_1)
set_option maxHeartbeats 4000000 in
set_option maxRecDepth 100000 in
theorem s_X1_letFall (l : Launch) (D : va_G) (cs : Nat → ClassId) (ad : Nat → Nat) (kS : kSt) (K : sK) (hKO : KO K) (hj : wJ ad 218) (g : Nat → va_E) (hW : WF (shp ad K) ad cs g) (le : Int32) (su : Int32) : sJ l yX1_letFall vX1_letFall { frames := 0, cells := 0, slots := 0, locals := 0 } D cs ad kS [.ref (ad 140), .int le, .int su] g (fun r g2 => WF (shp ad K) ad cs g2 ∧ (∀ j, j ≠ 141 → g2 j = g j)) := by
  refine Met.startS (cc := cX1_letFall) (maxL := 6) (ret := (some .long)) RX1 rfl (by decide) rfl (Nat.le_of_ble_eq_true rfl) ?_
  intro p e s m below meth c ls X Z hP hl
  have hx := X.1
  have hb := X.2.1
  have hS : va_S (wA ad 218) s.heap s.heap [] := va_S.rf
  have hA : ∀ i, i < 218 → wA ad 218 (ad i) := fun i h => ⟨i, h, rfl⟩
  have hfr : ∀ j, j ≠ 141 → g j = g j := fun _ _ => rfl
  have hl : lv_has ls 6 [(0, .ref (ad 140)), (1, .int le), (2, .int su)] := hl
  refine lv_lconst (v := 0) hx hb dX1_letFall_0 (by decide) ?_
  refine lv_lstore_n (lv' := [(3, .long 0), (0, .ref (ad 140)), (1, .int le), (2, .int su)]) hx hb dX1_letFall_1 rfl hl (by decide) rfl (fun ls hl => ?_)
  refine lv_iconst (v := 0) hx hb dX1_letFall_2 (by decide) ?_
  refine lv_istore (lv' := [(5, .int 0), (3, .long 0), (0, .ref (ad 140)), (1, .int le), (2, .int su)]) hx hb dX1_letFall_3 hl (by decide) rfl (fun ls hl => ?_)
  have HL5 : ∀ (n5 : Nat) (v5_5 : Int32) (v5_3 : Int64) (G5 : Nat → va_E) (H : Heap) (locs : List Loc) (ls : Array Slot), (15 - v5_5.toInt).toNat < n5 → (0 ≤ v5_5.toInt ∧ v5_5.toInt ≤ 15) → WF (shp ad K) ad cs G5 → (∀ j, j ≠ 141 → G5 j = g j) → va_P D vwCl (wL ad G5 218) H → va_S (wA ad 218) s.heap H locs → lv_has ls 6 [(5, .int v5_5), (3, .long v5_3), (0, .ref (ad 140)), (1, .int le), (2, .int su)] → W p l e ({ frames := 0, cells := 0, slots := 0, locals := 0 } : Room) s m ([.ref (ad 140), .int le, .int su] : List Value).toArray below meth c H locs 0 0 (MQ below (qJ D ad 218 (fun r g2 => WF (shp ad K) ad cs g2 ∧ (∀ j, j ≠ 141 → g2 j = g j))) ([.ref (ad 140), .int le, .int su] : List Value).toArray s 0 0 (wA ad 218)) (F0 m 5 ls []) := by
    intro n5
    induction n5 with
    | zero =>
      intro v5_5 v5_3 G5 H locs ls hm5 hv5_0 hW5 hfr5 hP hS hl
      exact absurd hm5 (Nat.not_lt_zero _)
    | succ n5 ih5 =>
      intro v5_5 v5_3 G5 H locs ls hm5 hv5_0 hW5 hfr5 hP hS hl
      refine lv_iload hx hb dX1_letFall_5 (lv_at hl 0 rfl) ?_
      refine lv_aload_n hx hb dX1_letFall_7 rfl (lv_at hl 2 rfl) ?_
      obtain ⟨fsc_1, hgc_1, hOc_1⟩ := hW5.obj (i := 140) (by decide) (sh_140 ad K)
      obtain ⟨x_3, hk_2, hlx_3, hhx_3⟩ := hOc_1.int 3 rfl
      refine q_get X iX1_letFall_1 hP (by decide) hgc_1 rfl 3 (by decide) (List.mem_of_getElem? (i := 1) rfl) (v := .int x_3) hk_2 dX1_letFall_8 ?_
      refine lv_icmp_gt (tgt := 47) hx hb dX1_letFall_11 (by decide) (fun hc_4 => ?_) (fun hc_4 => ?_)
      · have hhc_4 := n_lt (rfl : x_3.toInt = x_3.toInt) (rfl : v5_5.toInt = v5_5.toInt) hc_4
        refine lv_lload_n hx hb dX1_letFall_47 rfl (lv_at hl 1 rfl) ?_
        exact q_lret X hP hS ⟨hW5, hfr5⟩ dX1_letFall_48
      · have hhc_4 := n_nlt (rfl : x_3.toInt = x_3.toInt) (rfl : v5_5.toInt = v5_5.toInt) hc_4
        refine lv_iload_n hx hb dX1_letFall_14 rfl (lv_at hl 3 rfl) ?_
        refine lv_iload hx hb dX1_letFall_15 (lv_at hl 0 rfl) ?_
        refine lv_iload_n hx hb dX1_letFall_17 rfl (lv_at hl 4 rfl) ?_
        refine lv_imul hx hb dX1_letFall_18 ?_
        refine lv_topi (fun z_5 ez_5 => ?_)
        refine lv_isub hx hb dX1_letFall_19 ?_
        refine lv_topi (fun z_6 ez_6 => ?_)
        have HJ41 : ∀ (v41_3 : Int64) (G41 : Nat → va_E) (H : Heap) (locs : List Loc) (ls : Array Slot), WF (shp ad K) ad cs G41 → (∀ j, j ≠ 141 → G41 j = g j) → G41 140 = .inr (1, fsc_1) → va_P D vwCl (wL ad G41 218) H → va_S (wA ad 218) s.heap H locs → lv_has ls 6 [(5, .int v5_5), (3, .long v41_3), (0, .ref (ad 140)), (1, .int le), (2, .int su)] → W p l e ({ frames := 0, cells := 0, slots := 0, locals := 0 } : Room) s m ([.ref (ad 140), .int le, .int su] : List Value).toArray below meth c H locs 0 0 (MQ below (qJ D ad 218 (fun r g2 => WF (shp ad K) ad cs g2 ∧ (∀ j, j ≠ 141 → g2 j = g j))) ([.ref (ad 140), .int le, .int su] : List Value).toArray s 0 0 (wA ad 218)) (F0 m 41 ls []) := by
          intro v41_3 G41 H locs ls hW41 hfr41 hg41_0 hP hS hl
          obtain ⟨x_7, ex_7⟩ : ∃ y : Int32, y = v5_5 + 1 := ⟨_, rfl⟩
          have hx_7 : x_7.toInt = v5_5.toInt + 1 := n_add rfl (by decide : (1 : Int32).toInt = 1) ex_7 (by omega) (by omega)
          refine lv_iinc (v := x_7) (lv' := [(5, .int x_7), (3, .long v41_3), (0, .ref (ad 140)), (1, .int le), (2, .int su)]) hx hb dX1_letFall_41 hl (k := 0) rfl (by rw [ex_7]; rfl) (by decide) rfl (fun ls hl => ?_)
          refine lv_goto (tgt := 5) hx hb dX1_letFall_44 (by decide) ?_
          exact ih5 x_7 v41_3 G41 _ _ ls (by omega) (by omega) hW41 hfr41 hP hS (lv_sub hl [0, 1, 2, 3, 4] rfl)
        refine lv_if_gt (tgt := 41) hx hb dX1_letFall_20 (by decide) (fun hc_8 => ?_) (fun hc_8 => ?_)
        · have hhc_8 := n_lt (by decide : (0 : Int32).toInt = 0) (rfl : z_6.toInt = z_6.toInt) hc_8
          exact HJ41 v5_3 G5 _ _ ls hW5 hfr5 hgc_1 hP hS (lv_sub hl [0, 1, 2, 3, 4] rfl)
        · have hhc_8 := n_nlt (by decide : (0 : Int32).toInt = 0) (rfl : z_6.toInt = z_6.toInt) hc_8
          refine lv_lload_n hx hb dX1_letFall_23 rfl (lv_at hl 1 rfl) ?_
          refine lv_aload_n hx hb dX1_letFall_24 rfl (lv_at hl 2 rfl) ?_
          have hk_9 := hOc_1.ref 0 rfl
          refine q_get X iX1_letFall_1 hP (by decide) hgc_1 rfl 0 (by decide) (List.mem_of_getElem? (i := 2) rfl) (v := .ref (ad 141)) hk_9 dX1_letFall_25 ?_
          refine lv_iload hx hb dX1_letFall_28 (lv_at hl 0 rfl) ?_
          obtain ⟨fc_10, hgc_10, hFc_10⟩ := hW5.arj (i := 141) (by decide) (sh_141 ad K)
          refine q_lald X hP (by decide) hgc_10 (n_in (rfl : v5_5.toInt = v5_5.toInt) (by omega) (by omega)) dX1_letFall_30 ?_
          refine lv_topl (fun z_11 ez_11 => ?_)
          refine lv_ladd hx hb dX1_letFall_31 ?_
          refine lv_topl (fun z_12 ez_12 => ?_)
          refine lv_lstore_n (lv' := [(3, .long z_12), (5, .int v5_5), (0, .ref (ad 140)), (1, .int le), (2, .int su)]) hx hb dX1_letFall_32 rfl hl (by decide) rfl (fun ls hl => ?_)
          refine lv_aload_n hx hb dX1_letFall_33 rfl (lv_at hl 2 rfl) ?_
          refine q_get X iX1_letFall_1 hP (by decide) hgc_1 rfl 0 (by decide) (List.mem_of_getElem? (i := 2) rfl) (v := .ref (ad 141)) hk_9 dX1_letFall_34 ?_
          refine lv_iload hx hb dX1_letFall_37 (lv_at hl 1 rfl) ?_
          refine lv_lconst (v := 0) hx hb dX1_letFall_39 (by decide) ?_
          refine s_last X hP hj hA hS (by decide) hgc_10 (n_in (rfl : v5_5.toInt = v5_5.toInt) (by omega) (by omega)) dX1_letFall_40 hW5 (sh_141 ad K) (hFc_10.put trivial) (fun fc_13 gc_13 H locs ec_13 hFc_13 hgc_13 hfc_13 hWc_13 hP hS => ?_)
          have hg_15 := (hfc_13 140 (by decide)).trans hgc_1
          have hfr_14 : ∀ j, j ≠ 141 → gc_13 j = g j := fun j hj => (hfc_13 j (by omega)).trans (hfr5 j hj)
          exact HJ41 z_12 gc_13 _ _ ls hWc_13 hfr_14 hg_15 hP hS (lv_sub hl [1, 0, 2, 3, 4] rfl)
  have hiv5_5 : (0 : Int32).toInt = 0 := by decide
  have hiv5_3 : (0 : Int64).toInt = 0 := by decide
  exact HL5 _ 0 0 g _ _ ls (Nat.lt_succ_self _) (by omega) hW hfr hP hS (lv_sub hl [0, 1, 2, 3, 4] rfl)

theorem dX1_weigh_0 : decode cX1_weigh 0 = .ok (.aload_n 0, 1) := by decide +kernel
theorem dX1_weigh_1 : decode cX1_weigh 1 = .ok (.getfield 9, 3) := by decide +kernel
theorem dX1_weigh_4 : decode cX1_weigh 4 = .ok (.lconst 0, 1) := by decide +kernel
theorem dX1_weigh_5 : decode cX1_weigh 5 = .ok (.invokestatic 21, 3) := by decide +kernel
theorem dX1_weigh_8 : decode cX1_weigh 8 = .ok (.aload_n 0, 1) := by decide +kernel
theorem dX1_weigh_9 : decode cX1_weigh 9 = .ok (.getfield 9, 3) := by decide +kernel
theorem dX1_weigh_12 : decode cX1_weigh 12 = .ok (.iconst 0, 1) := by decide +kernel
theorem dX1_weigh_13 : decode cX1_weigh 13 = .ok (.lconst 1, 1) := by decide +kernel
theorem dX1_weigh_14 : decode cX1_weigh 14 = .ok (.lastore, 1) := by decide +kernel
theorem dX1_weigh_15 : decode cX1_weigh 15 = .ok (.aload_n 0, 1) := by decide +kernel
theorem dX1_weigh_16 : decode cX1_weigh 16 = .ok (.iconst 0, 1) := by decide +kernel
theorem dX1_weigh_17 : decode cX1_weigh 17 = .ok (.putfield 27, 3) := by decide +kernel
theorem dX1_weigh_20 : decode cX1_weigh 20 = .ok (.lconst 1, 1) := by decide +kernel
theorem dX1_weigh_21 : decode cX1_weigh 21 = .ok (.lstore 6, 2) := by decide +kernel
theorem dX1_weigh_23 : decode cX1_weigh 23 = .ok (.iload 4, 2) := by decide +kernel
theorem dX1_weigh_25 : decode cX1_weigh 25 = .ok (.istore 8, 2) := by decide +kernel
theorem dX1_weigh_27 : decode cX1_weigh 27 = .ok (.iconst 0, 1) := by decide +kernel
theorem dX1_weigh_28 : decode cX1_weigh 28 = .ok (.istore 9, 2) := by decide +kernel
theorem dX1_weigh_30 : decode cX1_weigh 30 = .ok (.iload 9, 2) := by decide +kernel
theorem dX1_weigh_32 : decode cX1_weigh 32 = .ok (.iload 5, 2) := by decide +kernel
theorem dX1_weigh_34 : decode cX1_weigh 34 = .ok (.if_icmp .gt 85, 3) := by decide +kernel
theorem dX1_weigh_37 : decode cX1_weigh 37 = .ok (.iload 9, 2) := by decide +kernel
theorem dX1_weigh_39 : decode cX1_weigh 39 = .ok (.aload_n 1, 1) := by decide +kernel
theorem dX1_weigh_40 : decode cX1_weigh 40 = .ok (.getfield 31, 3) := by decide +kernel
theorem dX1_weigh_43 : decode cX1_weigh 43 = .ok (.if_icmp .ge 76, 3) := by decide +kernel
theorem dX1_weigh_46 : decode cX1_weigh 46 = .ok (.aload_n 1, 1) := by decide +kernel
theorem dX1_weigh_47 : decode cX1_weigh 47 = .ok (.getfield 36, 3) := by decide +kernel
theorem dX1_weigh_50 : decode cX1_weigh 50 = .ok (.iload 9, 2) := by decide +kernel
theorem dX1_weigh_52 : decode cX1_weigh 52 = .ok (.baload, 1) := by decide +kernel
theorem dX1_weigh_53 : decode cX1_weigh 53 = .ok (.ifCond .eq 19, 3) := by decide +kernel
theorem dX1_weigh_56 : decode cX1_weigh 56 = .ok (.aload_n 0, 1) := by decide +kernel
theorem dX1_weigh_57 : decode cX1_weigh 57 = .ok (.aload_n 1, 1) := by decide +kernel
theorem dX1_weigh_58 : decode cX1_weigh 58 = .ok (.getfield 40, 3) := by decide +kernel
theorem dX1_weigh_61 : decode cX1_weigh 61 = .ok (.invokevirtual 43, 3) := by decide +kernel
theorem dX1_weigh_64 : decode cX1_weigh 64 = .ok (.lload 6, 2) := by decide +kernel
theorem dX1_weigh_66 : decode cX1_weigh 66 = .ok (.ldc2_w 47, 3) := by decide +kernel
theorem dX1_weigh_69 : decode cX1_weigh 69 = .ok (.lmul, 1) := by decide +kernel
theorem dX1_weigh_70 : decode cX1_weigh 70 = .ok (.lstore 6, 2) := by decide +kernel
theorem dX1_weigh_72 : decode cX1_weigh 72 = .ok (.iload 8, 2) := by decide +kernel
theorem dX1_weigh_74 : decode cX1_weigh 74 = .ok (.aload_n 2, 1) := by decide +kernel
theorem dX1_weigh_75 : decode cX1_weigh 75 = .ok (.aload_n 1, 1) := by decide +kernel
theorem dX1_weigh_76 : decode cX1_weigh 76 = .ok (.iload_n 3, 1) := by decide +kernel
theorem dX1_weigh_77 : decode cX1_weigh 77 = .ok (.iload 9, 2) := by decide +kernel
theorem dX1_weigh_79 : decode cX1_weigh 79 = .ok (.invokevirtual 49, 3) := by decide +kernel
theorem dX1_weigh_82 : decode cX1_weigh 82 = .ok (.isub, 1) := by decide +kernel
theorem dX1_weigh_83 : decode cX1_weigh 83 = .ok (.istore 8, 2) := by decide +kernel
theorem dX1_weigh_85 : decode cX1_weigh 85 = .ok (.aload_n 0, 1) := by decide +kernel
theorem dX1_weigh_86 : decode cX1_weigh 86 = .ok (.getfield 15, 3) := by decide +kernel
theorem dX1_weigh_89 : decode cX1_weigh 89 = .ok (.iload 9, 2) := by decide +kernel
theorem dX1_weigh_91 : decode cX1_weigh 91 = .ok (.aload_n 0, 1) := by decide +kernel
theorem dX1_weigh_92 : decode cX1_weigh 92 = .ok (.iload 8, 2) := by decide +kernel
theorem dX1_weigh_94 : decode cX1_weigh 94 = .ok (.aload_n 1, 1) := by decide +kernel
theorem dX1_weigh_95 : decode cX1_weigh 95 = .ok (.getfield 55, 3) := by decide +kernel
theorem dX1_weigh_98 : decode cX1_weigh 98 = .ok (.iload_n 3, 1) := by decide +kernel
theorem dX1_weigh_99 : decode cX1_weigh 99 = .ok (.iaload, 1) := by decide +kernel
theorem dX1_weigh_100 : decode cX1_weigh 100 = .ok (.invokevirtual 59, 3) := by decide +kernel
theorem dX1_weigh_103 : decode cX1_weigh 103 = .ok (.lastore, 1) := by decide +kernel
theorem dX1_weigh_104 : decode cX1_weigh 104 = .ok (.aload_n 0, 1) := by decide +kernel
theorem dX1_weigh_105 : decode cX1_weigh 105 = .ok (.getfield 18, 3) := by decide +kernel
theorem dX1_weigh_108 : decode cX1_weigh 108 = .ok (.iload 9, 2) := by decide +kernel
theorem dX1_weigh_110 : decode cX1_weigh 110 = .ok (.lload 6, 2) := by decide +kernel
theorem dX1_weigh_112 : decode cX1_weigh 112 = .ok (.lastore, 1) := by decide +kernel
theorem dX1_weigh_113 : decode cX1_weigh 113 = .ok (.iinc 9 1, 3) := by decide +kernel
theorem dX1_weigh_116 : decode cX1_weigh 116 = .ok (.goto (-86), 3) := by decide +kernel
theorem dX1_weigh_119 : decode cX1_weigh 119 = .ok (.return_, 1) := by decide +kernel
noncomputable def vX1_weigh : List Cond := .code yX1_weigh cX1_weigh 10 none :: (([.fieldLink RX1 9 "IcicleClock$Chances" "hanging" "[J", .methodLink RX1 21 yJ7_fill_d0a16, .static yJ7_fill_d0a16, .initialized RJ7, .fieldLink RX1 27 "IcicleClock$Chances" "mostWarm" "I", .fieldLink RX1 31 "IcicleClock$Street" "days" "I", .fieldLink RX1 36 "IcicleClock$Street" "isThaw" "[Z", .fieldLink RX1 40 "IcicleClock$Street" "odds" "I", .methodLink RX1 43 yX1_warmOrNot, .instanceMethod yX1_warmOrNot, .selects RX1 yX1_warmOrNot yX1_warmOrNot, .initialized RX1, .constantLong RX1 47 (10), .methodLink RX1 49 yX10_lossOn, .instanceMethod yX10_lossOn, .selects RX10 yX10_lossOn yX10_lossOn, .initialized RX10, .fieldLink RX1 15 "IcicleClock$Chances" "weight" "[J", .fieldLink RX1 55 "IcicleClock$Street" "sun" "[I", .methodLink RX1 59 yX1_letFall, .instanceMethod yX1_letFall, .selects RX1 yX1_letFall yX1_letFall, .fieldLink RX1 18 "IcicleClock$Chances" "whole" "[J"] : List Cond) ++ (wsX10 ++ (wsX60 ++ (vJ7_fill_d0a16 ++ (vX1_warmOrNot ++ (vX10_lossOn ++ vX1_letFall))))))
theorem iX1_weigh_1 : ∀ w ∈ wsX10, w ∈ vX1_weigh := fun _ h => List.mem_cons_of_mem _ (List.mem_append_right _ (List.mem_append_left _ h))
theorem iX1_weigh_6 : ∀ w ∈ wsX60, w ∈ vX1_weigh := fun _ h => List.mem_cons_of_mem _ (List.mem_append_right _ (List.mem_append_right _ (List.mem_append_left _ h)))
theorem gs_X1_weigh : Gd vX1_weigh := Gd.cons (by decide +kernel) (Gd.app (Gd.r (by decide +kernel)) (Gd.app gwX_1 (Gd.app gwX_6 (Gd.app gs_J7_fill_d0a16 (Gd.app gs_X1_warmOrNot (Gd.app gs_X10_lossOn gs_X1_letFall))))))
theorem gg_X1_weigh_J7_fill_d0a16 : GoodIn vX1_weigh (va_wsS RX1 21 yJ7_fill_d0a16 vJ7_fill_d0a16) := goodIn_app (goodIn_r _ [2, 3, 4] (by decide +kernel) (by decide +kernel)) (fun w h => ⟨List.mem_cons_of_mem _ (List.mem_append_right _ (List.mem_append_right _ (List.mem_append_right _ (List.mem_append_left _ h)))), gs_J7_fill_d0a16 w h⟩)
theorem gg_X1_weigh_X1_warmOrNot : GoodIn vX1_weigh (wsV RX1 43 RX1 yX1_warmOrNot vX1_warmOrNot) := goodIn_app (goodIn_r _ [9, 10, 11, 12] (by decide +kernel) (by decide +kernel)) (fun w h => ⟨List.mem_cons_of_mem _ (List.mem_append_right _ (List.mem_append_right _ (List.mem_append_right _ (List.mem_append_right _ (List.mem_append_left _ h))))), gs_X1_warmOrNot w h⟩)
theorem gg_X1_weigh_X10_lossOn : GoodIn vX1_weigh (wsV RX1 49 RX10 yX10_lossOn vX10_lossOn) := goodIn_app (goodIn_r _ [14, 15, 16, 17] (by decide +kernel) (by decide +kernel)) (fun w h => ⟨List.mem_cons_of_mem _ (List.mem_append_right _ (List.mem_append_right _ (List.mem_append_right _ (List.mem_append_right _ (List.mem_append_right _ (List.mem_append_left _ h)))))), gs_X10_lossOn w h⟩)
theorem gg_X1_weigh_X1_letFall : GoodIn vX1_weigh (wsV RX1 59 RX1 yX1_letFall vX1_letFall) := goodIn_app (goodIn_r _ [20, 21, 22, 12] (by decide +kernel) (by decide +kernel)) (fun w h => ⟨List.mem_cons_of_mem _ (List.mem_append_right _ (List.mem_append_right _ (List.mem_append_right _ (List.mem_append_right _ (List.mem_append_right _ (List.mem_append_right _ (h))))))), gs_X1_letFall w h⟩)
set_option maxHeartbeats 4000000 in
set_option maxRecDepth 100000 in
theorem s_X1_weigh (l : Launch) (D : va_G) (cs : Nat → ClassId) (ad : Nat → Nat) (kS : kSt) (K : sK) (hKO : KO K) (hj : wJ ad 218) (g : Nat → va_E) (hW : WF (shp ad K) ad cs g) (ev : Int32) (len : Int32) (la : Int32) (hp0 : 0 ≤ ev.toInt ∧ ev.toInt ≤ 4) : sV l yX1_weigh vX1_weigh { frames := 2, cells := 0, slots := 0, locals := 46 } D cs ad kS [.ref (ad 140), .ref (ad 3), .ref (ad 114), .int ev, .int len, .int la] g (fun g2 => WF (shp ad K) ad cs g2 ∧ (∀ j, j ≠ 140 ∧ j ≠ 141 ∧ j ≠ 142 ∧ j ≠ 143 → g2 j = g j)) := by
  refine Met.startS (cc := cX1_weigh) (maxL := 10) (ret := none) RX1 rfl (by decide) rfl (Nat.le_of_ble_eq_true rfl) ?_
  intro p e s m below meth c ls X Z hP hl
  have hx := X.1
  have hb := X.2.1
  have hS : va_S (wA ad 218) s.heap s.heap [] := va_S.rf
  have hA : ∀ i, i < 218 → wA ad 218 (ad i) := fun i h => ⟨i, h, rfl⟩
  have hfr : ∀ j, j ≠ 140 ∧ j ≠ 141 ∧ j ≠ 142 ∧ j ≠ 143 → g j = g j := fun _ _ => rfl
  have hl : lv_has ls 10 [(0, .ref (ad 140)), (1, .ref (ad 3)), (2, .ref (ad 114)), (3, .int ev), (4, .int len), (5, .int la)] := hl
  refine lv_aload_n hx hb dX1_weigh_0 rfl (lv_at hl 0 rfl) ?_
  obtain ⟨fsc_1, hgc_1, hOc_1⟩ := hW.obj (i := 140) (by decide) (sh_140 ad K)
  have hk_2 := hOc_1.ref 0 rfl
  refine q_get X iX1_weigh_1 hP (by decide) hgc_1 rfl 0 (by decide) (List.mem_of_getElem? (i := 1) rfl) (v := .ref (ad 141)) hk_2 dX1_weigh_1 ?_
  refine lv_lconst (v := 0) hx hb dX1_weigh_4 (by decide) ?_
  refine s_callSv (As := [.ref (ad 141), .long 0]) (rest := []) X Z (s_fill_141 l D cs ad kS K hKO hj g hW 0) (va_cwS 2 X.2.2.2.2.1 gg_X1_weigh_J7_fill_d0a16 rfl rfl rfl (by decide +kernel) ⟨Nat.le_of_ble_eq_true rfl, Nat.le_of_ble_eq_true rfl⟩) hP hA hS.2.1 hS rfl hl.1 rfl (Nat.le_of_ble_eq_true rfl) dX1_weigh_5 ⟨Nat.le_of_ble_eq_true rfl, Nat.le_of_ble_eq_true rfl⟩ (fun g_4 H locs hw_3 hP hS => ?_)
  obtain ⟨hw_3W, hw_3f⟩ := hw_3
  have hfr_6 : ∀ j, j ≠ 140 ∧ j ≠ 141 ∧ j ≠ 142 ∧ j ≠ 143 → g_4 j = g j := fun j hj => (hw_3f j (by omega)).trans (hfr j hj)
  have hg_7 := (hw_3f 140 (by omega)).trans hgc_1
  refine lv_aload_n hx hb dX1_weigh_8 rfl (lv_at hl 0 rfl) ?_
  refine q_get X iX1_weigh_1 hP (by decide) hg_7 rfl 0 (by decide) (List.mem_of_getElem? (i := 1) rfl) (v := .ref (ad 141)) hk_2 dX1_weigh_9 ?_
  refine lv_iconst (v := 0) hx hb dX1_weigh_12 (by decide) ?_
  refine lv_lconst (v := 1) hx hb dX1_weigh_13 (by decide) ?_
  obtain ⟨fc_8, hgc_8, hFc_8⟩ := hw_3W.arj (i := 141) (by decide) (sh_141 ad K)
  refine s_last X hP hj hA hS (by decide) hgc_8 (by unfold vp_in; decide) dX1_weigh_14 hw_3W (sh_141 ad K) (hFc_8.put trivial) (fun fc_9 gc_9 H locs ec_9 hFc_9 hgc_9 hfc_9 hWc_9 hP hS => ?_)
  have hg_11 := (hfc_9 140 (by decide)).trans hg_7
  have hfr_10 : ∀ j, j ≠ 140 ∧ j ≠ 141 ∧ j ≠ 142 ∧ j ≠ 143 → gc_9 j = g j := fun j hj => (hfc_9 j (by omega)).trans (hfr_6 j hj)
  refine lv_aload_n hx hb dX1_weigh_15 rfl (lv_at hl 0 rfl) ?_
  refine lv_iconst (v := 0) hx hb dX1_weigh_16 (by decide) ?_
  refine s_put X iX1_weigh_1 tyX1 tyX1_ok nmX1 hP hj hA hS (by decide) hg_11 rfl 3 (by decide) (List.mem_of_getElem? (i := 5) rfl) rfl (ty := .int) (v := .int 0) (by decide +kernel) rfl rfl dX1_weigh_17 hWc_9 (sh_140 ad K) hOc_1 rfl ⟨0, rfl, by decide, by decide⟩ (fun fsc_12 gc_12 H locs hOc_12 hkc_12 hnc_12 hgc_12 hfc_12 hWc_12 hP hS => ?_)
  have hk_13 := (hnc_12 0 (by decide)).trans hk_2
  have hg_15 := (hfc_12 141 (by decide)).trans hgc_9
  have hfr_14 : ∀ j, j ≠ 140 ∧ j ≠ 141 ∧ j ≠ 142 ∧ j ≠ 143 → gc_12 j = g j := fun j hj => (hfc_12 j (by omega)).trans (hfr_10 j hj)
  refine lv_lconst (v := 1) hx hb dX1_weigh_20 (by decide) ?_
  refine lv_lstore (lv' := [(6, .long 1), (0, .ref (ad 140)), (1, .ref (ad 3)), (2, .ref (ad 114)), (3, .int ev), (4, .int len), (5, .int la)]) hx hb dX1_weigh_21 hl (by decide) rfl (fun ls hl => ?_)
  refine lv_iload hx hb dX1_weigh_23 (lv_at hl 5 rfl) ?_
  refine lv_istore (lv' := [(8, .int len), (6, .long 1), (0, .ref (ad 140)), (1, .ref (ad 3)), (2, .ref (ad 114)), (3, .int ev), (4, .int len), (5, .int la)]) hx hb dX1_weigh_25 hl (by decide) rfl (fun ls hl => ?_)
  refine lv_iconst (v := 0) hx hb dX1_weigh_27 (by decide) ?_
  refine lv_istore (lv' := [(9, .int 0), (8, .int len), (6, .long 1), (0, .ref (ad 140)), (1, .ref (ad 3)), (2, .ref (ad 114)), (3, .int ev), (4, .int len), (5, .int la)]) hx hb dX1_weigh_28 hl (by decide) rfl (fun ls hl => ?_)
  have HL30 : ∀ (n30 : Nat) (v30_9 : Int32) (v30_8 : Int32) (v30_6 : Int64) (G30 : Nat → va_E) (H : Heap) (locs : List Loc) (ls : Array Slot), (14 - v30_9.toInt).toNat < n30 → (0 ≤ v30_9.toInt ∧ v30_9.toInt ≤ 14) → WF (shp ad K) ad cs G30 → (∀ j, j ≠ 140 ∧ j ≠ 141 ∧ j ≠ 142 ∧ j ≠ 143 → G30 j = g j) → va_P D vwCl (wL ad G30 218) H → va_S (wA ad 218) s.heap H locs → lv_has ls 10 [(9, .int v30_9), (8, .int v30_8), (6, .long v30_6), (0, .ref (ad 140)), (1, .ref (ad 3)), (2, .ref (ad 114)), (3, .int ev), (5, .int la)] → W p l e ({ frames := 2, cells := 0, slots := 0, locals := 46 } : Room) s m ([.ref (ad 140), .ref (ad 3), .ref (ad 114), .int ev, .int len, .int la] : List Value).toArray below meth c H locs 0 0 (MQ below (qV D ad 218 (fun g2 => WF (shp ad K) ad cs g2 ∧ (∀ j, j ≠ 140 ∧ j ≠ 141 ∧ j ≠ 142 ∧ j ≠ 143 → g2 j = g j))) ([.ref (ad 140), .ref (ad 3), .ref (ad 114), .int ev, .int len, .int la] : List Value).toArray s 0 0 (wA ad 218)) (F0 m 30 ls []) := by
    intro n30
    induction n30 with
    | zero =>
      intro v30_9 v30_8 v30_6 G30 H locs ls hm30 hv30_0 hW30 hfr30 hP hS hl
      exact absurd hm30 (Nat.not_lt_zero _)
    | succ n30 ih30 =>
      intro v30_9 v30_8 v30_6 G30 H locs ls hm30 hv30_0 hW30 hfr30 hP hS hl
      refine lv_iload hx hb dX1_weigh_30 (lv_at hl 0 rfl) ?_
      refine lv_iload hx hb dX1_weigh_32 (lv_at hl 7 rfl) ?_
      have HJ119 : ∀ (G119 : Nat → va_E) (H : Heap) (locs : List Loc) (ls : Array Slot), WF (shp ad K) ad cs G119 → (∀ j, j ≠ 140 ∧ j ≠ 141 ∧ j ≠ 142 ∧ j ≠ 143 → G119 j = g j) → va_P D vwCl (wL ad G119 218) H → va_S (wA ad 218) s.heap H locs → lv_has ls 10 [] → W p l e ({ frames := 2, cells := 0, slots := 0, locals := 46 } : Room) s m ([.ref (ad 140), .ref (ad 3), .ref (ad 114), .int ev, .int len, .int la] : List Value).toArray below meth c H locs 0 0 (MQ below (qV D ad 218 (fun g2 => WF (shp ad K) ad cs g2 ∧ (∀ j, j ≠ 140 ∧ j ≠ 141 ∧ j ≠ 142 ∧ j ≠ 143 → g2 j = g j))) ([.ref (ad 140), .ref (ad 3), .ref (ad 114), .int ev, .int len, .int la] : List Value).toArray s 0 0 (wA ad 218)) (F0 m 119 ls []) := by
        intro G119 H locs ls hW119 hfr119 hP hS hl
        exact q_vret X hP hS ⟨hW119, hfr119⟩ dX1_weigh_119
      refine lv_icmp_gt (tgt := 119) hx hb dX1_weigh_34 (by decide) (fun hc_16 => ?_) (fun hc_16 => ?_)
      · have hhc_16 := n_lt (rfl : la.toInt = la.toInt) (rfl : v30_9.toInt = v30_9.toInt) hc_16
        have := n_hi la
        have := n_lo la
        exact HJ119 G30 _ _ ls hW30 hfr30 hP hS (lv_sub hl [] rfl)
      · have hhc_16 := n_nlt (rfl : la.toInt = la.toInt) (rfl : v30_9.toInt = v30_9.toInt) hc_16
        have := n_hi la
        have := n_lo la
        refine lv_iload hx hb dX1_weigh_37 (lv_at hl 0 rfl) ?_
        refine lv_aload_n hx hb dX1_weigh_39 rfl (lv_at hl 4 rfl) ?_
        obtain ⟨fsc_17, hgc_17, hOc_17⟩ := hW30.obj (i := 3) (by decide) (sh_3 ad K)
        obtain ⟨x_19, hk_18, hlx_19, hhx_19⟩ := hOc_17.int 3 rfl
        refine q_get X iX1_weigh_6 hP (by decide) hgc_17 rfl 3 (by decide) (List.mem_of_getElem? (i := 6) rfl) (v := .int x_19) hk_18 dX1_weigh_40 ?_
        refine lv_icmp_ge (tgt := 119) hx hb dX1_weigh_43 (by decide) (fun hc_20 => ?_) (fun hc_20 => ?_)
        · have hhc_20 := n_le (rfl : x_19.toInt = x_19.toInt) (rfl : v30_9.toInt = v30_9.toInt) hc_20
          exact HJ119 G30 _ _ ls hW30 hfr30 hP hS (lv_sub hl [] rfl)
        · have hhc_20 := n_nle (rfl : x_19.toInt = x_19.toInt) (rfl : v30_9.toInt = v30_9.toInt) hc_20
          refine lv_aload_n hx hb dX1_weigh_46 rfl (lv_at hl 4 rfl) ?_
          have hk_21 := hOc_17.ref 9 rfl
          refine q_get X iX1_weigh_6 hP (by decide) hgc_17 rfl 9 (by decide) (List.mem_of_getElem? (i := 7) rfl) (v := .ref (ad 5)) hk_21 dX1_weigh_47 ?_
          refine lv_iload hx hb dX1_weigh_50 (lv_at hl 0 rfl) ?_
          obtain ⟨fc_22, hgc_22, hFc_22⟩ := hW30.arr (i := 5) (by decide) (sh_5 ad K)
          refine q_zald X hP (by decide) hgc_22 (n_in (rfl : v30_9.toInt = v30_9.toInt) (by omega) (by omega)) dX1_weigh_52 ?_
          refine lv_topi (fun z_23 ez_23 => ?_)
          have HJ72 : ∀ (v72_6 : Int64) (G72 : Nat → va_E) (H : Heap) (locs : List Loc) (ls : Array Slot), WF (shp ad K) ad cs G72 → (∀ j, j ≠ 140 ∧ j ≠ 141 ∧ j ≠ 142 ∧ j ≠ 143 → G72 j = g j) → G72 3 = .inr (6, fsc_17) → G72 5 = .inl (cs 3, 14, .inl fc_22) → va_P D vwCl (wL ad G72 218) H → va_S (wA ad 218) s.heap H locs → lv_has ls 10 [(9, .int v30_9), (8, .int v30_8), (6, .long v72_6), (0, .ref (ad 140)), (1, .ref (ad 3)), (2, .ref (ad 114)), (3, .int ev), (5, .int la)] → W p l e ({ frames := 2, cells := 0, slots := 0, locals := 46 } : Room) s m ([.ref (ad 140), .ref (ad 3), .ref (ad 114), .int ev, .int len, .int la] : List Value).toArray below meth c H locs 0 0 (MQ below (qV D ad 218 (fun g2 => WF (shp ad K) ad cs g2 ∧ (∀ j, j ≠ 140 ∧ j ≠ 141 ∧ j ≠ 142 ∧ j ≠ 143 → g2 j = g j))) ([.ref (ad 140), .ref (ad 3), .ref (ad 114), .int ev, .int len, .int la] : List Value).toArray s 0 0 (wA ad 218)) (F0 m 72 ls []) := by
            intro v72_6 G72 H locs ls hW72 hfr72 hg72_0 hg72_1 hP hS hl
            refine lv_iload hx hb dX1_weigh_72 (lv_at hl 1 rfl) ?_
            refine lv_aload_n hx hb dX1_weigh_74 rfl (lv_at hl 5 rfl) ?_
            refine lv_aload_n hx hb dX1_weigh_75 rfl (lv_at hl 4 rfl) ?_
            refine lv_iload_n hx hb dX1_weigh_76 rfl (lv_at hl 6 rfl) ?_
            refine lv_iload hx hb dX1_weigh_77 (lv_at hl 0 rfl) ?_
            obtain ⟨fsc_27, hgc_27, hOc_27⟩ := hW72.obj (i := 114) (by decide) (sh_114 ad K)
            refine s_calli (q := (RX10, TX10, 4)) (As := [.ref (ad 3), .int ev, .int v30_9]) (rest := [.int v30_8]) X Z (s_X10_lossOn l D cs ad kS K hKO hj G72 hW72 114 ev v30_9 (by omega) (by omega) (by omega)) (cwV 3 X.2.2.2.2.1 gg_X1_weigh_X10_lossOn rfl rfl rfl (by decide +kernel) ⟨Nat.le_of_ble_eq_true rfl, Nat.le_of_ble_eq_true rfl⟩) (by decide) hgc_27 rfl hP hA hS.2.1 hS rfl hl.1 rfl (Nat.le_of_ble_eq_true rfl) dX1_weigh_79 ⟨Nat.le_of_ble_eq_true rfl, Nat.le_of_ble_eq_true rfl⟩ (fun r_26 g_25 H locs hw_24 hP hS => ?_)
            rw [hw_24] at hP
            refine lv_isub hx hb dX1_weigh_82 ?_
            refine lv_topi (fun z_28 ez_28 => ?_)
            refine lv_istore (lv' := [(8, .int z_28), (9, .int v30_9), (6, .long v72_6), (0, .ref (ad 140)), (1, .ref (ad 3)), (2, .ref (ad 114)), (3, .int ev), (5, .int la)]) hx hb dX1_weigh_83 hl (by decide) rfl (fun ls hl => ?_)
            refine lv_aload_n hx hb dX1_weigh_85 rfl (lv_at hl 3 rfl) ?_
            obtain ⟨fsc_29, hgc_29, hOc_29⟩ := hW72.obj (i := 140) (by decide) (sh_140 ad K)
            have hk_30 := hOc_29.ref 1 rfl
            refine q_get X iX1_weigh_1 hP (by decide) hgc_29 rfl 1 (by decide) (List.mem_of_getElem? (i := 18) rfl) (v := .ref (ad 142)) hk_30 dX1_weigh_86 ?_
            refine lv_iload hx hb dX1_weigh_89 (lv_at hl 1 rfl) ?_
            refine lv_aload_n hx hb dX1_weigh_91 rfl (lv_at hl 3 rfl) ?_
            refine lv_iload hx hb dX1_weigh_92 (lv_at hl 0 rfl) ?_
            refine lv_aload_n hx hb dX1_weigh_94 rfl (lv_at hl 4 rfl) ?_
            have hk_31 := hOc_17.ref 10 rfl
            refine q_get X iX1_weigh_6 hP (by decide) hg72_0 rfl 10 (by decide) (List.mem_of_getElem? (i := 19) rfl) (v := .ref (ad 6)) hk_31 dX1_weigh_95 ?_
            refine lv_iload_n hx hb dX1_weigh_98 rfl (lv_at hl 6 rfl) ?_
            obtain ⟨fc_32, hgc_32, hFc_32⟩ := hW72.arr (i := 6) (by decide) (sh_6 ad K)
            refine q_iald X hP (by decide) hgc_32 (n_in (rfl : ev.toInt = ev.toInt) (by omega) (by omega)) dX1_weigh_99 ?_
            refine lv_topi (fun z_33 ez_33 => ?_)
            refine s_callj (q := (RX1, TX1, 4)) (As := [.int z_28, .int z_33]) (rest := [.int v30_9, .ref (ad 142)]) X Z (s_X1_letFall l D cs ad kS K hKO hj G72 hW72 z_28 z_33) (cwV 2 X.2.2.2.2.1 gg_X1_weigh_X1_letFall rfl rfl rfl (by decide +kernel) ⟨Nat.le_of_ble_eq_true rfl, Nat.le_of_ble_eq_true rfl⟩) (by decide) hgc_29 rfl hP hA hS.2.1 hS rfl hl.1 rfl (Nat.le_of_ble_eq_true rfl) dX1_weigh_100 ⟨Nat.le_of_ble_eq_true rfl, Nat.le_of_ble_eq_true rfl⟩ (fun r_36 g_35 H locs hw_34 hP hS => ?_)
            obtain ⟨hw_34W, hw_34f⟩ := hw_34
            have hfr_37 : ∀ j, j ≠ 140 ∧ j ≠ 141 ∧ j ≠ 142 ∧ j ≠ 143 → g_35 j = g j := fun j hj => (hw_34f j (by omega)).trans (hfr72 j hj)
            have hg_38 := (hw_34f 3 (by omega)).trans hg72_0
            have hg_39 := (hw_34f 5 (by omega)).trans hg72_1
            have hg_40 := (hw_34f 114 (by omega)).trans hgc_27
            have hg_41 := (hw_34f 140 (by omega)).trans hgc_29
            have hg_42 := (hw_34f 6 (by omega)).trans hgc_32
            obtain ⟨fc_43, hgc_43, hFc_43⟩ := hw_34W.arj (i := 142) (by decide) (sh_142 ad K)
            refine s_last X hP hj hA hS (by decide) hgc_43 (n_in (rfl : v30_9.toInt = v30_9.toInt) (by omega) (by omega)) dX1_weigh_103 hw_34W (sh_142 ad K) (hFc_43.put trivial) (fun fc_44 gc_44 H locs ec_44 hFc_44 hgc_44 hfc_44 hWc_44 hP hS => ?_)
            have hg_46 := (hfc_44 3 (by decide)).trans hg_38
            have hg_47 := (hfc_44 5 (by decide)).trans hg_39
            have hg_48 := (hfc_44 114 (by decide)).trans hg_40
            have hg_49 := (hfc_44 140 (by decide)).trans hg_41
            have hg_50 := (hfc_44 6 (by decide)).trans hg_42
            have hfr_45 : ∀ j, j ≠ 140 ∧ j ≠ 141 ∧ j ≠ 142 ∧ j ≠ 143 → gc_44 j = g j := fun j hj => (hfc_44 j (by omega)).trans (hfr_37 j hj)
            refine lv_aload_n hx hb dX1_weigh_104 rfl (lv_at hl 3 rfl) ?_
            have hk_51 := hOc_29.ref 2 rfl
            refine q_get X iX1_weigh_1 hP (by decide) hg_49 rfl 2 (by decide) (List.mem_of_getElem? (i := 23) rfl) (v := .ref (ad 143)) hk_51 dX1_weigh_105 ?_
            refine lv_iload hx hb dX1_weigh_108 (lv_at hl 1 rfl) ?_
            refine lv_lload hx hb dX1_weigh_110 (lv_at hl 2 rfl) ?_
            obtain ⟨fc_52, hgc_52, hFc_52⟩ := hWc_44.arj (i := 143) (by decide) (sh_143 ad K)
            refine s_last X hP hj hA hS (by decide) hgc_52 (n_in (rfl : v30_9.toInt = v30_9.toInt) (by omega) (by omega)) dX1_weigh_112 hWc_44 (sh_143 ad K) (hFc_52.put trivial) (fun fc_53 gc_53 H locs ec_53 hFc_53 hgc_53 hfc_53 hWc_53 hP hS => ?_)
            have hg_55 := (hfc_53 3 (by decide)).trans hg_46
            have hg_56 := (hfc_53 5 (by decide)).trans hg_47
            have hg_57 := (hfc_53 114 (by decide)).trans hg_48
            have hg_58 := (hfc_53 140 (by decide)).trans hg_49
            have hg_59 := (hfc_53 6 (by decide)).trans hg_50
            have hg_60 := (hfc_53 142 (by decide)).trans hgc_44
            have hfr_54 : ∀ j, j ≠ 140 ∧ j ≠ 141 ∧ j ≠ 142 ∧ j ≠ 143 → gc_53 j = g j := fun j hj => (hfc_53 j (by omega)).trans (hfr_45 j hj)
            obtain ⟨x_61, ex_61⟩ : ∃ y : Int32, y = v30_9 + 1 := ⟨_, rfl⟩
            have hx_61 : x_61.toInt = v30_9.toInt + 1 := n_add rfl (by decide : (1 : Int32).toInt = 1) ex_61 (by omega) (by omega)
            refine lv_iinc (v := x_61) (lv' := [(9, .int x_61), (8, .int z_28), (6, .long v72_6), (0, .ref (ad 140)), (1, .ref (ad 3)), (2, .ref (ad 114)), (3, .int ev), (5, .int la)]) hx hb dX1_weigh_113 hl (k := 1) rfl (by rw [ex_61]; rfl) (by decide) rfl (fun ls hl => ?_)
            refine lv_goto (tgt := 30) hx hb dX1_weigh_116 (by decide) ?_
            exact ih30 x_61 z_28 v72_6 gc_53 _ _ ls (by omega) (by omega) hWc_53 hfr_54 hP hS (lv_sub hl [0, 1, 2, 3, 4, 5, 6, 7] rfl)
          refine lv_if_eq (tgt := 72) hx hb dX1_weigh_53 (by decide) (fun hc_62 => ?_) (fun hc_62 => ?_)
          · have hhc_62 := n_eq (rfl : z_23.toInt = z_23.toInt) (by decide : (0 : Int32).toInt = 0) hc_62
            exact HJ72 v30_6 G30 _ _ ls hW30 hfr30 hgc_17 hgc_22 hP hS (lv_sub hl [0, 1, 2, 3, 4, 5, 6, 7] rfl)
          · have hhc_62 := n_ne (rfl : z_23.toInt = z_23.toInt) (by decide : (0 : Int32).toInt = 0) hc_62
            refine lv_aload_n hx hb dX1_weigh_56 rfl (lv_at hl 3 rfl) ?_
            refine lv_aload_n hx hb dX1_weigh_57 rfl (lv_at hl 4 rfl) ?_
            obtain ⟨x_64, hk_63, -⟩ := hOc_17.int 2 rfl
            refine q_get X iX1_weigh_6 hP (by decide) hgc_17 rfl 2 (by decide) (List.mem_of_getElem? (i := 8) rfl) (v := .int x_64) hk_63 dX1_weigh_58 ?_
            obtain ⟨fsc_68, hgc_68, hOc_68⟩ := hW30.obj (i := 140) (by decide) (sh_140 ad K)
            refine s_callv (q := (RX1, TX1, 4)) (As := [.int x_64]) (rest := []) X Z (s_X1_warmOrNot l D cs ad kS K hKO hj G30 hW30 x_64) (cwV 1 X.2.2.2.2.1 gg_X1_weigh_X1_warmOrNot rfl rfl rfl (by decide +kernel) ⟨Nat.le_of_ble_eq_true rfl, Nat.le_of_ble_eq_true rfl⟩) (by decide) hgc_68 rfl hP hA hS.2.1 hS rfl hl.1 rfl (Nat.le_of_ble_eq_true rfl) dX1_weigh_61 ⟨Nat.le_of_ble_eq_true rfl, Nat.le_of_ble_eq_true rfl⟩ (fun g_66 H locs hw_65 hP hS => ?_)
            obtain ⟨hw_65W, hw_65f⟩ := hw_65
            have hfr_69 : ∀ j, j ≠ 140 ∧ j ≠ 141 ∧ j ≠ 142 ∧ j ≠ 143 → g_66 j = g j := fun j hj => (hw_65f j (by omega)).trans (hfr30 j hj)
            have hg_70 := (hw_65f 3 (by omega)).trans hgc_17
            have hg_71 := (hw_65f 5 (by omega)).trans hgc_22
            refine lv_lload hx hb dX1_weigh_64 (lv_at hl 2 rfl) ?_
            refine lv_ldc2 (v := 10) hx hb X.2.2.2.2.2.1 (X.2.2.2.2.1 _ (List.mem_of_getElem? (i := 13) rfl)) dX1_weigh_66 ?_
            refine lv_lmul hx hb dX1_weigh_69 ?_
            refine lv_topl (fun z_72 ez_72 => ?_)
            refine lv_lstore (lv' := [(6, .long z_72), (9, .int v30_9), (8, .int v30_8), (0, .ref (ad 140)), (1, .ref (ad 3)), (2, .ref (ad 114)), (3, .int ev), (5, .int la)]) hx hb dX1_weigh_70 hl (by decide) rfl (fun ls hl => ?_)
            exact HJ72 z_72 g_66 _ _ ls hw_65W hfr_69 hg_70 hg_71 hP hS (lv_sub hl [1, 2, 0, 3, 4, 5, 6, 7] rfl)
  have hiv30_9 : (0 : Int32).toInt = 0 := by decide
  have hiv30_6 : (1 : Int64).toInt = 1 := by decide
  exact HL30 _ 0 len 1 gc_12 _ _ ls (Nat.lt_succ_self _) (by omega) hWc_12 hfr_14 hP hS (lv_sub hl [0, 1, 2, 3, 4, 5, 6, 8] rfl)

theorem dX1_likeliestDay_0 : decode cX1_likeliestDay 0 = .ok (.lconst 0, 1) := by decide +kernel
theorem dX1_likeliestDay_1 : decode cX1_likeliestDay 1 = .ok (.lstore_n 2, 1) := by decide +kernel
theorem dX1_likeliestDay_2 : decode cX1_likeliestDay 2 = .ok (.iconst 0, 1) := by decide +kernel
theorem dX1_likeliestDay_3 : decode cX1_likeliestDay 3 = .ok (.istore 4, 2) := by decide +kernel
theorem dX1_likeliestDay_5 : decode cX1_likeliestDay 5 = .ok (.iload 4, 2) := by decide +kernel
theorem dX1_likeliestDay_7 : decode cX1_likeliestDay 7 = .ok (.aload_n 0, 1) := by decide +kernel
theorem dX1_likeliestDay_8 : decode cX1_likeliestDay 8 = .ok (.getfield 27, 3) := by decide +kernel
theorem dX1_likeliestDay_11 : decode cX1_likeliestDay 11 = .ok (.if_icmp .gt 19, 3) := by decide +kernel
theorem dX1_likeliestDay_14 : decode cX1_likeliestDay 14 = .ok (.lload_n 2, 1) := by decide +kernel
theorem dX1_likeliestDay_15 : decode cX1_likeliestDay 15 = .ok (.aload_n 0, 1) := by decide +kernel
theorem dX1_likeliestDay_16 : decode cX1_likeliestDay 16 = .ok (.getfield 9, 3) := by decide +kernel
theorem dX1_likeliestDay_19 : decode cX1_likeliestDay 19 = .ok (.iload 4, 2) := by decide +kernel
theorem dX1_likeliestDay_21 : decode cX1_likeliestDay 21 = .ok (.laload, 1) := by decide +kernel
theorem dX1_likeliestDay_22 : decode cX1_likeliestDay 22 = .ok (.ladd, 1) := by decide +kernel
theorem dX1_likeliestDay_23 : decode cX1_likeliestDay 23 = .ok (.lstore_n 2, 1) := by decide +kernel
theorem dX1_likeliestDay_24 : decode cX1_likeliestDay 24 = .ok (.iinc 4 1, 3) := by decide +kernel
theorem dX1_likeliestDay_27 : decode cX1_likeliestDay 27 = .ok (.goto (-22), 3) := by decide +kernel
theorem dX1_likeliestDay_30 : decode cX1_likeliestDay 30 = .ok (.iconst (-1), 1) := by decide +kernel
theorem dX1_likeliestDay_31 : decode cX1_likeliestDay 31 = .ok (.istore 4, 2) := by decide +kernel
theorem dX1_likeliestDay_33 : decode cX1_likeliestDay 33 = .ok (.iconst 0, 1) := by decide +kernel
theorem dX1_likeliestDay_34 : decode cX1_likeliestDay 34 = .ok (.istore 5, 2) := by decide +kernel
theorem dX1_likeliestDay_36 : decode cX1_likeliestDay 36 = .ok (.iload 5, 2) := by decide +kernel
theorem dX1_likeliestDay_38 : decode cX1_likeliestDay 38 = .ok (.iload_n 1, 1) := by decide +kernel
theorem dX1_likeliestDay_39 : decode cX1_likeliestDay 39 = .ok (.if_icmp .ge 65, 3) := by decide +kernel
theorem dX1_likeliestDay_42 : decode cX1_likeliestDay 42 = .ok (.aload_n 0, 1) := by decide +kernel
theorem dX1_likeliestDay_43 : decode cX1_likeliestDay 43 = .ok (.getfield 18, 3) := by decide +kernel
theorem dX1_likeliestDay_46 : decode cX1_likeliestDay 46 = .ok (.iload 5, 2) := by decide +kernel
theorem dX1_likeliestDay_48 : decode cX1_likeliestDay 48 = .ok (.laload, 1) := by decide +kernel
theorem dX1_likeliestDay_49 : decode cX1_likeliestDay 49 = .ok (.lconst 0, 1) := by decide +kernel
theorem dX1_likeliestDay_50 : decode cX1_likeliestDay 50 = .ok (.lcmp, 1) := by decide +kernel
theorem dX1_likeliestDay_51 : decode cX1_likeliestDay 51 = .ok (.ifCond .le 30, 3) := by decide +kernel
theorem dX1_likeliestDay_54 : decode cX1_likeliestDay 54 = .ok (.aload_n 0, 1) := by decide +kernel
theorem dX1_likeliestDay_55 : decode cX1_likeliestDay 55 = .ok (.getfield 15, 3) := by decide +kernel
theorem dX1_likeliestDay_58 : decode cX1_likeliestDay 58 = .ok (.iload 5, 2) := by decide +kernel
theorem dX1_likeliestDay_60 : decode cX1_likeliestDay 60 = .ok (.laload, 1) := by decide +kernel
theorem dX1_likeliestDay_61 : decode cX1_likeliestDay 61 = .ok (.aload_n 0, 1) := by decide +kernel
theorem dX1_likeliestDay_62 : decode cX1_likeliestDay 62 = .ok (.getfield 18, 3) := by decide +kernel
theorem dX1_likeliestDay_65 : decode cX1_likeliestDay 65 = .ok (.iload_n 1, 1) := by decide +kernel
theorem dX1_likeliestDay_66 : decode cX1_likeliestDay 66 = .ok (.iconst 1, 1) := by decide +kernel
theorem dX1_likeliestDay_67 : decode cX1_likeliestDay 67 = .ok (.isub, 1) := by decide +kernel
theorem dX1_likeliestDay_68 : decode cX1_likeliestDay 68 = .ok (.laload, 1) := by decide +kernel
theorem dX1_likeliestDay_69 : decode cX1_likeliestDay 69 = .ok (.aload_n 0, 1) := by decide +kernel
theorem dX1_likeliestDay_70 : decode cX1_likeliestDay 70 = .ok (.getfield 18, 3) := by decide +kernel
theorem dX1_likeliestDay_73 : decode cX1_likeliestDay 73 = .ok (.iload 5, 2) := by decide +kernel
theorem dX1_likeliestDay_75 : decode cX1_likeliestDay 75 = .ok (.laload, 1) := by decide +kernel
theorem dX1_likeliestDay_76 : decode cX1_likeliestDay 76 = .ok (.ldiv, 1) := by decide +kernel
theorem dX1_likeliestDay_77 : decode cX1_likeliestDay 77 = .ok (.lmul, 1) := by decide +kernel
theorem dX1_likeliestDay_78 : decode cX1_likeliestDay 78 = .ok (.goto 4, 3) := by decide +kernel
theorem dX1_likeliestDay_81 : decode cX1_likeliestDay 81 = .ok (.lconst 0, 1) := by decide +kernel
theorem dX1_likeliestDay_82 : decode cX1_likeliestDay 82 = .ok (.lstore 6, 2) := by decide +kernel
theorem dX1_likeliestDay_84 : decode cX1_likeliestDay 84 = .ok (.lload 6, 2) := by decide +kernel
theorem dX1_likeliestDay_86 : decode cX1_likeliestDay 86 = .ok (.lload_n 2, 1) := by decide +kernel
theorem dX1_likeliestDay_87 : decode cX1_likeliestDay 87 = .ok (.lcmp, 1) := by decide +kernel
theorem dX1_likeliestDay_88 : decode cX1_likeliestDay 88 = .ok (.ifCond .le 10, 3) := by decide +kernel
theorem dX1_likeliestDay_91 : decode cX1_likeliestDay 91 = .ok (.lload 6, 2) := by decide +kernel
theorem dX1_likeliestDay_93 : decode cX1_likeliestDay 93 = .ok (.lstore_n 2, 1) := by decide +kernel
theorem dX1_likeliestDay_94 : decode cX1_likeliestDay 94 = .ok (.iload 5, 2) := by decide +kernel
theorem dX1_likeliestDay_96 : decode cX1_likeliestDay 96 = .ok (.istore 4, 2) := by decide +kernel
theorem dX1_likeliestDay_98 : decode cX1_likeliestDay 98 = .ok (.iinc 5 1, 3) := by decide +kernel
theorem dX1_likeliestDay_101 : decode cX1_likeliestDay 101 = .ok (.goto (-65), 3) := by decide +kernel
theorem dX1_likeliestDay_104 : decode cX1_likeliestDay 104 = .ok (.iload 4, 2) := by decide +kernel
theorem dX1_likeliestDay_106 : decode cX1_likeliestDay 106 = .ok (.ireturn, 1) := by decide +kernel
noncomputable def vX1_likeliestDay : List Cond := .code yX1_likeliestDay cX1_likeliestDay 8 (some .int) :: (([.fieldLink RX1 27 "IcicleClock$Chances" "mostWarm" "I", .fieldLink RX1 9 "IcicleClock$Chances" "hanging" "[J", .fieldLink RX1 18 "IcicleClock$Chances" "whole" "[J", .fieldLink RX1 15 "IcicleClock$Chances" "weight" "[J"] : List Cond) ++ wsX10)
theorem iX1_likeliestDay_1 : ∀ w ∈ wsX10, w ∈ vX1_likeliestDay := fun _ h => List.mem_cons_of_mem _ (List.mem_append_right _ (h))
theorem gs_X1_likeliestDay : Gd vX1_likeliestDay := Gd.cons (by decide +kernel) (Gd.app (Gd.r (by decide +kernel)) gwX_1)
set_option maxHeartbeats 4000000 in
set_option maxRecDepth 100000 in
theorem s_X1_likeliestDay (l : Launch) (D : va_G) (cs : Nat → ClassId) (ad : Nat → Nat) (kS : kSt) (K : sK) (hKO : KO K) (hj : wJ ad 218) (g : Nat → va_E) (hW : WF (shp ad K) ad cs g) (dys : Int32) (hp0 : 0 ≤ dys.toInt ∧ dys.toInt ≤ 14) : sI l yX1_likeliestDay vX1_likeliestDay { frames := 0, cells := 0, slots := 0, locals := 0 } D cs ad kS [.ref (ad 140), .int dys] g (fun r g2 => g2 = g) := by
  refine Met.startS (cc := cX1_likeliestDay) (maxL := 8) (ret := (some .int)) RX1 rfl (by decide) rfl (Nat.le_of_ble_eq_true rfl) ?_
  intro p e s m below meth c ls X Z hP hl
  have hx := X.1
  have hb := X.2.1
  have hS : va_S (wA ad 218) s.heap s.heap [] := va_S.rf
  have hA : ∀ i, i < 218 → wA ad 218 (ad i) := fun i h => ⟨i, h, rfl⟩
  have hl : lv_has ls 8 [(0, .ref (ad 140)), (1, .int dys)] := hl
  refine lv_lconst (v := 0) hx hb dX1_likeliestDay_0 (by decide) ?_
  refine lv_lstore_n (lv' := [(2, .long 0), (0, .ref (ad 140)), (1, .int dys)]) hx hb dX1_likeliestDay_1 rfl hl (by decide) rfl (fun ls hl => ?_)
  refine lv_iconst (v := 0) hx hb dX1_likeliestDay_2 (by decide) ?_
  refine lv_istore (lv' := [(4, .int 0), (2, .long 0), (0, .ref (ad 140)), (1, .int dys)]) hx hb dX1_likeliestDay_3 hl (by decide) rfl (fun ls hl => ?_)
  have HL5 : ∀ (n5 : Nat) (v5_4 : Int32) (v5_2 : Int64) (H : Heap) (locs : List Loc) (ls : Array Slot), (15 - v5_4.toInt).toNat < n5 → (0 ≤ v5_4.toInt ∧ v5_4.toInt ≤ 15) → va_P D vwCl (wL ad g 218) H → va_S (wA ad 218) s.heap H locs → lv_has ls 8 [(4, .int v5_4), (2, .long v5_2), (0, .ref (ad 140)), (1, .int dys)] → W p l e ({ frames := 0, cells := 0, slots := 0, locals := 0 } : Room) s m ([.ref (ad 140), .int dys] : List Value).toArray below meth c H locs 0 0 (MQ below (qI D ad 218 (fun r g2 => g2 = g)) ([.ref (ad 140), .int dys] : List Value).toArray s 0 0 (wA ad 218)) (F0 m 5 ls []) := by
    intro n5
    induction n5 with
    | zero =>
      intro v5_4 v5_2 H locs ls hm5 hv5_0 hP hS hl
      exact absurd hm5 (Nat.not_lt_zero _)
    | succ n5 ih5 =>
      intro v5_4 v5_2 H locs ls hm5 hv5_0 hP hS hl
      refine lv_iload hx hb dX1_likeliestDay_5 (lv_at hl 0 rfl) ?_
      refine lv_aload_n hx hb dX1_likeliestDay_7 rfl (lv_at hl 2 rfl) ?_
      obtain ⟨fsc_1, hgc_1, hOc_1⟩ := hW.obj (i := 140) (by decide) (sh_140 ad K)
      obtain ⟨x_3, hk_2, hlx_3, hhx_3⟩ := hOc_1.int 3 rfl
      refine q_get X iX1_likeliestDay_1 hP (by decide) hgc_1 rfl 3 (by decide) (List.mem_of_getElem? (i := 1) rfl) (v := .int x_3) hk_2 dX1_likeliestDay_8 ?_
      refine lv_icmp_gt (tgt := 30) hx hb dX1_likeliestDay_11 (by decide) (fun hc_4 => ?_) (fun hc_4 => ?_)
      · have hhc_4 := n_lt (rfl : x_3.toInt = x_3.toInt) (rfl : v5_4.toInt = v5_4.toInt) hc_4
        refine lv_iconst (v := (-1)) hx hb dX1_likeliestDay_30 (by decide) ?_
        refine lv_istore (lv' := [(4, .int (-1)), (2, .long v5_2), (0, .ref (ad 140)), (1, .int dys)]) hx hb dX1_likeliestDay_31 hl (by decide) rfl (fun ls hl => ?_)
        refine lv_iconst (v := 0) hx hb dX1_likeliestDay_33 (by decide) ?_
        refine lv_istore (lv' := [(5, .int 0), (4, .int (-1)), (2, .long v5_2), (0, .ref (ad 140)), (1, .int dys)]) hx hb dX1_likeliestDay_34 hl (by decide) rfl (fun ls hl => ?_)
        have HL36 : ∀ (n36 : Nat) (v36_5 : Int32) (v36_4 : Int32) (v36_2 : Int64) (H : Heap) (locs : List Loc) (ls : Array Slot), (14 - v36_5.toInt).toNat < n36 → (0 ≤ v36_5.toInt ∧ v36_5.toInt ≤ 14) → ((-1) ≤ v36_4.toInt ∧ v36_4.toInt ≤ 13) → va_P D vwCl (wL ad g 218) H → va_S (wA ad 218) s.heap H locs → lv_has ls 8 [(5, .int v36_5), (4, .int v36_4), (2, .long v36_2), (0, .ref (ad 140)), (1, .int dys)] → W p l e ({ frames := 0, cells := 0, slots := 0, locals := 0 } : Room) s m ([.ref (ad 140), .int dys] : List Value).toArray below meth c H locs 0 0 (MQ below (qI D ad 218 (fun r g2 => g2 = g)) ([.ref (ad 140), .int dys] : List Value).toArray s 0 0 (wA ad 218)) (F0 m 36 ls []) := by
          intro n36
          induction n36 with
          | zero =>
            intro v36_5 v36_4 v36_2 H locs ls hm36 hv36_0 hv36_1 hP hS hl
            exact absurd hm36 (Nat.not_lt_zero _)
          | succ n36 ih36 =>
            intro v36_5 v36_4 v36_2 H locs ls hm36 hv36_0 hv36_1 hP hS hl
            refine lv_iload hx hb dX1_likeliestDay_36 (lv_at hl 0 rfl) ?_
            refine lv_iload_n hx hb dX1_likeliestDay_38 rfl (lv_at hl 4 rfl) ?_
            refine lv_icmp_ge (tgt := 104) hx hb dX1_likeliestDay_39 (by decide) (fun hc_5 => ?_) (fun hc_5 => ?_)
            · have hhc_5 := n_le (rfl : dys.toInt = dys.toInt) (rfl : v36_5.toInt = v36_5.toInt) hc_5
              refine lv_iload hx hb dX1_likeliestDay_104 (lv_at hl 1 rfl) ?_
              exact q_iret X hP hS rfl dX1_likeliestDay_106
            · have hhc_5 := n_nle (rfl : dys.toInt = dys.toInt) (rfl : v36_5.toInt = v36_5.toInt) hc_5
              refine lv_aload_n hx hb dX1_likeliestDay_42 rfl (lv_at hl 3 rfl) ?_
              have hk_6 := hOc_1.ref 2 rfl
              refine q_get X iX1_likeliestDay_1 hP (by decide) hgc_1 rfl 2 (by decide) (List.mem_of_getElem? (i := 3) rfl) (v := .ref (ad 143)) hk_6 dX1_likeliestDay_43 ?_
              refine lv_iload hx hb dX1_likeliestDay_46 (lv_at hl 0 rfl) ?_
              obtain ⟨fc_7, hgc_7, hFc_7⟩ := hW.arj (i := 143) (by decide) (sh_143 ad K)
              refine q_lald X hP (by decide) hgc_7 (n_in (rfl : v36_5.toInt = v36_5.toInt) (by omega) (by omega)) dX1_likeliestDay_48 ?_
              refine lv_topl (fun z_8 ez_8 => ?_)
              refine lv_lconst (v := 0) hx hb dX1_likeliestDay_49 (by decide) ?_
              refine W.lcmp hx hb dX1_likeliestDay_50 ?_
              refine lv_if_le (tgt := 81) hx hb dX1_likeliestDay_51 (by decide) (fun hc_9 => ?_) (fun hc_9 => ?_)
              · have hhc_9 := j_cleP (rfl : z_8.toInt = z_8.toInt) (by decide : (0 : Int64).toInt = 0) hc_9
                refine lv_lconst (v := 0) hx hb dX1_likeliestDay_81 (by decide) ?_
                refine lv_lstore (lv' := [(6, .long 0), (5, .int v36_5), (4, .int v36_4), (2, .long v36_2), (0, .ref (ad 140)), (1, .int dys)]) hx hb dX1_likeliestDay_82 hl (by decide) rfl (fun ls hl => ?_)
                refine lv_lload hx hb dX1_likeliestDay_84 (lv_at hl 0 rfl) ?_
                refine lv_lload_n hx hb dX1_likeliestDay_86 rfl (lv_at hl 3 rfl) ?_
                refine W.lcmp hx hb dX1_likeliestDay_87 ?_
                have HJ98 : ∀ (v98_4 : Int32) (v98_2 : Int64) (H : Heap) (locs : List Loc) (ls : Array Slot), ((-1) ≤ v98_4.toInt ∧ v98_4.toInt ≤ 13) → va_P D vwCl (wL ad g 218) H → va_S (wA ad 218) s.heap H locs → lv_has ls 8 [(5, .int v36_5), (4, .int v98_4), (2, .long v98_2), (0, .ref (ad 140)), (1, .int dys)] → W p l e ({ frames := 0, cells := 0, slots := 0, locals := 0 } : Room) s m ([.ref (ad 140), .int dys] : List Value).toArray below meth c H locs 0 0 (MQ below (qI D ad 218 (fun r g2 => g2 = g)) ([.ref (ad 140), .int dys] : List Value).toArray s 0 0 (wA ad 218)) (F0 m 98 ls []) := by
                  intro v98_4 v98_2 H locs ls hv98_0 hP hS hl
                  obtain ⟨x_10, ex_10⟩ : ∃ y : Int32, y = v36_5 + 1 := ⟨_, rfl⟩
                  have hx_10 : x_10.toInt = v36_5.toInt + 1 := n_add rfl (by decide : (1 : Int32).toInt = 1) ex_10 (by omega) (by omega)
                  refine lv_iinc (v := x_10) (lv' := [(5, .int x_10), (4, .int v98_4), (2, .long v98_2), (0, .ref (ad 140)), (1, .int dys)]) hx hb dX1_likeliestDay_98 hl (k := 0) rfl (by rw [ex_10]; rfl) (by decide) rfl (fun ls hl => ?_)
                  refine lv_goto (tgt := 36) hx hb dX1_likeliestDay_101 (by decide) ?_
                  exact ih36 x_10 v98_4 v98_2 _ _ ls (by omega) (by omega) (by omega) hP hS (lv_sub hl [0, 1, 2, 3, 4] rfl)
                refine lv_if_le (tgt := 98) hx hb dX1_likeliestDay_88 (by decide) (fun hc_11 => ?_) (fun hc_11 => ?_)
                · have hhc_11 := j_cleP (by decide : (0 : Int64).toInt = 0) (rfl : v36_2.toInt = v36_2.toInt) hc_11
                  exact HJ98 v36_4 v36_2 _ _ ls (by omega) hP hS (lv_sub hl [1, 2, 3, 4, 5] rfl)
                · have hhc_11 := j_cgtN (by decide : (0 : Int64).toInt = 0) (rfl : v36_2.toInt = v36_2.toInt) hc_11
                  refine lv_lload hx hb dX1_likeliestDay_91 (lv_at hl 0 rfl) ?_
                  refine lv_lstore_n (lv' := [(2, .long 0), (6, .long 0), (5, .int v36_5), (4, .int v36_4), (0, .ref (ad 140)), (1, .int dys)]) hx hb dX1_likeliestDay_93 rfl hl (by decide) rfl (fun ls hl => ?_)
                  refine lv_iload hx hb dX1_likeliestDay_94 (lv_at hl 2 rfl) ?_
                  refine lv_istore (lv' := [(4, .int v36_5), (2, .long 0), (6, .long 0), (5, .int v36_5), (0, .ref (ad 140)), (1, .int dys)]) hx hb dX1_likeliestDay_96 hl (by decide) rfl (fun ls hl => ?_)
                  have hiv98_2 : (0 : Int64).toInt = 0 := by decide
                  exact HJ98 v36_5 0 _ _ ls (by omega) hP hS (lv_sub hl [3, 0, 1, 4, 5] rfl)
              · have hhc_9 := j_cgtN (rfl : z_8.toInt = z_8.toInt) (by decide : (0 : Int64).toInt = 0) hc_9
                refine lv_aload_n hx hb dX1_likeliestDay_54 rfl (lv_at hl 3 rfl) ?_
                have hk_12 := hOc_1.ref 1 rfl
                refine q_get X iX1_likeliestDay_1 hP (by decide) hgc_1 rfl 1 (by decide) (List.mem_of_getElem? (i := 4) rfl) (v := .ref (ad 142)) hk_12 dX1_likeliestDay_55 ?_
                refine lv_iload hx hb dX1_likeliestDay_58 (lv_at hl 0 rfl) ?_
                obtain ⟨fc_13, hgc_13, hFc_13⟩ := hW.arj (i := 142) (by decide) (sh_142 ad K)
                refine q_lald X hP (by decide) hgc_13 (n_in (rfl : v36_5.toInt = v36_5.toInt) (by omega) (by omega)) dX1_likeliestDay_60 ?_
                refine lv_topl (fun z_14 ez_14 => ?_)
                refine lv_aload_n hx hb dX1_likeliestDay_61 rfl (lv_at hl 3 rfl) ?_
                refine q_get X iX1_likeliestDay_1 hP (by decide) hgc_1 rfl 2 (by decide) (List.mem_of_getElem? (i := 3) rfl) (v := .ref (ad 143)) hk_6 dX1_likeliestDay_62 ?_
                refine lv_iload_n hx hb dX1_likeliestDay_65 rfl (lv_at hl 4 rfl) ?_
                refine lv_iconst (v := 1) hx hb dX1_likeliestDay_66 (by decide) ?_
                refine lv_isub hx hb dX1_likeliestDay_67 ?_
                refine lv_topi (fun z_15 ez_15 => ?_)
                have hz_15 : z_15.toInt = dys.toInt - 1 := n_sub (rfl : dys.toInt = dys.toInt) (by decide : (1 : Int32).toInt = 1) ez_15 (by omega) (by omega)
                refine q_lald X hP (by decide) hgc_7 (n_in (rfl : z_15.toInt = z_15.toInt) (by omega) (by omega)) dX1_likeliestDay_68 ?_
                refine lv_topl (fun z_16 ez_16 => ?_)
                refine lv_aload_n hx hb dX1_likeliestDay_69 rfl (lv_at hl 3 rfl) ?_
                refine q_get X iX1_likeliestDay_1 hP (by decide) hgc_1 rfl 2 (by decide) (List.mem_of_getElem? (i := 3) rfl) (v := .ref (ad 143)) hk_6 dX1_likeliestDay_70 ?_
                refine lv_iload hx hb dX1_likeliestDay_73 (lv_at hl 0 rfl) ?_
                refine q_lald X hP (by decide) hgc_7 (n_in (rfl : v36_5.toInt = v36_5.toInt) (by omega) (by omega)) dX1_likeliestDay_75 ?_
                refine lv_topl (fun z_17 ez_17 => ?_)
                have hsz_17 : z_17.toInt = z_8.toInt := by rw [ez_17, ez_8]
                refine lv_ldiv hx hb dX1_likeliestDay_76 (fun q => by have := congrArg Int64.toInt q; have e0 : (0 : Int64).toInt = 0 := (by decide); omega) ?_
                refine lv_topl (fun z_18 ez_18 => ?_)
                refine lv_lmul hx hb dX1_likeliestDay_77 ?_
                refine lv_topl (fun z_19 ez_19 => ?_)
                refine lv_goto (tgt := 82) hx hb dX1_likeliestDay_78 (by decide) ?_
                refine lv_lstore (lv' := [(6, .long z_19), (5, .int v36_5), (4, .int v36_4), (2, .long v36_2), (0, .ref (ad 140)), (1, .int dys)]) hx hb dX1_likeliestDay_82 hl (by decide) rfl (fun ls hl => ?_)
                refine lv_lload hx hb dX1_likeliestDay_84 (lv_at hl 0 rfl) ?_
                refine lv_lload_n hx hb dX1_likeliestDay_86 rfl (lv_at hl 3 rfl) ?_
                refine W.lcmp hx hb dX1_likeliestDay_87 ?_
                have HJ98 : ∀ (v98_4 : Int32) (v98_2 : Int64) (H : Heap) (locs : List Loc) (ls : Array Slot), ((-1) ≤ v98_4.toInt ∧ v98_4.toInt ≤ 13) → va_P D vwCl (wL ad g 218) H → va_S (wA ad 218) s.heap H locs → lv_has ls 8 [(5, .int v36_5), (4, .int v98_4), (2, .long v98_2), (0, .ref (ad 140)), (1, .int dys)] → W p l e ({ frames := 0, cells := 0, slots := 0, locals := 0 } : Room) s m ([.ref (ad 140), .int dys] : List Value).toArray below meth c H locs 0 0 (MQ below (qI D ad 218 (fun r g2 => g2 = g)) ([.ref (ad 140), .int dys] : List Value).toArray s 0 0 (wA ad 218)) (F0 m 98 ls []) := by
                  intro v98_4 v98_2 H locs ls hv98_0 hP hS hl
                  obtain ⟨x_20, ex_20⟩ : ∃ y : Int32, y = v36_5 + 1 := ⟨_, rfl⟩
                  have hx_20 : x_20.toInt = v36_5.toInt + 1 := n_add rfl (by decide : (1 : Int32).toInt = 1) ex_20 (by omega) (by omega)
                  refine lv_iinc (v := x_20) (lv' := [(5, .int x_20), (4, .int v98_4), (2, .long v98_2), (0, .ref (ad 140)), (1, .int dys)]) hx hb dX1_likeliestDay_98 hl (k := 0) rfl (by rw [ex_20]; rfl) (by decide) rfl (fun ls hl => ?_)
                  refine lv_goto (tgt := 36) hx hb dX1_likeliestDay_101 (by decide) ?_
                  exact ih36 x_20 v98_4 v98_2 _ _ ls (by omega) (by omega) (by omega) hP hS (lv_sub hl [0, 1, 2, 3, 4] rfl)
                refine lv_if_le (tgt := 98) hx hb dX1_likeliestDay_88 (by decide) (fun hc_21 => ?_) (fun hc_21 => ?_)
                · have hhc_21 := j_cleP (rfl : z_19.toInt = z_19.toInt) (rfl : v36_2.toInt = v36_2.toInt) hc_21
                  exact HJ98 v36_4 v36_2 _ _ ls (by omega) hP hS (lv_sub hl [1, 2, 3, 4, 5] rfl)
                · have hhc_21 := j_cgtN (rfl : z_19.toInt = z_19.toInt) (rfl : v36_2.toInt = v36_2.toInt) hc_21
                  refine lv_lload hx hb dX1_likeliestDay_91 (lv_at hl 0 rfl) ?_
                  refine lv_lstore_n (lv' := [(2, .long z_19), (6, .long z_19), (5, .int v36_5), (4, .int v36_4), (0, .ref (ad 140)), (1, .int dys)]) hx hb dX1_likeliestDay_93 rfl hl (by decide) rfl (fun ls hl => ?_)
                  refine lv_iload hx hb dX1_likeliestDay_94 (lv_at hl 2 rfl) ?_
                  refine lv_istore (lv' := [(4, .int v36_5), (2, .long z_19), (6, .long z_19), (5, .int v36_5), (0, .ref (ad 140)), (1, .int dys)]) hx hb dX1_likeliestDay_96 hl (by decide) rfl (fun ls hl => ?_)
                  exact HJ98 v36_5 z_19 _ _ ls (by omega) hP hS (lv_sub hl [3, 0, 1, 4, 5] rfl)
        have hiv36_5 : (0 : Int32).toInt = 0 := by decide
        have hiv36_4 : ((-1) : Int32).toInt = -1 := by decide
        exact HL36 _ 0 (-1) v5_2 _ _ ls (Nat.lt_succ_self _) (by omega) (by omega) hP hS (lv_sub hl [0, 1, 2, 3, 4] rfl)
      · have hhc_4 := n_nlt (rfl : x_3.toInt = x_3.toInt) (rfl : v5_4.toInt = v5_4.toInt) hc_4
        refine lv_lload_n hx hb dX1_likeliestDay_14 rfl (lv_at hl 1 rfl) ?_
        refine lv_aload_n hx hb dX1_likeliestDay_15 rfl (lv_at hl 2 rfl) ?_
        have hk_22 := hOc_1.ref 0 rfl
        refine q_get X iX1_likeliestDay_1 hP (by decide) hgc_1 rfl 0 (by decide) (List.mem_of_getElem? (i := 2) rfl) (v := .ref (ad 141)) hk_22 dX1_likeliestDay_16 ?_
        refine lv_iload hx hb dX1_likeliestDay_19 (lv_at hl 0 rfl) ?_
        obtain ⟨fc_23, hgc_23, hFc_23⟩ := hW.arj (i := 141) (by decide) (sh_141 ad K)
        refine q_lald X hP (by decide) hgc_23 (n_in (rfl : v5_4.toInt = v5_4.toInt) (by omega) (by omega)) dX1_likeliestDay_21 ?_
        refine lv_topl (fun z_24 ez_24 => ?_)
        refine lv_ladd hx hb dX1_likeliestDay_22 ?_
        refine lv_topl (fun z_25 ez_25 => ?_)
        refine lv_lstore_n (lv' := [(2, .long z_25), (4, .int v5_4), (0, .ref (ad 140)), (1, .int dys)]) hx hb dX1_likeliestDay_23 rfl hl (by decide) rfl (fun ls hl => ?_)
        obtain ⟨x_26, ex_26⟩ : ∃ y : Int32, y = v5_4 + 1 := ⟨_, rfl⟩
        have hx_26 : x_26.toInt = v5_4.toInt + 1 := n_add rfl (by decide : (1 : Int32).toInt = 1) ex_26 (by omega) (by omega)
        refine lv_iinc (v := x_26) (lv' := [(4, .int x_26), (2, .long z_25), (0, .ref (ad 140)), (1, .int dys)]) hx hb dX1_likeliestDay_24 hl (k := 1) rfl (by rw [ex_26]; rfl) (by decide) rfl (fun ls hl => ?_)
        refine lv_goto (tgt := 5) hx hb dX1_likeliestDay_27 (by decide) ?_
        exact ih5 x_26 z_25 _ _ ls (by omega) (by omega) hP hS (lv_sub hl [0, 1, 2, 3] rfl)
  have hiv5_4 : (0 : Int32).toInt = 0 := by decide
  have hiv5_2 : (0 : Int64).toInt = 0 := by decide
  exact HL5 _ 0 0 _ _ ls (Nat.lt_succ_self _) (by omega) hP hS (lv_sub hl [0, 1, 2, 3] rfl)

theorem dX11_chance_0 : decode cX11_chance 0 = .ok (.aload_n 0, 1) := by decide +kernel
theorem dX11_chance_1 : decode cX11_chance 1 = .ok (.iload_n 1, 1) := by decide +kernel
theorem dX11_chance_2 : decode cX11_chance 2 = .ok (.invokevirtual 136, 3) := by decide +kernel
theorem dX11_chance_5 : decode cX11_chance 5 = .ok (.ifCond .eq 18, 3) := by decide +kernel
theorem dX11_chance_8 : decode cX11_chance 8 = .ok (.aload_n 0, 1) := by decide +kernel
theorem dX11_chance_9 : decode cX11_chance 9 = .ok (.iload_n 2, 1) := by decide +kernel
theorem dX11_chance_10 : decode cX11_chance 10 = .ok (.invokevirtual 121, 3) := by decide +kernel
theorem dX11_chance_13 : decode cX11_chance 13 = .ok (.ifCond .eq 10, 3) := by decide +kernel
theorem dX11_chance_16 : decode cX11_chance 16 = .ok (.iload_n 3, 1) := by decide +kernel
theorem dX11_chance_17 : decode cX11_chance 17 = .ok (.invokestatic 151, 3) := by decide +kernel
theorem dX11_chance_20 : decode cX11_chance 20 = .ok (.ifCond .ne 7, 3) := by decide +kernel
theorem dX11_chance_27 : decode cX11_chance 27 = .ok (.aload_n 0, 1) := by decide +kernel
theorem dX11_chance_28 : decode cX11_chance 28 = .ok (.getfield 75, 3) := by decide +kernel
theorem dX11_chance_31 : decode cX11_chance 31 = .ok (.aload_n 0, 1) := by decide +kernel
theorem dX11_chance_32 : decode cX11_chance 32 = .ok (.getfield 19, 3) := by decide +kernel
theorem dX11_chance_35 : decode cX11_chance 35 = .ok (.aload_n 0, 1) := by decide +kernel
theorem dX11_chance_36 : decode cX11_chance 36 = .ok (.getfield 44, 3) := by decide +kernel
theorem dX11_chance_39 : decode cX11_chance 39 = .ok (.aload_n 0, 1) := by decide +kernel
theorem dX11_chance_40 : decode cX11_chance 40 = .ok (.getfield 19, 3) := by decide +kernel
theorem dX11_chance_43 : decode cX11_chance 43 = .ok (.getfield 139, 3) := by decide +kernel
theorem dX11_chance_46 : decode cX11_chance 46 = .ok (.iload_n 1, 1) := by decide +kernel
theorem dX11_chance_47 : decode cX11_chance 47 = .ok (.iaload, 1) := by decide +kernel
theorem dX11_chance_48 : decode cX11_chance 48 = .ok (.aload_n 0, 1) := by decide +kernel
theorem dX11_chance_49 : decode cX11_chance 49 = .ok (.getfield 19, 3) := by decide +kernel
theorem dX11_chance_52 : decode cX11_chance 52 = .ok (.getfield 170, 3) := by decide +kernel
theorem dX11_chance_55 : decode cX11_chance 55 = .ok (.iload_n 1, 1) := by decide +kernel
theorem dX11_chance_56 : decode cX11_chance 56 = .ok (.iaload, 1) := by decide +kernel
theorem dX11_chance_57 : decode cX11_chance 57 = .ok (.iload_n 2, 1) := by decide +kernel
theorem dX11_chance_58 : decode cX11_chance 58 = .ok (.invokevirtual 302, 3) := by decide +kernel
theorem dX11_chance_61 : decode cX11_chance 61 = .ok (.aload_n 0, 1) := by decide +kernel
theorem dX11_chance_62 : decode cX11_chance 62 = .ok (.getfield 75, 3) := by decide +kernel
theorem dX11_chance_65 : decode cX11_chance 65 = .ok (.getfield 306, 3) := by decide +kernel
theorem dX11_chance_68 : decode cX11_chance 68 = .ok (.iload_n 2, 1) := by decide +kernel
theorem dX11_chance_69 : decode cX11_chance 69 = .ok (.laload, 1) := by decide +kernel
theorem dX11_chance_70 : decode cX11_chance 70 = .ok (.lstore 4, 2) := by decide +kernel
theorem dX11_chance_72 : decode cX11_chance 72 = .ok (.aload_n 0, 1) := by decide +kernel
theorem dX11_chance_73 : decode cX11_chance 73 = .ok (.getfield 75, 3) := by decide +kernel
theorem dX11_chance_76 : decode cX11_chance 76 = .ok (.getfield 310, 3) := by decide +kernel
theorem dX11_chance_79 : decode cX11_chance 79 = .ok (.iload_n 2, 1) := by decide +kernel
theorem dX11_chance_80 : decode cX11_chance 80 = .ok (.laload, 1) := by decide +kernel
theorem dX11_chance_81 : decode cX11_chance 81 = .ok (.lstore 6, 2) := by decide +kernel
theorem dX11_chance_83 : decode cX11_chance 83 = .ok (.lload 4, 2) := by decide +kernel
theorem dX11_chance_85 : decode cX11_chance 85 = .ok (.lload 6, 2) := by decide +kernel
theorem dX11_chance_87 : decode cX11_chance 87 = .ok (.invokestatic 313, 3) := by decide +kernel
theorem dX11_chance_90 : decode cX11_chance 90 = .ok (.lstore 8, 2) := by decide +kernel
theorem dX11_chance_92 : decode cX11_chance 92 = .ok (.lload 8, 2) := by decide +kernel
theorem dX11_chance_94 : decode cX11_chance 94 = .ok (.lconst 0, 1) := by decide +kernel
theorem dX11_chance_95 : decode cX11_chance 95 = .ok (.lcmp, 1) := by decide +kernel
theorem dX11_chance_96 : decode cX11_chance 96 = .ok (.ifCond .gt 7, 3) := by decide +kernel
theorem dX11_chance_99 : decode cX11_chance 99 = .ok (.ldc2_w 300, 3) := by decide +kernel
theorem dX11_chance_102 : decode cX11_chance 102 = .ok (.lreturn, 1) := by decide +kernel
theorem dX11_chance_103 : decode cX11_chance 103 = .ok (.iload_n 3, 1) := by decide +kernel
theorem dX11_chance_104 : decode cX11_chance 104 = .ok (.ifCond .ne 11, 3) := by decide +kernel
theorem dX11_chance_107 : decode cX11_chance 107 = .ok (.lload 4, 2) := by decide +kernel
theorem dX11_chance_109 : decode cX11_chance 109 = .ok (.lload 8, 2) := by decide +kernel
theorem dX11_chance_111 : decode cX11_chance 111 = .ok (.ldiv, 1) := by decide +kernel
theorem dX11_chance_112 : decode cX11_chance 112 = .ok (.goto 8, 3) := by decide +kernel
theorem dX11_chance_115 : decode cX11_chance 115 = .ok (.lload 6, 2) := by decide +kernel
theorem dX11_chance_117 : decode cX11_chance 117 = .ok (.lload 8, 2) := by decide +kernel
theorem dX11_chance_119 : decode cX11_chance 119 = .ok (.ldiv, 1) := by decide +kernel
theorem dX11_chance_120 : decode cX11_chance 120 = .ok (.lreturn, 1) := by decide +kernel
theorem dX11_chance_23 : decode cX11_chance 23 = .ok (.ldc2_w 300, 3) := by decide +kernel
theorem dX11_chance_26 : decode cX11_chance 26 = .ok (.lreturn, 1) := by decide +kernel
noncomputable def vX11_chance : List Cond := .code yX11_chance cX11_chance 10 (some .long) :: (([.methodLink RX11 136 yX11_isIcicle, .instanceMethod yX11_isIcicle, .selects RX11 yX11_isIcicle yX11_isIcicle, .initialized RX11, .methodLink RX11 121 yX11_isDay, .instanceMethod yX11_isDay, .selects RX11 yX11_isDay yX11_isDay, .methodLink RX11 151 yX11_isEither, .static yX11_isEither, .fieldLink RX11 75 "IcicleClock" "chances" "LIcicleClock$Chances;", .fieldLink RX11 19 "IcicleClock" "now" "LIcicleClock$Street;", .fieldLink RX11 44 "IcicleClock" "winter" "LIcicleClock$Winter;", .fieldLink RX11 139 "IcicleClock$Street" "eaveOf" "[I", .fieldLink RX11 170 "IcicleClock$Street" "lengthHung" "[I", .methodLink RX11 302 yX1_weigh, .instanceMethod yX1_weigh, .selects RX1 yX1_weigh yX1_weigh, .initialized RX1, .fieldLink RX11 306 "IcicleClock$Chances" "weight" "[J", .fieldLink RX11 310 "IcicleClock$Chances" "whole" "[J", .methodLink RX11 313 yX11_greatestDivisor, .static yX11_greatestDivisor, .constantLong RX11 300 (-2)] : List Cond) ++ (wsX110 ++ (wsX60 ++ (wsX10 ++ (vX11_isIcicle ++ (vX11_isDay ++ (vX11_isEither ++ (vX1_weigh ++ vX11_greatestDivisor))))))))
theorem iX11_chance_11 : ∀ w ∈ wsX110, w ∈ vX11_chance := fun _ h => List.mem_cons_of_mem _ (List.mem_append_right _ (List.mem_append_left _ h))
theorem iX11_chance_6 : ∀ w ∈ wsX60, w ∈ vX11_chance := fun _ h => List.mem_cons_of_mem _ (List.mem_append_right _ (List.mem_append_right _ (List.mem_append_left _ h)))
theorem iX11_chance_1 : ∀ w ∈ wsX10, w ∈ vX11_chance := fun _ h => List.mem_cons_of_mem _ (List.mem_append_right _ (List.mem_append_right _ (List.mem_append_right _ (List.mem_append_left _ h))))
theorem gs_X11_chance : Gd vX11_chance := Gd.cons (by decide +kernel) (Gd.app (Gd.r (by decide +kernel)) (Gd.app gwX_11 (Gd.app gwX_6 (Gd.app gwX_1 (Gd.app gs_X11_isIcicle (Gd.app gs_X11_isDay (Gd.app gs_X11_isEither (Gd.app gs_X1_weigh gs_X11_greatestDivisor))))))))
theorem gg_X11_chance_X11_isIcicle : GoodIn vX11_chance (wsV RX11 136 RX11 yX11_isIcicle vX11_isIcicle) := goodIn_app (goodIn_r _ [1, 2, 3, 4] (by decide +kernel) (by decide +kernel)) (fun w h => ⟨List.mem_cons_of_mem _ (List.mem_append_right _ (List.mem_append_right _ (List.mem_append_right _ (List.mem_append_right _ (List.mem_append_left _ h))))), gs_X11_isIcicle w h⟩)
theorem gg_X11_chance_X11_isDay : GoodIn vX11_chance (wsV RX11 121 RX11 yX11_isDay vX11_isDay) := goodIn_app (goodIn_r _ [5, 6, 7, 4] (by decide +kernel) (by decide +kernel)) (fun w h => ⟨List.mem_cons_of_mem _ (List.mem_append_right _ (List.mem_append_right _ (List.mem_append_right _ (List.mem_append_right _ (List.mem_append_right _ (List.mem_append_left _ h)))))), gs_X11_isDay w h⟩)
theorem gg_X11_chance_X11_isEither : GoodIn vX11_chance (wsS RX11 151 yX11_isEither vX11_isEither) := goodIn_app (goodIn_r _ [8, 9, 4] (by decide +kernel) (by decide +kernel)) (fun w h => ⟨List.mem_cons_of_mem _ (List.mem_append_right _ (List.mem_append_right _ (List.mem_append_right _ (List.mem_append_right _ (List.mem_append_right _ (List.mem_append_right _ (List.mem_append_left _ h))))))), gs_X11_isEither w h⟩)
theorem gg_X11_chance_X1_weigh : GoodIn vX11_chance (wsV RX11 302 RX1 yX1_weigh vX1_weigh) := goodIn_app (goodIn_r _ [15, 16, 17, 18] (by decide +kernel) (by decide +kernel)) (fun w h => ⟨List.mem_cons_of_mem _ (List.mem_append_right _ (List.mem_append_right _ (List.mem_append_right _ (List.mem_append_right _ (List.mem_append_right _ (List.mem_append_right _ (List.mem_append_right _ (List.mem_append_left _ h)))))))), gs_X1_weigh w h⟩)
theorem gg_X11_chance_X11_greatestDivisor : GoodIn vX11_chance (wsS RX11 313 yX11_greatestDivisor vX11_greatestDivisor) := goodIn_app (goodIn_r _ [21, 22, 4] (by decide +kernel) (by decide +kernel)) (fun w h => ⟨List.mem_cons_of_mem _ (List.mem_append_right _ (List.mem_append_right _ (List.mem_append_right _ (List.mem_append_right _ (List.mem_append_right _ (List.mem_append_right _ (List.mem_append_right _ (List.mem_append_right _ (h))))))))), gs_X11_greatestDivisor w h⟩)
set_option maxHeartbeats 4000000 in
set_option maxRecDepth 100000 in
theorem s_X11_chance (l : Launch) (D : va_G) (cs : Nat → ClassId) (ad : Nat → Nat) (kS : kSt) (K : sK) (hKO : KO K) (hj : wJ ad 218) (g : Nat → va_E) (hW : WF (shp ad K) ad cs g) (ic : Int32) (dy : Int32) (wh : Int32) : sJ l yX11_chance vX11_chance { frames := 3, cells := 0, slots := 0, locals := 75 } D cs ad kS [.ref (ad 0), .int ic, .int dy, .int wh] g (fun r g2 => WF (shp ad K) ad cs g2 ∧ (∀ j, j ≠ 140 ∧ j ≠ 141 ∧ j ≠ 142 ∧ j ≠ 143 → g2 j = g j)) := by
  refine Met.startS (cc := cX11_chance) (maxL := 10) (ret := (some .long)) RX11 rfl (by decide) rfl (Nat.le_of_ble_eq_true rfl) ?_
  intro p e s m below meth c ls X Z hP hl
  have hx := X.1
  have hb := X.2.1
  have hS : va_S (wA ad 218) s.heap s.heap [] := va_S.rf
  have hA : ∀ i, i < 218 → wA ad 218 (ad i) := fun i h => ⟨i, h, rfl⟩
  have hfr : ∀ j, j ≠ 140 ∧ j ≠ 141 ∧ j ≠ 142 ∧ j ≠ 143 → g j = g j := fun _ _ => rfl
  have hl : lv_has ls 10 [(0, .ref (ad 0)), (1, .int ic), (2, .int dy), (3, .int wh)] := hl
  refine lv_aload_n hx hb dX11_chance_0 rfl (lv_at hl 0 rfl) ?_
  refine lv_iload_n hx hb dX11_chance_1 rfl (lv_at hl 1 rfl) ?_
  obtain ⟨fsc_4, hgc_4, hOc_4⟩ := hW.obj (i := 0) (by decide) (sh_0 ad K)
  refine s_calli (q := (RX11, TX11, 14)) (As := [.int ic]) (rest := []) X Z (s_X11_isIcicle l D cs ad kS K hKO hj g hW ic) (cwV 1 X.2.2.2.2.1 gg_X11_chance_X11_isIcicle rfl rfl rfl (by decide +kernel) ⟨Nat.le_of_ble_eq_true rfl, Nat.le_of_ble_eq_true rfl⟩) (by decide) hgc_4 rfl hP hA hS.2.1 hS rfl hl.1 rfl (Nat.le_of_ble_eq_true rfl) dX11_chance_2 ⟨Nat.le_of_ble_eq_true rfl, Nat.le_of_ble_eq_true rfl⟩ (fun r_3 g_2 H locs hw_1 hP hS => ?_)
  obtain ⟨hw_1g, hw_1⟩ := hw_1
  rw [hw_1g] at hP
  have HJ23 : ∀ (G23 : Nat → va_E) (H : Heap) (locs : List Loc) (ls : Array Slot), WF (shp ad K) ad cs G23 → (∀ j, j ≠ 140 ∧ j ≠ 141 ∧ j ≠ 142 ∧ j ≠ 143 → G23 j = g j) → G23 0 = .inr (11, fsc_4) → va_P D vwCl (wL ad G23 218) H → va_S (wA ad 218) s.heap H locs → lv_has ls 10 [] → W p l e ({ frames := 3, cells := 0, slots := 0, locals := 75 } : Room) s m ([.ref (ad 0), .int ic, .int dy, .int wh] : List Value).toArray below meth c H locs 0 0 (MQ below (qJ D ad 218 (fun r g2 => WF (shp ad K) ad cs g2 ∧ (∀ j, j ≠ 140 ∧ j ≠ 141 ∧ j ≠ 142 ∧ j ≠ 143 → g2 j = g j))) ([.ref (ad 0), .int ic, .int dy, .int wh] : List Value).toArray s 0 0 (wA ad 218)) (F0 m 23 ls []) := by
    intro G23 H locs ls hW23 hfr23 hg23_0 hP hS hl
    refine lv_ldc2 (v := (-2)) hx hb X.2.2.2.2.2.1 (X.2.2.2.2.1 _ (List.mem_of_getElem? (i := 23) rfl)) dX11_chance_23 ?_
    exact q_lret X hP hS ⟨hW23, hfr23⟩ dX11_chance_26
  refine lv_if_eq (tgt := 23) hx hb dX11_chance_5 (by decide) (fun hc_5 => ?_) (fun hc_5 => ?_)
  · have hhc_5 := n_eq (rfl : r_3.toInt = r_3.toInt) (by decide : (0 : Int32).toInt = 0) hc_5
    exact HJ23 g _ _ ls hW hfr hgc_4 hP hS (lv_sub hl [] rfl)
  · have hhc_5 := n_ne (rfl : r_3.toInt = r_3.toInt) (by decide : (0 : Int32).toInt = 0) hc_5
    refine lv_aload_n hx hb dX11_chance_8 rfl (lv_at hl 0 rfl) ?_
    refine lv_iload_n hx hb dX11_chance_9 rfl (lv_at hl 2 rfl) ?_
    refine s_calli (q := (RX11, TX11, 14)) (As := [.int dy]) (rest := []) X Z (s_X11_isDay l D cs ad kS K hKO hj g hW dy) (cwV 1 X.2.2.2.2.1 gg_X11_chance_X11_isDay rfl rfl rfl (by decide +kernel) ⟨Nat.le_of_ble_eq_true rfl, Nat.le_of_ble_eq_true rfl⟩) (by decide) hgc_4 rfl hP hA hS.2.1 hS rfl hl.1 rfl (Nat.le_of_ble_eq_true rfl) dX11_chance_10 ⟨Nat.le_of_ble_eq_true rfl, Nat.le_of_ble_eq_true rfl⟩ (fun r_8 g_7 H locs hw_6 hP hS => ?_)
    obtain ⟨hw_6g, hw_6⟩ := hw_6
    rw [hw_6g] at hP
    refine lv_if_eq (tgt := 23) hx hb dX11_chance_13 (by decide) (fun hc_9 => ?_) (fun hc_9 => ?_)
    · have hhc_9 := n_eq (rfl : r_8.toInt = r_8.toInt) (by decide : (0 : Int32).toInt = 0) hc_9
      exact HJ23 g _ _ ls hW hfr hgc_4 hP hS (lv_sub hl [] rfl)
    · have hhc_9 := n_ne (rfl : r_8.toInt = r_8.toInt) (by decide : (0 : Int32).toInt = 0) hc_9
      refine lv_iload_n hx hb dX11_chance_16 rfl (lv_at hl 3 rfl) ?_
      refine s_callSi (As := [.int wh]) (rest := []) X Z (s_X11_isEither l D cs ad kS K hKO hj g hW wh) (cwS 1 X.2.2.2.2.1 gg_X11_chance_X11_isEither rfl rfl rfl (by decide +kernel) ⟨Nat.le_of_ble_eq_true rfl, Nat.le_of_ble_eq_true rfl⟩) hP hA hS.2.1 hS rfl hl.1 rfl (Nat.le_of_ble_eq_true rfl) dX11_chance_17 ⟨Nat.le_of_ble_eq_true rfl, Nat.le_of_ble_eq_true rfl⟩ (fun r_12 g_11 H locs hw_10 hP hS => ?_)
      obtain ⟨hw_10g, hw_10⟩ := hw_10
      rw [hw_10g] at hP
      refine lv_if_ne (tgt := 27) hx hb dX11_chance_20 (by decide) (fun hc_13 => ?_) (fun hc_13 => ?_)
      · have hhc_13 := n_ne (rfl : r_12.toInt = r_12.toInt) (by decide : (0 : Int32).toInt = 0) hc_13
        refine lv_aload_n hx hb dX11_chance_27 rfl (lv_at hl 0 rfl) ?_
        have hk_14 := hOc_4.ref 11 rfl
        refine q_get X iX11_chance_11 hP (by decide) hgc_4 rfl 11 (by decide) (List.mem_of_getElem? (i := 10) rfl) (v := .ref (ad 140)) hk_14 dX11_chance_28 ?_
        refine lv_aload_n hx hb dX11_chance_31 rfl (lv_at hl 0 rfl) ?_
        have hk_15 := hOc_4.ref 1 rfl
        refine q_get X iX11_chance_11 hP (by decide) hgc_4 rfl 1 (by decide) (List.mem_of_getElem? (i := 11) rfl) (v := .ref (ad 3)) hk_15 dX11_chance_32 ?_
        refine lv_aload_n hx hb dX11_chance_35 rfl (lv_at hl 0 rfl) ?_
        have hk_16 := hOc_4.ref 6 rfl
        refine q_get X iX11_chance_11 hP (by decide) hgc_4 rfl 6 (by decide) (List.mem_of_getElem? (i := 12) rfl) (v := .ref (ad 114)) hk_16 dX11_chance_36 ?_
        refine lv_aload_n hx hb dX11_chance_39 rfl (lv_at hl 0 rfl) ?_
        refine q_get X iX11_chance_11 hP (by decide) hgc_4 rfl 1 (by decide) (List.mem_of_getElem? (i := 11) rfl) (v := .ref (ad 3)) hk_15 dX11_chance_40 ?_
        obtain ⟨fsc_17, hgc_17, hOc_17⟩ := hW.obj (i := 3) (by decide) (sh_3 ad K)
        have hk_18 := hOc_17.ref 11 rfl
        refine q_get X iX11_chance_6 hP (by decide) hgc_17 rfl 11 (by decide) (List.mem_of_getElem? (i := 13) rfl) (v := .ref (ad 7)) hk_18 dX11_chance_43 ?_
        refine lv_iload_n hx hb dX11_chance_46 rfl (lv_at hl 1 rfl) ?_
        obtain ⟨fc_19, hgc_19, hFc_19⟩ := hW.arr (i := 7) (by decide) (sh_7 ad K)
        refine q_iald X hP (by decide) hgc_19 (n_in (rfl : ic.toInt = ic.toInt) (by omega) (by omega)) dX11_chance_47 ?_
        refine lv_topi (fun z_20 ez_20 => ?_)
        have hz_20 : 0 ≤ z_20.toInt ∧ z_20.toInt ≤ 4 := ez_20 ▸ hFc_19 _
        refine lv_aload_n hx hb dX11_chance_48 rfl (lv_at hl 0 rfl) ?_
        refine q_get X iX11_chance_11 hP (by decide) hgc_4 rfl 1 (by decide) (List.mem_of_getElem? (i := 11) rfl) (v := .ref (ad 3)) hk_15 dX11_chance_49 ?_
        have hk_21 := hOc_17.ref 13 rfl
        refine q_get X iX11_chance_6 hP (by decide) hgc_17 rfl 13 (by decide) (List.mem_of_getElem? (i := 14) rfl) (v := .ref (ad 9)) hk_21 dX11_chance_52 ?_
        refine lv_iload_n hx hb dX11_chance_55 rfl (lv_at hl 1 rfl) ?_
        obtain ⟨fc_22, hgc_22, hFc_22⟩ := hW.arr (i := 9) (by decide) (sh_9 ad K)
        refine q_iald X hP (by decide) hgc_22 (n_in (rfl : ic.toInt = ic.toInt) (by omega) (by omega)) dX11_chance_56 ?_
        refine lv_topi (fun z_23 ez_23 => ?_)
        refine lv_iload_n hx hb dX11_chance_57 rfl (lv_at hl 2 rfl) ?_
        obtain ⟨fsc_27, hgc_27, hOc_27⟩ := hW.obj (i := 140) (by decide) (sh_140 ad K)
        refine s_callv (q := (RX1, TX1, 4)) (As := [.ref (ad 3), .ref (ad 114), .int z_20, .int z_23, .int dy]) (rest := []) X Z (s_X1_weigh l D cs ad kS K hKO hj g hW z_20 z_23 dy (by omega)) (cwV 5 X.2.2.2.2.1 gg_X11_chance_X1_weigh rfl rfl rfl (by decide +kernel) ⟨Nat.le_of_ble_eq_true rfl, Nat.le_of_ble_eq_true rfl⟩) (by decide) hgc_27 rfl hP hA hS.2.1 hS rfl hl.1 rfl (Nat.le_of_ble_eq_true rfl) dX11_chance_58 ⟨Nat.le_of_ble_eq_true rfl, Nat.le_of_ble_eq_true rfl⟩ (fun g_25 H locs hw_24 hP hS => ?_)
        obtain ⟨hw_24W, hw_24f⟩ := hw_24
        have hfr_28 : ∀ j, j ≠ 140 ∧ j ≠ 141 ∧ j ≠ 142 ∧ j ≠ 143 → g_25 j = g j := fun j hj => (hw_24f j (by omega)).trans (hfr j hj)
        have hg_29 := (hw_24f 0 (by omega)).trans hgc_4
        have hg_30 := (hw_24f 3 (by omega)).trans hgc_17
        have hg_31 := (hw_24f 7 (by omega)).trans hgc_19
        have hg_32 := (hw_24f 9 (by omega)).trans hgc_22
        refine lv_aload_n hx hb dX11_chance_61 rfl (lv_at hl 0 rfl) ?_
        refine q_get X iX11_chance_11 hP (by decide) hg_29 rfl 11 (by decide) (List.mem_of_getElem? (i := 10) rfl) (v := .ref (ad 140)) hk_14 dX11_chance_62 ?_
        obtain ⟨fsc_33, hgc_33, hOc_33⟩ := hw_24W.obj (i := 140) (by decide) (sh_140 ad K)
        have hk_34 := hOc_33.ref 1 rfl
        refine q_get X iX11_chance_1 hP (by decide) hgc_33 rfl 1 (by decide) (List.mem_of_getElem? (i := 19) rfl) (v := .ref (ad 142)) hk_34 dX11_chance_65 ?_
        refine lv_iload_n hx hb dX11_chance_68 rfl (lv_at hl 2 rfl) ?_
        obtain ⟨fc_35, hgc_35, hFc_35⟩ := hw_24W.arj (i := 142) (by decide) (sh_142 ad K)
        refine q_lald X hP (by decide) hgc_35 (n_in (rfl : dy.toInt = dy.toInt) (by omega) (by omega)) dX11_chance_69 ?_
        refine lv_topl (fun z_36 ez_36 => ?_)
        refine lv_lstore (lv' := [(4, .long z_36), (0, .ref (ad 0)), (1, .int ic), (2, .int dy), (3, .int wh)]) hx hb dX11_chance_70 hl (by decide) rfl (fun ls hl => ?_)
        refine lv_aload_n hx hb dX11_chance_72 rfl (lv_at hl 1 rfl) ?_
        refine q_get X iX11_chance_11 hP (by decide) hg_29 rfl 11 (by decide) (List.mem_of_getElem? (i := 10) rfl) (v := .ref (ad 140)) hk_14 dX11_chance_73 ?_
        have hk_37 := hOc_33.ref 2 rfl
        refine q_get X iX11_chance_1 hP (by decide) hgc_33 rfl 2 (by decide) (List.mem_of_getElem? (i := 20) rfl) (v := .ref (ad 143)) hk_37 dX11_chance_76 ?_
        refine lv_iload_n hx hb dX11_chance_79 rfl (lv_at hl 3 rfl) ?_
        obtain ⟨fc_38, hgc_38, hFc_38⟩ := hw_24W.arj (i := 143) (by decide) (sh_143 ad K)
        refine q_lald X hP (by decide) hgc_38 (n_in (rfl : dy.toInt = dy.toInt) (by omega) (by omega)) dX11_chance_80 ?_
        refine lv_topl (fun z_39 ez_39 => ?_)
        refine lv_lstore (lv' := [(6, .long z_39), (4, .long z_36), (0, .ref (ad 0)), (1, .int ic), (2, .int dy), (3, .int wh)]) hx hb dX11_chance_81 hl (by decide) rfl (fun ls hl => ?_)
        refine lv_lload hx hb dX11_chance_83 (lv_at hl 1 rfl) ?_
        refine lv_lload hx hb dX11_chance_85 (lv_at hl 0 rfl) ?_
        refine s_callSj (As := [.long z_36, .long z_39]) (rest := []) X Z (s_X11_greatestDivisor l D cs ad kS K hKO hj g_25 hw_24W z_36 z_39) (cwS 2 X.2.2.2.2.1 gg_X11_chance_X11_greatestDivisor rfl rfl rfl (by decide +kernel) ⟨Nat.le_of_ble_eq_true rfl, Nat.le_of_ble_eq_true rfl⟩) hP hA hS.2.1 hS rfl hl.1 rfl (Nat.le_of_ble_eq_true rfl) dX11_chance_87 ⟨Nat.le_of_ble_eq_true rfl, Nat.le_of_ble_eq_true rfl⟩ (fun r_42 g_41 H locs hw_40 hP hS => ?_)
        rw [hw_40] at hP
        refine lv_lstore (lv' := [(8, .long r_42), (6, .long z_39), (4, .long z_36), (0, .ref (ad 0)), (1, .int ic), (2, .int dy), (3, .int wh)]) hx hb dX11_chance_90 hl (by decide) rfl (fun ls hl => ?_)
        refine lv_lload hx hb dX11_chance_92 (lv_at hl 0 rfl) ?_
        refine lv_lconst (v := 0) hx hb dX11_chance_94 (by decide) ?_
        refine W.lcmp hx hb dX11_chance_95 ?_
        refine lv_if_gt (tgt := 103) hx hb dX11_chance_96 (by decide) (fun hc_43 => ?_) (fun hc_43 => ?_)
        · have hhc_43 := j_cgt (rfl : r_42.toInt = r_42.toInt) (by decide : (0 : Int64).toInt = 0) hc_43
          refine lv_iload_n hx hb dX11_chance_103 rfl (lv_at hl 6 rfl) ?_
          refine lv_if_ne (tgt := 115) hx hb dX11_chance_104 (by decide) (fun hc_44 => ?_) (fun hc_44 => ?_)
          · have hhc_44 := n_ne (rfl : wh.toInt = wh.toInt) (by decide : (0 : Int32).toInt = 0) hc_44
            refine lv_lload hx hb dX11_chance_115 (lv_at hl 1 rfl) ?_
            refine lv_lload hx hb dX11_chance_117 (lv_at hl 0 rfl) ?_
            refine lv_ldiv hx hb dX11_chance_119 (fun q => by have := congrArg Int64.toInt q; have e0 : (0 : Int64).toInt = 0 := (by decide); omega) ?_
            refine lv_topl (fun z_45 ez_45 => ?_)
            exact q_lret X hP hS ⟨hw_24W, hfr_28⟩ dX11_chance_120
          · have hhc_44 := n_eq (rfl : wh.toInt = wh.toInt) (by decide : (0 : Int32).toInt = 0) hc_44
            refine lv_lload hx hb dX11_chance_107 (lv_at hl 2 rfl) ?_
            refine lv_lload hx hb dX11_chance_109 (lv_at hl 0 rfl) ?_
            refine lv_ldiv hx hb dX11_chance_111 (fun q => by have := congrArg Int64.toInt q; have e0 : (0 : Int64).toInt = 0 := (by decide); omega) ?_
            refine lv_topl (fun z_46 ez_46 => ?_)
            refine lv_goto (tgt := 120) hx hb dX11_chance_112 (by decide) ?_
            exact q_lret X hP hS ⟨hw_24W, hfr_28⟩ dX11_chance_120
        · have hhc_43 := j_cle (rfl : r_42.toInt = r_42.toInt) (by decide : (0 : Int64).toInt = 0) hc_43
          refine lv_ldc2 (v := (-2)) hx hb X.2.2.2.2.2.1 (X.2.2.2.2.1 _ (List.mem_of_getElem? (i := 23) rfl)) dX11_chance_99 ?_
          exact q_lret X hP hS ⟨hw_24W, hfr_28⟩ dX11_chance_102
      · have hhc_13 := n_eq (rfl : r_12.toInt = r_12.toInt) (by decide : (0 : Int32).toInt = 0) hc_13
        exact HJ23 g _ _ ls hW hfr hgc_4 hP hS (lv_sub hl [] rfl)

theorem dX11_likely_0 : decode cX11_likely 0 = .ok (.aload_n 0, 1) := by decide +kernel
theorem dX11_likely_1 : decode cX11_likely 1 = .ok (.iload_n 1, 1) := by decide +kernel
theorem dX11_likely_2 : decode cX11_likely 2 = .ok (.invokevirtual 136, 3) := by decide +kernel
theorem dX11_likely_5 : decode cX11_likely 5 = .ok (.ifCond .ne 6, 3) := by decide +kernel
theorem dX11_likely_8 : decode cX11_likely 8 = .ok (.bipush (-2), 2) := by decide +kernel
theorem dX11_likely_10 : decode cX11_likely 10 = .ok (.ireturn, 1) := by decide +kernel
theorem dX11_likely_11 : decode cX11_likely 11 = .ok (.aload_n 0, 1) := by decide +kernel
theorem dX11_likely_12 : decode cX11_likely 12 = .ok (.getfield 75, 3) := by decide +kernel
theorem dX11_likely_15 : decode cX11_likely 15 = .ok (.aload_n 0, 1) := by decide +kernel
theorem dX11_likely_16 : decode cX11_likely 16 = .ok (.getfield 19, 3) := by decide +kernel
theorem dX11_likely_19 : decode cX11_likely 19 = .ok (.aload_n 0, 1) := by decide +kernel
theorem dX11_likely_20 : decode cX11_likely 20 = .ok (.getfield 44, 3) := by decide +kernel
theorem dX11_likely_23 : decode cX11_likely 23 = .ok (.aload_n 0, 1) := by decide +kernel
theorem dX11_likely_24 : decode cX11_likely 24 = .ok (.getfield 19, 3) := by decide +kernel
theorem dX11_likely_27 : decode cX11_likely 27 = .ok (.getfield 139, 3) := by decide +kernel
theorem dX11_likely_30 : decode cX11_likely 30 = .ok (.iload_n 1, 1) := by decide +kernel
theorem dX11_likely_31 : decode cX11_likely 31 = .ok (.iaload, 1) := by decide +kernel
theorem dX11_likely_32 : decode cX11_likely 32 = .ok (.aload_n 0, 1) := by decide +kernel
theorem dX11_likely_33 : decode cX11_likely 33 = .ok (.getfield 19, 3) := by decide +kernel
theorem dX11_likely_36 : decode cX11_likely 36 = .ok (.getfield 170, 3) := by decide +kernel
theorem dX11_likely_39 : decode cX11_likely 39 = .ok (.iload_n 1, 1) := by decide +kernel
theorem dX11_likely_40 : decode cX11_likely 40 = .ok (.iaload, 1) := by decide +kernel
theorem dX11_likely_41 : decode cX11_likely 41 = .ok (.aload_n 0, 1) := by decide +kernel
theorem dX11_likely_42 : decode cX11_likely 42 = .ok (.getfield 19, 3) := by decide +kernel
theorem dX11_likely_45 : decode cX11_likely 45 = .ok (.getfield 177, 3) := by decide +kernel
theorem dX11_likely_48 : decode cX11_likely 48 = .ok (.iconst 1, 1) := by decide +kernel
theorem dX11_likely_49 : decode cX11_likely 49 = .ok (.isub, 1) := by decide +kernel
theorem dX11_likely_50 : decode cX11_likely 50 = .ok (.invokevirtual 302, 3) := by decide +kernel
theorem dX11_likely_53 : decode cX11_likely 53 = .ok (.aload_n 0, 1) := by decide +kernel
theorem dX11_likely_54 : decode cX11_likely 54 = .ok (.getfield 75, 3) := by decide +kernel
theorem dX11_likely_57 : decode cX11_likely 57 = .ok (.aload_n 0, 1) := by decide +kernel
theorem dX11_likely_58 : decode cX11_likely 58 = .ok (.getfield 19, 3) := by decide +kernel
theorem dX11_likely_61 : decode cX11_likely 61 = .ok (.getfield 177, 3) := by decide +kernel
theorem dX11_likely_64 : decode cX11_likely 64 = .ok (.invokevirtual 317, 3) := by decide +kernel
theorem dX11_likely_67 : decode cX11_likely 67 = .ok (.ireturn, 1) := by decide +kernel
noncomputable def vX11_likely : List Cond := .code yX11_likely cX11_likely 2 (some .int) :: (([.methodLink RX11 136 yX11_isIcicle, .instanceMethod yX11_isIcicle, .selects RX11 yX11_isIcicle yX11_isIcicle, .initialized RX11, .fieldLink RX11 75 "IcicleClock" "chances" "LIcicleClock$Chances;", .fieldLink RX11 19 "IcicleClock" "now" "LIcicleClock$Street;", .fieldLink RX11 44 "IcicleClock" "winter" "LIcicleClock$Winter;", .fieldLink RX11 139 "IcicleClock$Street" "eaveOf" "[I", .fieldLink RX11 170 "IcicleClock$Street" "lengthHung" "[I", .fieldLink RX11 177 "IcicleClock$Street" "days" "I", .methodLink RX11 302 yX1_weigh, .instanceMethod yX1_weigh, .selects RX1 yX1_weigh yX1_weigh, .initialized RX1, .methodLink RX11 317 yX1_likeliestDay, .instanceMethod yX1_likeliestDay, .selects RX1 yX1_likeliestDay yX1_likeliestDay] : List Cond) ++ (wsX110 ++ (wsX60 ++ (vX11_isIcicle ++ (vX1_weigh ++ vX1_likeliestDay)))))
theorem iX11_likely_11 : ∀ w ∈ wsX110, w ∈ vX11_likely := fun _ h => List.mem_cons_of_mem _ (List.mem_append_right _ (List.mem_append_left _ h))
theorem iX11_likely_6 : ∀ w ∈ wsX60, w ∈ vX11_likely := fun _ h => List.mem_cons_of_mem _ (List.mem_append_right _ (List.mem_append_right _ (List.mem_append_left _ h)))
theorem gs_X11_likely : Gd vX11_likely := Gd.cons (by decide +kernel) (Gd.app (Gd.r (by decide +kernel)) (Gd.app gwX_11 (Gd.app gwX_6 (Gd.app gs_X11_isIcicle (Gd.app gs_X1_weigh gs_X1_likeliestDay)))))
theorem gg_X11_likely_X11_isIcicle : GoodIn vX11_likely (wsV RX11 136 RX11 yX11_isIcicle vX11_isIcicle) := goodIn_app (goodIn_r _ [1, 2, 3, 4] (by decide +kernel) (by decide +kernel)) (fun w h => ⟨List.mem_cons_of_mem _ (List.mem_append_right _ (List.mem_append_right _ (List.mem_append_right _ (List.mem_append_left _ h)))), gs_X11_isIcicle w h⟩)
theorem gg_X11_likely_X1_weigh : GoodIn vX11_likely (wsV RX11 302 RX1 yX1_weigh vX1_weigh) := goodIn_app (goodIn_r _ [11, 12, 13, 14] (by decide +kernel) (by decide +kernel)) (fun w h => ⟨List.mem_cons_of_mem _ (List.mem_append_right _ (List.mem_append_right _ (List.mem_append_right _ (List.mem_append_right _ (List.mem_append_left _ h))))), gs_X1_weigh w h⟩)
theorem gg_X11_likely_X1_likeliestDay : GoodIn vX11_likely (wsV RX11 317 RX1 yX1_likeliestDay vX1_likeliestDay) := goodIn_app (goodIn_r _ [15, 16, 17, 14] (by decide +kernel) (by decide +kernel)) (fun w h => ⟨List.mem_cons_of_mem _ (List.mem_append_right _ (List.mem_append_right _ (List.mem_append_right _ (List.mem_append_right _ (List.mem_append_right _ (h)))))), gs_X1_likeliestDay w h⟩)
set_option maxHeartbeats 4000000 in
set_option maxRecDepth 100000 in
theorem s_X11_likely (l : Launch) (D : va_G) (cs : Nat → ClassId) (ad : Nat → Nat) (kS : kSt) (K : sK) (hKO : KO K) (hj : wJ ad 218) (g : Nat → va_E) (hW : WF (shp ad K) ad cs g) (ic : Int32) : sI l yX11_likely vX11_likely { frames := 3, cells := 0, slots := 0, locals := 75 } D cs ad kS [.ref (ad 0), .int ic] g (fun r g2 => WF (shp ad K) ad cs g2 ∧ (∀ j, j ≠ 140 ∧ j ≠ 141 ∧ j ≠ 142 ∧ j ≠ 143 → g2 j = g j)) := by
  refine Met.startS (cc := cX11_likely) (maxL := 2) (ret := (some .int)) RX11 rfl (by decide) rfl (Nat.le_of_ble_eq_true rfl) ?_
  intro p e s m below meth c ls X Z hP hl
  have hx := X.1
  have hb := X.2.1
  have hS : va_S (wA ad 218) s.heap s.heap [] := va_S.rf
  have hA : ∀ i, i < 218 → wA ad 218 (ad i) := fun i h => ⟨i, h, rfl⟩
  have hfr : ∀ j, j ≠ 140 ∧ j ≠ 141 ∧ j ≠ 142 ∧ j ≠ 143 → g j = g j := fun _ _ => rfl
  have hl : lv_has ls 2 [(0, .ref (ad 0)), (1, .int ic)] := hl
  refine lv_aload_n hx hb dX11_likely_0 rfl (lv_at hl 0 rfl) ?_
  refine lv_iload_n hx hb dX11_likely_1 rfl (lv_at hl 1 rfl) ?_
  obtain ⟨fsc_4, hgc_4, hOc_4⟩ := hW.obj (i := 0) (by decide) (sh_0 ad K)
  refine s_calli (q := (RX11, TX11, 14)) (As := [.int ic]) (rest := []) X Z (s_X11_isIcicle l D cs ad kS K hKO hj g hW ic) (cwV 1 X.2.2.2.2.1 gg_X11_likely_X11_isIcicle rfl rfl rfl (by decide +kernel) ⟨Nat.le_of_ble_eq_true rfl, Nat.le_of_ble_eq_true rfl⟩) (by decide) hgc_4 rfl hP hA hS.2.1 hS rfl hl.1 rfl (Nat.le_of_ble_eq_true rfl) dX11_likely_2 ⟨Nat.le_of_ble_eq_true rfl, Nat.le_of_ble_eq_true rfl⟩ (fun r_3 g_2 H locs hw_1 hP hS => ?_)
  obtain ⟨hw_1g, hw_1⟩ := hw_1
  rw [hw_1g] at hP
  refine lv_if_ne (tgt := 11) hx hb dX11_likely_5 (by decide) (fun hc_5 => ?_) (fun hc_5 => ?_)
  · have hhc_5 := n_ne (rfl : r_3.toInt = r_3.toInt) (by decide : (0 : Int32).toInt = 0) hc_5
    refine lv_aload_n hx hb dX11_likely_11 rfl (lv_at hl 0 rfl) ?_
    have hk_6 := hOc_4.ref 11 rfl
    refine q_get X iX11_likely_11 hP (by decide) hgc_4 rfl 11 (by decide) (List.mem_of_getElem? (i := 5) rfl) (v := .ref (ad 140)) hk_6 dX11_likely_12 ?_
    refine lv_aload_n hx hb dX11_likely_15 rfl (lv_at hl 0 rfl) ?_
    have hk_7 := hOc_4.ref 1 rfl
    refine q_get X iX11_likely_11 hP (by decide) hgc_4 rfl 1 (by decide) (List.mem_of_getElem? (i := 6) rfl) (v := .ref (ad 3)) hk_7 dX11_likely_16 ?_
    refine lv_aload_n hx hb dX11_likely_19 rfl (lv_at hl 0 rfl) ?_
    have hk_8 := hOc_4.ref 6 rfl
    refine q_get X iX11_likely_11 hP (by decide) hgc_4 rfl 6 (by decide) (List.mem_of_getElem? (i := 7) rfl) (v := .ref (ad 114)) hk_8 dX11_likely_20 ?_
    refine lv_aload_n hx hb dX11_likely_23 rfl (lv_at hl 0 rfl) ?_
    refine q_get X iX11_likely_11 hP (by decide) hgc_4 rfl 1 (by decide) (List.mem_of_getElem? (i := 6) rfl) (v := .ref (ad 3)) hk_7 dX11_likely_24 ?_
    obtain ⟨fsc_9, hgc_9, hOc_9⟩ := hW.obj (i := 3) (by decide) (sh_3 ad K)
    have hk_10 := hOc_9.ref 11 rfl
    refine q_get X iX11_likely_6 hP (by decide) hgc_9 rfl 11 (by decide) (List.mem_of_getElem? (i := 8) rfl) (v := .ref (ad 7)) hk_10 dX11_likely_27 ?_
    refine lv_iload_n hx hb dX11_likely_30 rfl (lv_at hl 1 rfl) ?_
    obtain ⟨fc_11, hgc_11, hFc_11⟩ := hW.arr (i := 7) (by decide) (sh_7 ad K)
    refine q_iald X hP (by decide) hgc_11 (n_in (rfl : ic.toInt = ic.toInt) (by omega) (by omega)) dX11_likely_31 ?_
    refine lv_topi (fun z_12 ez_12 => ?_)
    have hz_12 : 0 ≤ z_12.toInt ∧ z_12.toInt ≤ 4 := ez_12 ▸ hFc_11 _
    refine lv_aload_n hx hb dX11_likely_32 rfl (lv_at hl 0 rfl) ?_
    refine q_get X iX11_likely_11 hP (by decide) hgc_4 rfl 1 (by decide) (List.mem_of_getElem? (i := 6) rfl) (v := .ref (ad 3)) hk_7 dX11_likely_33 ?_
    have hk_13 := hOc_9.ref 13 rfl
    refine q_get X iX11_likely_6 hP (by decide) hgc_9 rfl 13 (by decide) (List.mem_of_getElem? (i := 9) rfl) (v := .ref (ad 9)) hk_13 dX11_likely_36 ?_
    refine lv_iload_n hx hb dX11_likely_39 rfl (lv_at hl 1 rfl) ?_
    obtain ⟨fc_14, hgc_14, hFc_14⟩ := hW.arr (i := 9) (by decide) (sh_9 ad K)
    refine q_iald X hP (by decide) hgc_14 (n_in (rfl : ic.toInt = ic.toInt) (by omega) (by omega)) dX11_likely_40 ?_
    refine lv_topi (fun z_15 ez_15 => ?_)
    refine lv_aload_n hx hb dX11_likely_41 rfl (lv_at hl 0 rfl) ?_
    refine q_get X iX11_likely_11 hP (by decide) hgc_4 rfl 1 (by decide) (List.mem_of_getElem? (i := 6) rfl) (v := .ref (ad 3)) hk_7 dX11_likely_42 ?_
    obtain ⟨x_17, hk_16, hlx_17, hhx_17⟩ := hOc_9.int 3 rfl
    refine q_get X iX11_likely_6 hP (by decide) hgc_9 rfl 3 (by decide) (List.mem_of_getElem? (i := 10) rfl) (v := .int x_17) hk_16 dX11_likely_45 ?_
    refine lv_iconst (v := 1) hx hb dX11_likely_48 (by decide) ?_
    refine lv_isub hx hb dX11_likely_49 ?_
    refine lv_topi (fun z_18 ez_18 => ?_)
    have hz_18 : z_18.toInt = x_17.toInt - 1 := n_sub (rfl : x_17.toInt = x_17.toInt) (by decide : (1 : Int32).toInt = 1) ez_18 (by omega) (by omega)
    obtain ⟨fsc_22, hgc_22, hOc_22⟩ := hW.obj (i := 140) (by decide) (sh_140 ad K)
    refine s_callv (q := (RX1, TX1, 4)) (As := [.ref (ad 3), .ref (ad 114), .int z_12, .int z_15, .int z_18]) (rest := []) X Z (s_X1_weigh l D cs ad kS K hKO hj g hW z_12 z_15 z_18 (by omega)) (cwV 5 X.2.2.2.2.1 gg_X11_likely_X1_weigh rfl rfl rfl (by decide +kernel) ⟨Nat.le_of_ble_eq_true rfl, Nat.le_of_ble_eq_true rfl⟩) (by decide) hgc_22 rfl hP hA hS.2.1 hS rfl hl.1 rfl (Nat.le_of_ble_eq_true rfl) dX11_likely_50 ⟨Nat.le_of_ble_eq_true rfl, Nat.le_of_ble_eq_true rfl⟩ (fun g_20 H locs hw_19 hP hS => ?_)
    obtain ⟨hw_19W, hw_19f⟩ := hw_19
    have hfr_23 : ∀ j, j ≠ 140 ∧ j ≠ 141 ∧ j ≠ 142 ∧ j ≠ 143 → g_20 j = g j := fun j hj => (hw_19f j (by omega)).trans (hfr j hj)
    have hg_24 := (hw_19f 0 (by omega)).trans hgc_4
    have hg_25 := (hw_19f 3 (by omega)).trans hgc_9
    have hg_26 := (hw_19f 7 (by omega)).trans hgc_11
    have hg_27 := (hw_19f 9 (by omega)).trans hgc_14
    refine lv_aload_n hx hb dX11_likely_53 rfl (lv_at hl 0 rfl) ?_
    refine q_get X iX11_likely_11 hP (by decide) hg_24 rfl 11 (by decide) (List.mem_of_getElem? (i := 5) rfl) (v := .ref (ad 140)) hk_6 dX11_likely_54 ?_
    refine lv_aload_n hx hb dX11_likely_57 rfl (lv_at hl 0 rfl) ?_
    refine q_get X iX11_likely_11 hP (by decide) hg_24 rfl 1 (by decide) (List.mem_of_getElem? (i := 6) rfl) (v := .ref (ad 3)) hk_7 dX11_likely_58 ?_
    refine q_get X iX11_likely_6 hP (by decide) hg_25 rfl 3 (by decide) (List.mem_of_getElem? (i := 10) rfl) (v := .int x_17) hk_16 dX11_likely_61 ?_
    obtain ⟨fsc_31, hgc_31, hOc_31⟩ := hw_19W.obj (i := 140) (by decide) (sh_140 ad K)
    refine s_calli (q := (RX1, TX1, 4)) (As := [.int x_17]) (rest := []) X Z (s_X1_likeliestDay l D cs ad kS K hKO hj g_20 hw_19W x_17 (by omega)) (cwV 1 X.2.2.2.2.1 gg_X11_likely_X1_likeliestDay rfl rfl rfl (by decide +kernel) ⟨Nat.le_of_ble_eq_true rfl, Nat.le_of_ble_eq_true rfl⟩) (by decide) hgc_31 rfl hP hA hS.2.1 hS rfl hl.1 rfl (Nat.le_of_ble_eq_true rfl) dX11_likely_64 ⟨Nat.le_of_ble_eq_true rfl, Nat.le_of_ble_eq_true rfl⟩ (fun r_30 g_29 H locs hw_28 hP hS => ?_)
    rw [hw_28] at hP
    exact q_iret X hP hS ⟨hw_19W, hfr_23⟩ dX11_likely_67
  · have hhc_5 := n_eq (rfl : r_3.toInt = r_3.toInt) (by decide : (0 : Int32).toInt = 0) hc_5
    refine lv_bipush (v := (-2)) hx hb dX11_likely_8 (by decide) ?_
    exact q_iret X hP hS ⟨hW, hfr⟩ dX11_likely_10

theorem dX11_surest_0 : decode cX11_surest 0 = .ok (.aload_n 0, 1) := by decide +kernel
theorem dX11_surest_1 : decode cX11_surest 1 = .ok (.iload_n 1, 1) := by decide +kernel
theorem dX11_surest_2 : decode cX11_surest 2 = .ok (.invokevirtual 136, 3) := by decide +kernel
theorem dX11_surest_5 : decode cX11_surest 5 = .ok (.ifCond .eq 11, 3) := by decide +kernel
theorem dX11_surest_8 : decode cX11_surest 8 = .ok (.aload_n 0, 1) := by decide +kernel
theorem dX11_surest_9 : decode cX11_surest 9 = .ok (.iload_n 2, 1) := by decide +kernel
theorem dX11_surest_10 : decode cX11_surest 10 = .ok (.invokevirtual 121, 3) := by decide +kernel
theorem dX11_surest_13 : decode cX11_surest 13 = .ok (.ifCond .ne 6, 3) := by decide +kernel
theorem dX11_surest_19 : decode cX11_surest 19 = .ok (.iconst (-1), 1) := by decide +kernel
theorem dX11_surest_20 : decode cX11_surest 20 = .ok (.istore_n 3, 1) := by decide +kernel
theorem dX11_surest_21 : decode cX11_surest 21 = .ok (.lconst 0, 1) := by decide +kernel
theorem dX11_surest_22 : decode cX11_surest 22 = .ok (.lstore 4, 2) := by decide +kernel
theorem dX11_surest_24 : decode cX11_surest 24 = .ok (.iconst 1, 1) := by decide +kernel
theorem dX11_surest_25 : decode cX11_surest 25 = .ok (.istore 6, 2) := by decide +kernel
theorem dX11_surest_27 : decode cX11_surest 27 = .ok (.iload 6, 2) := by decide +kernel
theorem dX11_surest_29 : decode cX11_surest 29 = .ok (.bipush 99, 2) := by decide +kernel
theorem dX11_surest_31 : decode cX11_surest 31 = .ok (.if_icmp .gt 65, 3) := by decide +kernel
theorem dX11_surest_34 : decode cX11_surest 34 = .ok (.aload_n 0, 1) := by decide +kernel
theorem dX11_surest_35 : decode cX11_surest 35 = .ok (.getfield 75, 3) := by decide +kernel
theorem dX11_surest_38 : decode cX11_surest 38 = .ok (.aload_n 0, 1) := by decide +kernel
theorem dX11_surest_39 : decode cX11_surest 39 = .ok (.getfield 19, 3) := by decide +kernel
theorem dX11_surest_42 : decode cX11_surest 42 = .ok (.aload_n 0, 1) := by decide +kernel
theorem dX11_surest_43 : decode cX11_surest 43 = .ok (.getfield 44, 3) := by decide +kernel
theorem dX11_surest_46 : decode cX11_surest 46 = .ok (.aload_n 0, 1) := by decide +kernel
theorem dX11_surest_47 : decode cX11_surest 47 = .ok (.getfield 19, 3) := by decide +kernel
theorem dX11_surest_50 : decode cX11_surest 50 = .ok (.getfield 139, 3) := by decide +kernel
theorem dX11_surest_53 : decode cX11_surest 53 = .ok (.iload_n 1, 1) := by decide +kernel
theorem dX11_surest_54 : decode cX11_surest 54 = .ok (.iaload, 1) := by decide +kernel
theorem dX11_surest_55 : decode cX11_surest 55 = .ok (.iload 6, 2) := by decide +kernel
theorem dX11_surest_57 : decode cX11_surest 57 = .ok (.iload_n 2, 1) := by decide +kernel
theorem dX11_surest_58 : decode cX11_surest 58 = .ok (.invokevirtual 302, 3) := by decide +kernel
theorem dX11_surest_61 : decode cX11_surest 61 = .ok (.aload_n 0, 1) := by decide +kernel
theorem dX11_surest_62 : decode cX11_surest 62 = .ok (.getfield 75, 3) := by decide +kernel
theorem dX11_surest_65 : decode cX11_surest 65 = .ok (.getfield 306, 3) := by decide +kernel
theorem dX11_surest_68 : decode cX11_surest 68 = .ok (.iload_n 2, 1) := by decide +kernel
theorem dX11_surest_69 : decode cX11_surest 69 = .ok (.laload, 1) := by decide +kernel
theorem dX11_surest_70 : decode cX11_surest 70 = .ok (.lload 4, 2) := by decide +kernel
theorem dX11_surest_72 : decode cX11_surest 72 = .ok (.lcmp, 1) := by decide +kernel
theorem dX11_surest_73 : decode cX11_surest 73 = .ok (.ifCond .le 17, 3) := by decide +kernel
theorem dX11_surest_76 : decode cX11_surest 76 = .ok (.aload_n 0, 1) := by decide +kernel
theorem dX11_surest_77 : decode cX11_surest 77 = .ok (.getfield 75, 3) := by decide +kernel
theorem dX11_surest_80 : decode cX11_surest 80 = .ok (.getfield 306, 3) := by decide +kernel
theorem dX11_surest_83 : decode cX11_surest 83 = .ok (.iload_n 2, 1) := by decide +kernel
theorem dX11_surest_84 : decode cX11_surest 84 = .ok (.laload, 1) := by decide +kernel
theorem dX11_surest_85 : decode cX11_surest 85 = .ok (.lstore 4, 2) := by decide +kernel
theorem dX11_surest_87 : decode cX11_surest 87 = .ok (.iload 6, 2) := by decide +kernel
theorem dX11_surest_89 : decode cX11_surest 89 = .ok (.istore_n 3, 1) := by decide +kernel
theorem dX11_surest_90 : decode cX11_surest 90 = .ok (.iinc 6 1, 3) := by decide +kernel
theorem dX11_surest_93 : decode cX11_surest 93 = .ok (.goto (-66), 3) := by decide +kernel
theorem dX11_surest_96 : decode cX11_surest 96 = .ok (.iload_n 3, 1) := by decide +kernel
theorem dX11_surest_97 : decode cX11_surest 97 = .ok (.ireturn, 1) := by decide +kernel
theorem dX11_surest_16 : decode cX11_surest 16 = .ok (.bipush (-2), 2) := by decide +kernel
theorem dX11_surest_18 : decode cX11_surest 18 = .ok (.ireturn, 1) := by decide +kernel
noncomputable def vX11_surest : List Cond := .code yX11_surest cX11_surest 7 (some .int) :: (([.methodLink RX11 136 yX11_isIcicle, .instanceMethod yX11_isIcicle, .selects RX11 yX11_isIcicle yX11_isIcicle, .initialized RX11, .methodLink RX11 121 yX11_isDay, .instanceMethod yX11_isDay, .selects RX11 yX11_isDay yX11_isDay, .fieldLink RX11 75 "IcicleClock" "chances" "LIcicleClock$Chances;", .fieldLink RX11 19 "IcicleClock" "now" "LIcicleClock$Street;", .fieldLink RX11 44 "IcicleClock" "winter" "LIcicleClock$Winter;", .fieldLink RX11 139 "IcicleClock$Street" "eaveOf" "[I", .methodLink RX11 302 yX1_weigh, .instanceMethod yX1_weigh, .selects RX1 yX1_weigh yX1_weigh, .initialized RX1, .fieldLink RX11 306 "IcicleClock$Chances" "weight" "[J"] : List Cond) ++ (wsX110 ++ (wsX60 ++ (wsX10 ++ (vX11_isIcicle ++ (vX11_isDay ++ vX1_weigh))))))
theorem iX11_surest_11 : ∀ w ∈ wsX110, w ∈ vX11_surest := fun _ h => List.mem_cons_of_mem _ (List.mem_append_right _ (List.mem_append_left _ h))
theorem iX11_surest_6 : ∀ w ∈ wsX60, w ∈ vX11_surest := fun _ h => List.mem_cons_of_mem _ (List.mem_append_right _ (List.mem_append_right _ (List.mem_append_left _ h)))
theorem iX11_surest_1 : ∀ w ∈ wsX10, w ∈ vX11_surest := fun _ h => List.mem_cons_of_mem _ (List.mem_append_right _ (List.mem_append_right _ (List.mem_append_right _ (List.mem_append_left _ h))))
theorem gs_X11_surest : Gd vX11_surest := Gd.cons (by decide +kernel) (Gd.app (Gd.r (by decide +kernel)) (Gd.app gwX_11 (Gd.app gwX_6 (Gd.app gwX_1 (Gd.app gs_X11_isIcicle (Gd.app gs_X11_isDay gs_X1_weigh))))))
theorem gg_X11_surest_X11_isIcicle : GoodIn vX11_surest (wsV RX11 136 RX11 yX11_isIcicle vX11_isIcicle) := goodIn_app (goodIn_r _ [1, 2, 3, 4] (by decide +kernel) (by decide +kernel)) (fun w h => ⟨List.mem_cons_of_mem _ (List.mem_append_right _ (List.mem_append_right _ (List.mem_append_right _ (List.mem_append_right _ (List.mem_append_left _ h))))), gs_X11_isIcicle w h⟩)
theorem gg_X11_surest_X11_isDay : GoodIn vX11_surest (wsV RX11 121 RX11 yX11_isDay vX11_isDay) := goodIn_app (goodIn_r _ [5, 6, 7, 4] (by decide +kernel) (by decide +kernel)) (fun w h => ⟨List.mem_cons_of_mem _ (List.mem_append_right _ (List.mem_append_right _ (List.mem_append_right _ (List.mem_append_right _ (List.mem_append_right _ (List.mem_append_left _ h)))))), gs_X11_isDay w h⟩)
theorem gg_X11_surest_X1_weigh : GoodIn vX11_surest (wsV RX11 302 RX1 yX1_weigh vX1_weigh) := goodIn_app (goodIn_r _ [12, 13, 14, 15] (by decide +kernel) (by decide +kernel)) (fun w h => ⟨List.mem_cons_of_mem _ (List.mem_append_right _ (List.mem_append_right _ (List.mem_append_right _ (List.mem_append_right _ (List.mem_append_right _ (List.mem_append_right _ (h))))))), gs_X1_weigh w h⟩)
set_option maxHeartbeats 4000000 in
set_option maxRecDepth 100000 in
theorem s_X11_surest (l : Launch) (D : va_G) (cs : Nat → ClassId) (ad : Nat → Nat) (kS : kSt) (K : sK) (hKO : KO K) (hj : wJ ad 218) (g : Nat → va_E) (hW : WF (shp ad K) ad cs g) (ic : Int32) (dy : Int32) : sI l yX11_surest vX11_surest { frames := 3, cells := 0, slots := 0, locals := 75 } D cs ad kS [.ref (ad 0), .int ic, .int dy] g (fun r g2 => WF (shp ad K) ad cs g2 ∧ (∀ j, j ≠ 140 ∧ j ≠ 141 ∧ j ≠ 142 ∧ j ≠ 143 → g2 j = g j)) := by
  refine Met.startS (cc := cX11_surest) (maxL := 7) (ret := (some .int)) RX11 rfl (by decide) rfl (Nat.le_of_ble_eq_true rfl) ?_
  intro p e s m below meth c ls X Z hP hl
  have hx := X.1
  have hb := X.2.1
  have hS : va_S (wA ad 218) s.heap s.heap [] := va_S.rf
  have hA : ∀ i, i < 218 → wA ad 218 (ad i) := fun i h => ⟨i, h, rfl⟩
  have hfr : ∀ j, j ≠ 140 ∧ j ≠ 141 ∧ j ≠ 142 ∧ j ≠ 143 → g j = g j := fun _ _ => rfl
  have hl : lv_has ls 7 [(0, .ref (ad 0)), (1, .int ic), (2, .int dy)] := hl
  refine lv_aload_n hx hb dX11_surest_0 rfl (lv_at hl 0 rfl) ?_
  refine lv_iload_n hx hb dX11_surest_1 rfl (lv_at hl 1 rfl) ?_
  obtain ⟨fsc_4, hgc_4, hOc_4⟩ := hW.obj (i := 0) (by decide) (sh_0 ad K)
  refine s_calli (q := (RX11, TX11, 14)) (As := [.int ic]) (rest := []) X Z (s_X11_isIcicle l D cs ad kS K hKO hj g hW ic) (cwV 1 X.2.2.2.2.1 gg_X11_surest_X11_isIcicle rfl rfl rfl (by decide +kernel) ⟨Nat.le_of_ble_eq_true rfl, Nat.le_of_ble_eq_true rfl⟩) (by decide) hgc_4 rfl hP hA hS.2.1 hS rfl hl.1 rfl (Nat.le_of_ble_eq_true rfl) dX11_surest_2 ⟨Nat.le_of_ble_eq_true rfl, Nat.le_of_ble_eq_true rfl⟩ (fun r_3 g_2 H locs hw_1 hP hS => ?_)
  obtain ⟨hw_1g, hw_1⟩ := hw_1
  rw [hw_1g] at hP
  have HJ16 : ∀ (G16 : Nat → va_E) (H : Heap) (locs : List Loc) (ls : Array Slot), WF (shp ad K) ad cs G16 → (∀ j, j ≠ 140 ∧ j ≠ 141 ∧ j ≠ 142 ∧ j ≠ 143 → G16 j = g j) → G16 0 = .inr (11, fsc_4) → va_P D vwCl (wL ad G16 218) H → va_S (wA ad 218) s.heap H locs → lv_has ls 7 [] → W p l e ({ frames := 3, cells := 0, slots := 0, locals := 75 } : Room) s m ([.ref (ad 0), .int ic, .int dy] : List Value).toArray below meth c H locs 0 0 (MQ below (qI D ad 218 (fun r g2 => WF (shp ad K) ad cs g2 ∧ (∀ j, j ≠ 140 ∧ j ≠ 141 ∧ j ≠ 142 ∧ j ≠ 143 → g2 j = g j))) ([.ref (ad 0), .int ic, .int dy] : List Value).toArray s 0 0 (wA ad 218)) (F0 m 16 ls []) := by
    intro G16 H locs ls hW16 hfr16 hg16_0 hP hS hl
    refine lv_bipush (v := (-2)) hx hb dX11_surest_16 (by decide) ?_
    exact q_iret X hP hS ⟨hW16, hfr16⟩ dX11_surest_18
  refine lv_if_eq (tgt := 16) hx hb dX11_surest_5 (by decide) (fun hc_5 => ?_) (fun hc_5 => ?_)
  · have hhc_5 := n_eq (rfl : r_3.toInt = r_3.toInt) (by decide : (0 : Int32).toInt = 0) hc_5
    exact HJ16 g _ _ ls hW hfr hgc_4 hP hS (lv_sub hl [] rfl)
  · have hhc_5 := n_ne (rfl : r_3.toInt = r_3.toInt) (by decide : (0 : Int32).toInt = 0) hc_5
    refine lv_aload_n hx hb dX11_surest_8 rfl (lv_at hl 0 rfl) ?_
    refine lv_iload_n hx hb dX11_surest_9 rfl (lv_at hl 2 rfl) ?_
    refine s_calli (q := (RX11, TX11, 14)) (As := [.int dy]) (rest := []) X Z (s_X11_isDay l D cs ad kS K hKO hj g hW dy) (cwV 1 X.2.2.2.2.1 gg_X11_surest_X11_isDay rfl rfl rfl (by decide +kernel) ⟨Nat.le_of_ble_eq_true rfl, Nat.le_of_ble_eq_true rfl⟩) (by decide) hgc_4 rfl hP hA hS.2.1 hS rfl hl.1 rfl (Nat.le_of_ble_eq_true rfl) dX11_surest_10 ⟨Nat.le_of_ble_eq_true rfl, Nat.le_of_ble_eq_true rfl⟩ (fun r_8 g_7 H locs hw_6 hP hS => ?_)
    obtain ⟨hw_6g, hw_6⟩ := hw_6
    rw [hw_6g] at hP
    refine lv_if_ne (tgt := 19) hx hb dX11_surest_13 (by decide) (fun hc_9 => ?_) (fun hc_9 => ?_)
    · have hhc_9 := n_ne (rfl : r_8.toInt = r_8.toInt) (by decide : (0 : Int32).toInt = 0) hc_9
      refine lv_iconst (v := (-1)) hx hb dX11_surest_19 (by decide) ?_
      refine lv_istore_n (lv' := [(3, .int (-1)), (0, .ref (ad 0)), (1, .int ic), (2, .int dy)]) hx hb dX11_surest_20 rfl hl (by decide) rfl (fun ls hl => ?_)
      refine lv_lconst (v := 0) hx hb dX11_surest_21 (by decide) ?_
      refine lv_lstore (lv' := [(4, .long 0), (3, .int (-1)), (0, .ref (ad 0)), (1, .int ic), (2, .int dy)]) hx hb dX11_surest_22 hl (by decide) rfl (fun ls hl => ?_)
      refine lv_iconst (v := 1) hx hb dX11_surest_24 (by decide) ?_
      refine lv_istore (lv' := [(6, .int 1), (4, .long 0), (3, .int (-1)), (0, .ref (ad 0)), (1, .int ic), (2, .int dy)]) hx hb dX11_surest_25 hl (by decide) rfl (fun ls hl => ?_)
      have HL27 : ∀ (n27 : Nat) (v27_6 : Int32) (v27_4 : Int64) (v27_3 : Int32) (G27 : Nat → va_E) (H : Heap) (locs : List Loc) (ls : Array Slot), (100 - v27_6.toInt).toNat < n27 → (1 ≤ v27_6.toInt ∧ v27_6.toInt ≤ 100) → (0 ≤ v27_4.toInt) → ((-1) ≤ v27_3.toInt ∧ v27_3.toInt ≤ 99) → WF (shp ad K) ad cs G27 → (∀ j, j ≠ 140 ∧ j ≠ 141 ∧ j ≠ 142 ∧ j ≠ 143 → G27 j = g j) → va_P D vwCl (wL ad G27 218) H → va_S (wA ad 218) s.heap H locs → lv_has ls 7 [(6, .int v27_6), (4, .long v27_4), (3, .int v27_3), (0, .ref (ad 0)), (1, .int ic), (2, .int dy)] → W p l e ({ frames := 3, cells := 0, slots := 0, locals := 75 } : Room) s m ([.ref (ad 0), .int ic, .int dy] : List Value).toArray below meth c H locs 0 0 (MQ below (qI D ad 218 (fun r g2 => WF (shp ad K) ad cs g2 ∧ (∀ j, j ≠ 140 ∧ j ≠ 141 ∧ j ≠ 142 ∧ j ≠ 143 → g2 j = g j))) ([.ref (ad 0), .int ic, .int dy] : List Value).toArray s 0 0 (wA ad 218)) (F0 m 27 ls []) := by
        intro n27
        induction n27 with
        | zero =>
          intro v27_6 v27_4 v27_3 G27 H locs ls hm27 hv27_0 hv27_1 hv27_2 hW27 hfr27 hP hS hl
          exact absurd hm27 (Nat.not_lt_zero _)
        | succ n27 ih27 =>
          intro v27_6 v27_4 v27_3 G27 H locs ls hm27 hv27_0 hv27_1 hv27_2 hW27 hfr27 hP hS hl
          refine lv_iload hx hb dX11_surest_27 (lv_at hl 0 rfl) ?_
          refine lv_bipush (v := 99) hx hb dX11_surest_29 (by decide) ?_
          refine lv_icmp_gt (tgt := 96) hx hb dX11_surest_31 (by decide) (fun hc_10 => ?_) (fun hc_10 => ?_)
          · have hhc_10 := n_lt (by decide : (99 : Int32).toInt = 99) (rfl : v27_6.toInt = v27_6.toInt) hc_10
            refine lv_iload_n hx hb dX11_surest_96 rfl (lv_at hl 2 rfl) ?_
            exact q_iret X hP hS ⟨hW27, hfr27⟩ dX11_surest_97
          · have hhc_10 := n_nlt (by decide : (99 : Int32).toInt = 99) (rfl : v27_6.toInt = v27_6.toInt) hc_10
            refine lv_aload_n hx hb dX11_surest_34 rfl (lv_at hl 3 rfl) ?_
            obtain ⟨fsc_11, hgc_11, hOc_11⟩ := hW27.obj (i := 0) (by decide) (sh_0 ad K)
            have hk_12 := hOc_11.ref 11 rfl
            refine q_get X iX11_surest_11 hP (by decide) hgc_11 rfl 11 (by decide) (List.mem_of_getElem? (i := 8) rfl) (v := .ref (ad 140)) hk_12 dX11_surest_35 ?_
            refine lv_aload_n hx hb dX11_surest_38 rfl (lv_at hl 3 rfl) ?_
            have hk_13 := hOc_11.ref 1 rfl
            refine q_get X iX11_surest_11 hP (by decide) hgc_11 rfl 1 (by decide) (List.mem_of_getElem? (i := 9) rfl) (v := .ref (ad 3)) hk_13 dX11_surest_39 ?_
            refine lv_aload_n hx hb dX11_surest_42 rfl (lv_at hl 3 rfl) ?_
            have hk_14 := hOc_11.ref 6 rfl
            refine q_get X iX11_surest_11 hP (by decide) hgc_11 rfl 6 (by decide) (List.mem_of_getElem? (i := 10) rfl) (v := .ref (ad 114)) hk_14 dX11_surest_43 ?_
            refine lv_aload_n hx hb dX11_surest_46 rfl (lv_at hl 3 rfl) ?_
            refine q_get X iX11_surest_11 hP (by decide) hgc_11 rfl 1 (by decide) (List.mem_of_getElem? (i := 9) rfl) (v := .ref (ad 3)) hk_13 dX11_surest_47 ?_
            obtain ⟨fsc_15, hgc_15, hOc_15⟩ := hW27.obj (i := 3) (by decide) (sh_3 ad K)
            have hk_16 := hOc_15.ref 11 rfl
            refine q_get X iX11_surest_6 hP (by decide) hgc_15 rfl 11 (by decide) (List.mem_of_getElem? (i := 11) rfl) (v := .ref (ad 7)) hk_16 dX11_surest_50 ?_
            refine lv_iload_n hx hb dX11_surest_53 rfl (lv_at hl 4 rfl) ?_
            obtain ⟨fc_17, hgc_17, hFc_17⟩ := hW27.arr (i := 7) (by decide) (sh_7 ad K)
            refine q_iald X hP (by decide) hgc_17 (n_in (rfl : ic.toInt = ic.toInt) (by omega) (by omega)) dX11_surest_54 ?_
            refine lv_topi (fun z_18 ez_18 => ?_)
            have hz_18 : 0 ≤ z_18.toInt ∧ z_18.toInt ≤ 4 := ez_18 ▸ hFc_17 _
            refine lv_iload hx hb dX11_surest_55 (lv_at hl 0 rfl) ?_
            refine lv_iload_n hx hb dX11_surest_57 rfl (lv_at hl 5 rfl) ?_
            obtain ⟨fsc_22, hgc_22, hOc_22⟩ := hW27.obj (i := 140) (by decide) (sh_140 ad K)
            refine s_callv (q := (RX1, TX1, 4)) (As := [.ref (ad 3), .ref (ad 114), .int z_18, .int v27_6, .int dy]) (rest := []) X Z (s_X1_weigh l D cs ad kS K hKO hj G27 hW27 z_18 v27_6 dy (by omega)) (cwV 5 X.2.2.2.2.1 gg_X11_surest_X1_weigh rfl rfl rfl (by decide +kernel) ⟨Nat.le_of_ble_eq_true rfl, Nat.le_of_ble_eq_true rfl⟩) (by decide) hgc_22 rfl hP hA hS.2.1 hS rfl hl.1 rfl (Nat.le_of_ble_eq_true rfl) dX11_surest_58 ⟨Nat.le_of_ble_eq_true rfl, Nat.le_of_ble_eq_true rfl⟩ (fun g_20 H locs hw_19 hP hS => ?_)
            obtain ⟨hw_19W, hw_19f⟩ := hw_19
            have hfr_23 : ∀ j, j ≠ 140 ∧ j ≠ 141 ∧ j ≠ 142 ∧ j ≠ 143 → g_20 j = g j := fun j hj => (hw_19f j (by omega)).trans (hfr27 j hj)
            have hg_24 := (hw_19f 0 (by omega)).trans hgc_11
            have hg_25 := (hw_19f 3 (by omega)).trans hgc_15
            have hg_26 := (hw_19f 7 (by omega)).trans hgc_17
            refine lv_aload_n hx hb dX11_surest_61 rfl (lv_at hl 3 rfl) ?_
            refine q_get X iX11_surest_11 hP (by decide) hg_24 rfl 11 (by decide) (List.mem_of_getElem? (i := 8) rfl) (v := .ref (ad 140)) hk_12 dX11_surest_62 ?_
            obtain ⟨fsc_27, hgc_27, hOc_27⟩ := hw_19W.obj (i := 140) (by decide) (sh_140 ad K)
            have hk_28 := hOc_27.ref 1 rfl
            refine q_get X iX11_surest_1 hP (by decide) hgc_27 rfl 1 (by decide) (List.mem_of_getElem? (i := 16) rfl) (v := .ref (ad 142)) hk_28 dX11_surest_65 ?_
            refine lv_iload_n hx hb dX11_surest_68 rfl (lv_at hl 5 rfl) ?_
            obtain ⟨fc_29, hgc_29, hFc_29⟩ := hw_19W.arj (i := 142) (by decide) (sh_142 ad K)
            refine q_lald X hP (by decide) hgc_29 (n_in (rfl : dy.toInt = dy.toInt) (by omega) (by omega)) dX11_surest_69 ?_
            refine lv_topl (fun z_30 ez_30 => ?_)
            refine lv_lload hx hb dX11_surest_70 (lv_at hl 1 rfl) ?_
            refine W.lcmp hx hb dX11_surest_72 ?_
            have HJ90 : ∀ (v90_4 : Int64) (v90_3 : Int32) (G90 : Nat → va_E) (H : Heap) (locs : List Loc) (ls : Array Slot), (0 ≤ v90_4.toInt) → ((-1) ≤ v90_3.toInt ∧ v90_3.toInt ≤ 99) → WF (shp ad K) ad cs G90 → (∀ j, j ≠ 140 ∧ j ≠ 141 ∧ j ≠ 142 ∧ j ≠ 143 → G90 j = g j) → G90 0 = .inr (11, fsc_11) → G90 3 = .inr (6, fsc_15) → G90 7 = .inl (cs 1, 8, .inl fc_17) → G90 140 = .inr (1, fsc_27) → G90 142 = .inl (cs 2, 14, .inr (.inl fc_29)) → va_P D vwCl (wL ad G90 218) H → va_S (wA ad 218) s.heap H locs → lv_has ls 7 [(6, .int v27_6), (4, .long v90_4), (3, .int v90_3), (0, .ref (ad 0)), (1, .int ic), (2, .int dy)] → W p l e ({ frames := 3, cells := 0, slots := 0, locals := 75 } : Room) s m ([.ref (ad 0), .int ic, .int dy] : List Value).toArray below meth c H locs 0 0 (MQ below (qI D ad 218 (fun r g2 => WF (shp ad K) ad cs g2 ∧ (∀ j, j ≠ 140 ∧ j ≠ 141 ∧ j ≠ 142 ∧ j ≠ 143 → g2 j = g j))) ([.ref (ad 0), .int ic, .int dy] : List Value).toArray s 0 0 (wA ad 218)) (F0 m 90 ls []) := by
              intro v90_4 v90_3 G90 H locs ls hv90_0 hv90_1 hW90 hfr90 hg90_0 hg90_1 hg90_2 hg90_3 hg90_4 hP hS hl
              obtain ⟨x_31, ex_31⟩ : ∃ y : Int32, y = v27_6 + 1 := ⟨_, rfl⟩
              have hx_31 : x_31.toInt = v27_6.toInt + 1 := n_add rfl (by decide : (1 : Int32).toInt = 1) ex_31 (by omega) (by omega)
              refine lv_iinc (v := x_31) (lv' := [(6, .int x_31), (4, .long v90_4), (3, .int v90_3), (0, .ref (ad 0)), (1, .int ic), (2, .int dy)]) hx hb dX11_surest_90 hl (k := 0) rfl (by rw [ex_31]; rfl) (by decide) rfl (fun ls hl => ?_)
              refine lv_goto (tgt := 27) hx hb dX11_surest_93 (by decide) ?_
              exact ih27 x_31 v90_4 v90_3 G90 _ _ ls (by omega) (by omega) (by omega) (by omega) hW90 hfr90 hP hS (lv_sub hl [0, 1, 2, 3, 4, 5] rfl)
            refine lv_if_le (tgt := 90) hx hb dX11_surest_73 (by decide) (fun hc_32 => ?_) (fun hc_32 => ?_)
            · have hhc_32 := j_cleP (rfl : z_30.toInt = z_30.toInt) (rfl : v27_4.toInt = v27_4.toInt) hc_32
              exact HJ90 v27_4 v27_3 g_20 _ _ ls (by omega) (by omega) hw_19W hfr_23 hg_24 hg_25 hg_26 hgc_27 hgc_29 hP hS (lv_sub hl [0, 1, 2, 3, 4, 5] rfl)
            · have hhc_32 := j_cgtN (rfl : z_30.toInt = z_30.toInt) (rfl : v27_4.toInt = v27_4.toInt) hc_32
              refine lv_aload_n hx hb dX11_surest_76 rfl (lv_at hl 3 rfl) ?_
              refine q_get X iX11_surest_11 hP (by decide) hg_24 rfl 11 (by decide) (List.mem_of_getElem? (i := 8) rfl) (v := .ref (ad 140)) hk_12 dX11_surest_77 ?_
              refine q_get X iX11_surest_1 hP (by decide) hgc_27 rfl 1 (by decide) (List.mem_of_getElem? (i := 16) rfl) (v := .ref (ad 142)) hk_28 dX11_surest_80 ?_
              refine lv_iload_n hx hb dX11_surest_83 rfl (lv_at hl 5 rfl) ?_
              refine q_lald X hP (by decide) hgc_29 (n_in (rfl : dy.toInt = dy.toInt) (by omega) (by omega)) dX11_surest_84 ?_
              refine lv_topl (fun z_33 ez_33 => ?_)
              have hsz_33 : z_33.toInt = z_30.toInt := by rw [ez_33, ez_30]
              refine lv_lstore (lv' := [(4, .long z_33), (6, .int v27_6), (3, .int v27_3), (0, .ref (ad 0)), (1, .int ic), (2, .int dy)]) hx hb dX11_surest_85 hl (by decide) rfl (fun ls hl => ?_)
              refine lv_iload hx hb dX11_surest_87 (lv_at hl 1 rfl) ?_
              refine lv_istore_n (lv' := [(3, .int v27_6), (4, .long z_33), (6, .int v27_6), (0, .ref (ad 0)), (1, .int ic), (2, .int dy)]) hx hb dX11_surest_89 rfl hl (by decide) rfl (fun ls hl => ?_)
              exact HJ90 z_33 v27_6 g_20 _ _ ls (by omega) (by omega) hw_19W hfr_23 hg_24 hg_25 hg_26 hgc_27 hgc_29 hP hS (lv_sub hl [2, 1, 0, 3, 4, 5] rfl)
      have hiv27_6 : (1 : Int32).toInt = 1 := by decide
      have hiv27_4 : (0 : Int64).toInt = 0 := by decide
      have hiv27_3 : ((-1) : Int32).toInt = -1 := by decide
      exact HL27 _ 1 0 (-1) g _ _ ls (Nat.lt_succ_self _) (by omega) (by omega) (by omega) hW hfr hP hS (lv_sub hl [0, 1, 2, 3, 4, 5] rfl)
    · have hhc_9 := n_eq (rfl : r_8.toInt = r_8.toInt) (by decide : (0 : Int32).toInt = 0) hc_9
      exact HJ16 g _ _ ls hW hfr hgc_4 hP hS (lv_sub hl [] rfl)

theorem dX9_sumNeeded_0 : decode cX9_sumNeeded 0 = .ok (.aload_n 0, 1) := by decide +kernel
theorem dX9_sumNeeded_1 : decode cX9_sumNeeded 1 = .ok (.getfield 61, 3) := by decide +kernel
theorem dX9_sumNeeded_4 : decode cX9_sumNeeded 4 = .ok (.aload_n 0, 1) := by decide +kernel
theorem dX9_sumNeeded_5 : decode cX9_sumNeeded 5 = .ok (.getfield 64, 3) := by decide +kernel
theorem dX9_sumNeeded_8 : decode cX9_sumNeeded 8 = .ok (.iload_n 1, 1) := by decide +kernel
theorem dX9_sumNeeded_9 : decode cX9_sumNeeded 9 = .ok (.iaload, 1) := by decide +kernel
theorem dX9_sumNeeded_10 : decode cX9_sumNeeded 10 = .ok (.iaload, 1) := by decide +kernel
theorem dX9_sumNeeded_11 : decode cX9_sumNeeded 11 = .ok (.istore_n 2, 1) := by decide +kernel
theorem dX9_sumNeeded_12 : decode cX9_sumNeeded 12 = .ok (.iload_n 2, 1) := by decide +kernel
theorem dX9_sumNeeded_13 : decode cX9_sumNeeded 13 = .ok (.ifCond .gt 6, 3) := by decide +kernel
theorem dX9_sumNeeded_16 : decode cX9_sumNeeded 16 = .ok (.bipush 16, 2) := by decide +kernel
theorem dX9_sumNeeded_18 : decode cX9_sumNeeded 18 = .ok (.ireturn, 1) := by decide +kernel
theorem dX9_sumNeeded_19 : decode cX9_sumNeeded 19 = .ok (.aload_n 0, 1) := by decide +kernel
theorem dX9_sumNeeded_20 : decode cX9_sumNeeded 20 = .ok (.getfield 67, 3) := by decide +kernel
theorem dX9_sumNeeded_23 : decode cX9_sumNeeded 23 = .ok (.iload_n 1, 1) := by decide +kernel
theorem dX9_sumNeeded_24 : decode cX9_sumNeeded 24 = .ok (.iaload, 1) := by decide +kernel
theorem dX9_sumNeeded_25 : decode cX9_sumNeeded 25 = .ok (.iload_n 2, 1) := by decide +kernel
theorem dX9_sumNeeded_26 : decode cX9_sumNeeded 26 = .ok (.iadd, 1) := by decide +kernel
theorem dX9_sumNeeded_27 : decode cX9_sumNeeded 27 = .ok (.iconst 1, 1) := by decide +kernel
theorem dX9_sumNeeded_28 : decode cX9_sumNeeded 28 = .ok (.isub, 1) := by decide +kernel
theorem dX9_sumNeeded_29 : decode cX9_sumNeeded 29 = .ok (.iload_n 2, 1) := by decide +kernel
theorem dX9_sumNeeded_30 : decode cX9_sumNeeded 30 = .ok (.idiv, 1) := by decide +kernel
theorem dX9_sumNeeded_31 : decode cX9_sumNeeded 31 = .ok (.ireturn, 1) := by decide +kernel
noncomputable def vX9_sumNeeded : List Cond := .code yX9_sumNeeded cX9_sumNeeded 3 (some .int) :: (([.fieldLink RX9 61 "IcicleClock$Street" "sun" "[I", .fieldLink RX9 64 "IcicleClock$Street" "eaveOf" "[I", .fieldLink RX9 67 "IcicleClock$Street" "lengthHung" "[I"] : List Cond) ++ wsX60)
theorem iX9_sumNeeded_6 : ∀ w ∈ wsX60, w ∈ vX9_sumNeeded := fun _ h => List.mem_cons_of_mem _ (List.mem_append_right _ (h))
theorem gs_X9_sumNeeded : Gd vX9_sumNeeded := Gd.cons (by decide +kernel) (Gd.app (Gd.r (by decide +kernel)) gwX_6)
set_option maxHeartbeats 4000000 in
set_option maxRecDepth 100000 in
theorem s_X9_sumNeeded (l : Launch) (D : va_G) (cs : Nat → ClassId) (ad : Nat → Nat) (kS : kSt) (K : sK) (hKO : KO K) (hj : wJ ad 218) (g : Nat → va_E) (hW : WF (shp ad K) ad cs g) (ic : Int32) (hp0 : 0 ≤ ic.toInt ∧ ic.toInt ≤ 7) : sI l yX9_sumNeeded vX9_sumNeeded { frames := 0, cells := 0, slots := 0, locals := 0 } D cs ad kS [.ref (ad 3), .int ic] g (fun r g2 => g2 = g) := by
  refine Met.startS (cc := cX9_sumNeeded) (maxL := 3) (ret := (some .int)) RX9 rfl (by decide) rfl (Nat.le_of_ble_eq_true rfl) ?_
  intro p e s m below meth c ls X Z hP hl
  have hx := X.1
  have hb := X.2.1
  have hS : va_S (wA ad 218) s.heap s.heap [] := va_S.rf
  have hA : ∀ i, i < 218 → wA ad 218 (ad i) := fun i h => ⟨i, h, rfl⟩
  have hl : lv_has ls 3 [(0, .ref (ad 3)), (1, .int ic)] := hl
  refine lv_aload_n hx hb dX9_sumNeeded_0 rfl (lv_at hl 0 rfl) ?_
  obtain ⟨fsc_1, hgc_1, hOc_1⟩ := hW.obj (i := 3) (by decide) (sh_3 ad K)
  have hk_2 := hOc_1.ref 10 rfl
  refine q_get X iX9_sumNeeded_6 hP (by decide) hgc_1 rfl 10 (by decide) (List.mem_of_getElem? (i := 1) rfl) (v := .ref (ad 6)) hk_2 dX9_sumNeeded_1 ?_
  refine lv_aload_n hx hb dX9_sumNeeded_4 rfl (lv_at hl 0 rfl) ?_
  have hk_3 := hOc_1.ref 11 rfl
  refine q_get X iX9_sumNeeded_6 hP (by decide) hgc_1 rfl 11 (by decide) (List.mem_of_getElem? (i := 2) rfl) (v := .ref (ad 7)) hk_3 dX9_sumNeeded_5 ?_
  refine lv_iload_n hx hb dX9_sumNeeded_8 rfl (lv_at hl 1 rfl) ?_
  obtain ⟨fc_4, hgc_4, hFc_4⟩ := hW.arr (i := 7) (by decide) (sh_7 ad K)
  refine q_iald X hP (by decide) hgc_4 (n_in (rfl : ic.toInt = ic.toInt) (by omega) (by omega)) dX9_sumNeeded_9 ?_
  refine lv_topi (fun z_5 ez_5 => ?_)
  have hz_5 : 0 ≤ z_5.toInt ∧ z_5.toInt ≤ 4 := ez_5 ▸ hFc_4 _
  obtain ⟨fc_6, hgc_6, hFc_6⟩ := hW.arr (i := 6) (by decide) (sh_6 ad K)
  refine q_iald X hP (by decide) hgc_6 (n_in (rfl : z_5.toInt = z_5.toInt) (by omega) (by omega)) dX9_sumNeeded_10 ?_
  refine lv_topi (fun z_7 ez_7 => ?_)
  refine lv_istore_n (lv' := [(2, .int z_7), (0, .ref (ad 3)), (1, .int ic)]) hx hb dX9_sumNeeded_11 rfl hl (by decide) rfl (fun ls hl => ?_)
  refine lv_iload_n hx hb dX9_sumNeeded_12 rfl (lv_at hl 0 rfl) ?_
  refine lv_if_gt (tgt := 19) hx hb dX9_sumNeeded_13 (by decide) (fun hc_8 => ?_) (fun hc_8 => ?_)
  · have hhc_8 := n_lt (by decide : (0 : Int32).toInt = 0) (rfl : z_7.toInt = z_7.toInt) hc_8
    refine lv_aload_n hx hb dX9_sumNeeded_19 rfl (lv_at hl 1 rfl) ?_
    have hk_9 := hOc_1.ref 13 rfl
    refine q_get X iX9_sumNeeded_6 hP (by decide) hgc_1 rfl 13 (by decide) (List.mem_of_getElem? (i := 3) rfl) (v := .ref (ad 9)) hk_9 dX9_sumNeeded_20 ?_
    refine lv_iload_n hx hb dX9_sumNeeded_23 rfl (lv_at hl 2 rfl) ?_
    obtain ⟨fc_10, hgc_10, hFc_10⟩ := hW.arr (i := 9) (by decide) (sh_9 ad K)
    refine q_iald X hP (by decide) hgc_10 (n_in (rfl : ic.toInt = ic.toInt) (by omega) (by omega)) dX9_sumNeeded_24 ?_
    refine lv_topi (fun z_11 ez_11 => ?_)
    refine lv_iload_n hx hb dX9_sumNeeded_25 rfl (lv_at hl 0 rfl) ?_
    refine lv_iadd hx hb dX9_sumNeeded_26 ?_
    refine lv_topi (fun z_12 ez_12 => ?_)
    refine lv_iconst (v := 1) hx hb dX9_sumNeeded_27 (by decide) ?_
    refine lv_isub hx hb dX9_sumNeeded_28 ?_
    refine lv_topi (fun z_13 ez_13 => ?_)
    refine lv_iload_n hx hb dX9_sumNeeded_29 rfl (lv_at hl 0 rfl) ?_
    refine lv_idiv hx hb dX9_sumNeeded_30 (fun q => by have := congrArg Int32.toInt q; have e0 : (0 : Int32).toInt = 0 := (by decide); omega) ?_
    refine lv_topi (fun z_14 ez_14 => ?_)
    exact q_iret X hP hS rfl dX9_sumNeeded_31
  · have hhc_8 := n_nlt (by decide : (0 : Int32).toInt = 0) (rfl : z_7.toInt = z_7.toInt) hc_8
    refine lv_bipush (v := 16) hx hb dX9_sumNeeded_16 (by decide) ?_
    exact q_iret X hP hS rfl dX9_sumNeeded_18

theorem dX9_bound_0 : decode cX9_bound 0 = .ok (.iload_n 2, 1) := by decide +kernel
theorem dX9_bound_1 : decode cX9_bound 1 = .ok (.iconst (-1), 1) := by decide +kernel
theorem dX9_bound_2 : decode cX9_bound 2 = .ok (.if_icmp .ne 12, 3) := by decide +kernel
theorem dX9_bound_5 : decode cX9_bound 5 = .ok (.aload_n 0, 1) := by decide +kernel
theorem dX9_bound_6 : decode cX9_bound 6 = .ok (.getfield 32, 3) := by decide +kernel
theorem dX9_bound_9 : decode cX9_bound 9 = .ok (.iconst 1, 1) := by decide +kernel
theorem dX9_bound_10 : decode cX9_bound 10 = .ok (.isub, 1) := by decide +kernel
theorem dX9_bound_11 : decode cX9_bound 11 = .ok (.goto 6, 3) := by decide +kernel
theorem dX9_bound_14 : decode cX9_bound 14 = .ok (.iload_n 2, 1) := by decide +kernel
theorem dX9_bound_15 : decode cX9_bound 15 = .ok (.iconst 1, 1) := by decide +kernel
theorem dX9_bound_16 : decode cX9_bound 16 = .ok (.isub, 1) := by decide +kernel
theorem dX9_bound_17 : decode cX9_bound 17 = .ok (.istore_n 3, 1) := by decide +kernel
theorem dX9_bound_18 : decode cX9_bound 18 = .ok (.iload_n 3, 1) := by decide +kernel
theorem dX9_bound_19 : decode cX9_bound 19 = .ok (.ifCond .lt 26, 3) := by decide +kernel
theorem dX9_bound_22 : decode cX9_bound 22 = .ok (.iload_n 3, 1) := by decide +kernel
theorem dX9_bound_23 : decode cX9_bound 23 = .ok (.iconst 5, 1) := by decide +kernel
theorem dX9_bound_24 : decode cX9_bound 24 = .ok (.if_icmp .ge 21, 3) := by decide +kernel
theorem dX9_bound_27 : decode cX9_bound 27 = .ok (.aload_n 0, 1) := by decide +kernel
theorem dX9_bound_28 : decode cX9_bound 28 = .ok (.getfield 15, 3) := by decide +kernel
theorem dX9_bound_31 : decode cX9_bound 31 = .ok (.iload_n 3, 1) := by decide +kernel
theorem dX9_bound_32 : decode cX9_bound 32 = .ok (.aload_n 0, 1) := by decide +kernel
theorem dX9_bound_33 : decode cX9_bound 33 = .ok (.getfield 15, 3) := by decide +kernel
theorem dX9_bound_36 : decode cX9_bound 36 = .ok (.iload_n 3, 1) := by decide +kernel
theorem dX9_bound_37 : decode cX9_bound 37 = .ok (.iaload, 1) := by decide +kernel
theorem dX9_bound_38 : decode cX9_bound 38 = .ok (.iload_n 1, 1) := by decide +kernel
theorem dX9_bound_39 : decode cX9_bound 39 = .ok (.iconst 1, 1) := by decide +kernel
theorem dX9_bound_40 : decode cX9_bound 40 = .ok (.isub, 1) := by decide +kernel
theorem dX9_bound_41 : decode cX9_bound 41 = .ok (.invokestatic 23, 3) := by decide +kernel
theorem dX9_bound_44 : decode cX9_bound 44 = .ok (.iastore, 1) := by decide +kernel
theorem dX9_bound_45 : decode cX9_bound 45 = .ok (.iload_n 2, 1) := by decide +kernel
theorem dX9_bound_46 : decode cX9_bound 46 = .ok (.ifCond .lt 24, 3) := by decide +kernel
theorem dX9_bound_49 : decode cX9_bound 49 = .ok (.iload_n 2, 1) := by decide +kernel
theorem dX9_bound_50 : decode cX9_bound 50 = .ok (.iconst 5, 1) := by decide +kernel
theorem dX9_bound_51 : decode cX9_bound 51 = .ok (.if_icmp .ge 19, 3) := by decide +kernel
theorem dX9_bound_54 : decode cX9_bound 54 = .ok (.aload_n 0, 1) := by decide +kernel
theorem dX9_bound_55 : decode cX9_bound 55 = .ok (.getfield 9, 3) := by decide +kernel
theorem dX9_bound_58 : decode cX9_bound 58 = .ok (.iload_n 2, 1) := by decide +kernel
theorem dX9_bound_59 : decode cX9_bound 59 = .ok (.aload_n 0, 1) := by decide +kernel
theorem dX9_bound_60 : decode cX9_bound 60 = .ok (.getfield 9, 3) := by decide +kernel
theorem dX9_bound_63 : decode cX9_bound 63 = .ok (.iload_n 2, 1) := by decide +kernel
theorem dX9_bound_64 : decode cX9_bound 64 = .ok (.iaload, 1) := by decide +kernel
theorem dX9_bound_65 : decode cX9_bound 65 = .ok (.iload_n 1, 1) := by decide +kernel
theorem dX9_bound_66 : decode cX9_bound 66 = .ok (.invokestatic 29, 3) := by decide +kernel
theorem dX9_bound_69 : decode cX9_bound 69 = .ok (.iastore, 1) := by decide +kernel
theorem dX9_bound_70 : decode cX9_bound 70 = .ok (.return_, 1) := by decide +kernel
noncomputable def vX9_bound : List Cond := .code yX9_bound cX9_bound 4 none :: (([.fieldLink RX9 32 "IcicleClock$Weathers" "days" "I", .fieldLink RX9 15 "IcicleClock$Weathers" "most" "[I", .methodLink RX9 23 Lib.Math.min.name, .static Lib.Math.min.name, .initialized "java/lang/Math", .code Lib.Math.min.name Lib.Math.min.code 2 (some .int), .fieldLink RX9 9 "IcicleClock$Weathers" "least" "[I", .methodLink RX9 29 Lib.Math.max.name, .static Lib.Math.max.name, .code Lib.Math.max.name Lib.Math.max.code 2 (some .int)] : List Cond) ++ wsX90)
theorem iX9_bound_9 : ∀ w ∈ wsX90, w ∈ vX9_bound := fun _ h => List.mem_cons_of_mem _ (List.mem_append_right _ (h))
theorem gs_X9_bound : Gd vX9_bound := Gd.cons (by decide +kernel) (Gd.app (Gd.r (by decide +kernel)) gwX_9)
set_option maxHeartbeats 4000000 in
set_option maxRecDepth 100000 in
theorem s_X9_bound (l : Launch) (D : va_G) (cs : Nat → ClassId) (ad : Nat → Nat) (kS : kSt) (K : sK) (hKO : KO K) (hj : wJ ad 218) (g : Nat → va_E) (hW : WF (shp ad K) ad cs g) (ne : Int32) (fa : Int32) : sV l yX9_bound vX9_bound { frames := 1, cells := 0, slots := 0, locals := 15 } D cs ad kS [.ref (ad 130), .int ne, .int fa] g (fun g2 => WF (shp ad K) ad cs g2 ∧ (∀ j, j ≠ 131 ∧ j ≠ 132 → g2 j = g j)) := by
  refine Met.startS (cc := cX9_bound) (maxL := 4) (ret := none) RX9 rfl (by decide) rfl (Nat.le_of_ble_eq_true rfl) ?_
  intro p e s m below meth c ls X Z hP hl
  have hx := X.1
  have hb := X.2.1
  have hS : va_S (wA ad 218) s.heap s.heap [] := va_S.rf
  have hA : ∀ i, i < 218 → wA ad 218 (ad i) := fun i h => ⟨i, h, rfl⟩
  have hfr : ∀ j, j ≠ 131 ∧ j ≠ 132 → g j = g j := fun _ _ => rfl
  have hl : lv_has ls 4 [(0, .ref (ad 130)), (1, .int ne), (2, .int fa)] := hl
  refine lv_iload_n hx hb dX9_bound_0 rfl (lv_at hl 2 rfl) ?_
  refine lv_iconst (v := (-1)) hx hb dX9_bound_1 (by decide) ?_
  refine lv_icmp_ne (tgt := 14) hx hb dX9_bound_2 (by decide) (fun hc_1 => ?_) (fun hc_1 => ?_)
  · have hhc_1 := n_ne (rfl : fa.toInt = fa.toInt) (by decide : (-1 : Int32).toInt = -1) hc_1
    refine lv_iload_n hx hb dX9_bound_14 rfl (lv_at hl 2 rfl) ?_
    refine lv_iconst (v := 1) hx hb dX9_bound_15 (by decide) ?_
    refine lv_isub hx hb dX9_bound_16 ?_
    refine lv_topi (fun z_2 ez_2 => ?_)
    refine lv_istore_n (lv' := [(3, .int z_2), (0, .ref (ad 130)), (1, .int ne), (2, .int fa)]) hx hb dX9_bound_17 rfl hl (by decide) rfl (fun ls hl => ?_)
    refine lv_iload_n hx hb dX9_bound_18 rfl (lv_at hl 0 rfl) ?_
    have HJ45 : ∀ (G45 : Nat → va_E) (H : Heap) (locs : List Loc) (ls : Array Slot), WF (shp ad K) ad cs G45 → (∀ j, j ≠ 131 ∧ j ≠ 132 → G45 j = g j) → va_P D vwCl (wL ad G45 218) H → va_S (wA ad 218) s.heap H locs → lv_has ls 4 [(0, .ref (ad 130)), (1, .int ne), (2, .int fa)] → W p l e ({ frames := 1, cells := 0, slots := 0, locals := 15 } : Room) s m ([.ref (ad 130), .int ne, .int fa] : List Value).toArray below meth c H locs 0 0 (MQ below (qV D ad 218 (fun g2 => WF (shp ad K) ad cs g2 ∧ (∀ j, j ≠ 131 ∧ j ≠ 132 → g2 j = g j))) ([.ref (ad 130), .int ne, .int fa] : List Value).toArray s 0 0 (wA ad 218)) (F0 m 45 ls []) := by
      intro G45 H locs ls hW45 hfr45 hP hS hl
      refine lv_iload_n hx hb dX9_bound_45 rfl (lv_at hl 2 rfl) ?_
      have HJ70 : ∀ (G70 : Nat → va_E) (H : Heap) (locs : List Loc) (ls : Array Slot), WF (shp ad K) ad cs G70 → (∀ j, j ≠ 131 ∧ j ≠ 132 → G70 j = g j) → va_P D vwCl (wL ad G70 218) H → va_S (wA ad 218) s.heap H locs → lv_has ls 4 [] → W p l e ({ frames := 1, cells := 0, slots := 0, locals := 15 } : Room) s m ([.ref (ad 130), .int ne, .int fa] : List Value).toArray below meth c H locs 0 0 (MQ below (qV D ad 218 (fun g2 => WF (shp ad K) ad cs g2 ∧ (∀ j, j ≠ 131 ∧ j ≠ 132 → g2 j = g j))) ([.ref (ad 130), .int ne, .int fa] : List Value).toArray s 0 0 (wA ad 218)) (F0 m 70 ls []) := by
        intro G70 H locs ls hW70 hfr70 hP hS hl
        exact q_vret X hP hS ⟨hW70, hfr70⟩ dX9_bound_70
      refine lv_if_lt (tgt := 70) hx hb dX9_bound_46 (by decide) (fun hc_3 => ?_) (fun hc_3 => ?_)
      · have hhc_3 := n_lt (rfl : fa.toInt = fa.toInt) (by decide : (0 : Int32).toInt = 0) hc_3
        exact HJ70 G45 _ _ ls hW45 hfr45 hP hS (lv_sub hl [] rfl)
      · have hhc_3 := n_nlt (rfl : fa.toInt = fa.toInt) (by decide : (0 : Int32).toInt = 0) hc_3
        refine lv_iload_n hx hb dX9_bound_49 rfl (lv_at hl 2 rfl) ?_
        refine lv_iconst (v := 5) hx hb dX9_bound_50 (by decide) ?_
        refine lv_icmp_ge (tgt := 70) hx hb dX9_bound_51 (by decide) (fun hc_4 => ?_) (fun hc_4 => ?_)
        · have hhc_4 := n_le (by decide : (5 : Int32).toInt = 5) (rfl : fa.toInt = fa.toInt) hc_4
          exact HJ70 G45 _ _ ls hW45 hfr45 hP hS (lv_sub hl [] rfl)
        · have hhc_4 := n_nle (by decide : (5 : Int32).toInt = 5) (rfl : fa.toInt = fa.toInt) hc_4
          refine lv_aload_n hx hb dX9_bound_54 rfl (lv_at hl 0 rfl) ?_
          obtain ⟨fsc_5, hgc_5, hOc_5⟩ := hW45.obj (i := 130) (by decide) (sh_130 ad K)
          have hk_6 := hOc_5.ref 0 rfl
          refine q_get X iX9_bound_9 hP (by decide) hgc_5 rfl 0 (by decide) (List.mem_of_getElem? (i := 7) rfl) (v := .ref (ad 131)) hk_6 dX9_bound_55 ?_
          refine lv_iload_n hx hb dX9_bound_58 rfl (lv_at hl 2 rfl) ?_
          refine lv_aload_n hx hb dX9_bound_59 rfl (lv_at hl 0 rfl) ?_
          refine q_get X iX9_bound_9 hP (by decide) hgc_5 rfl 0 (by decide) (List.mem_of_getElem? (i := 7) rfl) (v := .ref (ad 131)) hk_6 dX9_bound_60 ?_
          refine lv_iload_n hx hb dX9_bound_63 rfl (lv_at hl 2 rfl) ?_
          obtain ⟨fc_7, hgc_7, hFc_7⟩ := hW45.arr (i := 131) (by decide) (sh_131 ad K)
          refine q_iald X hP (by decide) hgc_7 (n_in (rfl : fa.toInt = fa.toInt) (by omega) (by omega)) dX9_bound_64 ?_
          refine lv_topi (fun z_8 ez_8 => ?_)
          refine lv_iload_n hx hb dX9_bound_65 rfl (lv_at hl 1 rfl) ?_
          refine va_mmax hx hb (X.2.2.2.1.trans hl.1.symm) X.2.2.2.2.2.1 (X.2.2.2.2.1 _ (List.mem_of_getElem? (i := 8) rfl)) (X.2.2.2.2.1 _ (List.mem_of_getElem? (i := 9) rfl)) (X.2.2.2.2.1 _ (List.mem_of_getElem? (i := 5) rfl)) (X.2.2.2.2.1 _ (List.mem_of_getElem? (i := 10) rfl)) (Nat.le_of_ble_eq_true rfl) (Nat.le_of_ble_eq_true rfl) (Nat.le_of_ble_eq_true rfl) (Nat.le_of_ble_eq_true rfl) dX9_bound_66 ?_
          refine lv_topi (fun z_9 ez_9 => ?_)
          have hz_9 := n_max (rfl : z_8.toInt = z_8.toInt) (rfl : ne.toInt = ne.toInt) ez_9
          refine s_iast X hP hj hA hS (by decide) hgc_7 (n_in (rfl : fa.toInt = fa.toInt) (by omega) (by omega)) dX9_bound_69 hW45 (sh_131 ad K) (hFc_7.put trivial) (fun fc_10 gc_10 H locs ec_10 hFc_10 hgc_10 hfc_10 hWc_10 hP hS => ?_)
          have hg_12 := (hfc_10 130 (by decide)).trans hgc_5
          have hfr_11 : ∀ j, j ≠ 131 ∧ j ≠ 132 → gc_10 j = g j := fun j hj => (hfc_10 j (by omega)).trans (hfr45 j hj)
          exact HJ70 gc_10 _ _ ls hWc_10 hfr_11 hP hS (lv_sub hl [] rfl)
    refine lv_if_lt (tgt := 45) hx hb dX9_bound_19 (by decide) (fun hc_13 => ?_) (fun hc_13 => ?_)
    · have hhc_13 := n_lt (rfl : z_2.toInt = z_2.toInt) (by decide : (0 : Int32).toInt = 0) hc_13
      exact HJ45 g _ _ ls hW hfr hP hS (lv_sub hl [1, 2, 3] rfl)
    · have hhc_13 := n_nlt (rfl : z_2.toInt = z_2.toInt) (by decide : (0 : Int32).toInt = 0) hc_13
      refine lv_iload_n hx hb dX9_bound_22 rfl (lv_at hl 0 rfl) ?_
      refine lv_iconst (v := 5) hx hb dX9_bound_23 (by decide) ?_
      refine lv_icmp_ge (tgt := 45) hx hb dX9_bound_24 (by decide) (fun hc_14 => ?_) (fun hc_14 => ?_)
      · have hhc_14 := n_le (by decide : (5 : Int32).toInt = 5) (rfl : z_2.toInt = z_2.toInt) hc_14
        exact HJ45 g _ _ ls hW hfr hP hS (lv_sub hl [1, 2, 3] rfl)
      · have hhc_14 := n_nle (by decide : (5 : Int32).toInt = 5) (rfl : z_2.toInt = z_2.toInt) hc_14
        refine lv_aload_n hx hb dX9_bound_27 rfl (lv_at hl 1 rfl) ?_
        obtain ⟨fsc_15, hgc_15, hOc_15⟩ := hW.obj (i := 130) (by decide) (sh_130 ad K)
        have hk_16 := hOc_15.ref 1 rfl
        refine q_get X iX9_bound_9 hP (by decide) hgc_15 rfl 1 (by decide) (List.mem_of_getElem? (i := 2) rfl) (v := .ref (ad 132)) hk_16 dX9_bound_28 ?_
        refine lv_iload_n hx hb dX9_bound_31 rfl (lv_at hl 0 rfl) ?_
        refine lv_aload_n hx hb dX9_bound_32 rfl (lv_at hl 1 rfl) ?_
        refine q_get X iX9_bound_9 hP (by decide) hgc_15 rfl 1 (by decide) (List.mem_of_getElem? (i := 2) rfl) (v := .ref (ad 132)) hk_16 dX9_bound_33 ?_
        refine lv_iload_n hx hb dX9_bound_36 rfl (lv_at hl 0 rfl) ?_
        obtain ⟨fc_17, hgc_17, hFc_17⟩ := hW.arr (i := 132) (by decide) (sh_132 ad K)
        refine q_iald X hP (by decide) hgc_17 (n_in (rfl : z_2.toInt = z_2.toInt) (by omega) (by omega)) dX9_bound_37 ?_
        refine lv_topi (fun z_18 ez_18 => ?_)
        refine lv_iload_n hx hb dX9_bound_38 rfl (lv_at hl 2 rfl) ?_
        refine lv_iconst (v := 1) hx hb dX9_bound_39 (by decide) ?_
        refine lv_isub hx hb dX9_bound_40 ?_
        refine lv_topi (fun z_19 ez_19 => ?_)
        refine va_mmin hx hb (X.2.2.2.1.trans hl.1.symm) X.2.2.2.2.2.1 (X.2.2.2.2.1 _ (List.mem_of_getElem? (i := 3) rfl)) (X.2.2.2.2.1 _ (List.mem_of_getElem? (i := 4) rfl)) (X.2.2.2.2.1 _ (List.mem_of_getElem? (i := 5) rfl)) (X.2.2.2.2.1 _ (List.mem_of_getElem? (i := 6) rfl)) (Nat.le_of_ble_eq_true rfl) (Nat.le_of_ble_eq_true rfl) (Nat.le_of_ble_eq_true rfl) (Nat.le_of_ble_eq_true rfl) dX9_bound_41 ?_
        refine lv_topi (fun z_20 ez_20 => ?_)
        have hz_20 := n_min (rfl : z_18.toInt = z_18.toInt) (rfl : z_19.toInt = z_19.toInt) ez_20
        refine s_iast X hP hj hA hS (by decide) hgc_17 (n_in (rfl : z_2.toInt = z_2.toInt) (by omega) (by omega)) dX9_bound_44 hW (sh_132 ad K) (hFc_17.put trivial) (fun fc_21 gc_21 H locs ec_21 hFc_21 hgc_21 hfc_21 hWc_21 hP hS => ?_)
        have hg_23 := (hfc_21 130 (by decide)).trans hgc_15
        have hfr_22 : ∀ j, j ≠ 131 ∧ j ≠ 132 → gc_21 j = g j := fun j hj => (hfc_21 j (by omega)).trans (hfr j hj)
        exact HJ45 gc_21 _ _ ls hWc_21 hfr_22 hP hS (lv_sub hl [1, 2, 3] rfl)
  · have hhc_1 := n_eq (rfl : fa.toInt = fa.toInt) (by decide : (-1 : Int32).toInt = -1) hc_1
    refine lv_aload_n hx hb dX9_bound_5 rfl (lv_at hl 0 rfl) ?_
    obtain ⟨fsc_24, hgc_24, hOc_24⟩ := hW.obj (i := 130) (by decide) (sh_130 ad K)
    obtain ⟨x_26, hk_25, hlx_26, hhx_26⟩ := hOc_24.int 3 rfl
    refine q_get X iX9_bound_9 hP (by decide) hgc_24 rfl 3 (by decide) (List.mem_of_getElem? (i := 1) rfl) (v := .int x_26) hk_25 dX9_bound_6 ?_
    refine lv_iconst (v := 1) hx hb dX9_bound_9 (by decide) ?_
    refine lv_isub hx hb dX9_bound_10 ?_
    refine lv_topi (fun z_27 ez_27 => ?_)
    have hz_27 : z_27.toInt = x_26.toInt - 1 := n_sub (rfl : x_26.toInt = x_26.toInt) (by decide : (1 : Int32).toInt = 1) ez_27 (by omega) (by omega)
    refine lv_goto (tgt := 17) hx hb dX9_bound_11 (by decide) ?_
    refine lv_istore_n (lv' := [(3, .int z_27), (0, .ref (ad 130)), (1, .int ne), (2, .int fa)]) hx hb dX9_bound_17 rfl hl (by decide) rfl (fun ls hl => ?_)
    refine lv_iload_n hx hb dX9_bound_18 rfl (lv_at hl 0 rfl) ?_
    have HJ45 : ∀ (G45 : Nat → va_E) (H : Heap) (locs : List Loc) (ls : Array Slot), WF (shp ad K) ad cs G45 → (∀ j, j ≠ 131 ∧ j ≠ 132 → G45 j = g j) → va_P D vwCl (wL ad G45 218) H → va_S (wA ad 218) s.heap H locs → lv_has ls 4 [(0, .ref (ad 130)), (1, .int ne), (2, .int fa)] → W p l e ({ frames := 1, cells := 0, slots := 0, locals := 15 } : Room) s m ([.ref (ad 130), .int ne, .int fa] : List Value).toArray below meth c H locs 0 0 (MQ below (qV D ad 218 (fun g2 => WF (shp ad K) ad cs g2 ∧ (∀ j, j ≠ 131 ∧ j ≠ 132 → g2 j = g j))) ([.ref (ad 130), .int ne, .int fa] : List Value).toArray s 0 0 (wA ad 218)) (F0 m 45 ls []) := by
      intro G45 H locs ls hW45 hfr45 hP hS hl
      refine lv_iload_n hx hb dX9_bound_45 rfl (lv_at hl 2 rfl) ?_
      have HJ70 : ∀ (G70 : Nat → va_E) (H : Heap) (locs : List Loc) (ls : Array Slot), WF (shp ad K) ad cs G70 → (∀ j, j ≠ 131 ∧ j ≠ 132 → G70 j = g j) → va_P D vwCl (wL ad G70 218) H → va_S (wA ad 218) s.heap H locs → lv_has ls 4 [] → W p l e ({ frames := 1, cells := 0, slots := 0, locals := 15 } : Room) s m ([.ref (ad 130), .int ne, .int fa] : List Value).toArray below meth c H locs 0 0 (MQ below (qV D ad 218 (fun g2 => WF (shp ad K) ad cs g2 ∧ (∀ j, j ≠ 131 ∧ j ≠ 132 → g2 j = g j))) ([.ref (ad 130), .int ne, .int fa] : List Value).toArray s 0 0 (wA ad 218)) (F0 m 70 ls []) := by
        intro G70 H locs ls hW70 hfr70 hP hS hl
        exact q_vret X hP hS ⟨hW70, hfr70⟩ dX9_bound_70
      refine lv_if_lt (tgt := 70) hx hb dX9_bound_46 (by decide) (fun hc_28 => ?_) (fun hc_28 => by exfalso; have hhc_28 := n_nlt (rfl : fa.toInt = fa.toInt) (by decide : (0 : Int32).toInt = 0) hc_28; omega)
      have hhc_28 := n_lt (rfl : fa.toInt = fa.toInt) (by decide : (0 : Int32).toInt = 0) hc_28
      exact HJ70 G45 _ _ ls hW45 hfr45 hP hS (lv_sub hl [] rfl)
    refine lv_if_lt (tgt := 45) hx hb dX9_bound_19 (by decide) (fun hc_29 => ?_) (fun hc_29 => ?_)
    · have hhc_29 := n_lt (rfl : z_27.toInt = z_27.toInt) (by decide : (0 : Int32).toInt = 0) hc_29
      exact HJ45 g _ _ ls hW hfr hP hS (lv_sub hl [1, 2, 3] rfl)
    · have hhc_29 := n_nlt (rfl : z_27.toInt = z_27.toInt) (by decide : (0 : Int32).toInt = 0) hc_29
      refine lv_iload_n hx hb dX9_bound_22 rfl (lv_at hl 0 rfl) ?_
      refine lv_iconst (v := 5) hx hb dX9_bound_23 (by decide) ?_
      refine lv_icmp_ge (tgt := 45) hx hb dX9_bound_24 (by decide) (fun hc_30 => by exfalso; have hhc_30 := n_le (by decide : (5 : Int32).toInt = 5) (rfl : z_27.toInt = z_27.toInt) hc_30; omega) (fun hc_30 => ?_)
      have hhc_30 := n_nle (by decide : (5 : Int32).toInt = 5) (rfl : z_27.toInt = z_27.toInt) hc_30
      refine lv_aload_n hx hb dX9_bound_27 rfl (lv_at hl 1 rfl) ?_
      have hk_31 := hOc_24.ref 1 rfl
      refine q_get X iX9_bound_9 hP (by decide) hgc_24 rfl 1 (by decide) (List.mem_of_getElem? (i := 2) rfl) (v := .ref (ad 132)) hk_31 dX9_bound_28 ?_
      refine lv_iload_n hx hb dX9_bound_31 rfl (lv_at hl 0 rfl) ?_
      refine lv_aload_n hx hb dX9_bound_32 rfl (lv_at hl 1 rfl) ?_
      refine q_get X iX9_bound_9 hP (by decide) hgc_24 rfl 1 (by decide) (List.mem_of_getElem? (i := 2) rfl) (v := .ref (ad 132)) hk_31 dX9_bound_33 ?_
      refine lv_iload_n hx hb dX9_bound_36 rfl (lv_at hl 0 rfl) ?_
      obtain ⟨fc_32, hgc_32, hFc_32⟩ := hW.arr (i := 132) (by decide) (sh_132 ad K)
      refine q_iald X hP (by decide) hgc_32 (n_in (rfl : z_27.toInt = z_27.toInt) (by omega) (by omega)) dX9_bound_37 ?_
      refine lv_topi (fun z_33 ez_33 => ?_)
      refine lv_iload_n hx hb dX9_bound_38 rfl (lv_at hl 2 rfl) ?_
      refine lv_iconst (v := 1) hx hb dX9_bound_39 (by decide) ?_
      refine lv_isub hx hb dX9_bound_40 ?_
      refine lv_topi (fun z_34 ez_34 => ?_)
      refine va_mmin hx hb (X.2.2.2.1.trans hl.1.symm) X.2.2.2.2.2.1 (X.2.2.2.2.1 _ (List.mem_of_getElem? (i := 3) rfl)) (X.2.2.2.2.1 _ (List.mem_of_getElem? (i := 4) rfl)) (X.2.2.2.2.1 _ (List.mem_of_getElem? (i := 5) rfl)) (X.2.2.2.2.1 _ (List.mem_of_getElem? (i := 6) rfl)) (Nat.le_of_ble_eq_true rfl) (Nat.le_of_ble_eq_true rfl) (Nat.le_of_ble_eq_true rfl) (Nat.le_of_ble_eq_true rfl) dX9_bound_41 ?_
      refine lv_topi (fun z_35 ez_35 => ?_)
      have hz_35 := n_min (rfl : z_33.toInt = z_33.toInt) (rfl : z_34.toInt = z_34.toInt) ez_35
      refine s_iast X hP hj hA hS (by decide) hgc_32 (n_in (rfl : z_27.toInt = z_27.toInt) (by omega) (by omega)) dX9_bound_44 hW (sh_132 ad K) (hFc_32.put trivial) (fun fc_36 gc_36 H locs ec_36 hFc_36 hgc_36 hfc_36 hWc_36 hP hS => ?_)
      have hg_38 := (hfc_36 130 (by decide)).trans hgc_24
      have hfr_37 : ∀ j, j ≠ 131 ∧ j ≠ 132 → gc_36 j = g j := fun j hj => (hfc_36 j (by omega)).trans (hfr j hj)
      exact HJ45 gc_36 _ _ ls hWc_36 hfr_37 hP hS (lv_sub hl [1, 2, 3] rfl)

theorem dX9_goingsBy_0 : decode cX9_goingsBy 0 = .ok (.iload_n 2, 1) := by decide +kernel
theorem dX9_goingsBy_1 : decode cX9_goingsBy 1 = .ok (.aload_n 0, 1) := by decide +kernel
theorem dX9_goingsBy_2 : decode cX9_goingsBy 2 = .ok (.getfield 9, 3) := by decide +kernel
theorem dX9_goingsBy_5 : decode cX9_goingsBy 5 = .ok (.iload_n 1, 1) := by decide +kernel
theorem dX9_goingsBy_6 : decode cX9_goingsBy 6 = .ok (.iaload, 1) := by decide +kernel
theorem dX9_goingsBy_7 : decode cX9_goingsBy 7 = .ok (.if_icmp .lt 23, 3) := by decide +kernel
theorem dX9_goingsBy_10 : decode cX9_goingsBy 10 = .ok (.iload_n 2, 1) := by decide +kernel
theorem dX9_goingsBy_11 : decode cX9_goingsBy 11 = .ok (.aload_n 0, 1) := by decide +kernel
theorem dX9_goingsBy_12 : decode cX9_goingsBy 12 = .ok (.getfield 15, 3) := by decide +kernel
theorem dX9_goingsBy_15 : decode cX9_goingsBy 15 = .ok (.iload_n 1, 1) := by decide +kernel
theorem dX9_goingsBy_16 : decode cX9_goingsBy 16 = .ok (.iaload, 1) := by decide +kernel
theorem dX9_goingsBy_17 : decode cX9_goingsBy 17 = .ok (.if_icmp .gt 13, 3) := by decide +kernel
theorem dX9_goingsBy_20 : decode cX9_goingsBy 20 = .ok (.iload_n 2, 1) := by decide +kernel
theorem dX9_goingsBy_21 : decode cX9_goingsBy 21 = .ok (.bipush 15, 2) := by decide +kernel
theorem dX9_goingsBy_23 : decode cX9_goingsBy 23 = .ok (.if_icmp .gt 7, 3) := by decide +kernel
theorem dX9_goingsBy_26 : decode cX9_goingsBy 26 = .ok (.iconst 1, 1) := by decide +kernel
theorem dX9_goingsBy_27 : decode cX9_goingsBy 27 = .ok (.goto 4, 3) := by decide +kernel
theorem dX9_goingsBy_30 : decode cX9_goingsBy 30 = .ok (.iconst 0, 1) := by decide +kernel
theorem dX9_goingsBy_31 : decode cX9_goingsBy 31 = .ok (.istore_n 3, 1) := by decide +kernel
theorem dX9_goingsBy_32 : decode cX9_goingsBy 32 = .ok (.iload_n 3, 1) := by decide +kernel
theorem dX9_goingsBy_33 : decode cX9_goingsBy 33 = .ok (.ifCond .eq 16, 3) := by decide +kernel
theorem dX9_goingsBy_36 : decode cX9_goingsBy 36 = .ok (.aload_n 0, 1) := by decide +kernel
theorem dX9_goingsBy_37 : decode cX9_goingsBy 37 = .ok (.getfield 20, 3) := by decide +kernel
theorem dX9_goingsBy_40 : decode cX9_goingsBy 40 = .ok (.iload_n 1, 1) := by decide +kernel
theorem dX9_goingsBy_41 : decode cX9_goingsBy 41 = .ok (.iconst 1, 1) := by decide +kernel
theorem dX9_goingsBy_42 : decode cX9_goingsBy 42 = .ok (.iadd, 1) := by decide +kernel
theorem dX9_goingsBy_43 : decode cX9_goingsBy 43 = .ok (.aaload, 1) := by decide +kernel
theorem dX9_goingsBy_44 : decode cX9_goingsBy 44 = .ok (.iload_n 2, 1) := by decide +kernel
theorem dX9_goingsBy_45 : decode cX9_goingsBy 45 = .ok (.iaload, 1) := by decide +kernel
theorem dX9_goingsBy_46 : decode cX9_goingsBy 46 = .ok (.goto 4, 3) := by decide +kernel
theorem dX9_goingsBy_49 : decode cX9_goingsBy 49 = .ok (.iconst 0, 1) := by decide +kernel
theorem dX9_goingsBy_50 : decode cX9_goingsBy 50 = .ok (.ireturn, 1) := by decide +kernel
noncomputable def vX9_goingsBy : List Cond := .code yX9_goingsBy cX9_goingsBy 4 (some .int) :: (([.fieldLink RX9 9 "IcicleClock$Weathers" "least" "[I", .fieldLink RX9 15 "IcicleClock$Weathers" "most" "[I", .fieldLink RX9 20 "IcicleClock$Weathers" "goings" "[[I"] : List Cond) ++ wsX90)
theorem iX9_goingsBy_9 : ∀ w ∈ wsX90, w ∈ vX9_goingsBy := fun _ h => List.mem_cons_of_mem _ (List.mem_append_right _ (h))
theorem gs_X9_goingsBy : Gd vX9_goingsBy := Gd.cons (by decide +kernel) (Gd.app (Gd.r (by decide +kernel)) gwX_9)
set_option maxHeartbeats 4000000 in
set_option maxRecDepth 100000 in
theorem s_X9_goingsBy (l : Launch) (D : va_G) (cs : Nat → ClassId) (ad : Nat → Nat) (kS : kSt) (K : sK) (hKO : KO K) (hj : wJ ad 218) (g : Nat → va_E) (hW : WF (shp ad K) ad cs g) (dy : Int32) (sm : Int32) (hp0 : 0 ≤ dy.toInt ∧ dy.toInt ≤ 4) (hp1 : 0 ≤ sm.toInt ∧ sm.toInt ≤ 100) : sI l yX9_goingsBy vX9_goingsBy { frames := 0, cells := 0, slots := 0, locals := 0 } D cs ad kS [.ref (ad 130), .int dy, .int sm] g (fun r g2 => g2 = g) := by
  refine Met.startS (cc := cX9_goingsBy) (maxL := 4) (ret := (some .int)) RX9 rfl (by decide) rfl (Nat.le_of_ble_eq_true rfl) ?_
  intro p e s m below meth c ls X Z hP hl
  have hx := X.1
  have hb := X.2.1
  have hS : va_S (wA ad 218) s.heap s.heap [] := va_S.rf
  have hA : ∀ i, i < 218 → wA ad 218 (ad i) := fun i h => ⟨i, h, rfl⟩
  have hl : lv_has ls 4 [(0, .ref (ad 130)), (1, .int dy), (2, .int sm)] := hl
  refine lv_iload_n hx hb dX9_goingsBy_0 rfl (lv_at hl 2 rfl) ?_
  refine lv_aload_n hx hb dX9_goingsBy_1 rfl (lv_at hl 0 rfl) ?_
  obtain ⟨fsc_1, hgc_1, hOc_1⟩ := hW.obj (i := 130) (by decide) (sh_130 ad K)
  have hk_2 := hOc_1.ref 0 rfl
  refine q_get X iX9_goingsBy_9 hP (by decide) hgc_1 rfl 0 (by decide) (List.mem_of_getElem? (i := 1) rfl) (v := .ref (ad 131)) hk_2 dX9_goingsBy_2 ?_
  refine lv_iload_n hx hb dX9_goingsBy_5 rfl (lv_at hl 1 rfl) ?_
  obtain ⟨fc_3, hgc_3, hFc_3⟩ := hW.arr (i := 131) (by decide) (sh_131 ad K)
  refine q_iald X hP (by decide) hgc_3 (n_in (rfl : dy.toInt = dy.toInt) (by omega) (by omega)) dX9_goingsBy_6 ?_
  refine lv_topi (fun z_4 ez_4 => ?_)
  have HJ30 : ∀ (H : Heap) (locs : List Loc) (ls : Array Slot), va_P D vwCl (wL ad g 218) H → va_S (wA ad 218) s.heap H locs → lv_has ls 4 [(0, .ref (ad 130)), (1, .int dy), (2, .int sm)] → W p l e ({ frames := 0, cells := 0, slots := 0, locals := 0 } : Room) s m ([.ref (ad 130), .int dy, .int sm] : List Value).toArray below meth c H locs 0 0 (MQ below (qI D ad 218 (fun r g2 => g2 = g)) ([.ref (ad 130), .int dy, .int sm] : List Value).toArray s 0 0 (wA ad 218)) (F0 m 30 ls []) := by
    intro H locs ls hP hS hl
    refine lv_iconst (v := 0) hx hb dX9_goingsBy_30 (by decide) ?_
    refine lv_istore_n (lv' := [(3, .int 0), (0, .ref (ad 130)), (1, .int dy), (2, .int sm)]) hx hb dX9_goingsBy_31 rfl hl (by decide) rfl (fun ls hl => ?_)
    refine lv_iload_n hx hb dX9_goingsBy_32 rfl (lv_at hl 0 rfl) ?_
    refine lv_if_eq (tgt := 49) hx hb dX9_goingsBy_33 (by decide) (fun _ => ?_) (fun h => absurd h (by decide))
    refine lv_iconst (v := 0) hx hb dX9_goingsBy_49 (by decide) ?_
    exact q_iret X hP hS rfl dX9_goingsBy_50
  refine lv_icmp_lt (tgt := 30) hx hb dX9_goingsBy_7 (by decide) (fun hc_5 => ?_) (fun hc_5 => ?_)
  · have hhc_5 := n_lt (rfl : sm.toInt = sm.toInt) (rfl : z_4.toInt = z_4.toInt) hc_5
    have := n_hi z_4
    have := n_lo z_4
    exact HJ30 _ _ ls hP hS (lv_sub hl [0, 1, 2] rfl)
  · have hhc_5 := n_nlt (rfl : sm.toInt = sm.toInt) (rfl : z_4.toInt = z_4.toInt) hc_5
    have := n_hi z_4
    have := n_lo z_4
    refine lv_iload_n hx hb dX9_goingsBy_10 rfl (lv_at hl 2 rfl) ?_
    refine lv_aload_n hx hb dX9_goingsBy_11 rfl (lv_at hl 0 rfl) ?_
    have hk_6 := hOc_1.ref 1 rfl
    refine q_get X iX9_goingsBy_9 hP (by decide) hgc_1 rfl 1 (by decide) (List.mem_of_getElem? (i := 2) rfl) (v := .ref (ad 132)) hk_6 dX9_goingsBy_12 ?_
    refine lv_iload_n hx hb dX9_goingsBy_15 rfl (lv_at hl 1 rfl) ?_
    obtain ⟨fc_7, hgc_7, hFc_7⟩ := hW.arr (i := 132) (by decide) (sh_132 ad K)
    refine q_iald X hP (by decide) hgc_7 (n_in (rfl : dy.toInt = dy.toInt) (by omega) (by omega)) dX9_goingsBy_16 ?_
    refine lv_topi (fun z_8 ez_8 => ?_)
    refine lv_icmp_gt (tgt := 30) hx hb dX9_goingsBy_17 (by decide) (fun hc_9 => ?_) (fun hc_9 => ?_)
    · have hhc_9 := n_lt (rfl : z_8.toInt = z_8.toInt) (rfl : sm.toInt = sm.toInt) hc_9
      have := n_hi z_8
      have := n_lo z_8
      exact HJ30 _ _ ls hP hS (lv_sub hl [0, 1, 2] rfl)
    · have hhc_9 := n_nlt (rfl : z_8.toInt = z_8.toInt) (rfl : sm.toInt = sm.toInt) hc_9
      have := n_hi z_8
      have := n_lo z_8
      refine lv_iload_n hx hb dX9_goingsBy_20 rfl (lv_at hl 2 rfl) ?_
      refine lv_bipush (v := 15) hx hb dX9_goingsBy_21 (by decide) ?_
      refine lv_icmp_gt (tgt := 30) hx hb dX9_goingsBy_23 (by decide) (fun hc_10 => ?_) (fun hc_10 => ?_)
      · have hhc_10 := n_lt (by decide : (15 : Int32).toInt = 15) (rfl : sm.toInt = sm.toInt) hc_10
        exact HJ30 _ _ ls hP hS (lv_sub hl [0, 1, 2] rfl)
      · have hhc_10 := n_nlt (by decide : (15 : Int32).toInt = 15) (rfl : sm.toInt = sm.toInt) hc_10
        refine lv_iconst (v := 1) hx hb dX9_goingsBy_26 (by decide) ?_
        refine lv_goto (tgt := 31) hx hb dX9_goingsBy_27 (by decide) ?_
        refine lv_istore_n (lv' := [(3, .int 1), (0, .ref (ad 130)), (1, .int dy), (2, .int sm)]) hx hb dX9_goingsBy_31 rfl hl (by decide) rfl (fun ls hl => ?_)
        refine lv_iload_n hx hb dX9_goingsBy_32 rfl (lv_at hl 0 rfl) ?_
        refine lv_if_eq (tgt := 49) hx hb dX9_goingsBy_33 (by decide) (fun h => absurd h (by decide)) (fun _ => ?_)
        refine lv_aload_n hx hb dX9_goingsBy_36 rfl (lv_at hl 1 rfl) ?_
        have hk_11 := hOc_1.ref 2 rfl
        refine q_get X iX9_goingsBy_9 hP (by decide) hgc_1 rfl 2 (by decide) (List.mem_of_getElem? (i := 3) rfl) (v := .ref (ad 133)) hk_11 dX9_goingsBy_37 ?_
        refine lv_iload_n hx hb dX9_goingsBy_40 rfl (lv_at hl 2 rfl) ?_
        refine lv_iconst (v := 1) hx hb dX9_goingsBy_41 (by decide) ?_
        refine lv_iadd hx hb dX9_goingsBy_42 ?_
        refine lv_topi (fun z_12 ez_12 => ?_)
        have hz_12 : z_12.toInt = dy.toInt + 1 := n_add (rfl : dy.toInt = dy.toInt) (by decide : (1 : Int32).toInt = 1) ez_12 (by omega) (by omega)
        obtain ⟨fc_13, hgc_13, hFc_13⟩ := hW.aref (i := 133) (by decide) (sh_133 ad K)
        obtain ⟨e_14, h_e_14, e_e_14⟩ : ∃ q : Nat, q < 6 ∧ z_12.toNatClampNeg = q := ⟨_, by have := n_cl (rfl : z_12.toInt = z_12.toInt) (by omega); omega, rfl⟩
        refine s_aald X hP 6 rfl rfl (by decide) hgc_13 (n_in (rfl : z_12.toInt = z_12.toInt) (by omega) (by omega)) (v := ad (134 + e_14)) (by rw [e_e_14, hFc_13 _ h_e_14, Nat.one_mul]) dX9_goingsBy_43 ?_
        refine lv_iload_n hx hb dX9_goingsBy_44 rfl (lv_at hl 3 rfl) ?_
        obtain ⟨fc_15, hgc_15, hFc_15⟩ := hW.arr (i := (134 + e_14)) (by omega) (shR_134 ad K h_e_14)
        refine q_iald X hP (by omega) hgc_15 (n_in (rfl : sm.toInt = sm.toInt) (by omega) (by omega)) dX9_goingsBy_45 ?_
        refine lv_topi (fun z_16 ez_16 => ?_)
        refine lv_goto (tgt := 50) hx hb dX9_goingsBy_46 (by decide) ?_
        exact q_iret X hP hS rfl dX9_goingsBy_50

theorem dX9_countGoings_0 : decode cX9_countGoings 0 = .ok (.aload_n 0, 1) := by decide +kernel
theorem dX9_countGoings_1 : decode cX9_countGoings 1 = .ok (.getfield 20, 3) := by decide +kernel
theorem dX9_countGoings_4 : decode cX9_countGoings 4 = .ok (.aload_n 0, 1) := by decide +kernel
theorem dX9_countGoings_5 : decode cX9_countGoings 5 = .ok (.getfield 32, 3) := by decide +kernel
theorem dX9_countGoings_8 : decode cX9_countGoings 8 = .ok (.aaload, 1) := by decide +kernel
theorem dX9_countGoings_9 : decode cX9_countGoings 9 = .ok (.iconst 1, 1) := by decide +kernel
theorem dX9_countGoings_10 : decode cX9_countGoings 10 = .ok (.invokestatic 70, 3) := by decide +kernel
theorem dX9_countGoings_13 : decode cX9_countGoings 13 = .ok (.aload_n 0, 1) := by decide +kernel
theorem dX9_countGoings_14 : decode cX9_countGoings 14 = .ok (.getfield 32, 3) := by decide +kernel
theorem dX9_countGoings_17 : decode cX9_countGoings 17 = .ok (.iconst 1, 1) := by decide +kernel
theorem dX9_countGoings_18 : decode cX9_countGoings 18 = .ok (.isub, 1) := by decide +kernel
theorem dX9_countGoings_19 : decode cX9_countGoings 19 = .ok (.istore_n 1, 1) := by decide +kernel
theorem dX9_countGoings_20 : decode cX9_countGoings 20 = .ok (.iload_n 1, 1) := by decide +kernel
theorem dX9_countGoings_21 : decode cX9_countGoings 21 = .ok (.ifCond .lt 61, 3) := by decide +kernel
theorem dX9_countGoings_24 : decode cX9_countGoings 24 = .ok (.iconst 0, 1) := by decide +kernel
theorem dX9_countGoings_25 : decode cX9_countGoings 25 = .ok (.istore_n 2, 1) := by decide +kernel
theorem dX9_countGoings_26 : decode cX9_countGoings 26 = .ok (.iload_n 2, 1) := by decide +kernel
theorem dX9_countGoings_27 : decode cX9_countGoings 27 = .ok (.bipush 15, 2) := by decide +kernel
theorem dX9_countGoings_29 : decode cX9_countGoings 29 = .ok (.if_icmp .gt 47, 3) := by decide +kernel
theorem dX9_countGoings_32 : decode cX9_countGoings 32 = .ok (.iconst 0, 1) := by decide +kernel
theorem dX9_countGoings_33 : decode cX9_countGoings 33 = .ok (.istore_n 3, 1) := by decide +kernel
theorem dX9_countGoings_34 : decode cX9_countGoings 34 = .ok (.iconst 0, 1) := by decide +kernel
theorem dX9_countGoings_35 : decode cX9_countGoings 35 = .ok (.istore 4, 2) := by decide +kernel
theorem dX9_countGoings_37 : decode cX9_countGoings 37 = .ok (.iload 4, 2) := by decide +kernel
theorem dX9_countGoings_39 : decode cX9_countGoings 39 = .ok (.iconst 3, 1) := by decide +kernel
theorem dX9_countGoings_40 : decode cX9_countGoings 40 = .ok (.if_icmp .gt 21, 3) := by decide +kernel
theorem dX9_countGoings_43 : decode cX9_countGoings 43 = .ok (.iload_n 3, 1) := by decide +kernel
theorem dX9_countGoings_44 : decode cX9_countGoings 44 = .ok (.aload_n 0, 1) := by decide +kernel
theorem dX9_countGoings_45 : decode cX9_countGoings 45 = .ok (.iload_n 1, 1) := by decide +kernel
theorem dX9_countGoings_46 : decode cX9_countGoings 46 = .ok (.iload_n 2, 1) := by decide +kernel
theorem dX9_countGoings_47 : decode cX9_countGoings 47 = .ok (.iload 4, 2) := by decide +kernel
theorem dX9_countGoings_49 : decode cX9_countGoings 49 = .ok (.iadd, 1) := by decide +kernel
theorem dX9_countGoings_50 : decode cX9_countGoings 50 = .ok (.invokevirtual 76, 3) := by decide +kernel
theorem dX9_countGoings_53 : decode cX9_countGoings 53 = .ok (.iadd, 1) := by decide +kernel
theorem dX9_countGoings_54 : decode cX9_countGoings 54 = .ok (.istore_n 3, 1) := by decide +kernel
theorem dX9_countGoings_55 : decode cX9_countGoings 55 = .ok (.iinc 4 1, 3) := by decide +kernel
theorem dX9_countGoings_58 : decode cX9_countGoings 58 = .ok (.goto (-21), 3) := by decide +kernel
theorem dX9_countGoings_61 : decode cX9_countGoings 61 = .ok (.aload_n 0, 1) := by decide +kernel
theorem dX9_countGoings_62 : decode cX9_countGoings 62 = .ok (.getfield 20, 3) := by decide +kernel
theorem dX9_countGoings_65 : decode cX9_countGoings 65 = .ok (.iload_n 1, 1) := by decide +kernel
theorem dX9_countGoings_66 : decode cX9_countGoings 66 = .ok (.aaload, 1) := by decide +kernel
theorem dX9_countGoings_67 : decode cX9_countGoings 67 = .ok (.iload_n 2, 1) := by decide +kernel
theorem dX9_countGoings_68 : decode cX9_countGoings 68 = .ok (.iload_n 3, 1) := by decide +kernel
theorem dX9_countGoings_69 : decode cX9_countGoings 69 = .ok (.iastore, 1) := by decide +kernel
theorem dX9_countGoings_70 : decode cX9_countGoings 70 = .ok (.iinc 2 1, 3) := by decide +kernel
theorem dX9_countGoings_73 : decode cX9_countGoings 73 = .ok (.goto (-47), 3) := by decide +kernel
theorem dX9_countGoings_76 : decode cX9_countGoings 76 = .ok (.iinc 1 (-1), 3) := by decide +kernel
theorem dX9_countGoings_79 : decode cX9_countGoings 79 = .ok (.goto (-59), 3) := by decide +kernel
theorem dX9_countGoings_82 : decode cX9_countGoings 82 = .ok (.return_, 1) := by decide +kernel
noncomputable def vX9_countGoings : List Cond := .code yX9_countGoings cX9_countGoings 5 none :: (([.fieldLink RX9 20 "IcicleClock$Weathers" "goings" "[[I", .fieldLink RX9 32 "IcicleClock$Weathers" "days" "I", .methodLink RX9 70 yJ7_fill_53178, .static yJ7_fill_53178, .initialized RJ7, .methodLink RX9 76 yX9_goingsBy, .instanceMethod yX9_goingsBy, .selects RX9 yX9_goingsBy yX9_goingsBy, .initialized RX9] : List Cond) ++ (wsX90 ++ (vJ7_fill_53178 ++ vX9_goingsBy)))
theorem iX9_countGoings_9 : ∀ w ∈ wsX90, w ∈ vX9_countGoings := fun _ h => List.mem_cons_of_mem _ (List.mem_append_right _ (List.mem_append_left _ h))
theorem gs_X9_countGoings : Gd vX9_countGoings := Gd.cons (by decide +kernel) (Gd.app (Gd.r (by decide +kernel)) (Gd.app gwX_9 (Gd.app gs_J7_fill_53178 gs_X9_goingsBy)))
theorem gg_X9_countGoings_J7_fill_53178 : GoodIn vX9_countGoings (va_wsS RX9 70 yJ7_fill_53178 vJ7_fill_53178) := goodIn_app (goodIn_r _ [3, 4, 5] (by decide +kernel) (by decide +kernel)) (fun w h => ⟨List.mem_cons_of_mem _ (List.mem_append_right _ (List.mem_append_right _ (List.mem_append_left _ h))), gs_J7_fill_53178 w h⟩)
theorem gg_X9_countGoings_X9_goingsBy : GoodIn vX9_countGoings (wsV RX9 76 RX9 yX9_goingsBy vX9_goingsBy) := goodIn_app (goodIn_r _ [6, 7, 8, 9] (by decide +kernel) (by decide +kernel)) (fun w h => ⟨List.mem_cons_of_mem _ (List.mem_append_right _ (List.mem_append_right _ (List.mem_append_right _ (h)))), gs_X9_goingsBy w h⟩)
set_option maxHeartbeats 4000000 in
set_option maxRecDepth 100000 in
theorem s_X9_countGoings (l : Launch) (D : va_G) (cs : Nat → ClassId) (ad : Nat → Nat) (kS : kSt) (K : sK) (hKO : KO K) (hj : wJ ad 218) (g : Nat → va_E) (hW : WF (shp ad K) ad cs g) : sV l yX9_countGoings vX9_countGoings { frames := 1, cells := 0, slots := 0, locals := 23 } D cs ad kS [.ref (ad 130)] g (fun g2 => WF (shp ad K) ad cs g2 ∧ (∀ j, (j < 134 ∨ 140 ≤ j) → g2 j = g j)) := by
  refine Met.startS (cc := cX9_countGoings) (maxL := 5) (ret := none) RX9 rfl (by decide) rfl (Nat.le_of_ble_eq_true rfl) ?_
  intro p e s m below meth c ls X Z hP hl
  have hx := X.1
  have hb := X.2.1
  have hS : va_S (wA ad 218) s.heap s.heap [] := va_S.rf
  have hA : ∀ i, i < 218 → wA ad 218 (ad i) := fun i h => ⟨i, h, rfl⟩
  have hfr : ∀ j, (j < 134 ∨ 140 ≤ j) → g j = g j := fun _ _ => rfl
  have hl : lv_has ls 5 [(0, .ref (ad 130))] := hl
  refine lv_aload_n hx hb dX9_countGoings_0 rfl (lv_at hl 0 rfl) ?_
  obtain ⟨fsc_1, hgc_1, hOc_1⟩ := hW.obj (i := 130) (by decide) (sh_130 ad K)
  have hk_2 := hOc_1.ref 2 rfl
  refine q_get X iX9_countGoings_9 hP (by decide) hgc_1 rfl 2 (by decide) (List.mem_of_getElem? (i := 1) rfl) (v := .ref (ad 133)) hk_2 dX9_countGoings_1 ?_
  refine lv_aload_n hx hb dX9_countGoings_4 rfl (lv_at hl 0 rfl) ?_
  obtain ⟨x_4, hk_3, hlx_4, hhx_4⟩ := hOc_1.int 3 rfl
  refine q_get X iX9_countGoings_9 hP (by decide) hgc_1 rfl 3 (by decide) (List.mem_of_getElem? (i := 2) rfl) (v := .int x_4) hk_3 dX9_countGoings_5 ?_
  obtain ⟨fc_5, hgc_5, hFc_5⟩ := hW.aref (i := 133) (by decide) (sh_133 ad K)
  obtain ⟨e_6, h_e_6, e_e_6⟩ : ∃ q : Nat, q < 6 ∧ x_4.toNatClampNeg = q := ⟨_, by have := n_cl (rfl : x_4.toInt = x_4.toInt) (by omega); omega, rfl⟩
  refine s_aald X hP 6 rfl rfl (by decide) hgc_5 (n_in (rfl : x_4.toInt = x_4.toInt) (by omega) (by omega)) (v := ad (134 + e_6)) (by rw [e_e_6, hFc_5 _ h_e_6, Nat.one_mul]) dX9_countGoings_8 ?_
  refine lv_iconst (v := 1) hx hb dX9_countGoings_9 (by decide) ?_
  refine s_callSv (As := [.ref (ad (134 + e_6)), .int 1]) (rest := []) X Z (s_fill_134 l D cs ad kS K hKO hj g hW e_6 1 (by omega)) (va_cwS 2 X.2.2.2.2.1 gg_X9_countGoings_J7_fill_53178 rfl rfl rfl (by decide +kernel) ⟨Nat.le_of_ble_eq_true rfl, Nat.le_of_ble_eq_true rfl⟩) hP hA hS.2.1 hS rfl hl.1 rfl (Nat.le_of_ble_eq_true rfl) dX9_countGoings_10 ⟨Nat.le_of_ble_eq_true rfl, Nat.le_of_ble_eq_true rfl⟩ (fun g_8 H locs hw_7 hP hS => ?_)
  obtain ⟨hw_7W, hw_7f⟩ := hw_7
  have hfr_10 : ∀ j, (j < 134 ∨ 140 ≤ j) → g_8 j = g j := fun j hj => (hw_7f j (by omega)).trans (hfr j hj)
  have hg_11 := (hw_7f 130 (by omega)).trans hgc_1
  have hg_12 := (hw_7f 133 (by omega)).trans hgc_5
  refine lv_aload_n hx hb dX9_countGoings_13 rfl (lv_at hl 0 rfl) ?_
  refine q_get X iX9_countGoings_9 hP (by decide) hg_11 rfl 3 (by decide) (List.mem_of_getElem? (i := 2) rfl) (v := .int x_4) hk_3 dX9_countGoings_14 ?_
  refine lv_iconst (v := 1) hx hb dX9_countGoings_17 (by decide) ?_
  refine lv_isub hx hb dX9_countGoings_18 ?_
  refine lv_topi (fun z_13 ez_13 => ?_)
  have hz_13 : z_13.toInt = x_4.toInt - 1 := n_sub (rfl : x_4.toInt = x_4.toInt) (by decide : (1 : Int32).toInt = 1) ez_13 (by omega) (by omega)
  refine lv_istore_n (lv' := [(1, .int z_13), (0, .ref (ad 130))]) hx hb dX9_countGoings_19 rfl hl (by decide) rfl (fun ls hl => ?_)
  have HL20 : ∀ (n20 : Nat) (v20_1 : Int32) (G20 : Nat → va_E) (H : Heap) (locs : List Loc) (ls : Array Slot), (v20_1.toInt - (-1)).toNat < n20 → ((-1) ≤ v20_1.toInt ∧ v20_1.toInt ≤ 4) → WF (shp ad K) ad cs G20 → (∀ j, (j < 134 ∨ 140 ≤ j) → G20 j = g j) → va_P D vwCl (wL ad G20 218) H → va_S (wA ad 218) s.heap H locs → lv_has ls 5 [(1, .int v20_1), (0, .ref (ad 130))] → W p l e ({ frames := 1, cells := 0, slots := 0, locals := 23 } : Room) s m ([.ref (ad 130)] : List Value).toArray below meth c H locs 0 0 (MQ below (qV D ad 218 (fun g2 => WF (shp ad K) ad cs g2 ∧ (∀ j, (j < 134 ∨ 140 ≤ j) → g2 j = g j))) ([.ref (ad 130)] : List Value).toArray s 0 0 (wA ad 218)) (F0 m 20 ls []) := by
    intro n20
    induction n20 with
    | zero =>
      intro v20_1 G20 H locs ls hm20 hv20_0 hW20 hfr20 hP hS hl
      exact absurd hm20 (Nat.not_lt_zero _)
    | succ n20 ih20 =>
      intro v20_1 G20 H locs ls hm20 hv20_0 hW20 hfr20 hP hS hl
      refine lv_iload_n hx hb dX9_countGoings_20 rfl (lv_at hl 0 rfl) ?_
      refine lv_if_lt (tgt := 82) hx hb dX9_countGoings_21 (by decide) (fun hc_14 => ?_) (fun hc_14 => ?_)
      · have hhc_14 := n_lt (rfl : v20_1.toInt = v20_1.toInt) (by decide : (0 : Int32).toInt = 0) hc_14
        exact q_vret X hP hS ⟨hW20, hfr20⟩ dX9_countGoings_82
      · have hhc_14 := n_nlt (rfl : v20_1.toInt = v20_1.toInt) (by decide : (0 : Int32).toInt = 0) hc_14
        refine lv_iconst (v := 0) hx hb dX9_countGoings_24 (by decide) ?_
        refine lv_istore_n (lv' := [(2, .int 0), (1, .int v20_1), (0, .ref (ad 130))]) hx hb dX9_countGoings_25 rfl hl (by decide) rfl (fun ls hl => ?_)
        have HL26 : ∀ (n26 : Nat) (v26_2 : Int32) (G26 : Nat → va_E) (H : Heap) (locs : List Loc) (ls : Array Slot), (16 - v26_2.toInt).toNat < n26 → (0 ≤ v26_2.toInt ∧ v26_2.toInt ≤ 16) → WF (shp ad K) ad cs G26 → (∀ j, (j < 134 ∨ 140 ≤ j) → G26 j = g j) → va_P D vwCl (wL ad G26 218) H → va_S (wA ad 218) s.heap H locs → lv_has ls 5 [(2, .int v26_2), (1, .int v20_1), (0, .ref (ad 130))] → W p l e ({ frames := 1, cells := 0, slots := 0, locals := 23 } : Room) s m ([.ref (ad 130)] : List Value).toArray below meth c H locs 0 0 (MQ below (qV D ad 218 (fun g2 => WF (shp ad K) ad cs g2 ∧ (∀ j, (j < 134 ∨ 140 ≤ j) → g2 j = g j))) ([.ref (ad 130)] : List Value).toArray s 0 0 (wA ad 218)) (F0 m 26 ls []) := by
          intro n26
          induction n26 with
          | zero =>
            intro v26_2 G26 H locs ls hm26 hv26_0 hW26 hfr26 hP hS hl
            exact absurd hm26 (Nat.not_lt_zero _)
          | succ n26 ih26 =>
            intro v26_2 G26 H locs ls hm26 hv26_0 hW26 hfr26 hP hS hl
            refine lv_iload_n hx hb dX9_countGoings_26 rfl (lv_at hl 0 rfl) ?_
            refine lv_bipush (v := 15) hx hb dX9_countGoings_27 (by decide) ?_
            refine lv_icmp_gt (tgt := 76) hx hb dX9_countGoings_29 (by decide) (fun hc_15 => ?_) (fun hc_15 => ?_)
            · have hhc_15 := n_lt (by decide : (15 : Int32).toInt = 15) (rfl : v26_2.toInt = v26_2.toInt) hc_15
              obtain ⟨x_16, ex_16⟩ : ∃ y : Int32, y = v20_1 + (-1) := ⟨_, rfl⟩
              have hx_16 : x_16.toInt = v20_1.toInt + (-1) := n_add rfl (by decide : (-1 : Int32).toInt = -1) ex_16 (by omega) (by omega)
              refine lv_iinc (v := x_16) (lv' := [(1, .int x_16), (2, .int v26_2), (0, .ref (ad 130))]) hx hb dX9_countGoings_76 hl (k := 1) rfl (by rw [ex_16]; rfl) (by decide) rfl (fun ls hl => ?_)
              refine lv_goto (tgt := 20) hx hb dX9_countGoings_79 (by decide) ?_
              exact ih20 x_16 G26 _ _ ls (by omega) (by omega) hW26 hfr26 hP hS (lv_sub hl [0, 2] rfl)
            · have hhc_15 := n_nlt (by decide : (15 : Int32).toInt = 15) (rfl : v26_2.toInt = v26_2.toInt) hc_15
              refine lv_iconst (v := 0) hx hb dX9_countGoings_32 (by decide) ?_
              refine lv_istore_n (lv' := [(3, .int 0), (2, .int v26_2), (1, .int v20_1), (0, .ref (ad 130))]) hx hb dX9_countGoings_33 rfl hl (by decide) rfl (fun ls hl => ?_)
              refine lv_iconst (v := 0) hx hb dX9_countGoings_34 (by decide) ?_
              refine lv_istore (lv' := [(4, .int 0), (3, .int 0), (2, .int v26_2), (1, .int v20_1), (0, .ref (ad 130))]) hx hb dX9_countGoings_35 hl (by decide) rfl (fun ls hl => ?_)
              have HL37 : ∀ (n37 : Nat) (v37_4 : Int32) (v37_3 : Int32) (G37 : Nat → va_E) (H : Heap) (locs : List Loc) (ls : Array Slot), (4 - v37_4.toInt).toNat < n37 → (0 ≤ v37_4.toInt ∧ v37_4.toInt ≤ 4) → WF (shp ad K) ad cs G37 → (∀ j, (j < 134 ∨ 140 ≤ j) → G37 j = g j) → va_P D vwCl (wL ad G37 218) H → va_S (wA ad 218) s.heap H locs → lv_has ls 5 [(4, .int v37_4), (3, .int v37_3), (2, .int v26_2), (1, .int v20_1), (0, .ref (ad 130))] → W p l e ({ frames := 1, cells := 0, slots := 0, locals := 23 } : Room) s m ([.ref (ad 130)] : List Value).toArray below meth c H locs 0 0 (MQ below (qV D ad 218 (fun g2 => WF (shp ad K) ad cs g2 ∧ (∀ j, (j < 134 ∨ 140 ≤ j) → g2 j = g j))) ([.ref (ad 130)] : List Value).toArray s 0 0 (wA ad 218)) (F0 m 37 ls []) := by
                intro n37
                induction n37 with
                | zero =>
                  intro v37_4 v37_3 G37 H locs ls hm37 hv37_0 hW37 hfr37 hP hS hl
                  exact absurd hm37 (Nat.not_lt_zero _)
                | succ n37 ih37 =>
                  intro v37_4 v37_3 G37 H locs ls hm37 hv37_0 hW37 hfr37 hP hS hl
                  refine lv_iload hx hb dX9_countGoings_37 (lv_at hl 0 rfl) ?_
                  refine lv_iconst (v := 3) hx hb dX9_countGoings_39 (by decide) ?_
                  refine lv_icmp_gt (tgt := 61) hx hb dX9_countGoings_40 (by decide) (fun hc_17 => ?_) (fun hc_17 => ?_)
                  · have hhc_17 := n_lt (by decide : (3 : Int32).toInt = 3) (rfl : v37_4.toInt = v37_4.toInt) hc_17
                    refine lv_aload_n hx hb dX9_countGoings_61 rfl (lv_at hl 4 rfl) ?_
                    obtain ⟨fsc_18, hgc_18, hOc_18⟩ := hW37.obj (i := 130) (by decide) (sh_130 ad K)
                    have hk_19 := hOc_18.ref 2 rfl
                    refine q_get X iX9_countGoings_9 hP (by decide) hgc_18 rfl 2 (by decide) (List.mem_of_getElem? (i := 1) rfl) (v := .ref (ad 133)) hk_19 dX9_countGoings_62 ?_
                    refine lv_iload_n hx hb dX9_countGoings_65 rfl (lv_at hl 3 rfl) ?_
                    obtain ⟨fc_20, hgc_20, hFc_20⟩ := hW37.aref (i := 133) (by decide) (sh_133 ad K)
                    obtain ⟨e_21, h_e_21, e_e_21⟩ : ∃ q : Nat, q < 6 ∧ v20_1.toNatClampNeg = q := ⟨_, by have := n_cl (rfl : v20_1.toInt = v20_1.toInt) (by omega); omega, rfl⟩
                    refine s_aald X hP 6 rfl rfl (by decide) hgc_20 (n_in (rfl : v20_1.toInt = v20_1.toInt) (by omega) (by omega)) (v := ad (134 + e_21)) (by rw [e_e_21, hFc_20 _ h_e_21, Nat.one_mul]) dX9_countGoings_66 ?_
                    refine lv_iload_n hx hb dX9_countGoings_67 rfl (lv_at hl 2 rfl) ?_
                    refine lv_iload_n hx hb dX9_countGoings_68 rfl (lv_at hl 1 rfl) ?_
                    obtain ⟨fc_22, hgc_22, hFc_22⟩ := hW37.arr (i := (134 + e_21)) (by omega) (shR_134 ad K h_e_21)
                    refine s_iast X hP hj hA hS (by omega) hgc_22 (n_in (rfl : v26_2.toInt = v26_2.toInt) (by omega) (by omega)) dX9_countGoings_69 hW37 (shR_134 ad K h_e_21) (hFc_22.put trivial) (fun fc_23 gc_23 H locs ec_23 hFc_23 hgc_23 hfc_23 hWc_23 hP hS => ?_)
                    have hg_25 := (hfc_23 130 (by omega)).trans hgc_18
                    have hg_26 := (hfc_23 133 (by omega)).trans hgc_20
                    have hfr_24 : ∀ j, (j < 134 ∨ 140 ≤ j) → gc_23 j = g j := fun j hj => (hfc_23 j (by omega)).trans (hfr37 j hj)
                    obtain ⟨x_27, ex_27⟩ : ∃ y : Int32, y = v26_2 + 1 := ⟨_, rfl⟩
                    have hx_27 : x_27.toInt = v26_2.toInt + 1 := n_add rfl (by decide : (1 : Int32).toInt = 1) ex_27 (by omega) (by omega)
                    refine lv_iinc (v := x_27) (lv' := [(2, .int x_27), (4, .int v37_4), (3, .int v37_3), (1, .int v20_1), (0, .ref (ad 130))]) hx hb dX9_countGoings_70 hl (k := 2) rfl (by rw [ex_27]; rfl) (by decide) rfl (fun ls hl => ?_)
                    refine lv_goto (tgt := 26) hx hb dX9_countGoings_73 (by decide) ?_
                    exact ih26 x_27 gc_23 _ _ ls (by omega) (by omega) hWc_23 hfr_24 hP hS (lv_sub hl [0, 3, 4] rfl)
                  · have hhc_17 := n_nlt (by decide : (3 : Int32).toInt = 3) (rfl : v37_4.toInt = v37_4.toInt) hc_17
                    refine lv_iload_n hx hb dX9_countGoings_43 rfl (lv_at hl 1 rfl) ?_
                    refine lv_aload_n hx hb dX9_countGoings_44 rfl (lv_at hl 4 rfl) ?_
                    refine lv_iload_n hx hb dX9_countGoings_45 rfl (lv_at hl 3 rfl) ?_
                    refine lv_iload_n hx hb dX9_countGoings_46 rfl (lv_at hl 2 rfl) ?_
                    refine lv_iload hx hb dX9_countGoings_47 (lv_at hl 0 rfl) ?_
                    refine lv_iadd hx hb dX9_countGoings_49 ?_
                    refine lv_topi (fun z_28 ez_28 => ?_)
                    have hz_28 : z_28.toInt = v26_2.toInt + v37_4.toInt := n_add (rfl : v26_2.toInt = v26_2.toInt) (rfl : v37_4.toInt = v37_4.toInt) ez_28 (by omega) (by omega)
                    obtain ⟨fsc_32, hgc_32, hOc_32⟩ := hW37.obj (i := 130) (by decide) (sh_130 ad K)
                    refine s_calli (q := (RX9, TX9, 4)) (As := [.int v20_1, .int z_28]) (rest := [.int v37_3]) X Z (s_X9_goingsBy l D cs ad kS K hKO hj G37 hW37 v20_1 z_28 (by omega) (by omega)) (cwV 2 X.2.2.2.2.1 gg_X9_countGoings_X9_goingsBy rfl rfl rfl (by decide +kernel) ⟨Nat.le_of_ble_eq_true rfl, Nat.le_of_ble_eq_true rfl⟩) (by decide) hgc_32 rfl hP hA hS.2.1 hS rfl hl.1 rfl (Nat.le_of_ble_eq_true rfl) dX9_countGoings_50 ⟨Nat.le_of_ble_eq_true rfl, Nat.le_of_ble_eq_true rfl⟩ (fun r_31 g_30 H locs hw_29 hP hS => ?_)
                    rw [hw_29] at hP
                    refine lv_iadd hx hb dX9_countGoings_53 ?_
                    refine lv_topi (fun z_33 ez_33 => ?_)
                    refine lv_istore_n (lv' := [(3, .int z_33), (4, .int v37_4), (2, .int v26_2), (1, .int v20_1), (0, .ref (ad 130))]) hx hb dX9_countGoings_54 rfl hl (by decide) rfl (fun ls hl => ?_)
                    obtain ⟨x_34, ex_34⟩ : ∃ y : Int32, y = v37_4 + 1 := ⟨_, rfl⟩
                    have hx_34 : x_34.toInt = v37_4.toInt + 1 := n_add rfl (by decide : (1 : Int32).toInt = 1) ex_34 (by omega) (by omega)
                    refine lv_iinc (v := x_34) (lv' := [(4, .int x_34), (3, .int z_33), (2, .int v26_2), (1, .int v20_1), (0, .ref (ad 130))]) hx hb dX9_countGoings_55 hl (k := 1) rfl (by rw [ex_34]; rfl) (by decide) rfl (fun ls hl => ?_)
                    refine lv_goto (tgt := 37) hx hb dX9_countGoings_58 (by decide) ?_
                    exact ih37 x_34 z_33 G37 _ _ ls (by omega) (by omega) hW37 hfr37 hP hS (lv_sub hl [0, 1, 2, 3, 4] rfl)
              have hiv37_4 : (0 : Int32).toInt = 0 := by decide
              have hiv37_3 : (0 : Int32).toInt = 0 := by decide
              exact HL37 _ 0 0 G26 _ _ ls (Nat.lt_succ_self _) (by omega) hW26 hfr26 hP hS (lv_sub hl [0, 1, 2, 3, 4] rfl)
        have hiv26_2 : (0 : Int32).toInt = 0 := by decide
        exact HL26 _ 0 G20 _ _ ls (Nat.lt_succ_self _) (by omega) hW20 hfr20 hP hS (lv_sub hl [0, 1, 2] rfl)
  exact HL20 _ z_13 g_8 _ _ ls (Nat.lt_succ_self _) (by omega) hw_7W hfr_10 hP hS (lv_sub hl [0, 1] rfl)

theorem dX9_search_0 : decode cX9_search 0 = .ok (.aload_n 0, 1) := by decide +kernel
theorem dX9_search_1 : decode cX9_search 1 = .ok (.iconst 1, 1) := by decide +kernel
theorem dX9_search_2 : decode cX9_search 2 = .ok (.iload_n 3, 1) := by decide +kernel
theorem dX9_search_3 : decode cX9_search 3 = .ok (.iconst 5, 1) := by decide +kernel
theorem dX9_search_4 : decode cX9_search 4 = .ok (.invokestatic 23, 3) := by decide +kernel
theorem dX9_search_7 : decode cX9_search 7 = .ok (.invokestatic 29, 3) := by decide +kernel
theorem dX9_search_10 : decode cX9_search 10 = .ok (.putfield 32, 3) := by decide +kernel
theorem dX9_search_13 : decode cX9_search 13 = .ok (.iconst 0, 1) := by decide +kernel
theorem dX9_search_14 : decode cX9_search 14 = .ok (.istore 4, 2) := by decide +kernel
theorem dX9_search_16 : decode cX9_search 16 = .ok (.iload 4, 2) := by decide +kernel
theorem dX9_search_18 : decode cX9_search 18 = .ok (.iconst 5, 1) := by decide +kernel
theorem dX9_search_19 : decode cX9_search 19 = .ok (.if_icmp .ge 26, 3) := by decide +kernel
theorem dX9_search_22 : decode cX9_search 22 = .ok (.aload_n 0, 1) := by decide +kernel
theorem dX9_search_23 : decode cX9_search 23 = .ok (.getfield 9, 3) := by decide +kernel
theorem dX9_search_26 : decode cX9_search 26 = .ok (.iload 4, 2) := by decide +kernel
theorem dX9_search_28 : decode cX9_search 28 = .ok (.iconst 0, 1) := by decide +kernel
theorem dX9_search_29 : decode cX9_search 29 = .ok (.iastore, 1) := by decide +kernel
theorem dX9_search_30 : decode cX9_search 30 = .ok (.aload_n 0, 1) := by decide +kernel
theorem dX9_search_31 : decode cX9_search 31 = .ok (.getfield 15, 3) := by decide +kernel
theorem dX9_search_34 : decode cX9_search 34 = .ok (.iload 4, 2) := by decide +kernel
theorem dX9_search_36 : decode cX9_search 36 = .ok (.bipush 15, 2) := by decide +kernel
theorem dX9_search_38 : decode cX9_search 38 = .ok (.iastore, 1) := by decide +kernel
theorem dX9_search_39 : decode cX9_search 39 = .ok (.iinc 4 1, 3) := by decide +kernel
theorem dX9_search_42 : decode cX9_search 42 = .ok (.goto (-26), 3) := by decide +kernel
theorem dX9_search_45 : decode cX9_search 45 = .ok (.iconst 0, 1) := by decide +kernel
theorem dX9_search_46 : decode cX9_search 46 = .ok (.istore 4, 2) := by decide +kernel
theorem dX9_search_48 : decode cX9_search 48 = .ok (.iload 4, 2) := by decide +kernel
theorem dX9_search_50 : decode cX9_search 50 = .ok (.aload_n 1, 1) := by decide +kernel
theorem dX9_search_51 : decode cX9_search 51 = .ok (.getfield 36, 3) := by decide +kernel
theorem dX9_search_54 : decode cX9_search 54 = .ok (.if_icmp .ge 38, 3) := by decide +kernel
theorem dX9_search_57 : decode cX9_search 57 = .ok (.aload_n 2, 1) := by decide +kernel
theorem dX9_search_58 : decode cX9_search 58 = .ok (.getfield 41, 3) := by decide +kernel
theorem dX9_search_61 : decode cX9_search 61 = .ok (.iload 4, 2) := by decide +kernel
theorem dX9_search_63 : decode cX9_search 63 = .ok (.iaload, 1) := by decide +kernel
theorem dX9_search_64 : decode cX9_search 64 = .ok (.bipush (-2), 2) := by decide +kernel
theorem dX9_search_66 : decode cX9_search 66 = .ok (.if_icmp .eq 20, 3) := by decide +kernel
theorem dX9_search_69 : decode cX9_search 69 = .ok (.aload_n 0, 1) := by decide +kernel
theorem dX9_search_70 : decode cX9_search 70 = .ok (.aload_n 1, 1) := by decide +kernel
theorem dX9_search_71 : decode cX9_search 71 = .ok (.iload 4, 2) := by decide +kernel
theorem dX9_search_73 : decode cX9_search 73 = .ok (.invokestatic 46, 3) := by decide +kernel
theorem dX9_search_76 : decode cX9_search 76 = .ok (.aload_n 2, 1) := by decide +kernel
theorem dX9_search_77 : decode cX9_search 77 = .ok (.getfield 41, 3) := by decide +kernel
theorem dX9_search_80 : decode cX9_search 80 = .ok (.iload 4, 2) := by decide +kernel
theorem dX9_search_82 : decode cX9_search 82 = .ok (.iaload, 1) := by decide +kernel
theorem dX9_search_83 : decode cX9_search 83 = .ok (.invokevirtual 50, 3) := by decide +kernel
theorem dX9_search_86 : decode cX9_search 86 = .ok (.iinc 4 1, 3) := by decide +kernel
theorem dX9_search_89 : decode cX9_search 89 = .ok (.goto (-41), 3) := by decide +kernel
theorem dX9_search_92 : decode cX9_search 92 = .ok (.aload_n 2, 1) := by decide +kernel
theorem dX9_search_93 : decode cX9_search 93 = .ok (.getfield 54, 3) := by decide +kernel
theorem dX9_search_96 : decode cX9_search 96 = .ok (.ifCond .eq 10, 3) := by decide +kernel
theorem dX9_search_99 : decode cX9_search 99 = .ok (.aload_n 0, 1) := by decide +kernel
theorem dX9_search_100 : decode cX9_search 100 = .ok (.getfield 15, 3) := by decide +kernel
theorem dX9_search_103 : decode cX9_search 103 = .ok (.iconst 0, 1) := by decide +kernel
theorem dX9_search_104 : decode cX9_search 104 = .ok (.iconst (-1), 1) := by decide +kernel
theorem dX9_search_105 : decode cX9_search 105 = .ok (.iastore, 1) := by decide +kernel
theorem dX9_search_106 : decode cX9_search 106 = .ok (.aload_n 0, 1) := by decide +kernel
theorem dX9_search_107 : decode cX9_search 107 = .ok (.invokevirtual 58, 3) := by decide +kernel
theorem dX9_search_110 : decode cX9_search 110 = .ok (.return_, 1) := by decide +kernel
noncomputable def vX9_search : List Cond := .code yX9_search cX9_search 5 none :: (([.methodLink RX9 23 Lib.Math.min.name, .static Lib.Math.min.name, .initialized "java/lang/Math", .code Lib.Math.min.name Lib.Math.min.code 2 (some .int), .methodLink RX9 29 Lib.Math.max.name, .static Lib.Math.max.name, .code Lib.Math.max.name Lib.Math.max.code 2 (some .int), .fieldLink RX9 32 "IcicleClock$Weathers" "days" "I", .fieldLink RX9 9 "IcicleClock$Weathers" "least" "[I", .fieldLink RX9 15 "IcicleClock$Weathers" "most" "[I", .fieldLink RX9 36 "IcicleClock$Street" "icicles" "I", .fieldLink RX9 41 "IcicleClock$Seen" "fall" "[I", .methodLink RX9 46 yX9_sumNeeded, .static yX9_sumNeeded, .initialized RX9, .methodLink RX9 50 yX9_bound, .instanceMethod yX9_bound, .selects RX9 yX9_bound yX9_bound, .fieldLink RX9 54 "IcicleClock$Seen" "torn" "Z", .methodLink RX9 58 yX9_countGoings, .instanceMethod yX9_countGoings, .selects RX9 yX9_countGoings yX9_countGoings] : List Cond) ++ (wsX90 ++ (wsX60 ++ (wsX30 ++ (vX9_sumNeeded ++ (vX9_bound ++ vX9_countGoings))))))
theorem iX9_search_9 : ∀ w ∈ wsX90, w ∈ vX9_search := fun _ h => List.mem_cons_of_mem _ (List.mem_append_right _ (List.mem_append_left _ h))
theorem iX9_search_6 : ∀ w ∈ wsX60, w ∈ vX9_search := fun _ h => List.mem_cons_of_mem _ (List.mem_append_right _ (List.mem_append_right _ (List.mem_append_left _ h)))
theorem iX9_search_3 : ∀ w ∈ wsX30, w ∈ vX9_search := fun _ h => List.mem_cons_of_mem _ (List.mem_append_right _ (List.mem_append_right _ (List.mem_append_right _ (List.mem_append_left _ h))))
theorem gs_X9_search : Gd vX9_search := Gd.cons (by decide +kernel) (Gd.app (Gd.r (by decide +kernel)) (Gd.app gwX_9 (Gd.app gwX_6 (Gd.app gwX_3 (Gd.app gs_X9_sumNeeded (Gd.app gs_X9_bound gs_X9_countGoings))))))
theorem gg_X9_search_X9_sumNeeded : GoodIn vX9_search (wsS RX9 46 yX9_sumNeeded vX9_sumNeeded) := goodIn_app (goodIn_r _ [13, 14, 15] (by decide +kernel) (by decide +kernel)) (fun w h => ⟨List.mem_cons_of_mem _ (List.mem_append_right _ (List.mem_append_right _ (List.mem_append_right _ (List.mem_append_right _ (List.mem_append_left _ h))))), gs_X9_sumNeeded w h⟩)
theorem gg_X9_search_X9_bound : GoodIn vX9_search (wsV RX9 50 RX9 yX9_bound vX9_bound) := goodIn_app (goodIn_r _ [16, 17, 18, 15] (by decide +kernel) (by decide +kernel)) (fun w h => ⟨List.mem_cons_of_mem _ (List.mem_append_right _ (List.mem_append_right _ (List.mem_append_right _ (List.mem_append_right _ (List.mem_append_right _ (List.mem_append_left _ h)))))), gs_X9_bound w h⟩)
theorem gg_X9_search_X9_countGoings : GoodIn vX9_search (wsV RX9 58 RX9 yX9_countGoings vX9_countGoings) := goodIn_app (goodIn_r _ [20, 21, 22, 15] (by decide +kernel) (by decide +kernel)) (fun w h => ⟨List.mem_cons_of_mem _ (List.mem_append_right _ (List.mem_append_right _ (List.mem_append_right _ (List.mem_append_right _ (List.mem_append_right _ (List.mem_append_right _ (h))))))), gs_X9_countGoings w h⟩)
set_option maxHeartbeats 4000000 in
set_option maxRecDepth 100000 in
theorem s_X9_search (l : Launch) (D : va_G) (cs : Nat → ClassId) (ad : Nat → Nat) (kS : kSt) (K : sK) (hKO : KO K) (hj : wJ ad 218) (g : Nat → va_E) (hW : WF (shp ad K) ad cs g) (nn : Int32) : sV l yX9_search vX9_search { frames := 2, cells := 0, slots := 0, locals := 47 } D cs ad kS [.ref (ad 130), .ref (ad 3), .ref (ad 118), .int nn] g (fun g2 => WF (shp ad K) ad cs g2 ∧ (∀ j, j ≠ 130 ∧ j ≠ 131 ∧ j ≠ 132 ∧ (j < 134 ∨ 140 ≤ j) → g2 j = g j)) := by
  refine Met.startS (cc := cX9_search) (maxL := 5) (ret := none) RX9 rfl (by decide) rfl (Nat.le_of_ble_eq_true rfl) ?_
  intro p e s m below meth c ls X Z hP hl
  have hx := X.1
  have hb := X.2.1
  have hS : va_S (wA ad 218) s.heap s.heap [] := va_S.rf
  have hA : ∀ i, i < 218 → wA ad 218 (ad i) := fun i h => ⟨i, h, rfl⟩
  have hfr : ∀ j, j ≠ 130 ∧ j ≠ 131 ∧ j ≠ 132 ∧ (j < 134 ∨ 140 ≤ j) → g j = g j := fun _ _ => rfl
  have hl : lv_has ls 5 [(0, .ref (ad 130)), (1, .ref (ad 3)), (2, .ref (ad 118)), (3, .int nn)] := hl
  refine lv_aload_n hx hb dX9_search_0 rfl (lv_at hl 0 rfl) ?_
  refine lv_iconst (v := 1) hx hb dX9_search_1 (by decide) ?_
  refine lv_iload_n hx hb dX9_search_2 rfl (lv_at hl 3 rfl) ?_
  refine lv_iconst (v := 5) hx hb dX9_search_3 (by decide) ?_
  refine va_mmin hx hb (X.2.2.2.1.trans hl.1.symm) X.2.2.2.2.2.1 (X.2.2.2.2.1 _ (List.mem_of_getElem? (i := 1) rfl)) (X.2.2.2.2.1 _ (List.mem_of_getElem? (i := 2) rfl)) (X.2.2.2.2.1 _ (List.mem_of_getElem? (i := 3) rfl)) (X.2.2.2.2.1 _ (List.mem_of_getElem? (i := 4) rfl)) (Nat.le_of_ble_eq_true rfl) (Nat.le_of_ble_eq_true rfl) (Nat.le_of_ble_eq_true rfl) (Nat.le_of_ble_eq_true rfl) dX9_search_4 ?_
  refine lv_topi (fun z_1 ez_1 => ?_)
  have hz_1 := n_min (rfl : nn.toInt = nn.toInt) (by decide : (5 : Int32).toInt = 5) ez_1
  refine va_mmax hx hb (X.2.2.2.1.trans hl.1.symm) X.2.2.2.2.2.1 (X.2.2.2.2.1 _ (List.mem_of_getElem? (i := 5) rfl)) (X.2.2.2.2.1 _ (List.mem_of_getElem? (i := 6) rfl)) (X.2.2.2.2.1 _ (List.mem_of_getElem? (i := 3) rfl)) (X.2.2.2.2.1 _ (List.mem_of_getElem? (i := 7) rfl)) (Nat.le_of_ble_eq_true rfl) (Nat.le_of_ble_eq_true rfl) (Nat.le_of_ble_eq_true rfl) (Nat.le_of_ble_eq_true rfl) dX9_search_7 ?_
  refine lv_topi (fun z_2 ez_2 => ?_)
  have hz_2 := n_max (by decide : (1 : Int32).toInt = 1) (rfl : z_1.toInt = z_1.toInt) ez_2
  obtain ⟨fsc_3, hgc_3, hOc_3⟩ := hW.obj (i := 130) (by decide) (sh_130 ad K)
  refine s_put X iX9_search_9 tyX9 tyX9_ok nmX9 hP hj hA hS (by decide) hgc_3 rfl 3 (by decide) (List.mem_of_getElem? (i := 8) rfl) rfl (ty := .int) (v := .int z_2) (by decide +kernel) rfl rfl dX9_search_10 hW (sh_130 ad K) hOc_3 rfl ⟨z_2, rfl, by omega, by omega⟩ (fun fsc_4 gc_4 H locs hOc_4 hkc_4 hnc_4 hgc_4 hfc_4 hWc_4 hP hS => ?_)
  have hfr_5 : ∀ j, j ≠ 130 ∧ j ≠ 131 ∧ j ≠ 132 ∧ (j < 134 ∨ 140 ≤ j) → gc_4 j = g j := fun j hj => (hfc_4 j (by omega)).trans (hfr j hj)
  refine lv_iconst (v := 0) hx hb dX9_search_13 (by decide) ?_
  refine lv_istore (lv' := [(4, .int 0), (0, .ref (ad 130)), (1, .ref (ad 3)), (2, .ref (ad 118)), (3, .int nn)]) hx hb dX9_search_14 hl (by decide) rfl (fun ls hl => ?_)
  have HL16 : ∀ (n16 : Nat) (v16_4 : Int32) (G16 : Nat → va_E) (H : Heap) (locs : List Loc) (ls : Array Slot), (5 - v16_4.toInt).toNat < n16 → (0 ≤ v16_4.toInt ∧ v16_4.toInt ≤ 5) → WF (shp ad K) ad cs G16 → (∀ j, j ≠ 130 ∧ j ≠ 131 ∧ j ≠ 132 ∧ (j < 134 ∨ 140 ≤ j) → G16 j = g j) → va_P D vwCl (wL ad G16 218) H → va_S (wA ad 218) s.heap H locs → lv_has ls 5 [(4, .int v16_4), (0, .ref (ad 130)), (1, .ref (ad 3)), (2, .ref (ad 118))] → W p l e ({ frames := 2, cells := 0, slots := 0, locals := 47 } : Room) s m ([.ref (ad 130), .ref (ad 3), .ref (ad 118), .int nn] : List Value).toArray below meth c H locs 0 0 (MQ below (qV D ad 218 (fun g2 => WF (shp ad K) ad cs g2 ∧ (∀ j, j ≠ 130 ∧ j ≠ 131 ∧ j ≠ 132 ∧ (j < 134 ∨ 140 ≤ j) → g2 j = g j))) ([.ref (ad 130), .ref (ad 3), .ref (ad 118), .int nn] : List Value).toArray s 0 0 (wA ad 218)) (F0 m 16 ls []) := by
    intro n16
    induction n16 with
    | zero =>
      intro v16_4 G16 H locs ls hm16 hv16_0 hW16 hfr16 hP hS hl
      exact absurd hm16 (Nat.not_lt_zero _)
    | succ n16 ih16 =>
      intro v16_4 G16 H locs ls hm16 hv16_0 hW16 hfr16 hP hS hl
      refine lv_iload hx hb dX9_search_16 (lv_at hl 0 rfl) ?_
      refine lv_iconst (v := 5) hx hb dX9_search_18 (by decide) ?_
      refine lv_icmp_ge (tgt := 45) hx hb dX9_search_19 (by decide) (fun hc_6 => ?_) (fun hc_6 => ?_)
      · have hhc_6 := n_le (by decide : (5 : Int32).toInt = 5) (rfl : v16_4.toInt = v16_4.toInt) hc_6
        refine lv_iconst (v := 0) hx hb dX9_search_45 (by decide) ?_
        refine lv_istore (lv' := [(4, .int 0), (0, .ref (ad 130)), (1, .ref (ad 3)), (2, .ref (ad 118))]) hx hb dX9_search_46 hl (by decide) rfl (fun ls hl => ?_)
        have HL48 : ∀ (n48 : Nat) (v48_4 : Int32) (G48 : Nat → va_E) (H : Heap) (locs : List Loc) (ls : Array Slot), (8 - v48_4.toInt).toNat < n48 → (0 ≤ v48_4.toInt ∧ v48_4.toInt ≤ 8) → WF (shp ad K) ad cs G48 → (∀ j, j ≠ 130 ∧ j ≠ 131 ∧ j ≠ 132 ∧ (j < 134 ∨ 140 ≤ j) → G48 j = g j) → va_P D vwCl (wL ad G48 218) H → va_S (wA ad 218) s.heap H locs → lv_has ls 5 [(4, .int v48_4), (0, .ref (ad 130)), (1, .ref (ad 3)), (2, .ref (ad 118))] → W p l e ({ frames := 2, cells := 0, slots := 0, locals := 47 } : Room) s m ([.ref (ad 130), .ref (ad 3), .ref (ad 118), .int nn] : List Value).toArray below meth c H locs 0 0 (MQ below (qV D ad 218 (fun g2 => WF (shp ad K) ad cs g2 ∧ (∀ j, j ≠ 130 ∧ j ≠ 131 ∧ j ≠ 132 ∧ (j < 134 ∨ 140 ≤ j) → g2 j = g j))) ([.ref (ad 130), .ref (ad 3), .ref (ad 118), .int nn] : List Value).toArray s 0 0 (wA ad 218)) (F0 m 48 ls []) := by
          intro n48
          induction n48 with
          | zero =>
            intro v48_4 G48 H locs ls hm48 hv48_0 hW48 hfr48 hP hS hl
            exact absurd hm48 (Nat.not_lt_zero _)
          | succ n48 ih48 =>
            intro v48_4 G48 H locs ls hm48 hv48_0 hW48 hfr48 hP hS hl
            refine lv_iload hx hb dX9_search_48 (lv_at hl 0 rfl) ?_
            refine lv_aload_n hx hb dX9_search_50 rfl (lv_at hl 2 rfl) ?_
            obtain ⟨fsc_7, hgc_7, hOc_7⟩ := hW48.obj (i := 3) (by decide) (sh_3 ad K)
            obtain ⟨x_9, hk_8, hlx_9, hhx_9⟩ := hOc_7.int 5 rfl
            refine q_get X iX9_search_6 hP (by decide) hgc_7 rfl 5 (by decide) (List.mem_of_getElem? (i := 11) rfl) (v := .int x_9) hk_8 dX9_search_51 ?_
            refine lv_icmp_ge (tgt := 92) hx hb dX9_search_54 (by decide) (fun hc_10 => ?_) (fun hc_10 => ?_)
            · have hhc_10 := n_le (rfl : x_9.toInt = x_9.toInt) (rfl : v48_4.toInt = v48_4.toInt) hc_10
              refine lv_aload_n hx hb dX9_search_92 rfl (lv_at hl 3 rfl) ?_
              obtain ⟨fsc_11, hgc_11, hOc_11⟩ := hW48.obj (i := 118) (by decide) (sh_118 ad K)
              obtain ⟨x_13, hk_12, -⟩ := hOc_11.int 1 rfl
              refine q_get X iX9_search_3 hP (by decide) hgc_11 rfl 1 (by decide) (List.mem_of_getElem? (i := 19) rfl) (v := .int x_13) hk_12 dX9_search_93 ?_
              have HJ106 : ∀ (G106 : Nat → va_E) (H : Heap) (locs : List Loc) (ls : Array Slot), WF (shp ad K) ad cs G106 → (∀ j, j ≠ 130 ∧ j ≠ 131 ∧ j ≠ 132 ∧ (j < 134 ∨ 140 ≤ j) → G106 j = g j) → G106 3 = .inr (6, fsc_7) → G106 118 = .inr (3, fsc_11) → va_P D vwCl (wL ad G106 218) H → va_S (wA ad 218) s.heap H locs → lv_has ls 5 [(0, .ref (ad 130))] → W p l e ({ frames := 2, cells := 0, slots := 0, locals := 47 } : Room) s m ([.ref (ad 130), .ref (ad 3), .ref (ad 118), .int nn] : List Value).toArray below meth c H locs 0 0 (MQ below (qV D ad 218 (fun g2 => WF (shp ad K) ad cs g2 ∧ (∀ j, j ≠ 130 ∧ j ≠ 131 ∧ j ≠ 132 ∧ (j < 134 ∨ 140 ≤ j) → g2 j = g j))) ([.ref (ad 130), .ref (ad 3), .ref (ad 118), .int nn] : List Value).toArray s 0 0 (wA ad 218)) (F0 m 106 ls []) := by
                intro G106 H locs ls hW106 hfr106 hg106_0 hg106_1 hP hS hl
                refine lv_aload_n hx hb dX9_search_106 rfl (lv_at hl 0 rfl) ?_
                obtain ⟨fsc_17, hgc_17, hOc_17⟩ := hW106.obj (i := 130) (by decide) (sh_130 ad K)
                refine s_callv (q := (RX9, TX9, 4)) (As := []) (rest := []) X Z (s_X9_countGoings l D cs ad kS K hKO hj G106 hW106) (cwV 0 X.2.2.2.2.1 gg_X9_search_X9_countGoings rfl rfl rfl (by decide +kernel) ⟨Nat.le_of_ble_eq_true rfl, Nat.le_of_ble_eq_true rfl⟩) (by decide) hgc_17 rfl hP hA hS.2.1 hS rfl hl.1 rfl (Nat.le_of_ble_eq_true rfl) dX9_search_107 ⟨Nat.le_of_ble_eq_true rfl, Nat.le_of_ble_eq_true rfl⟩ (fun g_15 H locs hw_14 hP hS => ?_)
                obtain ⟨hw_14W, hw_14f⟩ := hw_14
                have hfr_18 : ∀ j, j ≠ 130 ∧ j ≠ 131 ∧ j ≠ 132 ∧ (j < 134 ∨ 140 ≤ j) → g_15 j = g j := fun j hj => (hw_14f j (by omega)).trans (hfr106 j hj)
                have hg_19 := (hw_14f 3 (by omega)).trans hg106_0
                have hg_20 := (hw_14f 118 (by omega)).trans hg106_1
                have hg_21 := (hw_14f 130 (by omega)).trans hgc_17
                exact q_vret X hP hS ⟨hw_14W, hfr_18⟩ dX9_search_110
              refine lv_if_eq (tgt := 106) hx hb dX9_search_96 (by decide) (fun hc_22 => ?_) (fun hc_22 => ?_)
              · have hhc_22 := n_eq (rfl : x_13.toInt = x_13.toInt) (by decide : (0 : Int32).toInt = 0) hc_22
                exact HJ106 G48 _ _ ls hW48 hfr48 hgc_7 hgc_11 hP hS (lv_sub hl [1] rfl)
              · have hhc_22 := n_ne (rfl : x_13.toInt = x_13.toInt) (by decide : (0 : Int32).toInt = 0) hc_22
                refine lv_aload_n hx hb dX9_search_99 rfl (lv_at hl 1 rfl) ?_
                obtain ⟨fsc_23, hgc_23, hOc_23⟩ := hW48.obj (i := 130) (by decide) (sh_130 ad K)
                have hk_24 := hOc_23.ref 1 rfl
                refine q_get X iX9_search_9 hP (by decide) hgc_23 rfl 1 (by decide) (List.mem_of_getElem? (i := 10) rfl) (v := .ref (ad 132)) hk_24 dX9_search_100 ?_
                refine lv_iconst (v := 0) hx hb dX9_search_103 (by decide) ?_
                refine lv_iconst (v := (-1)) hx hb dX9_search_104 (by decide) ?_
                obtain ⟨fc_25, hgc_25, hFc_25⟩ := hW48.arr (i := 132) (by decide) (sh_132 ad K)
                refine s_iast X hP hj hA hS (by decide) hgc_25 (by unfold vp_in; decide) dX9_search_105 hW48 (sh_132 ad K) (hFc_25.put trivial) (fun fc_26 gc_26 H locs ec_26 hFc_26 hgc_26 hfc_26 hWc_26 hP hS => ?_)
                have hg_28 := (hfc_26 3 (by decide)).trans hgc_7
                have hg_29 := (hfc_26 118 (by decide)).trans hgc_11
                have hg_30 := (hfc_26 130 (by decide)).trans hgc_23
                have hfr_27 : ∀ j, j ≠ 130 ∧ j ≠ 131 ∧ j ≠ 132 ∧ (j < 134 ∨ 140 ≤ j) → gc_26 j = g j := fun j hj => (hfc_26 j (by omega)).trans (hfr48 j hj)
                exact HJ106 gc_26 _ _ ls hWc_26 hfr_27 hg_28 hg_29 hP hS (lv_sub hl [1] rfl)
            · have hhc_10 := n_nle (rfl : x_9.toInt = x_9.toInt) (rfl : v48_4.toInt = v48_4.toInt) hc_10
              refine lv_aload_n hx hb dX9_search_57 rfl (lv_at hl 3 rfl) ?_
              obtain ⟨fsc_31, hgc_31, hOc_31⟩ := hW48.obj (i := 118) (by decide) (sh_118 ad K)
              have hk_32 := hOc_31.ref 0 rfl
              refine q_get X iX9_search_3 hP (by decide) hgc_31 rfl 0 (by decide) (List.mem_of_getElem? (i := 12) rfl) (v := .ref (ad 119)) hk_32 dX9_search_58 ?_
              refine lv_iload hx hb dX9_search_61 (lv_at hl 0 rfl) ?_
              obtain ⟨fc_33, hgc_33, hFc_33⟩ := hW48.arr (i := 119) (by decide) (sh_119 ad K)
              refine q_iald X hP (by decide) hgc_33 (n_in (rfl : v48_4.toInt = v48_4.toInt) (by omega) (by omega)) dX9_search_63 ?_
              refine lv_topi (fun z_34 ez_34 => ?_)
              refine lv_bipush (v := (-2)) hx hb dX9_search_64 (by decide) ?_
              have HJ86 : ∀ (G86 : Nat → va_E) (H : Heap) (locs : List Loc) (ls : Array Slot), WF (shp ad K) ad cs G86 → (∀ j, j ≠ 130 ∧ j ≠ 131 ∧ j ≠ 132 ∧ (j < 134 ∨ 140 ≤ j) → G86 j = g j) → G86 3 = .inr (6, fsc_7) → G86 118 = .inr (3, fsc_31) → G86 119 = .inl (cs 1, 8, .inl fc_33) → va_P D vwCl (wL ad G86 218) H → va_S (wA ad 218) s.heap H locs → lv_has ls 5 [(4, .int v48_4), (0, .ref (ad 130)), (1, .ref (ad 3)), (2, .ref (ad 118))] → W p l e ({ frames := 2, cells := 0, slots := 0, locals := 47 } : Room) s m ([.ref (ad 130), .ref (ad 3), .ref (ad 118), .int nn] : List Value).toArray below meth c H locs 0 0 (MQ below (qV D ad 218 (fun g2 => WF (shp ad K) ad cs g2 ∧ (∀ j, j ≠ 130 ∧ j ≠ 131 ∧ j ≠ 132 ∧ (j < 134 ∨ 140 ≤ j) → g2 j = g j))) ([.ref (ad 130), .ref (ad 3), .ref (ad 118), .int nn] : List Value).toArray s 0 0 (wA ad 218)) (F0 m 86 ls []) := by
                intro G86 H locs ls hW86 hfr86 hg86_0 hg86_1 hg86_2 hP hS hl
                obtain ⟨x_35, ex_35⟩ : ∃ y : Int32, y = v48_4 + 1 := ⟨_, rfl⟩
                have hx_35 : x_35.toInt = v48_4.toInt + 1 := n_add rfl (by decide : (1 : Int32).toInt = 1) ex_35 (by omega) (by omega)
                refine lv_iinc (v := x_35) (lv' := [(4, .int x_35), (0, .ref (ad 130)), (1, .ref (ad 3)), (2, .ref (ad 118))]) hx hb dX9_search_86 hl (k := 0) rfl (by rw [ex_35]; rfl) (by decide) rfl (fun ls hl => ?_)
                refine lv_goto (tgt := 48) hx hb dX9_search_89 (by decide) ?_
                exact ih48 x_35 G86 _ _ ls (by omega) (by omega) hW86 hfr86 hP hS (lv_sub hl [0, 1, 2, 3] rfl)
              refine lv_icmp_eq (tgt := 86) hx hb dX9_search_66 (by decide) (fun hc_36 => ?_) (fun hc_36 => ?_)
              · have hhc_36 := n_eq (rfl : z_34.toInt = z_34.toInt) (by decide : (-2 : Int32).toInt = -2) hc_36
                exact HJ86 G48 _ _ ls hW48 hfr48 hgc_7 hgc_31 hgc_33 hP hS (lv_sub hl [0, 1, 2, 3] rfl)
              · have hhc_36 := n_ne (rfl : z_34.toInt = z_34.toInt) (by decide : (-2 : Int32).toInt = -2) hc_36
                refine lv_aload_n hx hb dX9_search_69 rfl (lv_at hl 1 rfl) ?_
                refine lv_aload_n hx hb dX9_search_70 rfl (lv_at hl 2 rfl) ?_
                refine lv_iload hx hb dX9_search_71 (lv_at hl 0 rfl) ?_
                refine s_callSi (As := [.ref (ad 3), .int v48_4]) (rest := [.ref (ad 130)]) X Z (s_X9_sumNeeded l D cs ad kS K hKO hj G48 hW48 v48_4 (by omega)) (cwS 2 X.2.2.2.2.1 gg_X9_search_X9_sumNeeded rfl rfl rfl (by decide +kernel) ⟨Nat.le_of_ble_eq_true rfl, Nat.le_of_ble_eq_true rfl⟩) hP hA hS.2.1 hS rfl hl.1 rfl (Nat.le_of_ble_eq_true rfl) dX9_search_73 ⟨Nat.le_of_ble_eq_true rfl, Nat.le_of_ble_eq_true rfl⟩ (fun r_39 g_38 H locs hw_37 hP hS => ?_)
                rw [hw_37] at hP
                refine lv_aload_n hx hb dX9_search_76 rfl (lv_at hl 3 rfl) ?_
                refine q_get X iX9_search_3 hP (by decide) hgc_31 rfl 0 (by decide) (List.mem_of_getElem? (i := 12) rfl) (v := .ref (ad 119)) hk_32 dX9_search_77 ?_
                refine lv_iload hx hb dX9_search_80 (lv_at hl 0 rfl) ?_
                refine q_iald X hP (by decide) hgc_33 (n_in (rfl : v48_4.toInt = v48_4.toInt) (by omega) (by omega)) dX9_search_82 ?_
                refine lv_topi (fun z_40 ez_40 => ?_)
                have hsz_40 : z_40.toInt = z_34.toInt := by rw [ez_40, ez_34]
                obtain ⟨fsc_44, hgc_44, hOc_44⟩ := hW48.obj (i := 130) (by decide) (sh_130 ad K)
                refine s_callv (q := (RX9, TX9, 4)) (As := [.int r_39, .int z_40]) (rest := []) X Z (s_X9_bound l D cs ad kS K hKO hj G48 hW48 r_39 z_40) (cwV 2 X.2.2.2.2.1 gg_X9_search_X9_bound rfl rfl rfl (by decide +kernel) ⟨Nat.le_of_ble_eq_true rfl, Nat.le_of_ble_eq_true rfl⟩) (by decide) hgc_44 rfl hP hA hS.2.1 hS rfl hl.1 rfl (Nat.le_of_ble_eq_true rfl) dX9_search_83 ⟨Nat.le_of_ble_eq_true rfl, Nat.le_of_ble_eq_true rfl⟩ (fun g_42 H locs hw_41 hP hS => ?_)
                obtain ⟨hw_41W, hw_41f⟩ := hw_41
                have hfr_45 : ∀ j, j ≠ 130 ∧ j ≠ 131 ∧ j ≠ 132 ∧ (j < 134 ∨ 140 ≤ j) → g_42 j = g j := fun j hj => (hw_41f j (by omega)).trans (hfr48 j hj)
                have hg_46 := (hw_41f 3 (by omega)).trans hgc_7
                have hg_47 := (hw_41f 118 (by omega)).trans hgc_31
                have hg_48 := (hw_41f 119 (by omega)).trans hgc_33
                have hg_49 := (hw_41f 130 (by omega)).trans hgc_44
                exact HJ86 g_42 _ _ ls hw_41W hfr_45 hg_46 hg_47 hg_48 hP hS (lv_sub hl [0, 1, 2, 3] rfl)
        have hiv48_4 : (0 : Int32).toInt = 0 := by decide
        exact HL48 _ 0 G16 _ _ ls (Nat.lt_succ_self _) (by omega) hW16 hfr16 hP hS (lv_sub hl [0, 1, 2, 3] rfl)
      · have hhc_6 := n_nle (by decide : (5 : Int32).toInt = 5) (rfl : v16_4.toInt = v16_4.toInt) hc_6
        refine lv_aload_n hx hb dX9_search_22 rfl (lv_at hl 1 rfl) ?_
        obtain ⟨fsc_50, hgc_50, hOc_50⟩ := hW16.obj (i := 130) (by decide) (sh_130 ad K)
        have hk_51 := hOc_50.ref 0 rfl
        refine q_get X iX9_search_9 hP (by decide) hgc_50 rfl 0 (by decide) (List.mem_of_getElem? (i := 9) rfl) (v := .ref (ad 131)) hk_51 dX9_search_23 ?_
        refine lv_iload hx hb dX9_search_26 (lv_at hl 0 rfl) ?_
        refine lv_iconst (v := 0) hx hb dX9_search_28 (by decide) ?_
        obtain ⟨fc_52, hgc_52, hFc_52⟩ := hW16.arr (i := 131) (by decide) (sh_131 ad K)
        refine s_iast X hP hj hA hS (by decide) hgc_52 (n_in (rfl : v16_4.toInt = v16_4.toInt) (by omega) (by omega)) dX9_search_29 hW16 (sh_131 ad K) (hFc_52.put trivial) (fun fc_53 gc_53 H locs ec_53 hFc_53 hgc_53 hfc_53 hWc_53 hP hS => ?_)
        have hg_55 := (hfc_53 130 (by decide)).trans hgc_50
        have hfr_54 : ∀ j, j ≠ 130 ∧ j ≠ 131 ∧ j ≠ 132 ∧ (j < 134 ∨ 140 ≤ j) → gc_53 j = g j := fun j hj => (hfc_53 j (by omega)).trans (hfr16 j hj)
        refine lv_aload_n hx hb dX9_search_30 rfl (lv_at hl 1 rfl) ?_
        have hk_56 := hOc_50.ref 1 rfl
        refine q_get X iX9_search_9 hP (by decide) hg_55 rfl 1 (by decide) (List.mem_of_getElem? (i := 10) rfl) (v := .ref (ad 132)) hk_56 dX9_search_31 ?_
        refine lv_iload hx hb dX9_search_34 (lv_at hl 0 rfl) ?_
        refine lv_bipush (v := 15) hx hb dX9_search_36 (by decide) ?_
        obtain ⟨fc_57, hgc_57, hFc_57⟩ := hWc_53.arr (i := 132) (by decide) (sh_132 ad K)
        refine s_iast X hP hj hA hS (by decide) hgc_57 (n_in (rfl : v16_4.toInt = v16_4.toInt) (by omega) (by omega)) dX9_search_38 hWc_53 (sh_132 ad K) (hFc_57.put trivial) (fun fc_58 gc_58 H locs ec_58 hFc_58 hgc_58 hfc_58 hWc_58 hP hS => ?_)
        have hg_60 := (hfc_58 130 (by decide)).trans hg_55
        have hg_61 := (hfc_58 131 (by decide)).trans hgc_53
        have hfr_59 : ∀ j, j ≠ 130 ∧ j ≠ 131 ∧ j ≠ 132 ∧ (j < 134 ∨ 140 ≤ j) → gc_58 j = g j := fun j hj => (hfc_58 j (by omega)).trans (hfr_54 j hj)
        obtain ⟨x_62, ex_62⟩ : ∃ y : Int32, y = v16_4 + 1 := ⟨_, rfl⟩
        have hx_62 : x_62.toInt = v16_4.toInt + 1 := n_add rfl (by decide : (1 : Int32).toInt = 1) ex_62 (by omega) (by omega)
        refine lv_iinc (v := x_62) (lv' := [(4, .int x_62), (0, .ref (ad 130)), (1, .ref (ad 3)), (2, .ref (ad 118))]) hx hb dX9_search_39 hl (k := 0) rfl (by rw [ex_62]; rfl) (by decide) rfl (fun ls hl => ?_)
        refine lv_goto (tgt := 16) hx hb dX9_search_42 (by decide) ?_
        exact ih16 x_62 gc_58 _ _ ls (by omega) (by omega) hWc_58 hfr_59 hP hS (lv_sub hl [0, 1, 2, 3] rfl)
  have hiv16_4 : (0 : Int32).toInt = 0 := by decide
  exact HL16 _ 0 gc_4 _ _ ls (Nat.lt_succ_self _) (by omega) hWc_4 hfr_5 hP hS (lv_sub hl [0, 1, 2, 3] rfl)

theorem dX9_fitting_0 : decode cX9_fitting 0 = .ok (.aload_n 0, 1) := by decide +kernel
theorem dX9_fitting_1 : decode cX9_fitting 1 = .ok (.getfield 20, 3) := by decide +kernel
theorem dX9_fitting_4 : decode cX9_fitting 4 = .ok (.iconst 0, 1) := by decide +kernel
theorem dX9_fitting_5 : decode cX9_fitting 5 = .ok (.aaload, 1) := by decide +kernel
theorem dX9_fitting_6 : decode cX9_fitting 6 = .ok (.iconst 0, 1) := by decide +kernel
theorem dX9_fitting_7 : decode cX9_fitting 7 = .ok (.iaload, 1) := by decide +kernel
theorem dX9_fitting_8 : decode cX9_fitting 8 = .ok (.ireturn, 1) := by decide +kernel
noncomputable def vX9_fitting : List Cond := .code yX9_fitting cX9_fitting 1 (some .int) :: (([.fieldLink RX9 20 "IcicleClock$Weathers" "goings" "[[I"] : List Cond) ++ wsX90)
theorem iX9_fitting_9 : ∀ w ∈ wsX90, w ∈ vX9_fitting := fun _ h => List.mem_cons_of_mem _ (List.mem_append_right _ (h))
theorem gs_X9_fitting : Gd vX9_fitting := Gd.cons (by decide +kernel) (Gd.app (Gd.r (by decide +kernel)) gwX_9)
set_option maxHeartbeats 4000000 in
set_option maxRecDepth 100000 in
theorem s_X9_fitting (l : Launch) (D : va_G) (cs : Nat → ClassId) (ad : Nat → Nat) (kS : kSt) (K : sK) (hKO : KO K) (hj : wJ ad 218) (g : Nat → va_E) (hW : WF (shp ad K) ad cs g) : sI l yX9_fitting vX9_fitting { frames := 0, cells := 0, slots := 0, locals := 0 } D cs ad kS [.ref (ad 130)] g (fun r g2 => g2 = g) := by
  refine Met.startS (cc := cX9_fitting) (maxL := 1) (ret := (some .int)) RX9 rfl (by decide) rfl (Nat.le_of_ble_eq_true rfl) ?_
  intro p e s m below meth c ls X Z hP hl
  have hx := X.1
  have hb := X.2.1
  have hS : va_S (wA ad 218) s.heap s.heap [] := va_S.rf
  have hA : ∀ i, i < 218 → wA ad 218 (ad i) := fun i h => ⟨i, h, rfl⟩
  have hl : lv_has ls 1 [(0, .ref (ad 130))] := hl
  refine lv_aload_n hx hb dX9_fitting_0 rfl (lv_at hl 0 rfl) ?_
  obtain ⟨fsc_1, hgc_1, hOc_1⟩ := hW.obj (i := 130) (by decide) (sh_130 ad K)
  have hk_2 := hOc_1.ref 2 rfl
  refine q_get X iX9_fitting_9 hP (by decide) hgc_1 rfl 2 (by decide) (List.mem_of_getElem? (i := 1) rfl) (v := .ref (ad 133)) hk_2 dX9_fitting_1 ?_
  refine lv_iconst (v := 0) hx hb dX9_fitting_4 (by decide) ?_
  obtain ⟨fc_3, hgc_3, hFc_3⟩ := hW.aref (i := 133) (by decide) (sh_133 ad K)
  have e_0 : (0 : Int32).toNatClampNeg = 0 := by decide
  have h_0 : 0 < 6 := by decide
  refine s_aald X hP 6 rfl rfl (by decide) hgc_3 (by unfold vp_in; decide) (v := ad (134 + 0)) (by rw [e_0, hFc_3 _ (by decide), Nat.one_mul]) dX9_fitting_5 ?_
  refine lv_iconst (v := 0) hx hb dX9_fitting_6 (by decide) ?_
  obtain ⟨fc_4, hgc_4, hFc_4⟩ := hW.arr (i := (134 + 0)) (by omega) (shR_134 ad K h_0)
  refine q_iald X hP (by omega) hgc_4 (by unfold vp_in; decide) dX9_fitting_7 ?_
  refine lv_topi (fun z_5 ez_5 => ?_)
  exact q_iret X hP hS rfl dX9_fitting_8

theorem dX9_sumsReached_0 : decode cX9_sumsReached 0 = .ok (.iconst 1, 1) := by decide +kernel
theorem dX9_sumsReached_1 : decode cX9_sumsReached 1 = .ok (.istore_n 1, 1) := by decide +kernel
theorem dX9_sumsReached_2 : decode cX9_sumsReached 2 = .ok (.iconst 0, 1) := by decide +kernel
theorem dX9_sumsReached_3 : decode cX9_sumsReached 3 = .ok (.istore_n 2, 1) := by decide +kernel
theorem dX9_sumsReached_4 : decode cX9_sumsReached 4 = .ok (.iload_n 2, 1) := by decide +kernel
theorem dX9_sumsReached_5 : decode cX9_sumsReached 5 = .ok (.aload_n 0, 1) := by decide +kernel
theorem dX9_sumsReached_6 : decode cX9_sumsReached 6 = .ok (.getfield 32, 3) := by decide +kernel
theorem dX9_sumsReached_9 : decode cX9_sumsReached 9 = .ok (.if_icmp .ge 66, 3) := by decide +kernel
theorem dX9_sumsReached_12 : decode cX9_sumsReached 12 = .ok (.iload_n 1, 1) := by decide +kernel
theorem dX9_sumsReached_13 : decode cX9_sumsReached 13 = .ok (.iload_n 1, 1) := by decide +kernel
theorem dX9_sumsReached_14 : decode cX9_sumsReached 14 = .ok (.iconst 1, 1) := by decide +kernel
theorem dX9_sumsReached_15 : decode cX9_sumsReached 15 = .ok (.ishl, 1) := by decide +kernel
theorem dX9_sumsReached_16 : decode cX9_sumsReached 16 = .ok (.ior, 1) := by decide +kernel
theorem dX9_sumsReached_17 : decode cX9_sumsReached 17 = .ok (.iload_n 1, 1) := by decide +kernel
theorem dX9_sumsReached_18 : decode cX9_sumsReached 18 = .ok (.iconst 2, 1) := by decide +kernel
theorem dX9_sumsReached_19 : decode cX9_sumsReached 19 = .ok (.ishl, 1) := by decide +kernel
theorem dX9_sumsReached_20 : decode cX9_sumsReached 20 = .ok (.ior, 1) := by decide +kernel
theorem dX9_sumsReached_21 : decode cX9_sumsReached 21 = .ok (.iload_n 1, 1) := by decide +kernel
theorem dX9_sumsReached_22 : decode cX9_sumsReached 22 = .ok (.iconst 3, 1) := by decide +kernel
theorem dX9_sumsReached_23 : decode cX9_sumsReached 23 = .ok (.ishl, 1) := by decide +kernel
theorem dX9_sumsReached_24 : decode cX9_sumsReached 24 = .ok (.ior, 1) := by decide +kernel
theorem dX9_sumsReached_25 : decode cX9_sumsReached 25 = .ok (.istore_n 3, 1) := by decide +kernel
theorem dX9_sumsReached_26 : decode cX9_sumsReached 26 = .ok (.iconst 0, 1) := by decide +kernel
theorem dX9_sumsReached_27 : decode cX9_sumsReached 27 = .ok (.istore_n 1, 1) := by decide +kernel
theorem dX9_sumsReached_28 : decode cX9_sumsReached 28 = .ok (.aload_n 0, 1) := by decide +kernel
theorem dX9_sumsReached_29 : decode cX9_sumsReached 29 = .ok (.getfield 9, 3) := by decide +kernel
theorem dX9_sumsReached_32 : decode cX9_sumsReached 32 = .ok (.iload_n 2, 1) := by decide +kernel
theorem dX9_sumsReached_33 : decode cX9_sumsReached 33 = .ok (.iaload, 1) := by decide +kernel
theorem dX9_sumsReached_34 : decode cX9_sumsReached 34 = .ok (.istore 4, 2) := by decide +kernel
theorem dX9_sumsReached_36 : decode cX9_sumsReached 36 = .ok (.iload 4, 2) := by decide +kernel
theorem dX9_sumsReached_38 : decode cX9_sumsReached 38 = .ok (.aload_n 0, 1) := by decide +kernel
theorem dX9_sumsReached_39 : decode cX9_sumsReached 39 = .ok (.getfield 15, 3) := by decide +kernel
theorem dX9_sumsReached_42 : decode cX9_sumsReached 42 = .ok (.iload_n 2, 1) := by decide +kernel
theorem dX9_sumsReached_43 : decode cX9_sumsReached 43 = .ok (.iaload, 1) := by decide +kernel
theorem dX9_sumsReached_44 : decode cX9_sumsReached 44 = .ok (.if_icmp .gt 25, 3) := by decide +kernel
theorem dX9_sumsReached_47 : decode cX9_sumsReached 47 = .ok (.iload 4, 2) := by decide +kernel
theorem dX9_sumsReached_49 : decode cX9_sumsReached 49 = .ok (.bipush 15, 2) := by decide +kernel
theorem dX9_sumsReached_51 : decode cX9_sumsReached 51 = .ok (.if_icmp .gt 18, 3) := by decide +kernel
theorem dX9_sumsReached_54 : decode cX9_sumsReached 54 = .ok (.iload_n 1, 1) := by decide +kernel
theorem dX9_sumsReached_55 : decode cX9_sumsReached 55 = .ok (.iload_n 3, 1) := by decide +kernel
theorem dX9_sumsReached_56 : decode cX9_sumsReached 56 = .ok (.iconst 1, 1) := by decide +kernel
theorem dX9_sumsReached_57 : decode cX9_sumsReached 57 = .ok (.iload 4, 2) := by decide +kernel
theorem dX9_sumsReached_59 : decode cX9_sumsReached 59 = .ok (.ishl, 1) := by decide +kernel
theorem dX9_sumsReached_60 : decode cX9_sumsReached 60 = .ok (.iand, 1) := by decide +kernel
theorem dX9_sumsReached_61 : decode cX9_sumsReached 61 = .ok (.ior, 1) := by decide +kernel
theorem dX9_sumsReached_62 : decode cX9_sumsReached 62 = .ok (.istore_n 1, 1) := by decide +kernel
theorem dX9_sumsReached_63 : decode cX9_sumsReached 63 = .ok (.iinc 4 1, 3) := by decide +kernel
theorem dX9_sumsReached_66 : decode cX9_sumsReached 66 = .ok (.goto (-30), 3) := by decide +kernel
theorem dX9_sumsReached_69 : decode cX9_sumsReached 69 = .ok (.iinc 2 1, 3) := by decide +kernel
theorem dX9_sumsReached_72 : decode cX9_sumsReached 72 = .ok (.goto (-68), 3) := by decide +kernel
theorem dX9_sumsReached_75 : decode cX9_sumsReached 75 = .ok (.iload_n 1, 1) := by decide +kernel
theorem dX9_sumsReached_76 : decode cX9_sumsReached 76 = .ok (.ireturn, 1) := by decide +kernel
noncomputable def vX9_sumsReached : List Cond := .code yX9_sumsReached cX9_sumsReached 5 (some .int) :: (([.fieldLink RX9 32 "IcicleClock$Weathers" "days" "I", .fieldLink RX9 9 "IcicleClock$Weathers" "least" "[I", .fieldLink RX9 15 "IcicleClock$Weathers" "most" "[I"] : List Cond) ++ wsX90)
theorem iX9_sumsReached_9 : ∀ w ∈ wsX90, w ∈ vX9_sumsReached := fun _ h => List.mem_cons_of_mem _ (List.mem_append_right _ (h))
theorem gs_X9_sumsReached : Gd vX9_sumsReached := Gd.cons (by decide +kernel) (Gd.app (Gd.r (by decide +kernel)) gwX_9)
set_option maxHeartbeats 4000000 in
set_option maxRecDepth 100000 in
theorem s_X9_sumsReached (l : Launch) (D : va_G) (cs : Nat → ClassId) (ad : Nat → Nat) (kS : kSt) (K : sK) (hKO : KO K) (hj : wJ ad 218) (g : Nat → va_E) (hW : WF (shp ad K) ad cs g) : sI l yX9_sumsReached vX9_sumsReached { frames := 0, cells := 0, slots := 0, locals := 0 } D cs ad kS [.ref (ad 130)] g (fun r g2 => g2 = g) := by
  refine Met.startS (cc := cX9_sumsReached) (maxL := 5) (ret := (some .int)) RX9 rfl (by decide) rfl (Nat.le_of_ble_eq_true rfl) ?_
  intro p e s m below meth c ls X Z hP hl
  have hx := X.1
  have hb := X.2.1
  have hS : va_S (wA ad 218) s.heap s.heap [] := va_S.rf
  have hA : ∀ i, i < 218 → wA ad 218 (ad i) := fun i h => ⟨i, h, rfl⟩
  have hl : lv_has ls 5 [(0, .ref (ad 130))] := hl
  refine lv_iconst (v := 1) hx hb dX9_sumsReached_0 (by decide) ?_
  refine lv_istore_n (lv' := [(1, .int 1), (0, .ref (ad 130))]) hx hb dX9_sumsReached_1 rfl hl (by decide) rfl (fun ls hl => ?_)
  refine lv_iconst (v := 0) hx hb dX9_sumsReached_2 (by decide) ?_
  refine lv_istore_n (lv' := [(2, .int 0), (1, .int 1), (0, .ref (ad 130))]) hx hb dX9_sumsReached_3 rfl hl (by decide) rfl (fun ls hl => ?_)
  have HL4 : ∀ (n4 : Nat) (v4_2 : Int32) (v4_1 : Int32) (H : Heap) (locs : List Loc) (ls : Array Slot), (5 - v4_2.toInt).toNat < n4 → (0 ≤ v4_2.toInt ∧ v4_2.toInt ≤ 5) → va_P D vwCl (wL ad g 218) H → va_S (wA ad 218) s.heap H locs → lv_has ls 5 [(2, .int v4_2), (1, .int v4_1), (0, .ref (ad 130))] → W p l e ({ frames := 0, cells := 0, slots := 0, locals := 0 } : Room) s m ([.ref (ad 130)] : List Value).toArray below meth c H locs 0 0 (MQ below (qI D ad 218 (fun r g2 => g2 = g)) ([.ref (ad 130)] : List Value).toArray s 0 0 (wA ad 218)) (F0 m 4 ls []) := by
    intro n4
    induction n4 with
    | zero =>
      intro v4_2 v4_1 H locs ls hm4 hv4_0 hP hS hl
      exact absurd hm4 (Nat.not_lt_zero _)
    | succ n4 ih4 =>
      intro v4_2 v4_1 H locs ls hm4 hv4_0 hP hS hl
      refine lv_iload_n hx hb dX9_sumsReached_4 rfl (lv_at hl 0 rfl) ?_
      refine lv_aload_n hx hb dX9_sumsReached_5 rfl (lv_at hl 2 rfl) ?_
      obtain ⟨fsc_1, hgc_1, hOc_1⟩ := hW.obj (i := 130) (by decide) (sh_130 ad K)
      obtain ⟨x_3, hk_2, hlx_3, hhx_3⟩ := hOc_1.int 3 rfl
      refine q_get X iX9_sumsReached_9 hP (by decide) hgc_1 rfl 3 (by decide) (List.mem_of_getElem? (i := 1) rfl) (v := .int x_3) hk_2 dX9_sumsReached_6 ?_
      refine lv_icmp_ge (tgt := 75) hx hb dX9_sumsReached_9 (by decide) (fun hc_4 => ?_) (fun hc_4 => ?_)
      · have hhc_4 := n_le (rfl : x_3.toInt = x_3.toInt) (rfl : v4_2.toInt = v4_2.toInt) hc_4
        refine lv_iload_n hx hb dX9_sumsReached_75 rfl (lv_at hl 1 rfl) ?_
        exact q_iret X hP hS rfl dX9_sumsReached_76
      · have hhc_4 := n_nle (rfl : x_3.toInt = x_3.toInt) (rfl : v4_2.toInt = v4_2.toInt) hc_4
        refine lv_iload_n hx hb dX9_sumsReached_12 rfl (lv_at hl 1 rfl) ?_
        refine lv_iload_n hx hb dX9_sumsReached_13 rfl (lv_at hl 1 rfl) ?_
        refine lv_iconst (v := 1) hx hb dX9_sumsReached_14 (by decide) ?_
        refine lv_ishl hx hb dX9_sumsReached_15 ?_
        refine lv_topi (fun z_5 ez_5 => ?_)
        refine lv_ior hx hb dX9_sumsReached_16 ?_
        refine lv_topi (fun z_6 ez_6 => ?_)
        refine lv_iload_n hx hb dX9_sumsReached_17 rfl (lv_at hl 1 rfl) ?_
        refine lv_iconst (v := 2) hx hb dX9_sumsReached_18 (by decide) ?_
        refine lv_ishl hx hb dX9_sumsReached_19 ?_
        refine lv_topi (fun z_7 ez_7 => ?_)
        refine lv_ior hx hb dX9_sumsReached_20 ?_
        refine lv_topi (fun z_8 ez_8 => ?_)
        refine lv_iload_n hx hb dX9_sumsReached_21 rfl (lv_at hl 1 rfl) ?_
        refine lv_iconst (v := 3) hx hb dX9_sumsReached_22 (by decide) ?_
        refine lv_ishl hx hb dX9_sumsReached_23 ?_
        refine lv_topi (fun z_9 ez_9 => ?_)
        refine lv_ior hx hb dX9_sumsReached_24 ?_
        refine lv_topi (fun z_10 ez_10 => ?_)
        refine lv_istore_n (lv' := [(3, .int z_10), (2, .int v4_2), (1, .int v4_1), (0, .ref (ad 130))]) hx hb dX9_sumsReached_25 rfl hl (by decide) rfl (fun ls hl => ?_)
        refine lv_iconst (v := 0) hx hb dX9_sumsReached_26 (by decide) ?_
        refine lv_istore_n (lv' := [(1, .int 0), (3, .int z_10), (2, .int v4_2), (0, .ref (ad 130))]) hx hb dX9_sumsReached_27 rfl hl (by decide) rfl (fun ls hl => ?_)
        refine lv_aload_n hx hb dX9_sumsReached_28 rfl (lv_at hl 3 rfl) ?_
        have hk_11 := hOc_1.ref 0 rfl
        refine q_get X iX9_sumsReached_9 hP (by decide) hgc_1 rfl 0 (by decide) (List.mem_of_getElem? (i := 2) rfl) (v := .ref (ad 131)) hk_11 dX9_sumsReached_29 ?_
        refine lv_iload_n hx hb dX9_sumsReached_32 rfl (lv_at hl 2 rfl) ?_
        obtain ⟨fc_12, hgc_12, hFc_12⟩ := hW.arr (i := 131) (by decide) (sh_131 ad K)
        refine q_iald X hP (by decide) hgc_12 (n_in (rfl : v4_2.toInt = v4_2.toInt) (by omega) (by omega)) dX9_sumsReached_33 ?_
        refine lv_topi (fun z_13 ez_13 => ?_)
        refine lv_istore (lv' := [(4, .int z_13), (1, .int 0), (3, .int z_10), (2, .int v4_2), (0, .ref (ad 130))]) hx hb dX9_sumsReached_34 hl (by decide) rfl (fun ls hl => ?_)
        have HL36 : ∀ (n36 : Nat) (v36_4 : Int32) (v36_1 : Int32) (H : Heap) (locs : List Loc) (ls : Array Slot), (2147483647 - v36_4.toInt).toNat < n36 → va_P D vwCl (wL ad g 218) H → va_S (wA ad 218) s.heap H locs → lv_has ls 5 [(4, .int v36_4), (1, .int v36_1), (3, .int z_10), (2, .int v4_2), (0, .ref (ad 130))] → W p l e ({ frames := 0, cells := 0, slots := 0, locals := 0 } : Room) s m ([.ref (ad 130)] : List Value).toArray below meth c H locs 0 0 (MQ below (qI D ad 218 (fun r g2 => g2 = g)) ([.ref (ad 130)] : List Value).toArray s 0 0 (wA ad 218)) (F0 m 36 ls []) := by
          intro n36
          induction n36 with
          | zero =>
            intro v36_4 v36_1 H locs ls hm36 hP hS hl
            exact absurd hm36 (Nat.not_lt_zero _)
          | succ n36 ih36 =>
            intro v36_4 v36_1 H locs ls hm36 hP hS hl
            refine lv_iload hx hb dX9_sumsReached_36 (lv_at hl 0 rfl) ?_
            refine lv_aload_n hx hb dX9_sumsReached_38 rfl (lv_at hl 4 rfl) ?_
            have hk_14 := hOc_1.ref 1 rfl
            refine q_get X iX9_sumsReached_9 hP (by decide) hgc_1 rfl 1 (by decide) (List.mem_of_getElem? (i := 3) rfl) (v := .ref (ad 132)) hk_14 dX9_sumsReached_39 ?_
            refine lv_iload_n hx hb dX9_sumsReached_42 rfl (lv_at hl 3 rfl) ?_
            obtain ⟨fc_15, hgc_15, hFc_15⟩ := hW.arr (i := 132) (by decide) (sh_132 ad K)
            refine q_iald X hP (by decide) hgc_15 (n_in (rfl : v4_2.toInt = v4_2.toInt) (by omega) (by omega)) dX9_sumsReached_43 ?_
            refine lv_topi (fun z_16 ez_16 => ?_)
            have HJ69 : ∀ (H : Heap) (locs : List Loc) (ls : Array Slot), va_P D vwCl (wL ad g 218) H → va_S (wA ad 218) s.heap H locs → lv_has ls 5 [(1, .int v36_1), (2, .int v4_2), (0, .ref (ad 130))] → W p l e ({ frames := 0, cells := 0, slots := 0, locals := 0 } : Room) s m ([.ref (ad 130)] : List Value).toArray below meth c H locs 0 0 (MQ below (qI D ad 218 (fun r g2 => g2 = g)) ([.ref (ad 130)] : List Value).toArray s 0 0 (wA ad 218)) (F0 m 69 ls []) := by
              intro H locs ls hP hS hl
              obtain ⟨x_17, ex_17⟩ : ∃ y : Int32, y = v4_2 + 1 := ⟨_, rfl⟩
              have hx_17 : x_17.toInt = v4_2.toInt + 1 := n_add rfl (by decide : (1 : Int32).toInt = 1) ex_17 (by omega) (by omega)
              refine lv_iinc (v := x_17) (lv' := [(2, .int x_17), (1, .int v36_1), (0, .ref (ad 130))]) hx hb dX9_sumsReached_69 hl (k := 1) rfl (by rw [ex_17]; rfl) (by decide) rfl (fun ls hl => ?_)
              refine lv_goto (tgt := 4) hx hb dX9_sumsReached_72 (by decide) ?_
              exact ih4 x_17 v36_1 _ _ ls (by omega) (by omega) hP hS (lv_sub hl [0, 1, 2] rfl)
            refine lv_icmp_gt (tgt := 69) hx hb dX9_sumsReached_44 (by decide) (fun hc_18 => ?_) (fun hc_18 => ?_)
            · have hhc_18 := n_lt (rfl : z_16.toInt = z_16.toInt) (rfl : v36_4.toInt = v36_4.toInt) hc_18
              have := n_hi z_16
              have := n_lo z_16
              have := n_hi v36_4
              have := n_lo v36_4
              exact HJ69 _ _ ls hP hS (lv_sub hl [1, 3, 4] rfl)
            · have hhc_18 := n_nlt (rfl : z_16.toInt = z_16.toInt) (rfl : v36_4.toInt = v36_4.toInt) hc_18
              have := n_hi z_16
              have := n_lo z_16
              have := n_hi v36_4
              have := n_lo v36_4
              refine lv_iload hx hb dX9_sumsReached_47 (lv_at hl 0 rfl) ?_
              refine lv_bipush (v := 15) hx hb dX9_sumsReached_49 (by decide) ?_
              refine lv_icmp_gt (tgt := 69) hx hb dX9_sumsReached_51 (by decide) (fun hc_19 => ?_) (fun hc_19 => ?_)
              · have hhc_19 := n_lt (by decide : (15 : Int32).toInt = 15) (rfl : v36_4.toInt = v36_4.toInt) hc_19
                exact HJ69 _ _ ls hP hS (lv_sub hl [1, 3, 4] rfl)
              · have hhc_19 := n_nlt (by decide : (15 : Int32).toInt = 15) (rfl : v36_4.toInt = v36_4.toInt) hc_19
                refine lv_iload_n hx hb dX9_sumsReached_54 rfl (lv_at hl 1 rfl) ?_
                refine lv_iload_n hx hb dX9_sumsReached_55 rfl (lv_at hl 2 rfl) ?_
                refine lv_iconst (v := 1) hx hb dX9_sumsReached_56 (by decide) ?_
                refine lv_iload hx hb dX9_sumsReached_57 (lv_at hl 0 rfl) ?_
                refine lv_ishl hx hb dX9_sumsReached_59 ?_
                refine lv_topi (fun z_20 ez_20 => ?_)
                refine lv_iand hx hb dX9_sumsReached_60 ?_
                refine lv_topi (fun z_21 ez_21 => ?_)
                refine lv_ior hx hb dX9_sumsReached_61 ?_
                refine lv_topi (fun z_22 ez_22 => ?_)
                refine lv_istore_n (lv' := [(1, .int z_22), (4, .int v36_4), (3, .int z_10), (2, .int v4_2), (0, .ref (ad 130))]) hx hb dX9_sumsReached_62 rfl hl (by decide) rfl (fun ls hl => ?_)
                obtain ⟨x_23, ex_23⟩ : ∃ y : Int32, y = v36_4 + 1 := ⟨_, rfl⟩
                have := n_lo v36_4
                have hx_23 : x_23.toInt = v36_4.toInt + 1 := n_add rfl (by decide : (1 : Int32).toInt = 1) ex_23 (by omega) (by omega)
                refine lv_iinc (v := x_23) (lv' := [(4, .int x_23), (1, .int z_22), (3, .int z_10), (2, .int v4_2), (0, .ref (ad 130))]) hx hb dX9_sumsReached_63 hl (k := 1) rfl (by rw [ex_23]; rfl) (by decide) rfl (fun ls hl => ?_)
                refine lv_goto (tgt := 36) hx hb dX9_sumsReached_66 (by decide) ?_
                exact ih36 x_23 z_22 _ _ ls (by omega) hP hS (lv_sub hl [0, 1, 2, 3, 4] rfl)
        have hiv36_1 : (0 : Int32).toInt = 0 := by decide
        exact HL36 _ z_13 0 _ _ ls (Nat.lt_succ_self _) hP hS (lv_sub hl [0, 1, 2, 3, 4] rfl)
  have hiv4_2 : (0 : Int32).toInt = 0 := by decide
  have hiv4_1 : (1 : Int32).toInt = 1 := by decide
  exact HL4 _ 0 1 _ _ ls (Nat.lt_succ_self _) (by omega) hP hS (lv_sub hl [0, 1, 2] rfl)

theorem dX9_leastSum_0 : decode cX9_leastSum 0 = .ok (.aload_n 0, 1) := by decide +kernel
theorem dX9_leastSum_1 : decode cX9_leastSum 1 = .ok (.invokevirtual 79, 3) := by decide +kernel
theorem dX9_leastSum_4 : decode cX9_leastSum 4 = .ok (.istore_n 1, 1) := by decide +kernel
theorem dX9_leastSum_5 : decode cX9_leastSum 5 = .ok (.iconst 0, 1) := by decide +kernel
theorem dX9_leastSum_6 : decode cX9_leastSum 6 = .ok (.istore_n 2, 1) := by decide +kernel
theorem dX9_leastSum_7 : decode cX9_leastSum 7 = .ok (.iload_n 2, 1) := by decide +kernel
theorem dX9_leastSum_8 : decode cX9_leastSum 8 = .ok (.bipush 15, 2) := by decide +kernel
theorem dX9_leastSum_10 : decode cX9_leastSum 10 = .ok (.if_icmp .gt 19, 3) := by decide +kernel
theorem dX9_leastSum_13 : decode cX9_leastSum 13 = .ok (.iload_n 1, 1) := by decide +kernel
theorem dX9_leastSum_14 : decode cX9_leastSum 14 = .ok (.iload_n 2, 1) := by decide +kernel
theorem dX9_leastSum_15 : decode cX9_leastSum 15 = .ok (.ishr, 1) := by decide +kernel
theorem dX9_leastSum_16 : decode cX9_leastSum 16 = .ok (.iconst 1, 1) := by decide +kernel
theorem dX9_leastSum_17 : decode cX9_leastSum 17 = .ok (.iand, 1) := by decide +kernel
theorem dX9_leastSum_18 : decode cX9_leastSum 18 = .ok (.ifCond .eq 5, 3) := by decide +kernel
theorem dX9_leastSum_21 : decode cX9_leastSum 21 = .ok (.iload_n 2, 1) := by decide +kernel
theorem dX9_leastSum_22 : decode cX9_leastSum 22 = .ok (.ireturn, 1) := by decide +kernel
theorem dX9_leastSum_23 : decode cX9_leastSum 23 = .ok (.iinc 2 1, 3) := by decide +kernel
theorem dX9_leastSum_26 : decode cX9_leastSum 26 = .ok (.goto (-19), 3) := by decide +kernel
theorem dX9_leastSum_29 : decode cX9_leastSum 29 = .ok (.iconst (-1), 1) := by decide +kernel
theorem dX9_leastSum_30 : decode cX9_leastSum 30 = .ok (.ireturn, 1) := by decide +kernel
noncomputable def vX9_leastSum : List Cond := .code yX9_leastSum cX9_leastSum 3 (some .int) :: (([.methodLink RX9 79 yX9_sumsReached, .instanceMethod yX9_sumsReached, .selects RX9 yX9_sumsReached yX9_sumsReached, .initialized RX9] : List Cond) ++ vX9_sumsReached)
theorem gs_X9_leastSum : Gd vX9_leastSum := Gd.cons (by decide +kernel) (Gd.app (Gd.r (by decide +kernel)) gs_X9_sumsReached)
theorem gg_X9_leastSum_X9_sumsReached : GoodIn vX9_leastSum (wsV RX9 79 RX9 yX9_sumsReached vX9_sumsReached) := goodIn_app (goodIn_r _ [1, 2, 3, 4] (by decide +kernel) (by decide +kernel)) (fun w h => ⟨List.mem_cons_of_mem _ (List.mem_append_right _ (h)), gs_X9_sumsReached w h⟩)
set_option maxHeartbeats 4000000 in
set_option maxRecDepth 100000 in
theorem s_X9_leastSum (l : Launch) (D : va_G) (cs : Nat → ClassId) (ad : Nat → Nat) (kS : kSt) (K : sK) (hKO : KO K) (hj : wJ ad 218) (g : Nat → va_E) (hW : WF (shp ad K) ad cs g) : sI l yX9_leastSum vX9_leastSum { frames := 1, cells := 0, slots := 0, locals := 24 } D cs ad kS [.ref (ad 130)] g (fun r g2 => g2 = g) := by
  refine Met.startS (cc := cX9_leastSum) (maxL := 3) (ret := (some .int)) RX9 rfl (by decide) rfl (Nat.le_of_ble_eq_true rfl) ?_
  intro p e s m below meth c ls X Z hP hl
  have hx := X.1
  have hb := X.2.1
  have hS : va_S (wA ad 218) s.heap s.heap [] := va_S.rf
  have hA : ∀ i, i < 218 → wA ad 218 (ad i) := fun i h => ⟨i, h, rfl⟩
  have hl : lv_has ls 3 [(0, .ref (ad 130))] := hl
  refine lv_aload_n hx hb dX9_leastSum_0 rfl (lv_at hl 0 rfl) ?_
  obtain ⟨fsc_4, hgc_4, hOc_4⟩ := hW.obj (i := 130) (by decide) (sh_130 ad K)
  refine s_calli (q := (RX9, TX9, 4)) (As := []) (rest := []) X Z (s_X9_sumsReached l D cs ad kS K hKO hj g hW) (cwV 0 X.2.2.2.2.1 gg_X9_leastSum_X9_sumsReached rfl rfl rfl (by decide +kernel) ⟨Nat.le_of_ble_eq_true rfl, Nat.le_of_ble_eq_true rfl⟩) (by decide) hgc_4 rfl hP hA hS.2.1 hS rfl hl.1 rfl (Nat.le_of_ble_eq_true rfl) dX9_leastSum_1 ⟨Nat.le_of_ble_eq_true rfl, Nat.le_of_ble_eq_true rfl⟩ (fun r_3 g_2 H locs hw_1 hP hS => ?_)
  rw [hw_1] at hP
  refine lv_istore_n (lv' := [(1, .int r_3), (0, .ref (ad 130))]) hx hb dX9_leastSum_4 rfl hl (by decide) rfl (fun ls hl => ?_)
  refine lv_iconst (v := 0) hx hb dX9_leastSum_5 (by decide) ?_
  refine lv_istore_n (lv' := [(2, .int 0), (1, .int r_3), (0, .ref (ad 130))]) hx hb dX9_leastSum_6 rfl hl (by decide) rfl (fun ls hl => ?_)
  have HL7 : ∀ (n7 : Nat) (v7_2 : Int32) (H : Heap) (locs : List Loc) (ls : Array Slot), (16 - v7_2.toInt).toNat < n7 → (0 ≤ v7_2.toInt ∧ v7_2.toInt ≤ 16) → va_P D vwCl (wL ad g 218) H → va_S (wA ad 218) s.heap H locs → lv_has ls 3 [(2, .int v7_2), (1, .int r_3)] → W p l e ({ frames := 1, cells := 0, slots := 0, locals := 24 } : Room) s m ([.ref (ad 130)] : List Value).toArray below meth c H locs 0 0 (MQ below (qI D ad 218 (fun r g2 => g2 = g)) ([.ref (ad 130)] : List Value).toArray s 0 0 (wA ad 218)) (F0 m 7 ls []) := by
    intro n7
    induction n7 with
    | zero =>
      intro v7_2 H locs ls hm7 hv7_0 hP hS hl
      exact absurd hm7 (Nat.not_lt_zero _)
    | succ n7 ih7 =>
      intro v7_2 H locs ls hm7 hv7_0 hP hS hl
      refine lv_iload_n hx hb dX9_leastSum_7 rfl (lv_at hl 0 rfl) ?_
      refine lv_bipush (v := 15) hx hb dX9_leastSum_8 (by decide) ?_
      refine lv_icmp_gt (tgt := 29) hx hb dX9_leastSum_10 (by decide) (fun hc_5 => ?_) (fun hc_5 => ?_)
      · have hhc_5 := n_lt (by decide : (15 : Int32).toInt = 15) (rfl : v7_2.toInt = v7_2.toInt) hc_5
        refine lv_iconst (v := (-1)) hx hb dX9_leastSum_29 (by decide) ?_
        exact q_iret X hP hS rfl dX9_leastSum_30
      · have hhc_5 := n_nlt (by decide : (15 : Int32).toInt = 15) (rfl : v7_2.toInt = v7_2.toInt) hc_5
        refine lv_iload_n hx hb dX9_leastSum_13 rfl (lv_at hl 1 rfl) ?_
        refine lv_iload_n hx hb dX9_leastSum_14 rfl (lv_at hl 0 rfl) ?_
        refine lv_ishr hx hb dX9_leastSum_15 ?_
        refine lv_topi (fun z_6 ez_6 => ?_)
        refine lv_iconst (v := 1) hx hb dX9_leastSum_16 (by decide) ?_
        refine lv_iand hx hb dX9_leastSum_17 ?_
        refine lv_topi (fun z_7 ez_7 => ?_)
        have hz_7 : 0 ≤ z_7.toInt ∧ z_7.toInt ≤ 1 := n_and 1 (by decide) (by decide) (by decide) ez_7
        refine lv_if_eq (tgt := 23) hx hb dX9_leastSum_18 (by decide) (fun hc_8 => ?_) (fun hc_8 => ?_)
        · have hhc_8 := n_eq (rfl : z_7.toInt = z_7.toInt) (by decide : (0 : Int32).toInt = 0) hc_8
          obtain ⟨x_9, ex_9⟩ : ∃ y : Int32, y = v7_2 + 1 := ⟨_, rfl⟩
          have hx_9 : x_9.toInt = v7_2.toInt + 1 := n_add rfl (by decide : (1 : Int32).toInt = 1) ex_9 (by omega) (by omega)
          refine lv_iinc (v := x_9) (lv' := [(2, .int x_9), (1, .int r_3)]) hx hb dX9_leastSum_23 hl (k := 0) rfl (by rw [ex_9]; rfl) (by decide) rfl (fun ls hl => ?_)
          refine lv_goto (tgt := 7) hx hb dX9_leastSum_26 (by decide) ?_
          exact ih7 x_9 _ _ ls (by omega) (by omega) hP hS (lv_sub hl [0, 1] rfl)
        · have hhc_8 := n_ne (rfl : z_7.toInt = z_7.toInt) (by decide : (0 : Int32).toInt = 0) hc_8
          refine lv_iload_n hx hb dX9_leastSum_21 rfl (lv_at hl 0 rfl) ?_
          exact q_iret X hP hS rfl dX9_leastSum_22
  have hiv7_2 : (0 : Int32).toInt = 0 := by decide
  exact HL7 _ 0 _ _ ls (Nat.lt_succ_self _) (by omega) hP hS (lv_sub hl [0, 1] rfl)

theorem dX9_greatestSum_0 : decode cX9_greatestSum 0 = .ok (.aload_n 0, 1) := by decide +kernel
theorem dX9_greatestSum_1 : decode cX9_greatestSum 1 = .ok (.invokevirtual 79, 3) := by decide +kernel
theorem dX9_greatestSum_4 : decode cX9_greatestSum 4 = .ok (.istore_n 1, 1) := by decide +kernel
theorem dX9_greatestSum_5 : decode cX9_greatestSum 5 = .ok (.bipush 15, 2) := by decide +kernel
theorem dX9_greatestSum_7 : decode cX9_greatestSum 7 = .ok (.istore_n 2, 1) := by decide +kernel
theorem dX9_greatestSum_8 : decode cX9_greatestSum 8 = .ok (.iload_n 2, 1) := by decide +kernel
theorem dX9_greatestSum_9 : decode cX9_greatestSum 9 = .ok (.ifCond .lt 19, 3) := by decide +kernel
theorem dX9_greatestSum_12 : decode cX9_greatestSum 12 = .ok (.iload_n 1, 1) := by decide +kernel
theorem dX9_greatestSum_13 : decode cX9_greatestSum 13 = .ok (.iload_n 2, 1) := by decide +kernel
theorem dX9_greatestSum_14 : decode cX9_greatestSum 14 = .ok (.ishr, 1) := by decide +kernel
theorem dX9_greatestSum_15 : decode cX9_greatestSum 15 = .ok (.iconst 1, 1) := by decide +kernel
theorem dX9_greatestSum_16 : decode cX9_greatestSum 16 = .ok (.iand, 1) := by decide +kernel
theorem dX9_greatestSum_17 : decode cX9_greatestSum 17 = .ok (.ifCond .eq 5, 3) := by decide +kernel
theorem dX9_greatestSum_20 : decode cX9_greatestSum 20 = .ok (.iload_n 2, 1) := by decide +kernel
theorem dX9_greatestSum_21 : decode cX9_greatestSum 21 = .ok (.ireturn, 1) := by decide +kernel
theorem dX9_greatestSum_22 : decode cX9_greatestSum 22 = .ok (.iinc 2 (-1), 3) := by decide +kernel
theorem dX9_greatestSum_25 : decode cX9_greatestSum 25 = .ok (.goto (-17), 3) := by decide +kernel
theorem dX9_greatestSum_28 : decode cX9_greatestSum 28 = .ok (.iconst (-1), 1) := by decide +kernel
theorem dX9_greatestSum_29 : decode cX9_greatestSum 29 = .ok (.ireturn, 1) := by decide +kernel
noncomputable def vX9_greatestSum : List Cond := .code yX9_greatestSum cX9_greatestSum 3 (some .int) :: (([.methodLink RX9 79 yX9_sumsReached, .instanceMethod yX9_sumsReached, .selects RX9 yX9_sumsReached yX9_sumsReached, .initialized RX9] : List Cond) ++ vX9_sumsReached)
theorem gs_X9_greatestSum : Gd vX9_greatestSum := Gd.cons (by decide +kernel) (Gd.app (Gd.r (by decide +kernel)) gs_X9_sumsReached)
theorem gg_X9_greatestSum_X9_sumsReached : GoodIn vX9_greatestSum (wsV RX9 79 RX9 yX9_sumsReached vX9_sumsReached) := goodIn_app (goodIn_r _ [1, 2, 3, 4] (by decide +kernel) (by decide +kernel)) (fun w h => ⟨List.mem_cons_of_mem _ (List.mem_append_right _ (h)), gs_X9_sumsReached w h⟩)
set_option maxHeartbeats 4000000 in
set_option maxRecDepth 100000 in
theorem s_X9_greatestSum (l : Launch) (D : va_G) (cs : Nat → ClassId) (ad : Nat → Nat) (kS : kSt) (K : sK) (hKO : KO K) (hj : wJ ad 218) (g : Nat → va_E) (hW : WF (shp ad K) ad cs g) : sI l yX9_greatestSum vX9_greatestSum { frames := 1, cells := 0, slots := 0, locals := 24 } D cs ad kS [.ref (ad 130)] g (fun r g2 => g2 = g) := by
  refine Met.startS (cc := cX9_greatestSum) (maxL := 3) (ret := (some .int)) RX9 rfl (by decide) rfl (Nat.le_of_ble_eq_true rfl) ?_
  intro p e s m below meth c ls X Z hP hl
  have hx := X.1
  have hb := X.2.1
  have hS : va_S (wA ad 218) s.heap s.heap [] := va_S.rf
  have hA : ∀ i, i < 218 → wA ad 218 (ad i) := fun i h => ⟨i, h, rfl⟩
  have hl : lv_has ls 3 [(0, .ref (ad 130))] := hl
  refine lv_aload_n hx hb dX9_greatestSum_0 rfl (lv_at hl 0 rfl) ?_
  obtain ⟨fsc_4, hgc_4, hOc_4⟩ := hW.obj (i := 130) (by decide) (sh_130 ad K)
  refine s_calli (q := (RX9, TX9, 4)) (As := []) (rest := []) X Z (s_X9_sumsReached l D cs ad kS K hKO hj g hW) (cwV 0 X.2.2.2.2.1 gg_X9_greatestSum_X9_sumsReached rfl rfl rfl (by decide +kernel) ⟨Nat.le_of_ble_eq_true rfl, Nat.le_of_ble_eq_true rfl⟩) (by decide) hgc_4 rfl hP hA hS.2.1 hS rfl hl.1 rfl (Nat.le_of_ble_eq_true rfl) dX9_greatestSum_1 ⟨Nat.le_of_ble_eq_true rfl, Nat.le_of_ble_eq_true rfl⟩ (fun r_3 g_2 H locs hw_1 hP hS => ?_)
  rw [hw_1] at hP
  refine lv_istore_n (lv' := [(1, .int r_3), (0, .ref (ad 130))]) hx hb dX9_greatestSum_4 rfl hl (by decide) rfl (fun ls hl => ?_)
  refine lv_bipush (v := 15) hx hb dX9_greatestSum_5 (by decide) ?_
  refine lv_istore_n (lv' := [(2, .int 15), (1, .int r_3), (0, .ref (ad 130))]) hx hb dX9_greatestSum_7 rfl hl (by decide) rfl (fun ls hl => ?_)
  have HL8 : ∀ (n8 : Nat) (v8_2 : Int32) (H : Heap) (locs : List Loc) (ls : Array Slot), (v8_2.toInt - (-1)).toNat < n8 → ((-1) ≤ v8_2.toInt ∧ v8_2.toInt ≤ 15) → va_P D vwCl (wL ad g 218) H → va_S (wA ad 218) s.heap H locs → lv_has ls 3 [(2, .int v8_2), (1, .int r_3)] → W p l e ({ frames := 1, cells := 0, slots := 0, locals := 24 } : Room) s m ([.ref (ad 130)] : List Value).toArray below meth c H locs 0 0 (MQ below (qI D ad 218 (fun r g2 => g2 = g)) ([.ref (ad 130)] : List Value).toArray s 0 0 (wA ad 218)) (F0 m 8 ls []) := by
    intro n8
    induction n8 with
    | zero =>
      intro v8_2 H locs ls hm8 hv8_0 hP hS hl
      exact absurd hm8 (Nat.not_lt_zero _)
    | succ n8 ih8 =>
      intro v8_2 H locs ls hm8 hv8_0 hP hS hl
      refine lv_iload_n hx hb dX9_greatestSum_8 rfl (lv_at hl 0 rfl) ?_
      refine lv_if_lt (tgt := 28) hx hb dX9_greatestSum_9 (by decide) (fun hc_5 => ?_) (fun hc_5 => ?_)
      · have hhc_5 := n_lt (rfl : v8_2.toInt = v8_2.toInt) (by decide : (0 : Int32).toInt = 0) hc_5
        refine lv_iconst (v := (-1)) hx hb dX9_greatestSum_28 (by decide) ?_
        exact q_iret X hP hS rfl dX9_greatestSum_29
      · have hhc_5 := n_nlt (rfl : v8_2.toInt = v8_2.toInt) (by decide : (0 : Int32).toInt = 0) hc_5
        refine lv_iload_n hx hb dX9_greatestSum_12 rfl (lv_at hl 1 rfl) ?_
        refine lv_iload_n hx hb dX9_greatestSum_13 rfl (lv_at hl 0 rfl) ?_
        refine lv_ishr hx hb dX9_greatestSum_14 ?_
        refine lv_topi (fun z_6 ez_6 => ?_)
        refine lv_iconst (v := 1) hx hb dX9_greatestSum_15 (by decide) ?_
        refine lv_iand hx hb dX9_greatestSum_16 ?_
        refine lv_topi (fun z_7 ez_7 => ?_)
        have hz_7 : 0 ≤ z_7.toInt ∧ z_7.toInt ≤ 1 := n_and 1 (by decide) (by decide) (by decide) ez_7
        refine lv_if_eq (tgt := 22) hx hb dX9_greatestSum_17 (by decide) (fun hc_8 => ?_) (fun hc_8 => ?_)
        · have hhc_8 := n_eq (rfl : z_7.toInt = z_7.toInt) (by decide : (0 : Int32).toInt = 0) hc_8
          obtain ⟨x_9, ex_9⟩ : ∃ y : Int32, y = v8_2 + (-1) := ⟨_, rfl⟩
          have hx_9 : x_9.toInt = v8_2.toInt + (-1) := n_add rfl (by decide : (-1 : Int32).toInt = -1) ex_9 (by omega) (by omega)
          refine lv_iinc (v := x_9) (lv' := [(2, .int x_9), (1, .int r_3)]) hx hb dX9_greatestSum_22 hl (k := 0) rfl (by rw [ex_9]; rfl) (by decide) rfl (fun ls hl => ?_)
          refine lv_goto (tgt := 8) hx hb dX9_greatestSum_25 (by decide) ?_
          exact ih8 x_9 _ _ ls (by omega) (by omega) hP hS (lv_sub hl [0, 1] rfl)
        · have hhc_8 := n_ne (rfl : z_7.toInt = z_7.toInt) (by decide : (0 : Int32).toInt = 0) hc_8
          refine lv_iload_n hx hb dX9_greatestSum_20 rfl (lv_at hl 0 rfl) ?_
          exact q_iret X hP hS rfl dX9_greatestSum_21
  have hiv8_2 : (15 : Int32).toInt = 15 := by decide
  exact HL8 _ 15 _ _ ls (Nat.lt_succ_self _) (by omega) hP hS (lv_sub hl [0, 1] rfl)

theorem dX9_thawOfFirst_0 : decode cX9_thawOfFirst 0 = .ok (.iconst 0, 1) := by decide +kernel
theorem dX9_thawOfFirst_1 : decode cX9_thawOfFirst 1 = .ok (.istore_n 2, 1) := by decide +kernel
theorem dX9_thawOfFirst_2 : decode cX9_thawOfFirst 2 = .ok (.iconst (-1), 1) := by decide +kernel
theorem dX9_thawOfFirst_3 : decode cX9_thawOfFirst 3 = .ok (.istore_n 3, 1) := by decide +kernel
theorem dX9_thawOfFirst_4 : decode cX9_thawOfFirst 4 = .ok (.iconst 0, 1) := by decide +kernel
theorem dX9_thawOfFirst_5 : decode cX9_thawOfFirst 5 = .ok (.istore 4, 2) := by decide +kernel
theorem dX9_thawOfFirst_7 : decode cX9_thawOfFirst 7 = .ok (.iload 4, 2) := by decide +kernel
theorem dX9_thawOfFirst_9 : decode cX9_thawOfFirst 9 = .ok (.iload_n 1, 1) := by decide +kernel
theorem dX9_thawOfFirst_10 : decode cX9_thawOfFirst 10 = .ok (.if_icmp .gt 67, 3) := by decide +kernel
theorem dX9_thawOfFirst_13 : decode cX9_thawOfFirst 13 = .ok (.iload 4, 2) := by decide +kernel
theorem dX9_thawOfFirst_15 : decode cX9_thawOfFirst 15 = .ok (.aload_n 0, 1) := by decide +kernel
theorem dX9_thawOfFirst_16 : decode cX9_thawOfFirst 16 = .ok (.getfield 32, 3) := by decide +kernel
theorem dX9_thawOfFirst_19 : decode cX9_thawOfFirst 19 = .ok (.if_icmp .ge 58, 3) := by decide +kernel
theorem dX9_thawOfFirst_22 : decode cX9_thawOfFirst 22 = .ok (.iconst (-1), 1) := by decide +kernel
theorem dX9_thawOfFirst_23 : decode cX9_thawOfFirst 23 = .ok (.istore_n 3, 1) := by decide +kernel
theorem dX9_thawOfFirst_24 : decode cX9_thawOfFirst 24 = .ok (.iconst 0, 1) := by decide +kernel
theorem dX9_thawOfFirst_25 : decode cX9_thawOfFirst 25 = .ok (.istore 5, 2) := by decide +kernel
theorem dX9_thawOfFirst_27 : decode cX9_thawOfFirst 27 = .ok (.iload 5, 2) := by decide +kernel
theorem dX9_thawOfFirst_29 : decode cX9_thawOfFirst 29 = .ok (.iconst 3, 1) := by decide +kernel
theorem dX9_thawOfFirst_30 : decode cX9_thawOfFirst 30 = .ok (.if_icmp .gt 30, 3) := by decide +kernel
theorem dX9_thawOfFirst_33 : decode cX9_thawOfFirst 33 = .ok (.iload_n 3, 1) := by decide +kernel
theorem dX9_thawOfFirst_34 : decode cX9_thawOfFirst 34 = .ok (.iconst (-1), 1) := by decide +kernel
theorem dX9_thawOfFirst_35 : decode cX9_thawOfFirst 35 = .ok (.if_icmp .ne 25, 3) := by decide +kernel
theorem dX9_thawOfFirst_38 : decode cX9_thawOfFirst 38 = .ok (.aload_n 0, 1) := by decide +kernel
theorem dX9_thawOfFirst_39 : decode cX9_thawOfFirst 39 = .ok (.iload 4, 2) := by decide +kernel
theorem dX9_thawOfFirst_41 : decode cX9_thawOfFirst 41 = .ok (.iload_n 2, 1) := by decide +kernel
theorem dX9_thawOfFirst_42 : decode cX9_thawOfFirst 42 = .ok (.iload 5, 2) := by decide +kernel
theorem dX9_thawOfFirst_44 : decode cX9_thawOfFirst 44 = .ok (.iadd, 1) := by decide +kernel
theorem dX9_thawOfFirst_45 : decode cX9_thawOfFirst 45 = .ok (.invokevirtual 76, 3) := by decide +kernel
theorem dX9_thawOfFirst_48 : decode cX9_thawOfFirst 48 = .ok (.ifCond .le 6, 3) := by decide +kernel
theorem dX9_thawOfFirst_51 : decode cX9_thawOfFirst 51 = .ok (.iload 5, 2) := by decide +kernel
theorem dX9_thawOfFirst_53 : decode cX9_thawOfFirst 53 = .ok (.istore_n 3, 1) := by decide +kernel
theorem dX9_thawOfFirst_54 : decode cX9_thawOfFirst 54 = .ok (.iinc 5 1, 3) := by decide +kernel
theorem dX9_thawOfFirst_57 : decode cX9_thawOfFirst 57 = .ok (.goto (-30), 3) := by decide +kernel
theorem dX9_thawOfFirst_60 : decode cX9_thawOfFirst 60 = .ok (.iload_n 3, 1) := by decide +kernel
theorem dX9_thawOfFirst_61 : decode cX9_thawOfFirst 61 = .ok (.iconst (-1), 1) := by decide +kernel
theorem dX9_thawOfFirst_62 : decode cX9_thawOfFirst 62 = .ok (.if_icmp .ne 5, 3) := by decide +kernel
theorem dX9_thawOfFirst_65 : decode cX9_thawOfFirst 65 = .ok (.iconst (-1), 1) := by decide +kernel
theorem dX9_thawOfFirst_66 : decode cX9_thawOfFirst 66 = .ok (.ireturn, 1) := by decide +kernel
theorem dX9_thawOfFirst_67 : decode cX9_thawOfFirst 67 = .ok (.iload_n 2, 1) := by decide +kernel
theorem dX9_thawOfFirst_68 : decode cX9_thawOfFirst 68 = .ok (.iload_n 3, 1) := by decide +kernel
theorem dX9_thawOfFirst_69 : decode cX9_thawOfFirst 69 = .ok (.iadd, 1) := by decide +kernel
theorem dX9_thawOfFirst_70 : decode cX9_thawOfFirst 70 = .ok (.istore_n 2, 1) := by decide +kernel
theorem dX9_thawOfFirst_71 : decode cX9_thawOfFirst 71 = .ok (.iinc 4 1, 3) := by decide +kernel
theorem dX9_thawOfFirst_74 : decode cX9_thawOfFirst 74 = .ok (.goto (-67), 3) := by decide +kernel
theorem dX9_thawOfFirst_77 : decode cX9_thawOfFirst 77 = .ok (.iload_n 3, 1) := by decide +kernel
theorem dX9_thawOfFirst_78 : decode cX9_thawOfFirst 78 = .ok (.ireturn, 1) := by decide +kernel
noncomputable def vX9_thawOfFirst : List Cond := .code yX9_thawOfFirst cX9_thawOfFirst 6 (some .int) :: (([.fieldLink RX9 32 "IcicleClock$Weathers" "days" "I", .methodLink RX9 76 yX9_goingsBy, .instanceMethod yX9_goingsBy, .selects RX9 yX9_goingsBy yX9_goingsBy, .initialized RX9] : List Cond) ++ (wsX90 ++ vX9_goingsBy))
theorem iX9_thawOfFirst_9 : ∀ w ∈ wsX90, w ∈ vX9_thawOfFirst := fun _ h => List.mem_cons_of_mem _ (List.mem_append_right _ (List.mem_append_left _ h))
theorem gs_X9_thawOfFirst : Gd vX9_thawOfFirst := Gd.cons (by decide +kernel) (Gd.app (Gd.r (by decide +kernel)) (Gd.app gwX_9 gs_X9_goingsBy))
theorem gg_X9_thawOfFirst_X9_goingsBy : GoodIn vX9_thawOfFirst (wsV RX9 76 RX9 yX9_goingsBy vX9_goingsBy) := goodIn_app (goodIn_r _ [2, 3, 4, 5] (by decide +kernel) (by decide +kernel)) (fun w h => ⟨List.mem_cons_of_mem _ (List.mem_append_right _ (List.mem_append_right _ (h))), gs_X9_goingsBy w h⟩)
set_option maxHeartbeats 4000000 in
set_option maxRecDepth 100000 in
theorem s_X9_thawOfFirst (l : Launch) (D : va_G) (cs : Nat → ClassId) (ad : Nat → Nat) (kS : kSt) (K : sK) (hKO : KO K) (hj : wJ ad 218) (g : Nat → va_E) (hW : WF (shp ad K) ad cs g) (wa : Int32) : sI l yX9_thawOfFirst vX9_thawOfFirst { frames := 1, cells := 0, slots := 0, locals := 23 } D cs ad kS [.ref (ad 130), .int wa] g (fun r g2 => g2 = g) := by
  refine Met.startS (cc := cX9_thawOfFirst) (maxL := 6) (ret := (some .int)) RX9 rfl (by decide) rfl (Nat.le_of_ble_eq_true rfl) ?_
  intro p e s m below meth c ls X Z hP hl
  have hx := X.1
  have hb := X.2.1
  have hS : va_S (wA ad 218) s.heap s.heap [] := va_S.rf
  have hA : ∀ i, i < 218 → wA ad 218 (ad i) := fun i h => ⟨i, h, rfl⟩
  have hl : lv_has ls 6 [(0, .ref (ad 130)), (1, .int wa)] := hl
  refine lv_iconst (v := 0) hx hb dX9_thawOfFirst_0 (by decide) ?_
  refine lv_istore_n (lv' := [(2, .int 0), (0, .ref (ad 130)), (1, .int wa)]) hx hb dX9_thawOfFirst_1 rfl hl (by decide) rfl (fun ls hl => ?_)
  refine lv_iconst (v := (-1)) hx hb dX9_thawOfFirst_2 (by decide) ?_
  refine lv_istore_n (lv' := [(3, .int (-1)), (2, .int 0), (0, .ref (ad 130)), (1, .int wa)]) hx hb dX9_thawOfFirst_3 rfl hl (by decide) rfl (fun ls hl => ?_)
  refine lv_iconst (v := 0) hx hb dX9_thawOfFirst_4 (by decide) ?_
  refine lv_istore (lv' := [(4, .int 0), (3, .int (-1)), (2, .int 0), (0, .ref (ad 130)), (1, .int wa)]) hx hb dX9_thawOfFirst_5 hl (by decide) rfl (fun ls hl => ?_)
  have HL7 : ∀ (n7 : Nat) (v7_4 : Int32) (v7_3 : Int32) (v7_2 : Int32) (H : Heap) (locs : List Loc) (ls : Array Slot), (5 - v7_4.toInt).toNat < n7 → (0 ≤ v7_4.toInt ∧ v7_4.toInt ≤ 5) → ((-1) ≤ v7_3.toInt ∧ v7_3.toInt ≤ 3) → (0 ≤ v7_2.toInt ∧ v7_2.toInt ≤ 15) → v7_2.toInt ≤ 3 * v7_4.toInt → va_P D vwCl (wL ad g 218) H → va_S (wA ad 218) s.heap H locs → lv_has ls 6 [(4, .int v7_4), (3, .int v7_3), (2, .int v7_2), (0, .ref (ad 130)), (1, .int wa)] → W p l e ({ frames := 1, cells := 0, slots := 0, locals := 23 } : Room) s m ([.ref (ad 130), .int wa] : List Value).toArray below meth c H locs 0 0 (MQ below (qI D ad 218 (fun r g2 => g2 = g)) ([.ref (ad 130), .int wa] : List Value).toArray s 0 0 (wA ad 218)) (F0 m 7 ls []) := by
    intro n7
    induction n7 with
    | zero =>
      intro v7_4 v7_3 v7_2 H locs ls hm7 hv7_0 hv7_1 hv7_2 he7_0 hP hS hl
      exact absurd hm7 (Nat.not_lt_zero _)
    | succ n7 ih7 =>
      intro v7_4 v7_3 v7_2 H locs ls hm7 hv7_0 hv7_1 hv7_2 he7_0 hP hS hl
      refine lv_iload hx hb dX9_thawOfFirst_7 (lv_at hl 0 rfl) ?_
      refine lv_iload_n hx hb dX9_thawOfFirst_9 rfl (lv_at hl 4 rfl) ?_
      have HJ77 : ∀ (H : Heap) (locs : List Loc) (ls : Array Slot), va_P D vwCl (wL ad g 218) H → va_S (wA ad 218) s.heap H locs → lv_has ls 6 [(3, .int v7_3)] → W p l e ({ frames := 1, cells := 0, slots := 0, locals := 23 } : Room) s m ([.ref (ad 130), .int wa] : List Value).toArray below meth c H locs 0 0 (MQ below (qI D ad 218 (fun r g2 => g2 = g)) ([.ref (ad 130), .int wa] : List Value).toArray s 0 0 (wA ad 218)) (F0 m 77 ls []) := by
        intro H locs ls hP hS hl
        refine lv_iload_n hx hb dX9_thawOfFirst_77 rfl (lv_at hl 0 rfl) ?_
        exact q_iret X hP hS rfl dX9_thawOfFirst_78
      refine lv_icmp_gt (tgt := 77) hx hb dX9_thawOfFirst_10 (by decide) (fun hc_1 => ?_) (fun hc_1 => ?_)
      · have hhc_1 := n_lt (rfl : wa.toInt = wa.toInt) (rfl : v7_4.toInt = v7_4.toInt) hc_1
        have := n_hi wa
        have := n_lo wa
        exact HJ77 _ _ ls hP hS (lv_sub hl [1] rfl)
      · have hhc_1 := n_nlt (rfl : wa.toInt = wa.toInt) (rfl : v7_4.toInt = v7_4.toInt) hc_1
        have := n_hi wa
        have := n_lo wa
        refine lv_iload hx hb dX9_thawOfFirst_13 (lv_at hl 0 rfl) ?_
        refine lv_aload_n hx hb dX9_thawOfFirst_15 rfl (lv_at hl 3 rfl) ?_
        obtain ⟨fsc_2, hgc_2, hOc_2⟩ := hW.obj (i := 130) (by decide) (sh_130 ad K)
        obtain ⟨x_4, hk_3, hlx_4, hhx_4⟩ := hOc_2.int 3 rfl
        refine q_get X iX9_thawOfFirst_9 hP (by decide) hgc_2 rfl 3 (by decide) (List.mem_of_getElem? (i := 1) rfl) (v := .int x_4) hk_3 dX9_thawOfFirst_16 ?_
        refine lv_icmp_ge (tgt := 77) hx hb dX9_thawOfFirst_19 (by decide) (fun hc_5 => ?_) (fun hc_5 => ?_)
        · have hhc_5 := n_le (rfl : x_4.toInt = x_4.toInt) (rfl : v7_4.toInt = v7_4.toInt) hc_5
          exact HJ77 _ _ ls hP hS (lv_sub hl [1] rfl)
        · have hhc_5 := n_nle (rfl : x_4.toInt = x_4.toInt) (rfl : v7_4.toInt = v7_4.toInt) hc_5
          refine lv_iconst (v := (-1)) hx hb dX9_thawOfFirst_22 (by decide) ?_
          refine lv_istore_n (lv' := [(3, .int (-1)), (4, .int v7_4), (2, .int v7_2), (0, .ref (ad 130)), (1, .int wa)]) hx hb dX9_thawOfFirst_23 rfl hl (by decide) rfl (fun ls hl => ?_)
          refine lv_iconst (v := 0) hx hb dX9_thawOfFirst_24 (by decide) ?_
          refine lv_istore (lv' := [(5, .int 0), (3, .int (-1)), (4, .int v7_4), (2, .int v7_2), (0, .ref (ad 130)), (1, .int wa)]) hx hb dX9_thawOfFirst_25 hl (by decide) rfl (fun ls hl => ?_)
          have HL27 : ∀ (n27 : Nat) (v27_5 : Int32) (v27_3 : Int32) (H : Heap) (locs : List Loc) (ls : Array Slot), (4 - v27_5.toInt).toNat < n27 → (0 ≤ v27_5.toInt ∧ v27_5.toInt ≤ 4) → ((-1) ≤ v27_3.toInt ∧ v27_3.toInt ≤ 3) → va_P D vwCl (wL ad g 218) H → va_S (wA ad 218) s.heap H locs → lv_has ls 6 [(5, .int v27_5), (3, .int v27_3), (4, .int v7_4), (2, .int v7_2), (0, .ref (ad 130)), (1, .int wa)] → W p l e ({ frames := 1, cells := 0, slots := 0, locals := 23 } : Room) s m ([.ref (ad 130), .int wa] : List Value).toArray below meth c H locs 0 0 (MQ below (qI D ad 218 (fun r g2 => g2 = g)) ([.ref (ad 130), .int wa] : List Value).toArray s 0 0 (wA ad 218)) (F0 m 27 ls []) := by
            intro n27
            induction n27 with
            | zero =>
              intro v27_5 v27_3 H locs ls hm27 hv27_0 hv27_1 hP hS hl
              exact absurd hm27 (Nat.not_lt_zero _)
            | succ n27 ih27 =>
              intro v27_5 v27_3 H locs ls hm27 hv27_0 hv27_1 hP hS hl
              refine lv_iload hx hb dX9_thawOfFirst_27 (lv_at hl 0 rfl) ?_
              refine lv_iconst (v := 3) hx hb dX9_thawOfFirst_29 (by decide) ?_
              have HJ60 : ∀ (H : Heap) (locs : List Loc) (ls : Array Slot), va_P D vwCl (wL ad g 218) H → va_S (wA ad 218) s.heap H locs → lv_has ls 6 [(3, .int v27_3), (4, .int v7_4), (2, .int v7_2), (0, .ref (ad 130)), (1, .int wa)] → W p l e ({ frames := 1, cells := 0, slots := 0, locals := 23 } : Room) s m ([.ref (ad 130), .int wa] : List Value).toArray below meth c H locs 0 0 (MQ below (qI D ad 218 (fun r g2 => g2 = g)) ([.ref (ad 130), .int wa] : List Value).toArray s 0 0 (wA ad 218)) (F0 m 60 ls []) := by
                intro H locs ls hP hS hl
                refine lv_iload_n hx hb dX9_thawOfFirst_60 rfl (lv_at hl 0 rfl) ?_
                refine lv_iconst (v := (-1)) hx hb dX9_thawOfFirst_61 (by decide) ?_
                refine lv_icmp_ne (tgt := 67) hx hb dX9_thawOfFirst_62 (by decide) (fun hc_6 => ?_) (fun hc_6 => ?_)
                · have hhc_6 := n_ne (rfl : v27_3.toInt = v27_3.toInt) (by decide : (-1 : Int32).toInt = -1) hc_6
                  refine lv_iload_n hx hb dX9_thawOfFirst_67 rfl (lv_at hl 2 rfl) ?_
                  refine lv_iload_n hx hb dX9_thawOfFirst_68 rfl (lv_at hl 0 rfl) ?_
                  refine lv_iadd hx hb dX9_thawOfFirst_69 ?_
                  refine lv_topi (fun z_7 ez_7 => ?_)
                  have hz_7 : z_7.toInt = v7_2.toInt + v27_3.toInt := n_add (rfl : v7_2.toInt = v7_2.toInt) (rfl : v27_3.toInt = v27_3.toInt) ez_7 (by omega) (by omega)
                  refine lv_istore_n (lv' := [(2, .int z_7), (3, .int v27_3), (4, .int v7_4), (0, .ref (ad 130)), (1, .int wa)]) hx hb dX9_thawOfFirst_70 rfl hl (by decide) rfl (fun ls hl => ?_)
                  obtain ⟨x_8, ex_8⟩ : ∃ y : Int32, y = v7_4 + 1 := ⟨_, rfl⟩
                  have hx_8 : x_8.toInt = v7_4.toInt + 1 := n_add rfl (by decide : (1 : Int32).toInt = 1) ex_8 (by omega) (by omega)
                  refine lv_iinc (v := x_8) (lv' := [(4, .int x_8), (2, .int z_7), (3, .int v27_3), (0, .ref (ad 130)), (1, .int wa)]) hx hb dX9_thawOfFirst_71 hl (k := 2) rfl (by rw [ex_8]; rfl) (by decide) rfl (fun ls hl => ?_)
                  refine lv_goto (tgt := 7) hx hb dX9_thawOfFirst_74 (by decide) ?_
                  exact ih7 x_8 v27_3 z_7 _ _ ls (by omega) (by omega) (by omega) (by omega) (by omega) hP hS (lv_sub hl [0, 2, 1, 3, 4] rfl)
                · have hhc_6 := n_eq (rfl : v27_3.toInt = v27_3.toInt) (by decide : (-1 : Int32).toInt = -1) hc_6
                  refine lv_iconst (v := (-1)) hx hb dX9_thawOfFirst_65 (by decide) ?_
                  exact q_iret X hP hS rfl dX9_thawOfFirst_66
              refine lv_icmp_gt (tgt := 60) hx hb dX9_thawOfFirst_30 (by decide) (fun hc_9 => ?_) (fun hc_9 => ?_)
              · have hhc_9 := n_lt (by decide : (3 : Int32).toInt = 3) (rfl : v27_5.toInt = v27_5.toInt) hc_9
                exact HJ60 _ _ ls hP hS (lv_sub hl [1, 2, 3, 4, 5] rfl)
              · have hhc_9 := n_nlt (by decide : (3 : Int32).toInt = 3) (rfl : v27_5.toInt = v27_5.toInt) hc_9
                refine lv_iload_n hx hb dX9_thawOfFirst_33 rfl (lv_at hl 1 rfl) ?_
                refine lv_iconst (v := (-1)) hx hb dX9_thawOfFirst_34 (by decide) ?_
                refine lv_icmp_ne (tgt := 60) hx hb dX9_thawOfFirst_35 (by decide) (fun hc_10 => ?_) (fun hc_10 => ?_)
                · have hhc_10 := n_ne (rfl : v27_3.toInt = v27_3.toInt) (by decide : (-1 : Int32).toInt = -1) hc_10
                  exact HJ60 _ _ ls hP hS (lv_sub hl [1, 2, 3, 4, 5] rfl)
                · have hhc_10 := n_eq (rfl : v27_3.toInt = v27_3.toInt) (by decide : (-1 : Int32).toInt = -1) hc_10
                  refine lv_aload_n hx hb dX9_thawOfFirst_38 rfl (lv_at hl 4 rfl) ?_
                  refine lv_iload hx hb dX9_thawOfFirst_39 (lv_at hl 2 rfl) ?_
                  refine lv_iload_n hx hb dX9_thawOfFirst_41 rfl (lv_at hl 3 rfl) ?_
                  refine lv_iload hx hb dX9_thawOfFirst_42 (lv_at hl 0 rfl) ?_
                  refine lv_iadd hx hb dX9_thawOfFirst_44 ?_
                  refine lv_topi (fun z_11 ez_11 => ?_)
                  have hz_11 : z_11.toInt = v7_2.toInt + v27_5.toInt := n_add (rfl : v7_2.toInt = v7_2.toInt) (rfl : v27_5.toInt = v27_5.toInt) ez_11 (by omega) (by omega)
                  refine s_calli (q := (RX9, TX9, 4)) (As := [.int v7_4, .int z_11]) (rest := []) X Z (s_X9_goingsBy l D cs ad kS K hKO hj g hW v7_4 z_11 (by omega) (by omega)) (cwV 2 X.2.2.2.2.1 gg_X9_thawOfFirst_X9_goingsBy rfl rfl rfl (by decide +kernel) ⟨Nat.le_of_ble_eq_true rfl, Nat.le_of_ble_eq_true rfl⟩) (by decide) hgc_2 rfl hP hA hS.2.1 hS rfl hl.1 rfl (Nat.le_of_ble_eq_true rfl) dX9_thawOfFirst_45 ⟨Nat.le_of_ble_eq_true rfl, Nat.le_of_ble_eq_true rfl⟩ (fun r_14 g_13 H locs hw_12 hP hS => ?_)
                  rw [hw_12] at hP
                  have HJ54 : ∀ (v54_3 : Int32) (H : Heap) (locs : List Loc) (ls : Array Slot), ((-1) ≤ v54_3.toInt ∧ v54_3.toInt ≤ 3) → va_P D vwCl (wL ad g 218) H → va_S (wA ad 218) s.heap H locs → lv_has ls 6 [(5, .int v27_5), (3, .int v54_3), (4, .int v7_4), (2, .int v7_2), (0, .ref (ad 130)), (1, .int wa)] → W p l e ({ frames := 1, cells := 0, slots := 0, locals := 23 } : Room) s m ([.ref (ad 130), .int wa] : List Value).toArray below meth c H locs 0 0 (MQ below (qI D ad 218 (fun r g2 => g2 = g)) ([.ref (ad 130), .int wa] : List Value).toArray s 0 0 (wA ad 218)) (F0 m 54 ls []) := by
                    intro v54_3 H locs ls hv54_0 hP hS hl
                    obtain ⟨x_15, ex_15⟩ : ∃ y : Int32, y = v27_5 + 1 := ⟨_, rfl⟩
                    have hx_15 : x_15.toInt = v27_5.toInt + 1 := n_add rfl (by decide : (1 : Int32).toInt = 1) ex_15 (by omega) (by omega)
                    refine lv_iinc (v := x_15) (lv' := [(5, .int x_15), (3, .int v54_3), (4, .int v7_4), (2, .int v7_2), (0, .ref (ad 130)), (1, .int wa)]) hx hb dX9_thawOfFirst_54 hl (k := 0) rfl (by rw [ex_15]; rfl) (by decide) rfl (fun ls hl => ?_)
                    refine lv_goto (tgt := 27) hx hb dX9_thawOfFirst_57 (by decide) ?_
                    exact ih27 x_15 v54_3 _ _ ls (by omega) (by omega) (by omega) hP hS (lv_sub hl [0, 1, 2, 3, 4, 5] rfl)
                  refine lv_if_le (tgt := 54) hx hb dX9_thawOfFirst_48 (by decide) (fun hc_16 => ?_) (fun hc_16 => ?_)
                  · have hhc_16 := n_le (rfl : r_14.toInt = r_14.toInt) (by decide : (0 : Int32).toInt = 0) hc_16
                    exact HJ54 v27_3 _ _ ls (by omega) hP hS (lv_sub hl [0, 1, 2, 3, 4, 5] rfl)
                  · have hhc_16 := n_nle (rfl : r_14.toInt = r_14.toInt) (by decide : (0 : Int32).toInt = 0) hc_16
                    refine lv_iload hx hb dX9_thawOfFirst_51 (lv_at hl 0 rfl) ?_
                    refine lv_istore_n (lv' := [(3, .int v27_5), (5, .int v27_5), (4, .int v7_4), (2, .int v7_2), (0, .ref (ad 130)), (1, .int wa)]) hx hb dX9_thawOfFirst_53 rfl hl (by decide) rfl (fun ls hl => ?_)
                    exact HJ54 v27_5 _ _ ls (by omega) hP hS (lv_sub hl [1, 0, 2, 3, 4, 5] rfl)
          have hiv27_5 : (0 : Int32).toInt = 0 := by decide
          have hiv27_3 : ((-1) : Int32).toInt = -1 := by decide
          exact HL27 _ 0 (-1) _ _ ls (Nat.lt_succ_self _) (by omega) (by omega) hP hS (lv_sub hl [0, 1, 2, 3, 4, 5] rfl)
  have hiv7_4 : (0 : Int32).toInt = 0 := by decide
  have hiv7_3 : ((-1) : Int32).toInt = -1 := by decide
  have hiv7_2 : (0 : Int32).toInt = 0 := by decide
  exact HL7 _ 0 (-1) 0 _ _ ls (Nat.lt_succ_self _) (by omega) (by omega) (by omega) (by omega) hP hS (lv_sub hl [0, 1, 2, 3, 4] rfl)

theorem dX11_weathers_0 : decode cX11_weathers 0 = .ok (.aload_n 0, 1) := by decide +kernel
theorem dX11_weathers_1 : decode cX11_weathers 1 = .ok (.iload_n 1, 1) := by decide +kernel
theorem dX11_weathers_2 : decode cX11_weathers 2 = .ok (.iload_n 2, 1) := by decide +kernel
theorem dX11_weathers_3 : decode cX11_weathers 3 = .ok (.iconst 1, 1) := by decide +kernel
theorem dX11_weathers_4 : decode cX11_weathers 4 = .ok (.invokevirtual 281, 3) := by decide +kernel
theorem dX11_weathers_7 : decode cX11_weathers 7 = .ok (.istore_n 3, 1) := by decide +kernel
theorem dX11_weathers_8 : decode cX11_weathers 8 = .ok (.iload_n 3, 1) := by decide +kernel
theorem dX11_weathers_9 : decode cX11_weathers 9 = .ok (.ifCond .eq 5, 3) := by decide +kernel
theorem dX11_weathers_12 : decode cX11_weathers 12 = .ok (.iload_n 3, 1) := by decide +kernel
theorem dX11_weathers_13 : decode cX11_weathers 13 = .ok (.ireturn, 1) := by decide +kernel
theorem dX11_weathers_14 : decode cX11_weathers 14 = .ok (.aload_n 0, 1) := by decide +kernel
theorem dX11_weathers_15 : decode cX11_weathers 15 = .ok (.getfield 68, 3) := by decide +kernel
theorem dX11_weathers_18 : decode cX11_weathers 18 = .ok (.aload_n 0, 1) := by decide +kernel
theorem dX11_weathers_19 : decode cX11_weathers 19 = .ok (.getfield 19, 3) := by decide +kernel
theorem dX11_weathers_22 : decode cX11_weathers 22 = .ok (.aload_n 0, 1) := by decide +kernel
theorem dX11_weathers_23 : decode cX11_weathers 23 = .ok (.getfield 54, 3) := by decide +kernel
theorem dX11_weathers_26 : decode cX11_weathers 26 = .ok (.iload_n 2, 1) := by decide +kernel
theorem dX11_weathers_27 : decode cX11_weathers 27 = .ok (.invokevirtual 285, 3) := by decide +kernel
theorem dX11_weathers_30 : decode cX11_weathers 30 = .ok (.aload_n 0, 1) := by decide +kernel
theorem dX11_weathers_31 : decode cX11_weathers 31 = .ok (.getfield 68, 3) := by decide +kernel
theorem dX11_weathers_34 : decode cX11_weathers 34 = .ok (.invokevirtual 288, 3) := by decide +kernel
theorem dX11_weathers_37 : decode cX11_weathers 37 = .ok (.ireturn, 1) := by decide +kernel
noncomputable def vX11_weathers : List Cond := .code yX11_weathers cX11_weathers 4 (some .int) :: (([.methodLink RX11 281 yX11_weatherRefusal, .instanceMethod yX11_weatherRefusal, .selects RX11 yX11_weatherRefusal yX11_weatherRefusal, .initialized RX11, .fieldLink RX11 68 "IcicleClock" "skies" "LIcicleClock$Weathers;", .fieldLink RX11 19 "IcicleClock" "now" "LIcicleClock$Street;", .fieldLink RX11 54 "IcicleClock" "seen" "LIcicleClock$Seen;", .methodLink RX11 285 yX9_search, .instanceMethod yX9_search, .selects RX9 yX9_search yX9_search, .initialized RX9, .methodLink RX11 288 yX9_fitting, .instanceMethod yX9_fitting, .selects RX9 yX9_fitting yX9_fitting] : List Cond) ++ (wsX110 ++ (vX11_weatherRefusal ++ (vX9_search ++ vX9_fitting))))
theorem iX11_weathers_11 : ∀ w ∈ wsX110, w ∈ vX11_weathers := fun _ h => List.mem_cons_of_mem _ (List.mem_append_right _ (List.mem_append_left _ h))
theorem gs_X11_weathers : Gd vX11_weathers := Gd.cons (by decide +kernel) (Gd.app (Gd.r (by decide +kernel)) (Gd.app gwX_11 (Gd.app gs_X11_weatherRefusal (Gd.app gs_X9_search gs_X9_fitting))))
theorem gg_X11_weathers_X11_weatherRefusal : GoodIn vX11_weathers (wsV RX11 281 RX11 yX11_weatherRefusal vX11_weatherRefusal) := goodIn_app (goodIn_r _ [1, 2, 3, 4] (by decide +kernel) (by decide +kernel)) (fun w h => ⟨List.mem_cons_of_mem _ (List.mem_append_right _ (List.mem_append_right _ (List.mem_append_left _ h))), gs_X11_weatherRefusal w h⟩)
theorem gg_X11_weathers_X9_search : GoodIn vX11_weathers (wsV RX11 285 RX9 yX9_search vX9_search) := goodIn_app (goodIn_r _ [8, 9, 10, 11] (by decide +kernel) (by decide +kernel)) (fun w h => ⟨List.mem_cons_of_mem _ (List.mem_append_right _ (List.mem_append_right _ (List.mem_append_right _ (List.mem_append_left _ h)))), gs_X9_search w h⟩)
theorem gg_X11_weathers_X9_fitting : GoodIn vX11_weathers (wsV RX11 288 RX9 yX9_fitting vX9_fitting) := goodIn_app (goodIn_r _ [12, 13, 14, 11] (by decide +kernel) (by decide +kernel)) (fun w h => ⟨List.mem_cons_of_mem _ (List.mem_append_right _ (List.mem_append_right _ (List.mem_append_right _ (List.mem_append_right _ (h))))), gs_X9_fitting w h⟩)
set_option maxHeartbeats 4000000 in
set_option maxRecDepth 100000 in
theorem s_X11_weathers (l : Launch) (D : va_G) (cs : Nat → ClassId) (ad : Nat → Nat) (kS : kSt) (K : sK) (hKO : KO K) (hj : wJ ad 218) (g : Nat → va_E) (hW : WF (shp ad K) ad cs g) (sl : Int32) (nn : Int32) : sI l yX11_weathers vX11_weathers { frames := 4, cells := 0, slots := 0, locals := 98 } D cs ad kS [.ref (ad 0), .int sl, .int nn] g (fun r g2 => WF (shp ad K) ad cs g2 ∧ (∀ j, j ≠ 130 ∧ j ≠ 131 ∧ j ≠ 132 ∧ (j < 134 ∨ 140 ≤ j) ∧ j ≠ 118 ∧ j ≠ 119 → g2 j = g j)) := by
  refine Met.startS (cc := cX11_weathers) (maxL := 4) (ret := (some .int)) RX11 rfl (by decide) rfl (Nat.le_of_ble_eq_true rfl) ?_
  intro p e s m below meth c ls X Z hP hl
  have hx := X.1
  have hb := X.2.1
  have hS : va_S (wA ad 218) s.heap s.heap [] := va_S.rf
  have hA : ∀ i, i < 218 → wA ad 218 (ad i) := fun i h => ⟨i, h, rfl⟩
  have hfr : ∀ j, j ≠ 130 ∧ j ≠ 131 ∧ j ≠ 132 ∧ (j < 134 ∨ 140 ≤ j) ∧ j ≠ 118 ∧ j ≠ 119 → g j = g j := fun _ _ => rfl
  have hl : lv_has ls 4 [(0, .ref (ad 0)), (1, .int sl), (2, .int nn)] := hl
  refine lv_aload_n hx hb dX11_weathers_0 rfl (lv_at hl 0 rfl) ?_
  refine lv_iload_n hx hb dX11_weathers_1 rfl (lv_at hl 1 rfl) ?_
  refine lv_iload_n hx hb dX11_weathers_2 rfl (lv_at hl 2 rfl) ?_
  refine lv_iconst (v := 1) hx hb dX11_weathers_3 (by decide) ?_
  have hqk_1 : (1 : Int32).toInt = 1 := by decide
  obtain ⟨fsc_5, hgc_5, hOc_5⟩ := hW.obj (i := 0) (by decide) (sh_0 ad K)
  refine s_calli (q := (RX11, TX11, 14)) (As := [.int sl, .int nn, .int 1]) (rest := []) X Z (s_X11_weatherRefusal l D cs ad kS K hKO hj g hW sl nn 1 (by omega)) (cwV 3 X.2.2.2.2.1 gg_X11_weathers_X11_weatherRefusal rfl rfl rfl (by decide +kernel) ⟨Nat.le_of_ble_eq_true rfl, Nat.le_of_ble_eq_true rfl⟩) (by decide) hgc_5 rfl hP hA hS.2.1 hS rfl hl.1 rfl (Nat.le_of_ble_eq_true rfl) dX11_weathers_4 ⟨Nat.le_of_ble_eq_true rfl, Nat.le_of_ble_eq_true rfl⟩ (fun r_4 g_3 H locs hw_2 hP hS => ?_)
  obtain ⟨hw_2W, hw_2f⟩ := hw_2
  have hfr_6 : ∀ j, j ≠ 130 ∧ j ≠ 131 ∧ j ≠ 132 ∧ (j < 134 ∨ 140 ≤ j) ∧ j ≠ 118 ∧ j ≠ 119 → g_3 j = g j := fun j hj => (hw_2f j (by omega)).trans (hfr j hj)
  have hg_7 := (hw_2f 0 (by omega)).trans hgc_5
  refine lv_istore_n (lv' := [(3, .int r_4), (0, .ref (ad 0)), (1, .int sl), (2, .int nn)]) hx hb dX11_weathers_7 rfl hl (by decide) rfl (fun ls hl => ?_)
  refine lv_iload_n hx hb dX11_weathers_8 rfl (lv_at hl 0 rfl) ?_
  refine lv_if_eq (tgt := 14) hx hb dX11_weathers_9 (by decide) (fun hc_8 => ?_) (fun hc_8 => ?_)
  · have hhc_8 := n_eq (rfl : r_4.toInt = r_4.toInt) (by decide : (0 : Int32).toInt = 0) hc_8
    refine lv_aload_n hx hb dX11_weathers_14 rfl (lv_at hl 1 rfl) ?_
    have hk_9 := hOc_5.ref 10 rfl
    refine q_get X iX11_weathers_11 hP (by decide) hg_7 rfl 10 (by decide) (List.mem_of_getElem? (i := 5) rfl) (v := .ref (ad 130)) hk_9 dX11_weathers_15 ?_
    refine lv_aload_n hx hb dX11_weathers_18 rfl (lv_at hl 1 rfl) ?_
    have hk_10 := hOc_5.ref 1 rfl
    refine q_get X iX11_weathers_11 hP (by decide) hg_7 rfl 1 (by decide) (List.mem_of_getElem? (i := 6) rfl) (v := .ref (ad 3)) hk_10 dX11_weathers_19 ?_
    refine lv_aload_n hx hb dX11_weathers_22 rfl (lv_at hl 1 rfl) ?_
    have hk_11 := hOc_5.ref 8 rfl
    refine q_get X iX11_weathers_11 hP (by decide) hg_7 rfl 8 (by decide) (List.mem_of_getElem? (i := 7) rfl) (v := .ref (ad 118)) hk_11 dX11_weathers_23 ?_
    refine lv_iload_n hx hb dX11_weathers_26 rfl (lv_at hl 3 rfl) ?_
    obtain ⟨fsc_15, hgc_15, hOc_15⟩ := hw_2W.obj (i := 130) (by decide) (sh_130 ad K)
    refine s_callv (q := (RX9, TX9, 4)) (As := [.ref (ad 3), .ref (ad 118), .int nn]) (rest := []) X Z (s_X9_search l D cs ad kS K hKO hj g_3 hw_2W nn) (cwV 3 X.2.2.2.2.1 gg_X11_weathers_X9_search rfl rfl rfl (by decide +kernel) ⟨Nat.le_of_ble_eq_true rfl, Nat.le_of_ble_eq_true rfl⟩) (by decide) hgc_15 rfl hP hA hS.2.1 hS rfl hl.1 rfl (Nat.le_of_ble_eq_true rfl) dX11_weathers_27 ⟨Nat.le_of_ble_eq_true rfl, Nat.le_of_ble_eq_true rfl⟩ (fun g_13 H locs hw_12 hP hS => ?_)
    obtain ⟨hw_12W, hw_12f⟩ := hw_12
    have hfr_16 : ∀ j, j ≠ 130 ∧ j ≠ 131 ∧ j ≠ 132 ∧ (j < 134 ∨ 140 ≤ j) ∧ j ≠ 118 ∧ j ≠ 119 → g_13 j = g j := fun j hj => (hw_12f j (by omega)).trans (hfr_6 j hj)
    have hg_17 := (hw_12f 0 (by omega)).trans hg_7
    refine lv_aload_n hx hb dX11_weathers_30 rfl (lv_at hl 1 rfl) ?_
    refine q_get X iX11_weathers_11 hP (by decide) hg_17 rfl 10 (by decide) (List.mem_of_getElem? (i := 5) rfl) (v := .ref (ad 130)) hk_9 dX11_weathers_31 ?_
    obtain ⟨fsc_21, hgc_21, hOc_21⟩ := hw_12W.obj (i := 130) (by decide) (sh_130 ad K)
    refine s_calli (q := (RX9, TX9, 4)) (As := []) (rest := []) X Z (s_X9_fitting l D cs ad kS K hKO hj g_13 hw_12W) (cwV 0 X.2.2.2.2.1 gg_X11_weathers_X9_fitting rfl rfl rfl (by decide +kernel) ⟨Nat.le_of_ble_eq_true rfl, Nat.le_of_ble_eq_true rfl⟩) (by decide) hgc_21 rfl hP hA hS.2.1 hS rfl hl.1 rfl (Nat.le_of_ble_eq_true rfl) dX11_weathers_34 ⟨Nat.le_of_ble_eq_true rfl, Nat.le_of_ble_eq_true rfl⟩ (fun r_20 g_19 H locs hw_18 hP hS => ?_)
    rw [hw_18] at hP
    exact q_iret X hP hS ⟨hw_12W, hfr_16⟩ dX11_weathers_37
  · have hhc_8 := n_ne (rfl : r_4.toInt = r_4.toInt) (by decide : (0 : Int32).toInt = 0) hc_8
    refine lv_iload_n hx hb dX11_weathers_12 rfl (lv_at hl 0 rfl) ?_
    exact q_iret X hP hS ⟨hw_2W, hfr_6⟩ dX11_weathers_13

theorem dX11_weather_0 : decode cX11_weather 0 = .ok (.aload_n 0, 1) := by decide +kernel
theorem dX11_weather_1 : decode cX11_weather 1 = .ok (.iload_n 1, 1) := by decide +kernel
theorem dX11_weather_2 : decode cX11_weather 2 = .ok (.iload_n 2, 1) := by decide +kernel
theorem dX11_weather_3 : decode cX11_weather 3 = .ok (.iload_n 3, 1) := by decide +kernel
theorem dX11_weather_4 : decode cX11_weather 4 = .ok (.ifCond .lt 12, 3) := by decide +kernel
theorem dX11_weather_7 : decode cX11_weather 7 = .ok (.iload_n 3, 1) := by decide +kernel
theorem dX11_weather_8 : decode cX11_weather 8 = .ok (.iload_n 2, 1) := by decide +kernel
theorem dX11_weather_9 : decode cX11_weather 9 = .ok (.if_icmp .ge 7, 3) := by decide +kernel
theorem dX11_weather_12 : decode cX11_weather 12 = .ok (.iconst 1, 1) := by decide +kernel
theorem dX11_weather_13 : decode cX11_weather 13 = .ok (.goto 4, 3) := by decide +kernel
theorem dX11_weather_16 : decode cX11_weather 16 = .ok (.iconst 0, 1) := by decide +kernel
theorem dX11_weather_17 : decode cX11_weather 17 = .ok (.invokevirtual 281, 3) := by decide +kernel
theorem dX11_weather_20 : decode cX11_weather 20 = .ok (.istore 4, 2) := by decide +kernel
theorem dX11_weather_22 : decode cX11_weather 22 = .ok (.iload 4, 2) := by decide +kernel
theorem dX11_weather_24 : decode cX11_weather 24 = .ok (.ifCond .eq 6, 3) := by decide +kernel
theorem dX11_weather_27 : decode cX11_weather 27 = .ok (.iload 4, 2) := by decide +kernel
theorem dX11_weather_29 : decode cX11_weather 29 = .ok (.ireturn, 1) := by decide +kernel
theorem dX11_weather_30 : decode cX11_weather 30 = .ok (.aload_n 0, 1) := by decide +kernel
theorem dX11_weather_31 : decode cX11_weather 31 = .ok (.getfield 68, 3) := by decide +kernel
theorem dX11_weather_34 : decode cX11_weather 34 = .ok (.aload_n 0, 1) := by decide +kernel
theorem dX11_weather_35 : decode cX11_weather 35 = .ok (.getfield 19, 3) := by decide +kernel
theorem dX11_weather_38 : decode cX11_weather 38 = .ok (.aload_n 0, 1) := by decide +kernel
theorem dX11_weather_39 : decode cX11_weather 39 = .ok (.getfield 54, 3) := by decide +kernel
theorem dX11_weather_42 : decode cX11_weather 42 = .ok (.iload_n 2, 1) := by decide +kernel
theorem dX11_weather_43 : decode cX11_weather 43 = .ok (.invokevirtual 285, 3) := by decide +kernel
theorem dX11_weather_46 : decode cX11_weather 46 = .ok (.aload_n 0, 1) := by decide +kernel
theorem dX11_weather_47 : decode cX11_weather 47 = .ok (.getfield 68, 3) := by decide +kernel
theorem dX11_weather_50 : decode cX11_weather 50 = .ok (.iload_n 3, 1) := by decide +kernel
theorem dX11_weather_51 : decode cX11_weather 51 = .ok (.invokevirtual 291, 3) := by decide +kernel
theorem dX11_weather_54 : decode cX11_weather 54 = .ok (.ireturn, 1) := by decide +kernel
noncomputable def vX11_weather : List Cond := .code yX11_weather cX11_weather 5 (some .int) :: (([.methodLink RX11 281 yX11_weatherRefusal, .instanceMethod yX11_weatherRefusal, .selects RX11 yX11_weatherRefusal yX11_weatherRefusal, .initialized RX11, .fieldLink RX11 68 "IcicleClock" "skies" "LIcicleClock$Weathers;", .fieldLink RX11 19 "IcicleClock" "now" "LIcicleClock$Street;", .fieldLink RX11 54 "IcicleClock" "seen" "LIcicleClock$Seen;", .methodLink RX11 285 yX9_search, .instanceMethod yX9_search, .selects RX9 yX9_search yX9_search, .initialized RX9, .methodLink RX11 291 yX9_thawOfFirst, .instanceMethod yX9_thawOfFirst, .selects RX9 yX9_thawOfFirst yX9_thawOfFirst] : List Cond) ++ (wsX110 ++ (vX11_weatherRefusal ++ (vX9_search ++ vX9_thawOfFirst))))
theorem iX11_weather_11 : ∀ w ∈ wsX110, w ∈ vX11_weather := fun _ h => List.mem_cons_of_mem _ (List.mem_append_right _ (List.mem_append_left _ h))
theorem gs_X11_weather : Gd vX11_weather := Gd.cons (by decide +kernel) (Gd.app (Gd.r (by decide +kernel)) (Gd.app gwX_11 (Gd.app gs_X11_weatherRefusal (Gd.app gs_X9_search gs_X9_thawOfFirst))))
theorem gg_X11_weather_X11_weatherRefusal : GoodIn vX11_weather (wsV RX11 281 RX11 yX11_weatherRefusal vX11_weatherRefusal) := goodIn_app (goodIn_r _ [1, 2, 3, 4] (by decide +kernel) (by decide +kernel)) (fun w h => ⟨List.mem_cons_of_mem _ (List.mem_append_right _ (List.mem_append_right _ (List.mem_append_left _ h))), gs_X11_weatherRefusal w h⟩)
theorem gg_X11_weather_X9_search : GoodIn vX11_weather (wsV RX11 285 RX9 yX9_search vX9_search) := goodIn_app (goodIn_r _ [8, 9, 10, 11] (by decide +kernel) (by decide +kernel)) (fun w h => ⟨List.mem_cons_of_mem _ (List.mem_append_right _ (List.mem_append_right _ (List.mem_append_right _ (List.mem_append_left _ h)))), gs_X9_search w h⟩)
theorem gg_X11_weather_X9_thawOfFirst : GoodIn vX11_weather (wsV RX11 291 RX9 yX9_thawOfFirst vX9_thawOfFirst) := goodIn_app (goodIn_r _ [12, 13, 14, 11] (by decide +kernel) (by decide +kernel)) (fun w h => ⟨List.mem_cons_of_mem _ (List.mem_append_right _ (List.mem_append_right _ (List.mem_append_right _ (List.mem_append_right _ (h))))), gs_X9_thawOfFirst w h⟩)
set_option maxHeartbeats 4000000 in
set_option maxRecDepth 100000 in
theorem s_X11_weather (l : Launch) (D : va_G) (cs : Nat → ClassId) (ad : Nat → Nat) (kS : kSt) (K : sK) (hKO : KO K) (hj : wJ ad 218) (g : Nat → va_E) (hW : WF (shp ad K) ad cs g) (sl : Int32) (nn : Int32) (dy : Int32) : sI l yX11_weather vX11_weather { frames := 4, cells := 0, slots := 0, locals := 98 } D cs ad kS [.ref (ad 0), .int sl, .int nn, .int dy] g (fun r g2 => WF (shp ad K) ad cs g2 ∧ (∀ j, j ≠ 130 ∧ j ≠ 131 ∧ j ≠ 132 ∧ (j < 134 ∨ 140 ≤ j) ∧ j ≠ 118 ∧ j ≠ 119 → g2 j = g j)) := by
  refine Met.startS (cc := cX11_weather) (maxL := 5) (ret := (some .int)) RX11 rfl (by decide) rfl (Nat.le_of_ble_eq_true rfl) ?_
  intro p e s m below meth c ls X Z hP hl
  have hx := X.1
  have hb := X.2.1
  have hS : va_S (wA ad 218) s.heap s.heap [] := va_S.rf
  have hA : ∀ i, i < 218 → wA ad 218 (ad i) := fun i h => ⟨i, h, rfl⟩
  have hfr : ∀ j, j ≠ 130 ∧ j ≠ 131 ∧ j ≠ 132 ∧ (j < 134 ∨ 140 ≤ j) ∧ j ≠ 118 ∧ j ≠ 119 → g j = g j := fun _ _ => rfl
  have hl : lv_has ls 5 [(0, .ref (ad 0)), (1, .int sl), (2, .int nn), (3, .int dy)] := hl
  refine lv_aload_n hx hb dX11_weather_0 rfl (lv_at hl 0 rfl) ?_
  refine lv_iload_n hx hb dX11_weather_1 rfl (lv_at hl 1 rfl) ?_
  refine lv_iload_n hx hb dX11_weather_2 rfl (lv_at hl 2 rfl) ?_
  refine lv_iload_n hx hb dX11_weather_3 rfl (lv_at hl 3 rfl) ?_
  refine lv_if_lt (tgt := 16) hx hb dX11_weather_4 (by decide) (fun hc_1 => ?_) (fun hc_1 => ?_)
  · have hhc_1 := n_lt (rfl : dy.toInt = dy.toInt) (by decide : (0 : Int32).toInt = 0) hc_1
    refine lv_iconst (v := 0) hx hb dX11_weather_16 (by decide) ?_
    have hqk_2 : (0 : Int32).toInt = 0 := by decide
    obtain ⟨fsc_6, hgc_6, hOc_6⟩ := hW.obj (i := 0) (by decide) (sh_0 ad K)
    refine s_calli (q := (RX11, TX11, 14)) (As := [.int sl, .int nn, .int 0]) (rest := []) X Z (s_X11_weatherRefusal l D cs ad kS K hKO hj g hW sl nn 0 (by omega)) (cwV 3 X.2.2.2.2.1 gg_X11_weather_X11_weatherRefusal rfl rfl rfl (by decide +kernel) ⟨Nat.le_of_ble_eq_true rfl, Nat.le_of_ble_eq_true rfl⟩) (by decide) hgc_6 rfl hP hA hS.2.1 hS rfl hl.1 rfl (Nat.le_of_ble_eq_true rfl) dX11_weather_17 ⟨Nat.le_of_ble_eq_true rfl, Nat.le_of_ble_eq_true rfl⟩ (fun r_5 g_4 H locs hw_3 hP hS => ?_)
    obtain ⟨hw_3W, hw_3f⟩ := hw_3
    have hfr_7 : ∀ j, j ≠ 130 ∧ j ≠ 131 ∧ j ≠ 132 ∧ (j < 134 ∨ 140 ≤ j) ∧ j ≠ 118 ∧ j ≠ 119 → g_4 j = g j := fun j hj => (hw_3f j (by omega)).trans (hfr j hj)
    have hg_8 := (hw_3f 0 (by omega)).trans hgc_6
    refine lv_istore (lv' := [(4, .int r_5), (0, .ref (ad 0)), (1, .int sl), (2, .int nn), (3, .int dy)]) hx hb dX11_weather_20 hl (by decide) rfl (fun ls hl => ?_)
    refine lv_iload hx hb dX11_weather_22 (lv_at hl 0 rfl) ?_
    refine lv_if_eq (tgt := 30) hx hb dX11_weather_24 (by decide) (fun hc_9 => ?_) (fun hc_9 => ?_)
    · have hhc_9 := n_eq (rfl : r_5.toInt = r_5.toInt) (by decide : (0 : Int32).toInt = 0) hc_9
      refine lv_aload_n hx hb dX11_weather_30 rfl (lv_at hl 1 rfl) ?_
      have hk_10 := hOc_6.ref 10 rfl
      refine q_get X iX11_weather_11 hP (by decide) hg_8 rfl 10 (by decide) (List.mem_of_getElem? (i := 5) rfl) (v := .ref (ad 130)) hk_10 dX11_weather_31 ?_
      refine lv_aload_n hx hb dX11_weather_34 rfl (lv_at hl 1 rfl) ?_
      have hk_11 := hOc_6.ref 1 rfl
      refine q_get X iX11_weather_11 hP (by decide) hg_8 rfl 1 (by decide) (List.mem_of_getElem? (i := 6) rfl) (v := .ref (ad 3)) hk_11 dX11_weather_35 ?_
      refine lv_aload_n hx hb dX11_weather_38 rfl (lv_at hl 1 rfl) ?_
      have hk_12 := hOc_6.ref 8 rfl
      refine q_get X iX11_weather_11 hP (by decide) hg_8 rfl 8 (by decide) (List.mem_of_getElem? (i := 7) rfl) (v := .ref (ad 118)) hk_12 dX11_weather_39 ?_
      refine lv_iload_n hx hb dX11_weather_42 rfl (lv_at hl 3 rfl) ?_
      obtain ⟨fsc_16, hgc_16, hOc_16⟩ := hw_3W.obj (i := 130) (by decide) (sh_130 ad K)
      refine s_callv (q := (RX9, TX9, 4)) (As := [.ref (ad 3), .ref (ad 118), .int nn]) (rest := []) X Z (s_X9_search l D cs ad kS K hKO hj g_4 hw_3W nn) (cwV 3 X.2.2.2.2.1 gg_X11_weather_X9_search rfl rfl rfl (by decide +kernel) ⟨Nat.le_of_ble_eq_true rfl, Nat.le_of_ble_eq_true rfl⟩) (by decide) hgc_16 rfl hP hA hS.2.1 hS rfl hl.1 rfl (Nat.le_of_ble_eq_true rfl) dX11_weather_43 ⟨Nat.le_of_ble_eq_true rfl, Nat.le_of_ble_eq_true rfl⟩ (fun g_14 H locs hw_13 hP hS => ?_)
      obtain ⟨hw_13W, hw_13f⟩ := hw_13
      have hfr_17 : ∀ j, j ≠ 130 ∧ j ≠ 131 ∧ j ≠ 132 ∧ (j < 134 ∨ 140 ≤ j) ∧ j ≠ 118 ∧ j ≠ 119 → g_14 j = g j := fun j hj => (hw_13f j (by omega)).trans (hfr_7 j hj)
      have hg_18 := (hw_13f 0 (by omega)).trans hg_8
      refine lv_aload_n hx hb dX11_weather_46 rfl (lv_at hl 1 rfl) ?_
      refine q_get X iX11_weather_11 hP (by decide) hg_18 rfl 10 (by decide) (List.mem_of_getElem? (i := 5) rfl) (v := .ref (ad 130)) hk_10 dX11_weather_47 ?_
      refine lv_iload_n hx hb dX11_weather_50 rfl (lv_at hl 4 rfl) ?_
      obtain ⟨fsc_22, hgc_22, hOc_22⟩ := hw_13W.obj (i := 130) (by decide) (sh_130 ad K)
      refine s_calli (q := (RX9, TX9, 4)) (As := [.int dy]) (rest := []) X Z (s_X9_thawOfFirst l D cs ad kS K hKO hj g_14 hw_13W dy) (cwV 1 X.2.2.2.2.1 gg_X11_weather_X9_thawOfFirst rfl rfl rfl (by decide +kernel) ⟨Nat.le_of_ble_eq_true rfl, Nat.le_of_ble_eq_true rfl⟩) (by decide) hgc_22 rfl hP hA hS.2.1 hS rfl hl.1 rfl (Nat.le_of_ble_eq_true rfl) dX11_weather_51 ⟨Nat.le_of_ble_eq_true rfl, Nat.le_of_ble_eq_true rfl⟩ (fun r_21 g_20 H locs hw_19 hP hS => ?_)
      rw [hw_19] at hP
      exact q_iret X hP hS ⟨hw_13W, hfr_17⟩ dX11_weather_54
    · have hhc_9 := n_ne (rfl : r_5.toInt = r_5.toInt) (by decide : (0 : Int32).toInt = 0) hc_9
      refine lv_iload hx hb dX11_weather_27 (lv_at hl 0 rfl) ?_
      exact q_iret X hP hS ⟨hw_3W, hfr_7⟩ dX11_weather_29
  · have hhc_1 := n_nlt (rfl : dy.toInt = dy.toInt) (by decide : (0 : Int32).toInt = 0) hc_1
    refine lv_iload_n hx hb dX11_weather_7 rfl (lv_at hl 3 rfl) ?_
    refine lv_iload_n hx hb dX11_weather_8 rfl (lv_at hl 2 rfl) ?_
    refine lv_icmp_ge (tgt := 16) hx hb dX11_weather_9 (by decide) (fun hc_23 => ?_) (fun hc_23 => ?_)
    · have hhc_23 := n_le (rfl : nn.toInt = nn.toInt) (rfl : dy.toInt = dy.toInt) hc_23
      have := n_hi nn
      have := n_lo nn
      have := n_hi dy
      refine lv_iconst (v := 0) hx hb dX11_weather_16 (by decide) ?_
      have hqk_24 : (0 : Int32).toInt = 0 := by decide
      obtain ⟨fsc_28, hgc_28, hOc_28⟩ := hW.obj (i := 0) (by decide) (sh_0 ad K)
      refine s_calli (q := (RX11, TX11, 14)) (As := [.int sl, .int nn, .int 0]) (rest := []) X Z (s_X11_weatherRefusal l D cs ad kS K hKO hj g hW sl nn 0 (by omega)) (cwV 3 X.2.2.2.2.1 gg_X11_weather_X11_weatherRefusal rfl rfl rfl (by decide +kernel) ⟨Nat.le_of_ble_eq_true rfl, Nat.le_of_ble_eq_true rfl⟩) (by decide) hgc_28 rfl hP hA hS.2.1 hS rfl hl.1 rfl (Nat.le_of_ble_eq_true rfl) dX11_weather_17 ⟨Nat.le_of_ble_eq_true rfl, Nat.le_of_ble_eq_true rfl⟩ (fun r_27 g_26 H locs hw_25 hP hS => ?_)
      obtain ⟨hw_25W, hw_25f⟩ := hw_25
      have hfr_29 : ∀ j, j ≠ 130 ∧ j ≠ 131 ∧ j ≠ 132 ∧ (j < 134 ∨ 140 ≤ j) ∧ j ≠ 118 ∧ j ≠ 119 → g_26 j = g j := fun j hj => (hw_25f j (by omega)).trans (hfr j hj)
      have hg_30 := (hw_25f 0 (by omega)).trans hgc_28
      refine lv_istore (lv' := [(4, .int r_27), (0, .ref (ad 0)), (1, .int sl), (2, .int nn), (3, .int dy)]) hx hb dX11_weather_20 hl (by decide) rfl (fun ls hl => ?_)
      refine lv_iload hx hb dX11_weather_22 (lv_at hl 0 rfl) ?_
      refine lv_if_eq (tgt := 30) hx hb dX11_weather_24 (by decide) (fun hc_31 => ?_) (fun hc_31 => ?_)
      · have hhc_31 := n_eq (rfl : r_27.toInt = r_27.toInt) (by decide : (0 : Int32).toInt = 0) hc_31
        refine lv_aload_n hx hb dX11_weather_30 rfl (lv_at hl 1 rfl) ?_
        have hk_32 := hOc_28.ref 10 rfl
        refine q_get X iX11_weather_11 hP (by decide) hg_30 rfl 10 (by decide) (List.mem_of_getElem? (i := 5) rfl) (v := .ref (ad 130)) hk_32 dX11_weather_31 ?_
        refine lv_aload_n hx hb dX11_weather_34 rfl (lv_at hl 1 rfl) ?_
        have hk_33 := hOc_28.ref 1 rfl
        refine q_get X iX11_weather_11 hP (by decide) hg_30 rfl 1 (by decide) (List.mem_of_getElem? (i := 6) rfl) (v := .ref (ad 3)) hk_33 dX11_weather_35 ?_
        refine lv_aload_n hx hb dX11_weather_38 rfl (lv_at hl 1 rfl) ?_
        have hk_34 := hOc_28.ref 8 rfl
        refine q_get X iX11_weather_11 hP (by decide) hg_30 rfl 8 (by decide) (List.mem_of_getElem? (i := 7) rfl) (v := .ref (ad 118)) hk_34 dX11_weather_39 ?_
        refine lv_iload_n hx hb dX11_weather_42 rfl (lv_at hl 3 rfl) ?_
        obtain ⟨fsc_38, hgc_38, hOc_38⟩ := hw_25W.obj (i := 130) (by decide) (sh_130 ad K)
        refine s_callv (q := (RX9, TX9, 4)) (As := [.ref (ad 3), .ref (ad 118), .int nn]) (rest := []) X Z (s_X9_search l D cs ad kS K hKO hj g_26 hw_25W nn) (cwV 3 X.2.2.2.2.1 gg_X11_weather_X9_search rfl rfl rfl (by decide +kernel) ⟨Nat.le_of_ble_eq_true rfl, Nat.le_of_ble_eq_true rfl⟩) (by decide) hgc_38 rfl hP hA hS.2.1 hS rfl hl.1 rfl (Nat.le_of_ble_eq_true rfl) dX11_weather_43 ⟨Nat.le_of_ble_eq_true rfl, Nat.le_of_ble_eq_true rfl⟩ (fun g_36 H locs hw_35 hP hS => ?_)
        obtain ⟨hw_35W, hw_35f⟩ := hw_35
        have hfr_39 : ∀ j, j ≠ 130 ∧ j ≠ 131 ∧ j ≠ 132 ∧ (j < 134 ∨ 140 ≤ j) ∧ j ≠ 118 ∧ j ≠ 119 → g_36 j = g j := fun j hj => (hw_35f j (by omega)).trans (hfr_29 j hj)
        have hg_40 := (hw_35f 0 (by omega)).trans hg_30
        refine lv_aload_n hx hb dX11_weather_46 rfl (lv_at hl 1 rfl) ?_
        refine q_get X iX11_weather_11 hP (by decide) hg_40 rfl 10 (by decide) (List.mem_of_getElem? (i := 5) rfl) (v := .ref (ad 130)) hk_32 dX11_weather_47 ?_
        refine lv_iload_n hx hb dX11_weather_50 rfl (lv_at hl 4 rfl) ?_
        obtain ⟨fsc_44, hgc_44, hOc_44⟩ := hw_35W.obj (i := 130) (by decide) (sh_130 ad K)
        refine s_calli (q := (RX9, TX9, 4)) (As := [.int dy]) (rest := []) X Z (s_X9_thawOfFirst l D cs ad kS K hKO hj g_36 hw_35W dy) (cwV 1 X.2.2.2.2.1 gg_X11_weather_X9_thawOfFirst rfl rfl rfl (by decide +kernel) ⟨Nat.le_of_ble_eq_true rfl, Nat.le_of_ble_eq_true rfl⟩) (by decide) hgc_44 rfl hP hA hS.2.1 hS rfl hl.1 rfl (Nat.le_of_ble_eq_true rfl) dX11_weather_51 ⟨Nat.le_of_ble_eq_true rfl, Nat.le_of_ble_eq_true rfl⟩ (fun r_43 g_42 H locs hw_41 hP hS => ?_)
        rw [hw_41] at hP
        exact q_iret X hP hS ⟨hw_35W, hfr_39⟩ dX11_weather_54
      · have hhc_31 := n_ne (rfl : r_27.toInt = r_27.toInt) (by decide : (0 : Int32).toInt = 0) hc_31
        refine lv_iload hx hb dX11_weather_27 (lv_at hl 0 rfl) ?_
        exact q_iret X hP hS ⟨hw_25W, hfr_29⟩ dX11_weather_29
    · have hhc_23 := n_nle (rfl : nn.toInt = nn.toInt) (rfl : dy.toInt = dy.toInt) hc_23
      have := n_hi nn
      have := n_lo nn
      have := n_hi dy
      refine lv_iconst (v := 1) hx hb dX11_weather_12 (by decide) ?_
      refine lv_goto (tgt := 17) hx hb dX11_weather_13 (by decide) ?_
      have hqk_45 : (1 : Int32).toInt = 1 := by decide
      obtain ⟨fsc_49, hgc_49, hOc_49⟩ := hW.obj (i := 0) (by decide) (sh_0 ad K)
      refine s_calli (q := (RX11, TX11, 14)) (As := [.int sl, .int nn, .int 1]) (rest := []) X Z (s_X11_weatherRefusal l D cs ad kS K hKO hj g hW sl nn 1 (by omega)) (cwV 3 X.2.2.2.2.1 gg_X11_weather_X11_weatherRefusal rfl rfl rfl (by decide +kernel) ⟨Nat.le_of_ble_eq_true rfl, Nat.le_of_ble_eq_true rfl⟩) (by decide) hgc_49 rfl hP hA hS.2.1 hS rfl hl.1 rfl (Nat.le_of_ble_eq_true rfl) dX11_weather_17 ⟨Nat.le_of_ble_eq_true rfl, Nat.le_of_ble_eq_true rfl⟩ (fun r_48 g_47 H locs hw_46 hP hS => ?_)
      obtain ⟨hw_46W, hw_46f⟩ := hw_46
      have hfr_50 : ∀ j, j ≠ 130 ∧ j ≠ 131 ∧ j ≠ 132 ∧ (j < 134 ∨ 140 ≤ j) ∧ j ≠ 118 ∧ j ≠ 119 → g_47 j = g j := fun j hj => (hw_46f j (by omega)).trans (hfr j hj)
      have hg_51 := (hw_46f 0 (by omega)).trans hgc_49
      refine lv_istore (lv' := [(4, .int r_48), (0, .ref (ad 0)), (1, .int sl), (2, .int nn), (3, .int dy)]) hx hb dX11_weather_20 hl (by decide) rfl (fun ls hl => ?_)
      refine lv_iload hx hb dX11_weather_22 (lv_at hl 0 rfl) ?_
      refine lv_if_eq (tgt := 30) hx hb dX11_weather_24 (by decide) (fun hc_52 => ?_) (fun hc_52 => ?_)
      · have hhc_52 := n_eq (rfl : r_48.toInt = r_48.toInt) (by decide : (0 : Int32).toInt = 0) hc_52
        refine lv_aload_n hx hb dX11_weather_30 rfl (lv_at hl 1 rfl) ?_
        have hk_53 := hOc_49.ref 10 rfl
        refine q_get X iX11_weather_11 hP (by decide) hg_51 rfl 10 (by decide) (List.mem_of_getElem? (i := 5) rfl) (v := .ref (ad 130)) hk_53 dX11_weather_31 ?_
        refine lv_aload_n hx hb dX11_weather_34 rfl (lv_at hl 1 rfl) ?_
        have hk_54 := hOc_49.ref 1 rfl
        refine q_get X iX11_weather_11 hP (by decide) hg_51 rfl 1 (by decide) (List.mem_of_getElem? (i := 6) rfl) (v := .ref (ad 3)) hk_54 dX11_weather_35 ?_
        refine lv_aload_n hx hb dX11_weather_38 rfl (lv_at hl 1 rfl) ?_
        have hk_55 := hOc_49.ref 8 rfl
        refine q_get X iX11_weather_11 hP (by decide) hg_51 rfl 8 (by decide) (List.mem_of_getElem? (i := 7) rfl) (v := .ref (ad 118)) hk_55 dX11_weather_39 ?_
        refine lv_iload_n hx hb dX11_weather_42 rfl (lv_at hl 3 rfl) ?_
        obtain ⟨fsc_59, hgc_59, hOc_59⟩ := hw_46W.obj (i := 130) (by decide) (sh_130 ad K)
        refine s_callv (q := (RX9, TX9, 4)) (As := [.ref (ad 3), .ref (ad 118), .int nn]) (rest := []) X Z (s_X9_search l D cs ad kS K hKO hj g_47 hw_46W nn) (cwV 3 X.2.2.2.2.1 gg_X11_weather_X9_search rfl rfl rfl (by decide +kernel) ⟨Nat.le_of_ble_eq_true rfl, Nat.le_of_ble_eq_true rfl⟩) (by decide) hgc_59 rfl hP hA hS.2.1 hS rfl hl.1 rfl (Nat.le_of_ble_eq_true rfl) dX11_weather_43 ⟨Nat.le_of_ble_eq_true rfl, Nat.le_of_ble_eq_true rfl⟩ (fun g_57 H locs hw_56 hP hS => ?_)
        obtain ⟨hw_56W, hw_56f⟩ := hw_56
        have hfr_60 : ∀ j, j ≠ 130 ∧ j ≠ 131 ∧ j ≠ 132 ∧ (j < 134 ∨ 140 ≤ j) ∧ j ≠ 118 ∧ j ≠ 119 → g_57 j = g j := fun j hj => (hw_56f j (by omega)).trans (hfr_50 j hj)
        have hg_61 := (hw_56f 0 (by omega)).trans hg_51
        refine lv_aload_n hx hb dX11_weather_46 rfl (lv_at hl 1 rfl) ?_
        refine q_get X iX11_weather_11 hP (by decide) hg_61 rfl 10 (by decide) (List.mem_of_getElem? (i := 5) rfl) (v := .ref (ad 130)) hk_53 dX11_weather_47 ?_
        refine lv_iload_n hx hb dX11_weather_50 rfl (lv_at hl 4 rfl) ?_
        obtain ⟨fsc_65, hgc_65, hOc_65⟩ := hw_56W.obj (i := 130) (by decide) (sh_130 ad K)
        refine s_calli (q := (RX9, TX9, 4)) (As := [.int dy]) (rest := []) X Z (s_X9_thawOfFirst l D cs ad kS K hKO hj g_57 hw_56W dy) (cwV 1 X.2.2.2.2.1 gg_X11_weather_X9_thawOfFirst rfl rfl rfl (by decide +kernel) ⟨Nat.le_of_ble_eq_true rfl, Nat.le_of_ble_eq_true rfl⟩) (by decide) hgc_65 rfl hP hA hS.2.1 hS rfl hl.1 rfl (Nat.le_of_ble_eq_true rfl) dX11_weather_51 ⟨Nat.le_of_ble_eq_true rfl, Nat.le_of_ble_eq_true rfl⟩ (fun r_64 g_63 H locs hw_62 hP hS => ?_)
        rw [hw_62] at hP
        exact q_iret X hP hS ⟨hw_56W, hfr_60⟩ dX11_weather_54
      · have hhc_52 := n_ne (rfl : r_48.toInt = r_48.toInt) (by decide : (0 : Int32).toInt = 0) hc_52
        refine lv_iload hx hb dX11_weather_27 (lv_at hl 0 rfl) ?_
        exact q_iret X hP hS ⟨hw_46W, hfr_50⟩ dX11_weather_29

theorem dX11_warmth_0 : decode cX11_warmth 0 = .ok (.aload_n 0, 1) := by decide +kernel
theorem dX11_warmth_1 : decode cX11_warmth 1 = .ok (.iload_n 1, 1) := by decide +kernel
theorem dX11_warmth_2 : decode cX11_warmth 2 = .ok (.iload_n 2, 1) := by decide +kernel
theorem dX11_warmth_3 : decode cX11_warmth 3 = .ok (.iload_n 3, 1) := by decide +kernel
theorem dX11_warmth_4 : decode cX11_warmth 4 = .ok (.invokestatic 151, 3) := by decide +kernel
theorem dX11_warmth_7 : decode cX11_warmth 7 = .ok (.invokevirtual 281, 3) := by decide +kernel
theorem dX11_warmth_10 : decode cX11_warmth 10 = .ok (.istore 4, 2) := by decide +kernel
theorem dX11_warmth_12 : decode cX11_warmth 12 = .ok (.iload 4, 2) := by decide +kernel
theorem dX11_warmth_14 : decode cX11_warmth 14 = .ok (.ifCond .eq 6, 3) := by decide +kernel
theorem dX11_warmth_17 : decode cX11_warmth 17 = .ok (.iload 4, 2) := by decide +kernel
theorem dX11_warmth_19 : decode cX11_warmth 19 = .ok (.ireturn, 1) := by decide +kernel
theorem dX11_warmth_20 : decode cX11_warmth 20 = .ok (.aload_n 0, 1) := by decide +kernel
theorem dX11_warmth_21 : decode cX11_warmth 21 = .ok (.getfield 68, 3) := by decide +kernel
theorem dX11_warmth_24 : decode cX11_warmth 24 = .ok (.aload_n 0, 1) := by decide +kernel
theorem dX11_warmth_25 : decode cX11_warmth 25 = .ok (.getfield 19, 3) := by decide +kernel
theorem dX11_warmth_28 : decode cX11_warmth 28 = .ok (.aload_n 0, 1) := by decide +kernel
theorem dX11_warmth_29 : decode cX11_warmth 29 = .ok (.getfield 54, 3) := by decide +kernel
theorem dX11_warmth_32 : decode cX11_warmth 32 = .ok (.iload_n 2, 1) := by decide +kernel
theorem dX11_warmth_33 : decode cX11_warmth 33 = .ok (.invokevirtual 285, 3) := by decide +kernel
theorem dX11_warmth_36 : decode cX11_warmth 36 = .ok (.iload_n 3, 1) := by decide +kernel
theorem dX11_warmth_37 : decode cX11_warmth 37 = .ok (.ifCond .ne 13, 3) := by decide +kernel
theorem dX11_warmth_40 : decode cX11_warmth 40 = .ok (.aload_n 0, 1) := by decide +kernel
theorem dX11_warmth_41 : decode cX11_warmth 41 = .ok (.getfield 68, 3) := by decide +kernel
theorem dX11_warmth_44 : decode cX11_warmth 44 = .ok (.invokevirtual 294, 3) := by decide +kernel
theorem dX11_warmth_47 : decode cX11_warmth 47 = .ok (.goto 10, 3) := by decide +kernel
theorem dX11_warmth_50 : decode cX11_warmth 50 = .ok (.aload_n 0, 1) := by decide +kernel
theorem dX11_warmth_51 : decode cX11_warmth 51 = .ok (.getfield 68, 3) := by decide +kernel
theorem dX11_warmth_54 : decode cX11_warmth 54 = .ok (.invokevirtual 297, 3) := by decide +kernel
theorem dX11_warmth_57 : decode cX11_warmth 57 = .ok (.ireturn, 1) := by decide +kernel
noncomputable def vX11_warmth : List Cond := .code yX11_warmth cX11_warmth 5 (some .int) :: (([.methodLink RX11 151 yX11_isEither, .static yX11_isEither, .initialized RX11, .methodLink RX11 281 yX11_weatherRefusal, .instanceMethod yX11_weatherRefusal, .selects RX11 yX11_weatherRefusal yX11_weatherRefusal, .fieldLink RX11 68 "IcicleClock" "skies" "LIcicleClock$Weathers;", .fieldLink RX11 19 "IcicleClock" "now" "LIcicleClock$Street;", .fieldLink RX11 54 "IcicleClock" "seen" "LIcicleClock$Seen;", .methodLink RX11 285 yX9_search, .instanceMethod yX9_search, .selects RX9 yX9_search yX9_search, .initialized RX9, .methodLink RX11 294 yX9_leastSum, .instanceMethod yX9_leastSum, .selects RX9 yX9_leastSum yX9_leastSum, .methodLink RX11 297 yX9_greatestSum, .instanceMethod yX9_greatestSum, .selects RX9 yX9_greatestSum yX9_greatestSum] : List Cond) ++ (wsX110 ++ (vX11_isEither ++ (vX11_weatherRefusal ++ (vX9_search ++ (vX9_leastSum ++ vX9_greatestSum))))))
theorem iX11_warmth_11 : ∀ w ∈ wsX110, w ∈ vX11_warmth := fun _ h => List.mem_cons_of_mem _ (List.mem_append_right _ (List.mem_append_left _ h))
theorem gs_X11_warmth : Gd vX11_warmth := Gd.cons (by decide +kernel) (Gd.app (Gd.r (by decide +kernel)) (Gd.app gwX_11 (Gd.app gs_X11_isEither (Gd.app gs_X11_weatherRefusal (Gd.app gs_X9_search (Gd.app gs_X9_leastSum gs_X9_greatestSum))))))
theorem gg_X11_warmth_X11_isEither : GoodIn vX11_warmth (wsS RX11 151 yX11_isEither vX11_isEither) := goodIn_app (goodIn_r _ [1, 2, 3] (by decide +kernel) (by decide +kernel)) (fun w h => ⟨List.mem_cons_of_mem _ (List.mem_append_right _ (List.mem_append_right _ (List.mem_append_left _ h))), gs_X11_isEither w h⟩)
theorem gg_X11_warmth_X11_weatherRefusal : GoodIn vX11_warmth (wsV RX11 281 RX11 yX11_weatherRefusal vX11_weatherRefusal) := goodIn_app (goodIn_r _ [4, 5, 6, 3] (by decide +kernel) (by decide +kernel)) (fun w h => ⟨List.mem_cons_of_mem _ (List.mem_append_right _ (List.mem_append_right _ (List.mem_append_right _ (List.mem_append_left _ h)))), gs_X11_weatherRefusal w h⟩)
theorem gg_X11_warmth_X9_search : GoodIn vX11_warmth (wsV RX11 285 RX9 yX9_search vX9_search) := goodIn_app (goodIn_r _ [10, 11, 12, 13] (by decide +kernel) (by decide +kernel)) (fun w h => ⟨List.mem_cons_of_mem _ (List.mem_append_right _ (List.mem_append_right _ (List.mem_append_right _ (List.mem_append_right _ (List.mem_append_left _ h))))), gs_X9_search w h⟩)
theorem gg_X11_warmth_X9_leastSum : GoodIn vX11_warmth (wsV RX11 294 RX9 yX9_leastSum vX9_leastSum) := goodIn_app (goodIn_r _ [14, 15, 16, 13] (by decide +kernel) (by decide +kernel)) (fun w h => ⟨List.mem_cons_of_mem _ (List.mem_append_right _ (List.mem_append_right _ (List.mem_append_right _ (List.mem_append_right _ (List.mem_append_right _ (List.mem_append_left _ h)))))), gs_X9_leastSum w h⟩)
theorem gg_X11_warmth_X9_greatestSum : GoodIn vX11_warmth (wsV RX11 297 RX9 yX9_greatestSum vX9_greatestSum) := goodIn_app (goodIn_r _ [17, 18, 19, 13] (by decide +kernel) (by decide +kernel)) (fun w h => ⟨List.mem_cons_of_mem _ (List.mem_append_right _ (List.mem_append_right _ (List.mem_append_right _ (List.mem_append_right _ (List.mem_append_right _ (List.mem_append_right _ (h))))))), gs_X9_greatestSum w h⟩)
set_option maxHeartbeats 4000000 in
set_option maxRecDepth 100000 in
theorem s_X11_warmth (l : Launch) (D : va_G) (cs : Nat → ClassId) (ad : Nat → Nat) (kS : kSt) (K : sK) (hKO : KO K) (hj : wJ ad 218) (g : Nat → va_E) (hW : WF (shp ad K) ad cs g) (sl : Int32) (nn : Int32) (wh : Int32) : sI l yX11_warmth vX11_warmth { frames := 4, cells := 0, slots := 0, locals := 98 } D cs ad kS [.ref (ad 0), .int sl, .int nn, .int wh] g (fun r g2 => WF (shp ad K) ad cs g2 ∧ (∀ j, j ≠ 130 ∧ j ≠ 131 ∧ j ≠ 132 ∧ (j < 134 ∨ 140 ≤ j) ∧ j ≠ 118 ∧ j ≠ 119 → g2 j = g j)) := by
  refine Met.startS (cc := cX11_warmth) (maxL := 5) (ret := (some .int)) RX11 rfl (by decide) rfl (Nat.le_of_ble_eq_true rfl) ?_
  intro p e s m below meth c ls X Z hP hl
  have hx := X.1
  have hb := X.2.1
  have hS : va_S (wA ad 218) s.heap s.heap [] := va_S.rf
  have hA : ∀ i, i < 218 → wA ad 218 (ad i) := fun i h => ⟨i, h, rfl⟩
  have hfr : ∀ j, j ≠ 130 ∧ j ≠ 131 ∧ j ≠ 132 ∧ (j < 134 ∨ 140 ≤ j) ∧ j ≠ 118 ∧ j ≠ 119 → g j = g j := fun _ _ => rfl
  have hl : lv_has ls 5 [(0, .ref (ad 0)), (1, .int sl), (2, .int nn), (3, .int wh)] := hl
  refine lv_aload_n hx hb dX11_warmth_0 rfl (lv_at hl 0 rfl) ?_
  refine lv_iload_n hx hb dX11_warmth_1 rfl (lv_at hl 1 rfl) ?_
  refine lv_iload_n hx hb dX11_warmth_2 rfl (lv_at hl 2 rfl) ?_
  refine lv_iload_n hx hb dX11_warmth_3 rfl (lv_at hl 3 rfl) ?_
  refine s_callSi (As := [.int wh]) (rest := [.int nn, .int sl, .ref (ad 0)]) X Z (s_X11_isEither l D cs ad kS K hKO hj g hW wh) (cwS 1 X.2.2.2.2.1 gg_X11_warmth_X11_isEither rfl rfl rfl (by decide +kernel) ⟨Nat.le_of_ble_eq_true rfl, Nat.le_of_ble_eq_true rfl⟩) hP hA hS.2.1 hS rfl hl.1 rfl (Nat.le_of_ble_eq_true rfl) dX11_warmth_4 ⟨Nat.le_of_ble_eq_true rfl, Nat.le_of_ble_eq_true rfl⟩ (fun r_3 g_2 H locs hw_1 hP hS => ?_)
  obtain ⟨hw_1g, hw_1⟩ := hw_1
  rw [hw_1g] at hP
  obtain ⟨fsc_7, hgc_7, hOc_7⟩ := hW.obj (i := 0) (by decide) (sh_0 ad K)
  refine s_calli (q := (RX11, TX11, 14)) (As := [.int sl, .int nn, .int r_3]) (rest := []) X Z (s_X11_weatherRefusal l D cs ad kS K hKO hj g hW sl nn r_3 (by omega)) (cwV 3 X.2.2.2.2.1 gg_X11_warmth_X11_weatherRefusal rfl rfl rfl (by decide +kernel) ⟨Nat.le_of_ble_eq_true rfl, Nat.le_of_ble_eq_true rfl⟩) (by decide) hgc_7 rfl hP hA hS.2.1 hS rfl hl.1 rfl (Nat.le_of_ble_eq_true rfl) dX11_warmth_7 ⟨Nat.le_of_ble_eq_true rfl, Nat.le_of_ble_eq_true rfl⟩ (fun r_6 g_5 H locs hw_4 hP hS => ?_)
  obtain ⟨hw_4W, hw_4f⟩ := hw_4
  have hfr_8 : ∀ j, j ≠ 130 ∧ j ≠ 131 ∧ j ≠ 132 ∧ (j < 134 ∨ 140 ≤ j) ∧ j ≠ 118 ∧ j ≠ 119 → g_5 j = g j := fun j hj => (hw_4f j (by omega)).trans (hfr j hj)
  have hg_9 := (hw_4f 0 (by omega)).trans hgc_7
  refine lv_istore (lv' := [(4, .int r_6), (0, .ref (ad 0)), (1, .int sl), (2, .int nn), (3, .int wh)]) hx hb dX11_warmth_10 hl (by decide) rfl (fun ls hl => ?_)
  refine lv_iload hx hb dX11_warmth_12 (lv_at hl 0 rfl) ?_
  refine lv_if_eq (tgt := 20) hx hb dX11_warmth_14 (by decide) (fun hc_10 => ?_) (fun hc_10 => ?_)
  · have hhc_10 := n_eq (rfl : r_6.toInt = r_6.toInt) (by decide : (0 : Int32).toInt = 0) hc_10
    refine lv_aload_n hx hb dX11_warmth_20 rfl (lv_at hl 1 rfl) ?_
    have hk_11 := hOc_7.ref 10 rfl
    refine q_get X iX11_warmth_11 hP (by decide) hg_9 rfl 10 (by decide) (List.mem_of_getElem? (i := 7) rfl) (v := .ref (ad 130)) hk_11 dX11_warmth_21 ?_
    refine lv_aload_n hx hb dX11_warmth_24 rfl (lv_at hl 1 rfl) ?_
    have hk_12 := hOc_7.ref 1 rfl
    refine q_get X iX11_warmth_11 hP (by decide) hg_9 rfl 1 (by decide) (List.mem_of_getElem? (i := 8) rfl) (v := .ref (ad 3)) hk_12 dX11_warmth_25 ?_
    refine lv_aload_n hx hb dX11_warmth_28 rfl (lv_at hl 1 rfl) ?_
    have hk_13 := hOc_7.ref 8 rfl
    refine q_get X iX11_warmth_11 hP (by decide) hg_9 rfl 8 (by decide) (List.mem_of_getElem? (i := 9) rfl) (v := .ref (ad 118)) hk_13 dX11_warmth_29 ?_
    refine lv_iload_n hx hb dX11_warmth_32 rfl (lv_at hl 3 rfl) ?_
    obtain ⟨fsc_17, hgc_17, hOc_17⟩ := hw_4W.obj (i := 130) (by decide) (sh_130 ad K)
    refine s_callv (q := (RX9, TX9, 4)) (As := [.ref (ad 3), .ref (ad 118), .int nn]) (rest := []) X Z (s_X9_search l D cs ad kS K hKO hj g_5 hw_4W nn) (cwV 3 X.2.2.2.2.1 gg_X11_warmth_X9_search rfl rfl rfl (by decide +kernel) ⟨Nat.le_of_ble_eq_true rfl, Nat.le_of_ble_eq_true rfl⟩) (by decide) hgc_17 rfl hP hA hS.2.1 hS rfl hl.1 rfl (Nat.le_of_ble_eq_true rfl) dX11_warmth_33 ⟨Nat.le_of_ble_eq_true rfl, Nat.le_of_ble_eq_true rfl⟩ (fun g_15 H locs hw_14 hP hS => ?_)
    obtain ⟨hw_14W, hw_14f⟩ := hw_14
    have hfr_18 : ∀ j, j ≠ 130 ∧ j ≠ 131 ∧ j ≠ 132 ∧ (j < 134 ∨ 140 ≤ j) ∧ j ≠ 118 ∧ j ≠ 119 → g_15 j = g j := fun j hj => (hw_14f j (by omega)).trans (hfr_8 j hj)
    have hg_19 := (hw_14f 0 (by omega)).trans hg_9
    refine lv_iload_n hx hb dX11_warmth_36 rfl (lv_at hl 4 rfl) ?_
    refine lv_if_ne (tgt := 50) hx hb dX11_warmth_37 (by decide) (fun hc_20 => ?_) (fun hc_20 => ?_)
    · have hhc_20 := n_ne (rfl : wh.toInt = wh.toInt) (by decide : (0 : Int32).toInt = 0) hc_20
      refine lv_aload_n hx hb dX11_warmth_50 rfl (lv_at hl 1 rfl) ?_
      refine q_get X iX11_warmth_11 hP (by decide) hg_19 rfl 10 (by decide) (List.mem_of_getElem? (i := 7) rfl) (v := .ref (ad 130)) hk_11 dX11_warmth_51 ?_
      obtain ⟨fsc_24, hgc_24, hOc_24⟩ := hw_14W.obj (i := 130) (by decide) (sh_130 ad K)
      refine s_calli (q := (RX9, TX9, 4)) (As := []) (rest := []) X Z (s_X9_greatestSum l D cs ad kS K hKO hj g_15 hw_14W) (cwV 0 X.2.2.2.2.1 gg_X11_warmth_X9_greatestSum rfl rfl rfl (by decide +kernel) ⟨Nat.le_of_ble_eq_true rfl, Nat.le_of_ble_eq_true rfl⟩) (by decide) hgc_24 rfl hP hA hS.2.1 hS rfl hl.1 rfl (Nat.le_of_ble_eq_true rfl) dX11_warmth_54 ⟨Nat.le_of_ble_eq_true rfl, Nat.le_of_ble_eq_true rfl⟩ (fun r_23 g_22 H locs hw_21 hP hS => ?_)
      rw [hw_21] at hP
      exact q_iret X hP hS ⟨hw_14W, hfr_18⟩ dX11_warmth_57
    · have hhc_20 := n_eq (rfl : wh.toInt = wh.toInt) (by decide : (0 : Int32).toInt = 0) hc_20
      refine lv_aload_n hx hb dX11_warmth_40 rfl (lv_at hl 1 rfl) ?_
      refine q_get X iX11_warmth_11 hP (by decide) hg_19 rfl 10 (by decide) (List.mem_of_getElem? (i := 7) rfl) (v := .ref (ad 130)) hk_11 dX11_warmth_41 ?_
      obtain ⟨fsc_28, hgc_28, hOc_28⟩ := hw_14W.obj (i := 130) (by decide) (sh_130 ad K)
      refine s_calli (q := (RX9, TX9, 4)) (As := []) (rest := []) X Z (s_X9_leastSum l D cs ad kS K hKO hj g_15 hw_14W) (cwV 0 X.2.2.2.2.1 gg_X11_warmth_X9_leastSum rfl rfl rfl (by decide +kernel) ⟨Nat.le_of_ble_eq_true rfl, Nat.le_of_ble_eq_true rfl⟩) (by decide) hgc_28 rfl hP hA hS.2.1 hS rfl hl.1 rfl (Nat.le_of_ble_eq_true rfl) dX11_warmth_44 ⟨Nat.le_of_ble_eq_true rfl, Nat.le_of_ble_eq_true rfl⟩ (fun r_27 g_26 H locs hw_25 hP hS => ?_)
      rw [hw_25] at hP
      refine lv_goto (tgt := 57) hx hb dX11_warmth_47 (by decide) ?_
      exact q_iret X hP hS ⟨hw_14W, hfr_18⟩ dX11_warmth_57
  · have hhc_10 := n_ne (rfl : r_6.toInt = r_6.toInt) (by decide : (0 : Int32).toInt = 0) hc_10
    refine lv_iload hx hb dX11_warmth_17 (lv_at hl 0 rfl) ?_
    exact q_iret X hP hS ⟨hw_4W, hfr_8⟩ dX11_warmth_19

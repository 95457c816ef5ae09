theorem dX12_divisor_0 : decode cX12_divisor 0 = .ok (.lload_n 0, 1) := by decide +kernel
theorem dX12_divisor_1 : decode cX12_divisor 1 = .ok (.lstore 4, 2) := by decide +kernel
theorem dX12_divisor_3 : decode cX12_divisor 3 = .ok (.lload_n 2, 1) := by decide +kernel
theorem dX12_divisor_4 : decode cX12_divisor 4 = .ok (.lstore 6, 2) := by decide +kernel
theorem dX12_divisor_6 : decode cX12_divisor 6 = .ok (.lload 6, 2) := by decide +kernel
theorem dX12_divisor_8 : decode cX12_divisor 8 = .ok (.lconst 0, 1) := by decide +kernel
theorem dX12_divisor_9 : decode cX12_divisor 9 = .ok (.lcmp, 1) := by decide +kernel
theorem dX12_divisor_10 : decode cX12_divisor 10 = .ok (.ifCond .eq 21, 3) := by decide +kernel
theorem dX12_divisor_13 : decode cX12_divisor 13 = .ok (.lload 4, 2) := by decide +kernel
theorem dX12_divisor_15 : decode cX12_divisor 15 = .ok (.lload 6, 2) := by decide +kernel
theorem dX12_divisor_17 : decode cX12_divisor 17 = .ok (.lrem, 1) := by decide +kernel
theorem dX12_divisor_18 : decode cX12_divisor 18 = .ok (.lstore 8, 2) := by decide +kernel
theorem dX12_divisor_20 : decode cX12_divisor 20 = .ok (.lload 6, 2) := by decide +kernel
theorem dX12_divisor_22 : decode cX12_divisor 22 = .ok (.lstore 4, 2) := by decide +kernel
theorem dX12_divisor_24 : decode cX12_divisor 24 = .ok (.lload 8, 2) := by decide +kernel
theorem dX12_divisor_26 : decode cX12_divisor 26 = .ok (.lstore 6, 2) := by decide +kernel
theorem dX12_divisor_28 : decode cX12_divisor 28 = .ok (.goto (-22), 3) := by decide +kernel
theorem dX12_divisor_31 : decode cX12_divisor 31 = .ok (.lload 4, 2) := by decide +kernel
theorem dX12_divisor_33 : decode cX12_divisor 33 = .ok (.lreturn, 1) := by decide +kernel
noncomputable def vX12_divisor : List Cond := .code yX12_divisor cX12_divisor 10 (some .long) :: ([] : List Cond)
theorem gs_X12_divisor : Gd vX12_divisor := Gd.cons (by decide +kernel) (Gd.r (by decide +kernel))
set_option maxHeartbeats 4000000 in
set_option maxRecDepth 100000 in
theorem s_X12_divisor (l : Launch) (D : va_G) (cs : Nat → ClassId) (ad : Nat → Nat) (kS : kSt) (K : sK) (hKO : KO K) (hj : wJ ad 218) (g : Nat → va_E) (hW : WF (shp ad K) ad cs g) (ja : Int64) (jb : Int64) : sJ l yX12_divisor vX12_divisor { frames := 0, cells := 0, slots := 0, locals := 0 } D cs ad kS [.long ja, .long jb] g (fun r g2 => g2 = g ∧ (ja.toInt ≠ 0 ∨ jb.toInt ≠ 0 → r.toInt ≠ 0)) := by
  refine Met.startS (cc := cX12_divisor) (maxL := 10) (ret := (some .long)) RX12 rfl (by decide) rfl (Nat.le_of_ble_eq_true rfl) ?_
  intro p e s m below meth c ls X Z hP hl
  have hx := X.1
  have hb := X.2.1
  have hS : va_S (wA ad 218) s.heap s.heap [] := va_S.rf
  have hA : ∀ i, i < 218 → wA ad 218 (ad i) := fun i h => ⟨i, h, rfl⟩
  have hl : lv_has ls 10 [(0, .long ja), (2, .long jb)] := hl
  refine lv_lload_n hx hb dX12_divisor_0 rfl (lv_at hl 0 rfl) ?_
  refine lv_lstore (lv' := [(4, .long ja), (0, .long ja), (2, .long jb)]) hx hb dX12_divisor_1 hl (by decide) rfl (fun ls hl => ?_)
  refine lv_lload_n hx hb dX12_divisor_3 rfl (lv_at hl 2 rfl) ?_
  refine lv_lstore (lv' := [(6, .long jb), (4, .long ja), (0, .long ja), (2, .long jb)]) hx hb dX12_divisor_4 hl (by decide) rfl (fun ls hl => ?_)
  have HL6 : ∀ (n6 : Nat) (v6_6 : Int64) (v6_4 : Int64) (H : Heap) (locs : List Loc) (ls : Array Slot), ((v6_6.toInt.natAbs : Int)).toNat < n6 → ((ja.toInt = 0 ∧ jb.toInt = 0) ∨ v6_4.toInt ≠ 0 ∨ v6_6.toInt ≠ 0) → va_P D vwCl (wL ad g 218) H → va_S (wA ad 218) s.heap H locs → lv_has ls 10 [(6, .long v6_6), (4, .long v6_4)] → W p l e ({ frames := 0, cells := 0, slots := 0, locals := 0 } : Room) s m ([.long ja, .long jb] : List Value).toArray below meth c H locs 0 0 (MQ below (qJ D ad 218 (fun r g2 => g2 = g ∧ (ja.toInt ≠ 0 ∨ jb.toInt ≠ 0 → r.toInt ≠ 0))) ([.long ja, .long jb] : List Value).toArray s 0 0 (wA ad 218)) (F0 m 6 ls []) := by
    intro n6
    induction n6 with
    | zero =>
      intro v6_6 v6_4 H locs ls hm6 he6_0 hP hS hl
      exact absurd hm6 (Nat.not_lt_zero _)
    | succ n6 ih6 =>
      intro v6_6 v6_4 H locs ls hm6 he6_0 hP hS hl
      refine lv_lload hx hb dX12_divisor_6 (lv_at hl 0 rfl) ?_
      refine lv_lconst (v := 0) hx hb dX12_divisor_8 (by decide) ?_
      refine W.lcmp hx hb dX12_divisor_9 ?_
      refine lv_if_eq (tgt := 31) hx hb dX12_divisor_10 (by decide) (fun hc_1 => ?_) (fun hc_1 => ?_)
      · have hhc_1 := j_ceq (rfl : v6_6.toInt = v6_6.toInt) (by decide : (0 : Int64).toInt = 0) hc_1
        refine lv_lload hx hb dX12_divisor_31 (lv_at hl 1 rfl) ?_
        exact q_lret X hP hS ⟨rfl, (by omega)⟩ dX12_divisor_33
      · have hhc_1 := j_cne (rfl : v6_6.toInt = v6_6.toInt) (by decide : (0 : Int64).toInt = 0) hc_1
        refine lv_lload hx hb dX12_divisor_13 (lv_at hl 1 rfl) ?_
        refine lv_lload hx hb dX12_divisor_15 (lv_at hl 0 rfl) ?_
        refine lv_lrem hx hb dX12_divisor_17 (fun q => by have := congrArg Int64.toInt q; have e0 : (0 : Int64).toInt = 0 := (by decide); omega) ?_
        refine lv_topl (fun z_2 ez_2 => ?_)
        have hrem := j_rem (by omega) ez_2
        refine lv_lstore (lv' := [(8, .long z_2), (6, .long v6_6), (4, .long v6_4)]) hx hb dX12_divisor_18 hl (by decide) rfl (fun ls hl => ?_)
        refine lv_lload hx hb dX12_divisor_20 (lv_at hl 1 rfl) ?_
        refine lv_lstore (lv' := [(4, .long v6_6), (8, .long z_2), (6, .long v6_6)]) hx hb dX12_divisor_22 hl (by decide) rfl (fun ls hl => ?_)
        refine lv_lload hx hb dX12_divisor_24 (lv_at hl 1 rfl) ?_
        refine lv_lstore (lv' := [(6, .long z_2), (4, .long v6_6), (8, .long z_2)]) hx hb dX12_divisor_26 hl (by decide) rfl (fun ls hl => ?_)
        refine lv_goto (tgt := 6) hx hb dX12_divisor_28 (by decide) ?_
        exact ih6 z_2 v6_6 _ _ ls (by omega) (by omega) hP hS (lv_sub hl [0, 1] rfl)
  exact HL6 _ jb ja _ _ ls (Nat.lt_succ_self _) (by omega) hP hS (lv_sub hl [0, 1] rfl)

theorem dX12_chance_0 : decode cX12_chance 0 = .ok (.aload_n 0, 1) := by decide +kernel
theorem dX12_chance_1 : decode cX12_chance 1 = .ok (.iload_n 1, 1) := by decide +kernel
theorem dX12_chance_2 : decode cX12_chance 2 = .ok (.i2l, 1) := by decide +kernel
theorem dX12_chance_3 : decode cX12_chance 3 = .ok (.invokevirtual 221, 3) := by decide +kernel
theorem dX12_chance_6 : decode cX12_chance 6 = .ok (.ifCond .eq 21, 3) := by decide +kernel
theorem dX12_chance_9 : decode cX12_chance 9 = .ok (.aload_n 0, 1) := by decide +kernel
theorem dX12_chance_10 : decode cX12_chance 10 = .ok (.iload_n 2, 1) := by decide +kernel
theorem dX12_chance_11 : decode cX12_chance 11 = .ok (.invokevirtual 205, 3) := by decide +kernel
theorem dX12_chance_14 : decode cX12_chance 14 = .ok (.ifCond .eq 13, 3) := by decide +kernel
theorem dX12_chance_17 : decode cX12_chance 17 = .ok (.iload_n 3, 1) := by decide +kernel
theorem dX12_chance_18 : decode cX12_chance 18 = .ok (.i2l, 1) := by decide +kernel
theorem dX12_chance_19 : decode cX12_chance 19 = .ok (.lconst 0, 1) := by decide +kernel
theorem dX12_chance_20 : decode cX12_chance 20 = .ok (.lconst 1, 1) := by decide +kernel
theorem dX12_chance_21 : decode cX12_chance 21 = .ok (.invokestatic 82, 3) := by decide +kernel
theorem dX12_chance_24 : decode cX12_chance 24 = .ok (.ifCond .ne 7, 3) := by decide +kernel
theorem dX12_chance_31 : decode cX12_chance 31 = .ok (.aload_n 0, 1) := by decide +kernel
theorem dX12_chance_32 : decode cX12_chance 32 = .ok (.aload_n 0, 1) := by decide +kernel
theorem dX12_chance_33 : decode cX12_chance 33 = .ok (.iload_n 1, 1) := by decide +kernel
theorem dX12_chance_34 : decode cX12_chance 34 = .ok (.iconst 0, 1) := by decide +kernel
theorem dX12_chance_35 : decode cX12_chance 35 = .ok (.invokevirtual 225, 3) := by decide +kernel
theorem dX12_chance_38 : decode cX12_chance 38 = .ok (.aload_n 0, 1) := by decide +kernel
theorem dX12_chance_39 : decode cX12_chance 39 = .ok (.iload_n 1, 1) := by decide +kernel
theorem dX12_chance_40 : decode cX12_chance 40 = .ok (.iconst 1, 1) := by decide +kernel
theorem dX12_chance_41 : decode cX12_chance 41 = .ok (.invokevirtual 225, 3) := by decide +kernel
theorem dX12_chance_44 : decode cX12_chance 44 = .ok (.invokevirtual 365, 3) := by decide +kernel
theorem dX12_chance_47 : decode cX12_chance 47 = .ok (.iload_n 3, 1) := by decide +kernel
theorem dX12_chance_48 : decode cX12_chance 48 = .ok (.ifCond .ne 12, 3) := by decide +kernel
theorem dX12_chance_51 : decode cX12_chance 51 = .ok (.aload_n 0, 1) := by decide +kernel
theorem dX12_chance_52 : decode cX12_chance 52 = .ok (.getfield 56, 3) := by decide +kernel
theorem dX12_chance_55 : decode cX12_chance 55 = .ok (.iload_n 2, 1) := by decide +kernel
theorem dX12_chance_56 : decode cX12_chance 56 = .ok (.laload, 1) := by decide +kernel
theorem dX12_chance_57 : decode cX12_chance 57 = .ok (.goto 7, 3) := by decide +kernel
theorem dX12_chance_60 : decode cX12_chance 60 = .ok (.aload_n 0, 1) := by decide +kernel
theorem dX12_chance_61 : decode cX12_chance 61 = .ok (.getfield 353, 3) := by decide +kernel
theorem dX12_chance_64 : decode cX12_chance 64 = .ok (.aload_n 0, 1) := by decide +kernel
theorem dX12_chance_65 : decode cX12_chance 65 = .ok (.getfield 56, 3) := by decide +kernel
theorem dX12_chance_68 : decode cX12_chance 68 = .ok (.iload_n 2, 1) := by decide +kernel
theorem dX12_chance_69 : decode cX12_chance 69 = .ok (.laload, 1) := by decide +kernel
theorem dX12_chance_70 : decode cX12_chance 70 = .ok (.aload_n 0, 1) := by decide +kernel
theorem dX12_chance_71 : decode cX12_chance 71 = .ok (.getfield 353, 3) := by decide +kernel
theorem dX12_chance_74 : decode cX12_chance 74 = .ok (.invokestatic 369, 3) := by decide +kernel
theorem dX12_chance_77 : decode cX12_chance 77 = .ok (.ldiv, 1) := by decide +kernel
theorem dX12_chance_78 : decode cX12_chance 78 = .ok (.lreturn, 1) := by decide +kernel
theorem dX12_chance_27 : decode cX12_chance 27 = .ok (.ldc2_w 363, 3) := by decide +kernel
theorem dX12_chance_30 : decode cX12_chance 30 = .ok (.lreturn, 1) := by decide +kernel
noncomputable def vX12_chance : List Cond := .code yX12_chance cX12_chance 4 (some .long) :: (([.methodLink RX12 221 yX12_isIcicle, .instanceMethod yX12_isIcicle, .selects RX12 yX12_isIcicle yX12_isIcicle, .initialized RX12, .methodLink RX12 205 yX12_isDay, .instanceMethod yX12_isDay, .selects RX12 yX12_isDay yX12_isDay, .methodLink RX12 82 yX12_in, .static yX12_in, .methodLink RX12 225 yX12_of, .instanceMethod yX12_of, .selects RX12 yX12_of yX12_of, .methodLink RX12 365 yX12_layWarm, .instanceMethod yX12_layWarm, .selects RX12 yX12_layWarm yX12_layWarm, .fieldLink RX12 56 "IcicleClockModel" "oftenOn" "[J", .fieldLink RX12 353 "IcicleClockModel" "oftenAll" "J", .methodLink RX12 369 yX12_divisor, .static yX12_divisor, .constantLong RX12 363 (-2)] : List Cond) ++ (wsX120 ++ (vX12_isIcicle ++ (vX12_isDay ++ (vX12_in ++ (vX12_of ++ (vX12_layWarm ++ vX12_divisor)))))))
theorem iX12_chance_12 : ∀ w ∈ wsX120, w ∈ vX12_chance := fun _ h => List.mem_cons_of_mem _ (List.mem_append_right _ (List.mem_append_left _ h))
theorem gs_X12_chance : Gd vX12_chance := Gd.cons (by decide +kernel) (Gd.app (Gd.r (by decide +kernel)) (Gd.app gwX_12 (Gd.app gs_X12_isIcicle (Gd.app gs_X12_isDay (Gd.app gs_X12_in (Gd.app gs_X12_of (Gd.app gs_X12_layWarm gs_X12_divisor)))))))
theorem gg_X12_chance_X12_isIcicle : GoodIn vX12_chance (wsV RX12 221 RX12 yX12_isIcicle vX12_isIcicle) := goodIn_app (goodIn_r _ [1, 2, 3, 4] (by decide +kernel) (by decide +kernel)) (fun w h => ⟨List.mem_cons_of_mem _ (List.mem_append_right _ (List.mem_append_right _ (List.mem_append_left _ h))), gs_X12_isIcicle w h⟩)
theorem gg_X12_chance_X12_isDay : GoodIn vX12_chance (wsV RX12 205 RX12 yX12_isDay vX12_isDay) := goodIn_app (goodIn_r _ [5, 6, 7, 4] (by decide +kernel) (by decide +kernel)) (fun w h => ⟨List.mem_cons_of_mem _ (List.mem_append_right _ (List.mem_append_right _ (List.mem_append_right _ (List.mem_append_left _ h)))), gs_X12_isDay w h⟩)
theorem gg_X12_chance_X12_in : GoodIn vX12_chance (wsS RX12 82 yX12_in vX12_in) := goodIn_app (goodIn_r _ [8, 9, 4] (by decide +kernel) (by decide +kernel)) (fun w h => ⟨List.mem_cons_of_mem _ (List.mem_append_right _ (List.mem_append_right _ (List.mem_append_right _ (List.mem_append_right _ (List.mem_append_left _ h))))), gs_X12_in w h⟩)
theorem gg_X12_chance_X12_of : GoodIn vX12_chance (wsV RX12 225 RX12 yX12_of vX12_of) := goodIn_app (goodIn_r _ [10, 11, 12, 4] (by decide +kernel) (by decide +kernel)) (fun w h => ⟨List.mem_cons_of_mem _ (List.mem_append_right _ (List.mem_append_right _ (List.mem_append_right _ (List.mem_append_right _ (List.mem_append_right _ (List.mem_append_left _ h)))))), gs_X12_of w h⟩)
theorem gg_X12_chance_X12_layWarm : GoodIn vX12_chance (wsV RX12 365 RX12 yX12_layWarm vX12_layWarm) := goodIn_app (goodIn_r _ [13, 14, 15, 4] (by decide +kernel) (by decide +kernel)) (fun w h => ⟨List.mem_cons_of_mem _ (List.mem_append_right _ (List.mem_append_right _ (List.mem_append_right _ (List.mem_append_right _ (List.mem_append_right _ (List.mem_append_right _ (List.mem_append_left _ h))))))), gs_X12_layWarm w h⟩)
theorem gg_X12_chance_X12_divisor : GoodIn vX12_chance (wsS RX12 369 yX12_divisor vX12_divisor) := goodIn_app (goodIn_r _ [18, 19, 4] (by decide +kernel) (by decide +kernel)) (fun w h => ⟨List.mem_cons_of_mem _ (List.mem_append_right _ (List.mem_append_right _ (List.mem_append_right _ (List.mem_append_right _ (List.mem_append_right _ (List.mem_append_right _ (List.mem_append_right _ (h)))))))), gs_X12_divisor w h⟩)
set_option maxHeartbeats 4000000 in
set_option maxRecDepth 100000 in
theorem s_X12_chance (l : Launch) (D : va_G) (cs : Nat → ClassId) (ad : Nat → Nat) (kS : kSt) (K : sK) (hKO : KO K) (hj : wJ ad 218) (g : Nat → va_E) (hW : WF (shp ad K) ad cs g) (ic : Int32) (dy : Int32) (wh : Int32) : sJ l yX12_chance vX12_chance { frames := 3, cells := 0, slots := 0, locals := 72 } D cs ad kS [.ref (ad 197), .int ic, .int dy, .int wh] g (fun r g2 => WF (shp ad K) ad cs g2 ∧ (∀ j, j ≠ 197 ∧ j ≠ 204 ∧ j ≠ 209 ∧ j ≠ 210 ∧ j ≠ 211 → g2 j = g j)) := by
  refine Met.startS (cc := cX12_chance) (maxL := 4) (ret := (some .long)) RX12 rfl (by decide) rfl (Nat.le_of_ble_eq_true rfl) ?_
  intro p e s m below meth c ls X Z hP hl
  have hx := X.1
  have hb := X.2.1
  have hS : va_S (wA ad 218) s.heap s.heap [] := va_S.rf
  have hA : ∀ i, i < 218 → wA ad 218 (ad i) := fun i h => ⟨i, h, rfl⟩
  have hfr : ∀ j, j ≠ 197 ∧ j ≠ 204 ∧ j ≠ 209 ∧ j ≠ 210 ∧ j ≠ 211 → g j = g j := fun _ _ => rfl
  have hl : lv_has ls 4 [(0, .ref (ad 197)), (1, .int ic), (2, .int dy), (3, .int wh)] := hl
  obtain ⟨fsc_1, hgc_1, hOc_1⟩ := hW.obj (i := 197) (by decide) (sh_197 ad K)
  obtain ⟨x_3, hk_2, -⟩ := hOc_1.lng 30 rfl
  have hgix_3 := gJ_of hgc_1 hk_2
  refine lv_aload_n hx hb dX12_chance_0 rfl (lv_at hl 0 rfl) ?_
  refine lv_iload_n hx hb dX12_chance_1 rfl (lv_at hl 1 rfl) ?_
  refine lv_i2l hx hb dX12_chance_2 rfl ?_
  refine lv_topl (fun z_4 ez_4 => ?_)
  have hz_4 : z_4.toInt = ic.toInt := ez_4 ▸ j_of rfl
  have := n_hi ic
  have := n_lo ic
  have hgi_5 := gJ_of hgc_1 hk_2
  refine s_calli (q := (RX12, TX12, 40)) (As := [.long z_4]) (rest := []) X Z (s_X12_isIcicle l D cs ad kS K hKO hj g hW z_4) (cwV 1 X.2.2.2.2.1 gg_X12_chance_X12_isIcicle rfl rfl rfl (by decide +kernel) ⟨Nat.le_of_ble_eq_true rfl, Nat.le_of_ble_eq_true rfl⟩) (by decide) hgc_1 rfl hP hA hS.2.1 hS rfl hl.1 rfl (Nat.le_of_ble_eq_true rfl) dX12_chance_3 ⟨Nat.le_of_ble_eq_true rfl, Nat.le_of_ble_eq_true rfl⟩ (fun r_8 g_7 H locs hw_6 hP hS => ?_)
  obtain ⟨hw_6g, hw_6⟩ := hw_6
  rw [hw_6g] at hP
  have HJ27 : ∀ (G27 : Nat → va_E) (H : Heap) (locs : List Loc) (ls : Array Slot), WF (shp ad K) ad cs G27 → (∀ j, j ≠ 197 ∧ j ≠ 204 ∧ j ≠ 209 ∧ j ≠ 210 ∧ j ≠ 211 → G27 j = g j) → G27 197 = .inr (12, fsc_1) → va_P D vwCl (wL ad G27 218) H → va_S (wA ad 218) s.heap H locs → lv_has ls 4 [] → W p l e ({ frames := 3, cells := 0, slots := 0, locals := 72 } : Room) s m ([.ref (ad 197), .int ic, .int dy, .int wh] : List Value).toArray below meth c H locs 0 0 (MQ below (qJ D ad 218 (fun r g2 => WF (shp ad K) ad cs g2 ∧ (∀ j, j ≠ 197 ∧ j ≠ 204 ∧ j ≠ 209 ∧ j ≠ 210 ∧ j ≠ 211 → g2 j = g j))) ([.ref (ad 197), .int ic, .int dy, .int wh] : List Value).toArray s 0 0 (wA ad 218)) (F0 m 27 ls []) := by
    intro G27 H locs ls hW27 hfr27 hg27_0 hP hS hl
    have hgi_9 := gJ_of hg27_0 hk_2
    refine lv_ldc2 (v := (-2)) hx hb X.2.2.2.2.2.1 (X.2.2.2.2.1 _ (List.mem_of_getElem? (i := 20) rfl)) dX12_chance_27 ?_
    exact q_lret X hP hS ⟨hW27, hfr27⟩ dX12_chance_30
  refine lv_if_eq (tgt := 27) hx hb dX12_chance_6 (by decide) (fun hc_10 => ?_) (fun hc_10 => ?_)
  · have hhc_10 := n_eq (rfl : r_8.toInt = r_8.toInt) (by decide : (0 : Int32).toInt = 0) hc_10
    have hgi_11 := gJ_of hgc_1 hk_2
    exact HJ27 g _ _ ls hW hfr hgc_1 hP hS (lv_sub hl [] rfl)
  · have hhc_10 := n_ne (rfl : r_8.toInt = r_8.toInt) (by decide : (0 : Int32).toInt = 0) hc_10
    refine lv_aload_n hx hb dX12_chance_9 rfl (lv_at hl 0 rfl) ?_
    refine lv_iload_n hx hb dX12_chance_10 rfl (lv_at hl 2 rfl) ?_
    have hgi_12 := gJ_of hgc_1 hk_2
    refine s_calli (q := (RX12, TX12, 40)) (As := [.int dy]) (rest := []) X Z (s_X12_isDay l D cs ad kS K hKO hj g hW dy) (cwV 1 X.2.2.2.2.1 gg_X12_chance_X12_isDay rfl rfl rfl (by decide +kernel) ⟨Nat.le_of_ble_eq_true rfl, Nat.le_of_ble_eq_true rfl⟩) (by decide) hgc_1 rfl hP hA hS.2.1 hS rfl hl.1 rfl (Nat.le_of_ble_eq_true rfl) dX12_chance_11 ⟨Nat.le_of_ble_eq_true rfl, Nat.le_of_ble_eq_true rfl⟩ (fun r_15 g_14 H locs hw_13 hP hS => ?_)
    obtain ⟨hw_13g, hw_13⟩ := hw_13
    rw [hw_13g] at hP
    refine lv_if_eq (tgt := 27) hx hb dX12_chance_14 (by decide) (fun hc_16 => ?_) (fun hc_16 => ?_)
    · have hhc_16 := n_eq (rfl : r_15.toInt = r_15.toInt) (by decide : (0 : Int32).toInt = 0) hc_16
      have hgi_17 := gJ_of hgc_1 hk_2
      exact HJ27 g _ _ ls hW hfr hgc_1 hP hS (lv_sub hl [] rfl)
    · have hhc_16 := n_ne (rfl : r_15.toInt = r_15.toInt) (by decide : (0 : Int32).toInt = 0) hc_16
      refine lv_iload_n hx hb dX12_chance_17 rfl (lv_at hl 3 rfl) ?_
      refine lv_i2l hx hb dX12_chance_18 rfl ?_
      refine lv_topl (fun z_18 ez_18 => ?_)
      have hz_18 : z_18.toInt = wh.toInt := ez_18 ▸ j_of rfl
      have := n_hi wh
      have := n_lo wh
      refine lv_lconst (v := 0) hx hb dX12_chance_19 (by decide) ?_
      refine lv_lconst (v := 1) hx hb dX12_chance_20 (by decide) ?_
      have hgi_19 := gJ_of hgc_1 hk_2
      refine s_callSi (As := [.long z_18, .long 0, .long 1]) (rest := []) X Z (s_X12_in l D cs ad kS K hKO hj g hW z_18 0 1) (cwS 3 X.2.2.2.2.1 gg_X12_chance_X12_in rfl rfl rfl (by decide +kernel) ⟨Nat.le_of_ble_eq_true rfl, Nat.le_of_ble_eq_true rfl⟩) hP hA hS.2.1 hS rfl hl.1 rfl (Nat.le_of_ble_eq_true rfl) dX12_chance_21 ⟨Nat.le_of_ble_eq_true rfl, Nat.le_of_ble_eq_true rfl⟩ (fun r_22 g_21 H locs hw_20 hP hS => ?_)
      obtain ⟨hw_20g, hw_20⟩ := hw_20
      rw [hw_20g] at hP
      have hqk_23 : (0 : Int64).toInt = 0 := by decide
      have hqk_24 : (1 : Int64).toInt = 1 := by decide
      refine lv_if_ne (tgt := 31) hx hb dX12_chance_24 (by decide) (fun hc_25 => ?_) (fun hc_25 => ?_)
      · have hhc_25 := n_ne (rfl : r_22.toInt = r_22.toInt) (by decide : (0 : Int32).toInt = 0) hc_25
        refine lv_aload_n hx hb dX12_chance_31 rfl (lv_at hl 0 rfl) ?_
        refine lv_aload_n hx hb dX12_chance_32 rfl (lv_at hl 0 rfl) ?_
        refine lv_iload_n hx hb dX12_chance_33 rfl (lv_at hl 1 rfl) ?_
        refine lv_iconst (v := 0) hx hb dX12_chance_34 (by decide) ?_
        have hgi_26 := gJ_of hgc_1 hk_2
        have hqk_27 : (0 : Int32).toInt = 0 := by decide
        refine s_calli (q := (RX12, TX12, 40)) (As := [.int ic, .int 0]) (rest := [.ref (ad 197)]) X Z (s_X12_of l D cs ad kS K hKO hj g hW ic 0 (by omega) (by omega)) (cwV 2 X.2.2.2.2.1 gg_X12_chance_X12_of rfl rfl rfl (by decide +kernel) ⟨Nat.le_of_ble_eq_true rfl, Nat.le_of_ble_eq_true rfl⟩) (by decide) hgc_1 rfl hP hA hS.2.1 hS rfl hl.1 rfl (Nat.le_of_ble_eq_true rfl) dX12_chance_35 ⟨Nat.le_of_ble_eq_true rfl, Nat.le_of_ble_eq_true rfl⟩ (fun r_30 g_29 H locs hw_28 hP hS => ?_)
        obtain ⟨hw_28g, hw_28⟩ := hw_28
        rw [hw_28g] at hP
        have hqk_31 : (0 : Int32).toInt = 0 := by decide
        refine lv_aload_n hx hb dX12_chance_38 rfl (lv_at hl 0 rfl) ?_
        refine lv_iload_n hx hb dX12_chance_39 rfl (lv_at hl 1 rfl) ?_
        refine lv_iconst (v := 1) hx hb dX12_chance_40 (by decide) ?_
        have hgi_32 := gJ_of hgc_1 hk_2
        have hqk_33 : (1 : Int32).toInt = 1 := by decide
        refine s_calli (q := (RX12, TX12, 40)) (As := [.int ic, .int 1]) (rest := [.int r_30, .ref (ad 197)]) X Z (s_X12_of l D cs ad kS K hKO hj g hW ic 1 (by omega) (by omega)) (cwV 2 X.2.2.2.2.1 gg_X12_chance_X12_of rfl rfl rfl (by decide +kernel) ⟨Nat.le_of_ble_eq_true rfl, Nat.le_of_ble_eq_true rfl⟩) (by decide) hgc_1 rfl hP hA hS.2.1 hS rfl hl.1 rfl (Nat.le_of_ble_eq_true rfl) dX12_chance_41 ⟨Nat.le_of_ble_eq_true rfl, Nat.le_of_ble_eq_true rfl⟩ (fun r_36 g_35 H locs hw_34 hP hS => ?_)
        obtain ⟨hw_34g, hw_34⟩ := hw_34
        rw [hw_34g] at hP
        have hqk_37 : (1 : Int32).toInt = 1 := by decide
        have hgi_38 := gJ_of hgc_1 hk_2
        refine s_callv (q := (RX12, TX12, 40)) (As := [.int r_30, .int r_36]) (rest := []) X Z (s_X12_layWarm l D cs ad kS K hKO hj g hW r_30 r_36 (by omega)) (cwV 2 X.2.2.2.2.1 gg_X12_chance_X12_layWarm rfl rfl rfl (by decide +kernel) ⟨Nat.le_of_ble_eq_true rfl, Nat.le_of_ble_eq_true rfl⟩) (by decide) hgc_1 rfl hP hA hS.2.1 hS rfl hl.1 rfl (Nat.le_of_ble_eq_true rfl) dX12_chance_44 ⟨Nat.le_of_ble_eq_true rfl, Nat.le_of_ble_eq_true rfl⟩ (fun g_40 H locs hw_39 hP hS => ?_)
        obtain ⟨hw_39W, hw_39f, hw_39⟩ := hw_39
        have hfr_42 : ∀ j, j ≠ 197 ∧ j ≠ 204 ∧ j ≠ 209 ∧ j ≠ 210 ∧ j ≠ 211 → g_40 j = g j := fun j hj => (hw_39f j (by omega)).trans (hfr j hj)
        refine lv_iload_n hx hb dX12_chance_47 rfl (lv_at hl 3 rfl) ?_
        refine lv_if_ne (tgt := 60) hx hb dX12_chance_48 (by decide) (fun hc_43 => ?_) (fun hc_43 => ?_)
        · have hhc_43 := n_ne (rfl : wh.toInt = wh.toInt) (by decide : (0 : Int32).toInt = 0) hc_43
          refine lv_aload_n hx hb dX12_chance_60 rfl (lv_at hl 0 rfl) ?_
          obtain ⟨fsc_44, hgc_44, hOc_44⟩ := hw_39W.obj (i := 197) (by decide) (sh_197 ad K)
          obtain ⟨x_46, hk_45, -⟩ := hOc_44.lng 30 rfl
          have hgix_46 := gJ_of hgc_44 hk_45
          refine q_get X iX12_chance_12 hP (by decide) hgc_44 rfl 30 (by decide) (List.mem_of_getElem? (i := 17) rfl) (v := .long x_46) hk_45 dX12_chance_61 ?_
          refine lv_aload_n hx hb dX12_chance_64 rfl (lv_at hl 0 rfl) ?_
          have hk_47 := hOc_44.ref 29 rfl
          refine q_get X iX12_chance_12 hP (by decide) hgc_44 rfl 29 (by decide) (List.mem_of_getElem? (i := 16) rfl) (v := .ref (ad 211)) hk_47 dX12_chance_65 ?_
          refine lv_iload_n hx hb dX12_chance_68 rfl (lv_at hl 2 rfl) ?_
          obtain ⟨fc_48, hgc_48, hFc_48⟩ := hw_39W.arj (i := 211) (by decide) (sh_211 ad K)
          refine q_lald X hP (by decide) hgc_48 (n_in (rfl : dy.toInt = dy.toInt) (by omega) (by omega)) dX12_chance_69 ?_
          refine lv_topl (fun z_49 ez_49 => ?_)
          refine lv_aload_n hx hb dX12_chance_70 rfl (lv_at hl 0 rfl) ?_
          refine q_get X iX12_chance_12 hP (by decide) hgc_44 rfl 30 (by decide) (List.mem_of_getElem? (i := 17) rfl) (v := .long x_46) hk_45 dX12_chance_71 ?_
          have hgi_50 := gJ_of hgc_44 hk_45
          refine s_callSj (As := [.long z_49, .long x_46]) (rest := [.long x_46]) X Z (s_X12_divisor l D cs ad kS K hKO hj g_40 hw_39W z_49 x_46) (cwS 2 X.2.2.2.2.1 gg_X12_chance_X12_divisor rfl rfl rfl (by decide +kernel) ⟨Nat.le_of_ble_eq_true rfl, Nat.le_of_ble_eq_true rfl⟩) hP hA hS.2.1 hS rfl hl.1 rfl (Nat.le_of_ble_eq_true rfl) dX12_chance_74 ⟨Nat.le_of_ble_eq_true rfl, Nat.le_of_ble_eq_true rfl⟩ (fun r_53 g_52 H locs hw_51 hP hS => ?_)
          obtain ⟨hw_51g, hw_51⟩ := hw_51
          rw [hw_51g] at hP
          refine lv_ldiv hx hb dX12_chance_77 (fun q => by have := congrArg Int64.toInt q; have e0 : (0 : Int64).toInt = 0 := (by decide); omega) ?_
          refine lv_topl (fun z_54 ez_54 => ?_)
          exact q_lret X hP hS ⟨hw_39W, hfr_42⟩ dX12_chance_78
        · have hhc_43 := n_eq (rfl : wh.toInt = wh.toInt) (by decide : (0 : Int32).toInt = 0) hc_43
          refine lv_aload_n hx hb dX12_chance_51 rfl (lv_at hl 0 rfl) ?_
          obtain ⟨fsc_55, hgc_55, hOc_55⟩ := hw_39W.obj (i := 197) (by decide) (sh_197 ad K)
          have hk_56 := hOc_55.ref 29 rfl
          refine q_get X iX12_chance_12 hP (by decide) hgc_55 rfl 29 (by decide) (List.mem_of_getElem? (i := 16) rfl) (v := .ref (ad 211)) hk_56 dX12_chance_52 ?_
          refine lv_iload_n hx hb dX12_chance_55 rfl (lv_at hl 2 rfl) ?_
          obtain ⟨fc_57, hgc_57, hFc_57⟩ := hw_39W.arj (i := 211) (by decide) (sh_211 ad K)
          refine q_lald X hP (by decide) hgc_57 (n_in (rfl : dy.toInt = dy.toInt) (by omega) (by omega)) dX12_chance_56 ?_
          refine lv_topl (fun z_58 ez_58 => ?_)
          refine lv_goto (tgt := 64) hx hb dX12_chance_57 (by decide) ?_
          refine lv_aload_n hx hb dX12_chance_64 rfl (lv_at hl 0 rfl) ?_
          refine q_get X iX12_chance_12 hP (by decide) hgc_55 rfl 29 (by decide) (List.mem_of_getElem? (i := 16) rfl) (v := .ref (ad 211)) hk_56 dX12_chance_65 ?_
          refine lv_iload_n hx hb dX12_chance_68 rfl (lv_at hl 2 rfl) ?_
          refine q_lald X hP (by decide) hgc_57 (n_in (rfl : dy.toInt = dy.toInt) (by omega) (by omega)) dX12_chance_69 ?_
          refine lv_topl (fun z_59 ez_59 => ?_)
          have hsz_59 : z_59.toInt = z_58.toInt := by rw [ez_59, ez_58]
          refine lv_aload_n hx hb dX12_chance_70 rfl (lv_at hl 0 rfl) ?_
          obtain ⟨x_61, hk_60, -⟩ := hOc_55.lng 30 rfl
          have hgix_61 := gJ_of hgc_55 hk_60
          refine q_get X iX12_chance_12 hP (by decide) hgc_55 rfl 30 (by decide) (List.mem_of_getElem? (i := 17) rfl) (v := .long x_61) hk_60 dX12_chance_71 ?_
          have hgi_62 := gJ_of hgc_55 hk_60
          refine s_callSj (As := [.long z_59, .long x_61]) (rest := [.long z_58]) X Z (s_X12_divisor l D cs ad kS K hKO hj g_40 hw_39W z_59 x_61) (cwS 2 X.2.2.2.2.1 gg_X12_chance_X12_divisor rfl rfl rfl (by decide +kernel) ⟨Nat.le_of_ble_eq_true rfl, Nat.le_of_ble_eq_true rfl⟩) hP hA hS.2.1 hS rfl hl.1 rfl (Nat.le_of_ble_eq_true rfl) dX12_chance_74 ⟨Nat.le_of_ble_eq_true rfl, Nat.le_of_ble_eq_true rfl⟩ (fun r_65 g_64 H locs hw_63 hP hS => ?_)
          obtain ⟨hw_63g, hw_63⟩ := hw_63
          rw [hw_63g] at hP
          refine lv_ldiv hx hb dX12_chance_77 (fun q => by have := congrArg Int64.toInt q; have e0 : (0 : Int64).toInt = 0 := (by decide); omega) ?_
          refine lv_topl (fun z_66 ez_66 => ?_)
          exact q_lret X hP hS ⟨hw_39W, hfr_42⟩ dX12_chance_78
      · have hhc_25 := n_eq (rfl : r_22.toInt = r_22.toInt) (by decide : (0 : Int32).toInt = 0) hc_25
        have hgi_67 := gJ_of hgc_1 hk_2
        exact HJ27 g _ _ ls hW hfr hgc_1 hP hS (lv_sub hl [] rfl)

theorem dX12_likely_0 : decode cX12_likely 0 = .ok (.aload_n 0, 1) := by decide +kernel
theorem dX12_likely_1 : decode cX12_likely 1 = .ok (.iload_n 1, 1) := by decide +kernel
theorem dX12_likely_2 : decode cX12_likely 2 = .ok (.i2l, 1) := by decide +kernel
theorem dX12_likely_3 : decode cX12_likely 3 = .ok (.invokevirtual 221, 3) := by decide +kernel
theorem dX12_likely_6 : decode cX12_likely 6 = .ok (.ifCond .ne 6, 3) := by decide +kernel
theorem dX12_likely_9 : decode cX12_likely 9 = .ok (.bipush (-2), 2) := by decide +kernel
theorem dX12_likely_11 : decode cX12_likely 11 = .ok (.ireturn, 1) := by decide +kernel
theorem dX12_likely_12 : decode cX12_likely 12 = .ok (.aload_n 0, 1) := by decide +kernel
theorem dX12_likely_13 : decode cX12_likely 13 = .ok (.aload_n 0, 1) := by decide +kernel
theorem dX12_likely_14 : decode cX12_likely 14 = .ok (.iload_n 1, 1) := by decide +kernel
theorem dX12_likely_15 : decode cX12_likely 15 = .ok (.iconst 0, 1) := by decide +kernel
theorem dX12_likely_16 : decode cX12_likely 16 = .ok (.invokevirtual 225, 3) := by decide +kernel
theorem dX12_likely_19 : decode cX12_likely 19 = .ok (.aload_n 0, 1) := by decide +kernel
theorem dX12_likely_20 : decode cX12_likely 20 = .ok (.iload_n 1, 1) := by decide +kernel
theorem dX12_likely_21 : decode cX12_likely 21 = .ok (.iconst 1, 1) := by decide +kernel
theorem dX12_likely_22 : decode cX12_likely 22 = .ok (.invokevirtual 225, 3) := by decide +kernel
theorem dX12_likely_25 : decode cX12_likely 25 = .ok (.invokevirtual 365, 3) := by decide +kernel
theorem dX12_likely_28 : decode cX12_likely 28 = .ok (.iconst (-1), 1) := by decide +kernel
theorem dX12_likely_29 : decode cX12_likely 29 = .ok (.istore_n 2, 1) := by decide +kernel
theorem dX12_likely_30 : decode cX12_likely 30 = .ok (.aload_n 0, 1) := by decide +kernel
theorem dX12_likely_31 : decode cX12_likely 31 = .ok (.getfield 360, 3) := by decide +kernel
theorem dX12_likely_34 : decode cX12_likely 34 = .ok (.lstore_n 3, 1) := by decide +kernel
theorem dX12_likely_35 : decode cX12_likely 35 = .ok (.iconst 0, 1) := by decide +kernel
theorem dX12_likely_36 : decode cX12_likely 36 = .ok (.istore 5, 2) := by decide +kernel
theorem dX12_likely_38 : decode cX12_likely 38 = .ok (.iload 5, 2) := by decide +kernel
theorem dX12_likely_40 : decode cX12_likely 40 = .ok (.aload_n 0, 1) := by decide +kernel
theorem dX12_likely_41 : decode cX12_likely 41 = .ok (.getfield 231, 3) := by decide +kernel
theorem dX12_likely_44 : decode cX12_likely 44 = .ok (.if_icmp .ge 35, 3) := by decide +kernel
theorem dX12_likely_47 : decode cX12_likely 47 = .ok (.aload_n 0, 1) := by decide +kernel
theorem dX12_likely_48 : decode cX12_likely 48 = .ok (.getfield 56, 3) := by decide +kernel
theorem dX12_likely_51 : decode cX12_likely 51 = .ok (.iload 5, 2) := by decide +kernel
theorem dX12_likely_53 : decode cX12_likely 53 = .ok (.laload, 1) := by decide +kernel
theorem dX12_likely_54 : decode cX12_likely 54 = .ok (.lload_n 3, 1) := by decide +kernel
theorem dX12_likely_55 : decode cX12_likely 55 = .ok (.lcmp, 1) := by decide +kernel
theorem dX12_likely_56 : decode cX12_likely 56 = .ok (.ifCond .gt 6, 3) := by decide +kernel
theorem dX12_likely_59 : decode cX12_likely 59 = .ok (.goto 14, 3) := by decide +kernel
theorem dX12_likely_62 : decode cX12_likely 62 = .ok (.aload_n 0, 1) := by decide +kernel
theorem dX12_likely_63 : decode cX12_likely 63 = .ok (.getfield 56, 3) := by decide +kernel
theorem dX12_likely_66 : decode cX12_likely 66 = .ok (.iload 5, 2) := by decide +kernel
theorem dX12_likely_68 : decode cX12_likely 68 = .ok (.laload, 1) := by decide +kernel
theorem dX12_likely_69 : decode cX12_likely 69 = .ok (.lstore_n 3, 1) := by decide +kernel
theorem dX12_likely_70 : decode cX12_likely 70 = .ok (.iload 5, 2) := by decide +kernel
theorem dX12_likely_72 : decode cX12_likely 72 = .ok (.istore_n 2, 1) := by decide +kernel
theorem dX12_likely_73 : decode cX12_likely 73 = .ok (.iinc 5 1, 3) := by decide +kernel
theorem dX12_likely_76 : decode cX12_likely 76 = .ok (.goto (-38), 3) := by decide +kernel
theorem dX12_likely_79 : decode cX12_likely 79 = .ok (.iload_n 2, 1) := by decide +kernel
theorem dX12_likely_80 : decode cX12_likely 80 = .ok (.ireturn, 1) := by decide +kernel
noncomputable def vX12_likely : List Cond := .code yX12_likely cX12_likely 6 (some .int) :: (([.methodLink RX12 221 yX12_isIcicle, .instanceMethod yX12_isIcicle, .selects RX12 yX12_isIcicle yX12_isIcicle, .initialized RX12, .methodLink RX12 225 yX12_of, .instanceMethod yX12_of, .selects RX12 yX12_of yX12_of, .methodLink RX12 365 yX12_layWarm, .instanceMethod yX12_layWarm, .selects RX12 yX12_layWarm yX12_layWarm, .fieldLink RX12 360 "IcicleClockModel" "oftenNever" "J", .fieldLink RX12 231 "IcicleClockModel" "days" "I", .fieldLink RX12 56 "IcicleClockModel" "oftenOn" "[J"] : List Cond) ++ (wsX120 ++ (vX12_isIcicle ++ (vX12_of ++ vX12_layWarm))))
theorem iX12_likely_12 : ∀ w ∈ wsX120, w ∈ vX12_likely := fun _ h => List.mem_cons_of_mem _ (List.mem_append_right _ (List.mem_append_left _ h))
theorem gs_X12_likely : Gd vX12_likely := Gd.cons (by decide +kernel) (Gd.app (Gd.r (by decide +kernel)) (Gd.app gwX_12 (Gd.app gs_X12_isIcicle (Gd.app gs_X12_of gs_X12_layWarm))))
theorem gg_X12_likely_X12_isIcicle : GoodIn vX12_likely (wsV RX12 221 RX12 yX12_isIcicle vX12_isIcicle) := goodIn_app (goodIn_r _ [1, 2, 3, 4] (by decide +kernel) (by decide +kernel)) (fun w h => ⟨List.mem_cons_of_mem _ (List.mem_append_right _ (List.mem_append_right _ (List.mem_append_left _ h))), gs_X12_isIcicle w h⟩)
theorem gg_X12_likely_X12_of : GoodIn vX12_likely (wsV RX12 225 RX12 yX12_of vX12_of) := goodIn_app (goodIn_r _ [5, 6, 7, 4] (by decide +kernel) (by decide +kernel)) (fun w h => ⟨List.mem_cons_of_mem _ (List.mem_append_right _ (List.mem_append_right _ (List.mem_append_right _ (List.mem_append_left _ h)))), gs_X12_of w h⟩)
theorem gg_X12_likely_X12_layWarm : GoodIn vX12_likely (wsV RX12 365 RX12 yX12_layWarm vX12_layWarm) := goodIn_app (goodIn_r _ [8, 9, 10, 4] (by decide +kernel) (by decide +kernel)) (fun w h => ⟨List.mem_cons_of_mem _ (List.mem_append_right _ (List.mem_append_right _ (List.mem_append_right _ (List.mem_append_right _ (h))))), gs_X12_layWarm w h⟩)
set_option maxHeartbeats 4000000 in
set_option maxRecDepth 100000 in
theorem s_X12_likely (l : Launch) (D : va_G) (cs : Nat → ClassId) (ad : Nat → Nat) (kS : kSt) (K : sK) (hKO : KO K) (hj : wJ ad 218) (g : Nat → va_E) (hW : WF (shp ad K) ad cs g) (ic : Int32) : sI l yX12_likely vX12_likely { frames := 3, cells := 0, slots := 0, locals := 72 } D cs ad kS [.ref (ad 197), .int ic] g (fun r g2 => WF (shp ad K) ad cs g2 ∧ (∀ j, j ≠ 197 ∧ j ≠ 204 ∧ j ≠ 209 ∧ j ≠ 210 ∧ j ≠ 211 → g2 j = g j)) := by
  refine Met.startS (cc := cX12_likely) (maxL := 6) (ret := (some .int)) RX12 rfl (by decide) rfl (Nat.le_of_ble_eq_true rfl) ?_
  intro p e s m below meth c ls X Z hP hl
  have hx := X.1
  have hb := X.2.1
  have hS : va_S (wA ad 218) s.heap s.heap [] := va_S.rf
  have hA : ∀ i, i < 218 → wA ad 218 (ad i) := fun i h => ⟨i, h, rfl⟩
  have hfr : ∀ j, j ≠ 197 ∧ j ≠ 204 ∧ j ≠ 209 ∧ j ≠ 210 ∧ j ≠ 211 → g j = g j := fun _ _ => rfl
  have hl : lv_has ls 6 [(0, .ref (ad 197)), (1, .int ic)] := hl
  refine lv_aload_n hx hb dX12_likely_0 rfl (lv_at hl 0 rfl) ?_
  refine lv_iload_n hx hb dX12_likely_1 rfl (lv_at hl 1 rfl) ?_
  refine lv_i2l hx hb dX12_likely_2 rfl ?_
  refine lv_topl (fun z_1 ez_1 => ?_)
  have hz_1 : z_1.toInt = ic.toInt := ez_1 ▸ j_of rfl
  have := n_hi ic
  have := n_lo ic
  obtain ⟨fsc_5, hgc_5, hOc_5⟩ := hW.obj (i := 197) (by decide) (sh_197 ad K)
  refine s_calli (q := (RX12, TX12, 40)) (As := [.long z_1]) (rest := []) X Z (s_X12_isIcicle l D cs ad kS K hKO hj g hW z_1) (cwV 1 X.2.2.2.2.1 gg_X12_likely_X12_isIcicle rfl rfl rfl (by decide +kernel) ⟨Nat.le_of_ble_eq_true rfl, Nat.le_of_ble_eq_true rfl⟩) (by decide) hgc_5 rfl hP hA hS.2.1 hS rfl hl.1 rfl (Nat.le_of_ble_eq_true rfl) dX12_likely_3 ⟨Nat.le_of_ble_eq_true rfl, Nat.le_of_ble_eq_true rfl⟩ (fun r_4 g_3 H locs hw_2 hP hS => ?_)
  obtain ⟨hw_2g, hw_2⟩ := hw_2
  rw [hw_2g] at hP
  refine lv_if_ne (tgt := 12) hx hb dX12_likely_6 (by decide) (fun hc_6 => ?_) (fun hc_6 => ?_)
  · have hhc_6 := n_ne (rfl : r_4.toInt = r_4.toInt) (by decide : (0 : Int32).toInt = 0) hc_6
    refine lv_aload_n hx hb dX12_likely_12 rfl (lv_at hl 0 rfl) ?_
    refine lv_aload_n hx hb dX12_likely_13 rfl (lv_at hl 0 rfl) ?_
    refine lv_iload_n hx hb dX12_likely_14 rfl (lv_at hl 1 rfl) ?_
    refine lv_iconst (v := 0) hx hb dX12_likely_15 (by decide) ?_
    have hqk_7 : (0 : Int32).toInt = 0 := by decide
    refine s_calli (q := (RX12, TX12, 40)) (As := [.int ic, .int 0]) (rest := [.ref (ad 197)]) X Z (s_X12_of l D cs ad kS K hKO hj g hW ic 0 (by omega) (by omega)) (cwV 2 X.2.2.2.2.1 gg_X12_likely_X12_of rfl rfl rfl (by decide +kernel) ⟨Nat.le_of_ble_eq_true rfl, Nat.le_of_ble_eq_true rfl⟩) (by decide) hgc_5 rfl hP hA hS.2.1 hS rfl hl.1 rfl (Nat.le_of_ble_eq_true rfl) dX12_likely_16 ⟨Nat.le_of_ble_eq_true rfl, Nat.le_of_ble_eq_true rfl⟩ (fun r_10 g_9 H locs hw_8 hP hS => ?_)
    obtain ⟨hw_8g, hw_8⟩ := hw_8
    rw [hw_8g] at hP
    have hqk_11 : (0 : Int32).toInt = 0 := by decide
    refine lv_aload_n hx hb dX12_likely_19 rfl (lv_at hl 0 rfl) ?_
    refine lv_iload_n hx hb dX12_likely_20 rfl (lv_at hl 1 rfl) ?_
    refine lv_iconst (v := 1) hx hb dX12_likely_21 (by decide) ?_
    have hqk_12 : (1 : Int32).toInt = 1 := by decide
    refine s_calli (q := (RX12, TX12, 40)) (As := [.int ic, .int 1]) (rest := [.int r_10, .ref (ad 197)]) X Z (s_X12_of l D cs ad kS K hKO hj g hW ic 1 (by omega) (by omega)) (cwV 2 X.2.2.2.2.1 gg_X12_likely_X12_of rfl rfl rfl (by decide +kernel) ⟨Nat.le_of_ble_eq_true rfl, Nat.le_of_ble_eq_true rfl⟩) (by decide) hgc_5 rfl hP hA hS.2.1 hS rfl hl.1 rfl (Nat.le_of_ble_eq_true rfl) dX12_likely_22 ⟨Nat.le_of_ble_eq_true rfl, Nat.le_of_ble_eq_true rfl⟩ (fun r_15 g_14 H locs hw_13 hP hS => ?_)
    obtain ⟨hw_13g, hw_13⟩ := hw_13
    rw [hw_13g] at hP
    have hqk_16 : (1 : Int32).toInt = 1 := by decide
    refine s_callv (q := (RX12, TX12, 40)) (As := [.int r_10, .int r_15]) (rest := []) X Z (s_X12_layWarm l D cs ad kS K hKO hj g hW r_10 r_15 (by omega)) (cwV 2 X.2.2.2.2.1 gg_X12_likely_X12_layWarm rfl rfl rfl (by decide +kernel) ⟨Nat.le_of_ble_eq_true rfl, Nat.le_of_ble_eq_true rfl⟩) (by decide) hgc_5 rfl hP hA hS.2.1 hS rfl hl.1 rfl (Nat.le_of_ble_eq_true rfl) dX12_likely_25 ⟨Nat.le_of_ble_eq_true rfl, Nat.le_of_ble_eq_true rfl⟩ (fun g_18 H locs hw_17 hP hS => ?_)
    obtain ⟨hw_17W, hw_17f, hw_17⟩ := hw_17
    have hfr_20 : ∀ j, j ≠ 197 ∧ j ≠ 204 ∧ j ≠ 209 ∧ j ≠ 210 ∧ j ≠ 211 → g_18 j = g j := fun j hj => (hw_17f j (by omega)).trans (hfr j hj)
    refine lv_iconst (v := (-1)) hx hb dX12_likely_28 (by decide) ?_
    refine lv_istore_n (lv' := [(2, .int (-1)), (0, .ref (ad 197)), (1, .int ic)]) hx hb dX12_likely_29 rfl hl (by decide) rfl (fun ls hl => ?_)
    refine lv_aload_n hx hb dX12_likely_30 rfl (lv_at hl 1 rfl) ?_
    obtain ⟨fsc_21, hgc_21, hOc_21⟩ := hw_17W.obj (i := 197) (by decide) (sh_197 ad K)
    obtain ⟨x_23, hk_22, -⟩ := hOc_21.lng 31 rfl
    refine q_get X iX12_likely_12 hP (by decide) hgc_21 rfl 31 (by decide) (List.mem_of_getElem? (i := 11) rfl) (v := .long x_23) hk_22 dX12_likely_31 ?_
    refine lv_lstore_n (lv' := [(3, .long x_23), (2, .int (-1)), (0, .ref (ad 197)), (1, .int ic)]) hx hb dX12_likely_34 rfl hl (by decide) rfl (fun ls hl => ?_)
    refine lv_iconst (v := 0) hx hb dX12_likely_35 (by decide) ?_
    refine lv_istore (lv' := [(5, .int 0), (3, .long x_23), (2, .int (-1)), (0, .ref (ad 197)), (1, .int ic)]) hx hb dX12_likely_36 hl (by decide) rfl (fun ls hl => ?_)
    have HL38 : ∀ (n38 : Nat) (v38_5 : Int32) (v38_3 : Int64) (v38_2 : Int32) (G38 : Nat → va_E) (H : Heap) (locs : List Loc) (ls : Array Slot), (14 - v38_5.toInt).toNat < n38 → (0 ≤ v38_5.toInt ∧ v38_5.toInt ≤ 14) → ((-1) ≤ v38_2.toInt ∧ v38_2.toInt ≤ 13) → WF (shp ad K) ad cs G38 → (∀ j, j ≠ 197 ∧ j ≠ 204 ∧ j ≠ 209 ∧ j ≠ 210 ∧ j ≠ 211 → G38 j = g j) → va_P D vwCl (wL ad G38 218) H → va_S (wA ad 218) s.heap H locs → lv_has ls 6 [(5, .int v38_5), (3, .long v38_3), (2, .int v38_2), (0, .ref (ad 197))] → W p l e ({ frames := 3, cells := 0, slots := 0, locals := 72 } : Room) s m ([.ref (ad 197), .int ic] : List Value).toArray below meth c H locs 0 0 (MQ below (qI D ad 218 (fun r g2 => WF (shp ad K) ad cs g2 ∧ (∀ j, j ≠ 197 ∧ j ≠ 204 ∧ j ≠ 209 ∧ j ≠ 210 ∧ j ≠ 211 → g2 j = g j))) ([.ref (ad 197), .int ic] : List Value).toArray s 0 0 (wA ad 218)) (F0 m 38 ls []) := by
      intro n38
      induction n38 with
      | zero =>
        intro v38_5 v38_3 v38_2 G38 H locs ls hm38 hv38_0 hv38_1 hW38 hfr38 hP hS hl
        exact absurd hm38 (Nat.not_lt_zero _)
      | succ n38 ih38 =>
        intro v38_5 v38_3 v38_2 G38 H locs ls hm38 hv38_0 hv38_1 hW38 hfr38 hP hS hl
        refine lv_iload hx hb dX12_likely_38 (lv_at hl 0 rfl) ?_
        refine lv_aload_n hx hb dX12_likely_40 rfl (lv_at hl 3 rfl) ?_
        obtain ⟨fsc_24, hgc_24, hOc_24⟩ := hW38.obj (i := 197) (by decide) (sh_197 ad K)
        obtain ⟨x_26, hk_25, hlx_26, hhx_26⟩ := hOc_24.int 17 rfl
        refine q_get X iX12_likely_12 hP (by decide) hgc_24 rfl 17 (by decide) (List.mem_of_getElem? (i := 12) rfl) (v := .int x_26) hk_25 dX12_likely_41 ?_
        refine lv_icmp_ge (tgt := 79) hx hb dX12_likely_44 (by decide) (fun hc_27 => ?_) (fun hc_27 => ?_)
        · have hhc_27 := n_le (rfl : x_26.toInt = x_26.toInt) (rfl : v38_5.toInt = v38_5.toInt) hc_27
          refine lv_iload_n hx hb dX12_likely_79 rfl (lv_at hl 2 rfl) ?_
          exact q_iret X hP hS ⟨hW38, hfr38⟩ dX12_likely_80
        · have hhc_27 := n_nle (rfl : x_26.toInt = x_26.toInt) (rfl : v38_5.toInt = v38_5.toInt) hc_27
          refine lv_aload_n hx hb dX12_likely_47 rfl (lv_at hl 3 rfl) ?_
          have hk_28 := hOc_24.ref 29 rfl
          refine q_get X iX12_likely_12 hP (by decide) hgc_24 rfl 29 (by decide) (List.mem_of_getElem? (i := 13) rfl) (v := .ref (ad 211)) hk_28 dX12_likely_48 ?_
          refine lv_iload hx hb dX12_likely_51 (lv_at hl 0 rfl) ?_
          obtain ⟨fc_29, hgc_29, hFc_29⟩ := hW38.arj (i := 211) (by decide) (sh_211 ad K)
          refine q_lald X hP (by decide) hgc_29 (n_in (rfl : v38_5.toInt = v38_5.toInt) (by omega) (by omega)) dX12_likely_53 ?_
          refine lv_topl (fun z_30 ez_30 => ?_)
          refine lv_lload_n hx hb dX12_likely_54 rfl (lv_at hl 1 rfl) ?_
          refine W.lcmp hx hb dX12_likely_55 ?_
          have HJ73 : ∀ (v73_3 : Int64) (v73_2 : Int32) (G73 : Nat → va_E) (H : Heap) (locs : List Loc) (ls : Array Slot), ((-1) ≤ v73_2.toInt ∧ v73_2.toInt ≤ 13) → WF (shp ad K) ad cs G73 → (∀ j, j ≠ 197 ∧ j ≠ 204 ∧ j ≠ 209 ∧ j ≠ 210 ∧ j ≠ 211 → G73 j = g j) → G73 197 = .inr (12, fsc_24) → G73 211 = .inl (cs 2, 14, .inr (.inl fc_29)) → va_P D vwCl (wL ad G73 218) H → va_S (wA ad 218) s.heap H locs → lv_has ls 6 [(5, .int v38_5), (3, .long v73_3), (2, .int v73_2), (0, .ref (ad 197))] → W p l e ({ frames := 3, cells := 0, slots := 0, locals := 72 } : Room) s m ([.ref (ad 197), .int ic] : List Value).toArray below meth c H locs 0 0 (MQ below (qI D ad 218 (fun r g2 => WF (shp ad K) ad cs g2 ∧ (∀ j, j ≠ 197 ∧ j ≠ 204 ∧ j ≠ 209 ∧ j ≠ 210 ∧ j ≠ 211 → g2 j = g j))) ([.ref (ad 197), .int ic] : List Value).toArray s 0 0 (wA ad 218)) (F0 m 73 ls []) := by
            intro v73_3 v73_2 G73 H locs ls hv73_0 hW73 hfr73 hg73_0 hg73_1 hP hS hl
            obtain ⟨x_31, ex_31⟩ : ∃ y : Int32, y = v38_5 + 1 := ⟨_, rfl⟩
            have hx_31 : x_31.toInt = v38_5.toInt + 1 := n_add rfl (by decide : (1 : Int32).toInt = 1) ex_31 (by omega) (by omega)
            refine lv_iinc (v := x_31) (lv' := [(5, .int x_31), (3, .long v73_3), (2, .int v73_2), (0, .ref (ad 197))]) hx hb dX12_likely_73 hl (k := 0) rfl (by rw [ex_31]; rfl) (by decide) rfl (fun ls hl => ?_)
            refine lv_goto (tgt := 38) hx hb dX12_likely_76 (by decide) ?_
            exact ih38 x_31 v73_3 v73_2 G73 _ _ ls (by omega) (by omega) (by omega) hW73 hfr73 hP hS (lv_sub hl [0, 1, 2, 3] rfl)
          refine lv_if_gt (tgt := 62) hx hb dX12_likely_56 (by decide) (fun hc_32 => ?_) (fun hc_32 => ?_)
          · have hhc_32 := j_cgt (rfl : z_30.toInt = z_30.toInt) (rfl : v38_3.toInt = v38_3.toInt) hc_32
            refine lv_aload_n hx hb dX12_likely_62 rfl (lv_at hl 3 rfl) ?_
            refine q_get X iX12_likely_12 hP (by decide) hgc_24 rfl 29 (by decide) (List.mem_of_getElem? (i := 13) rfl) (v := .ref (ad 211)) hk_28 dX12_likely_63 ?_
            refine lv_iload hx hb dX12_likely_66 (lv_at hl 0 rfl) ?_
            refine q_lald X hP (by decide) hgc_29 (n_in (rfl : v38_5.toInt = v38_5.toInt) (by omega) (by omega)) dX12_likely_68 ?_
            refine lv_topl (fun z_33 ez_33 => ?_)
            have hsz_33 : z_33.toInt = z_30.toInt := by rw [ez_33, ez_30]
            refine lv_lstore_n (lv' := [(3, .long z_33), (5, .int v38_5), (2, .int v38_2), (0, .ref (ad 197))]) hx hb dX12_likely_69 rfl hl (by decide) rfl (fun ls hl => ?_)
            refine lv_iload hx hb dX12_likely_70 (lv_at hl 1 rfl) ?_
            refine lv_istore_n (lv' := [(2, .int v38_5), (3, .long z_33), (5, .int v38_5), (0, .ref (ad 197))]) hx hb dX12_likely_72 rfl hl (by decide) rfl (fun ls hl => ?_)
            exact HJ73 z_33 v38_5 G38 _ _ ls (by omega) hW38 hfr38 hgc_24 hgc_29 hP hS (lv_sub hl [2, 1, 0, 3] rfl)
          · have hhc_32 := j_cle (rfl : z_30.toInt = z_30.toInt) (rfl : v38_3.toInt = v38_3.toInt) hc_32
            refine lv_goto (tgt := 73) hx hb dX12_likely_59 (by decide) ?_
            exact HJ73 v38_3 v38_2 G38 _ _ ls (by omega) hW38 hfr38 hgc_24 hgc_29 hP hS (lv_sub hl [0, 1, 2, 3] rfl)
    have hiv38_5 : (0 : Int32).toInt = 0 := by decide
    have hiv38_2 : ((-1) : Int32).toInt = -1 := by decide
    exact HL38 _ 0 x_23 (-1) g_18 _ _ ls (Nat.lt_succ_self _) (by omega) (by omega) hw_17W hfr_20 hP hS (lv_sub hl [0, 1, 2, 3] rfl)
  · have hhc_6 := n_eq (rfl : r_4.toInt = r_4.toInt) (by decide : (0 : Int32).toInt = 0) hc_6
    refine lv_bipush (v := (-2)) hx hb dX12_likely_9 (by decide) ?_
    exact q_iret X hP hS ⟨hW, hfr⟩ dX12_likely_11

theorem dX12_surest_0 : decode cX12_surest 0 = .ok (.aload_n 0, 1) := by decide +kernel
theorem dX12_surest_1 : decode cX12_surest 1 = .ok (.iload_n 1, 1) := by decide +kernel
theorem dX12_surest_2 : decode cX12_surest 2 = .ok (.i2l, 1) := by decide +kernel
theorem dX12_surest_3 : decode cX12_surest 3 = .ok (.invokevirtual 221, 3) := by decide +kernel
theorem dX12_surest_6 : decode cX12_surest 6 = .ok (.ifCond .eq 11, 3) := by decide +kernel
theorem dX12_surest_9 : decode cX12_surest 9 = .ok (.aload_n 0, 1) := by decide +kernel
theorem dX12_surest_10 : decode cX12_surest 10 = .ok (.iload_n 2, 1) := by decide +kernel
theorem dX12_surest_11 : decode cX12_surest 11 = .ok (.invokevirtual 205, 3) := by decide +kernel
theorem dX12_surest_14 : decode cX12_surest 14 = .ok (.ifCond .ne 6, 3) := by decide +kernel
theorem dX12_surest_20 : decode cX12_surest 20 = .ok (.iconst (-1), 1) := by decide +kernel
theorem dX12_surest_21 : decode cX12_surest 21 = .ok (.istore_n 3, 1) := by decide +kernel
theorem dX12_surest_22 : decode cX12_surest 22 = .ok (.lconst 0, 1) := by decide +kernel
theorem dX12_surest_23 : decode cX12_surest 23 = .ok (.lstore 4, 2) := by decide +kernel
theorem dX12_surest_25 : decode cX12_surest 25 = .ok (.iconst 1, 1) := by decide +kernel
theorem dX12_surest_26 : decode cX12_surest 26 = .ok (.istore 6, 2) := by decide +kernel
theorem dX12_surest_28 : decode cX12_surest 28 = .ok (.iload 6, 2) := by decide +kernel
theorem dX12_surest_30 : decode cX12_surest 30 = .ok (.bipush 99, 2) := by decide +kernel
theorem dX12_surest_32 : decode cX12_surest 32 = .ok (.if_icmp .gt 47, 3) := by decide +kernel
theorem dX12_surest_35 : decode cX12_surest 35 = .ok (.aload_n 0, 1) := by decide +kernel
theorem dX12_surest_36 : decode cX12_surest 36 = .ok (.aload_n 0, 1) := by decide +kernel
theorem dX12_surest_37 : decode cX12_surest 37 = .ok (.iload_n 1, 1) := by decide +kernel
theorem dX12_surest_38 : decode cX12_surest 38 = .ok (.iconst 0, 1) := by decide +kernel
theorem dX12_surest_39 : decode cX12_surest 39 = .ok (.invokevirtual 225, 3) := by decide +kernel
theorem dX12_surest_42 : decode cX12_surest 42 = .ok (.iload 6, 2) := by decide +kernel
theorem dX12_surest_44 : decode cX12_surest 44 = .ok (.invokevirtual 365, 3) := by decide +kernel
theorem dX12_surest_47 : decode cX12_surest 47 = .ok (.aload_n 0, 1) := by decide +kernel
theorem dX12_surest_48 : decode cX12_surest 48 = .ok (.getfield 56, 3) := by decide +kernel
theorem dX12_surest_51 : decode cX12_surest 51 = .ok (.iload_n 2, 1) := by decide +kernel
theorem dX12_surest_52 : decode cX12_surest 52 = .ok (.laload, 1) := by decide +kernel
theorem dX12_surest_53 : decode cX12_surest 53 = .ok (.lload 4, 2) := by decide +kernel
theorem dX12_surest_55 : decode cX12_surest 55 = .ok (.lcmp, 1) := by decide +kernel
theorem dX12_surest_56 : decode cX12_surest 56 = .ok (.ifCond .gt 6, 3) := by decide +kernel
theorem dX12_surest_59 : decode cX12_surest 59 = .ok (.goto 14, 3) := by decide +kernel
theorem dX12_surest_62 : decode cX12_surest 62 = .ok (.aload_n 0, 1) := by decide +kernel
theorem dX12_surest_63 : decode cX12_surest 63 = .ok (.getfield 56, 3) := by decide +kernel
theorem dX12_surest_66 : decode cX12_surest 66 = .ok (.iload_n 2, 1) := by decide +kernel
theorem dX12_surest_67 : decode cX12_surest 67 = .ok (.laload, 1) := by decide +kernel
theorem dX12_surest_68 : decode cX12_surest 68 = .ok (.lstore 4, 2) := by decide +kernel
theorem dX12_surest_70 : decode cX12_surest 70 = .ok (.iload 6, 2) := by decide +kernel
theorem dX12_surest_72 : decode cX12_surest 72 = .ok (.istore_n 3, 1) := by decide +kernel
theorem dX12_surest_73 : decode cX12_surest 73 = .ok (.iinc 6 1, 3) := by decide +kernel
theorem dX12_surest_76 : decode cX12_surest 76 = .ok (.goto (-48), 3) := by decide +kernel
theorem dX12_surest_79 : decode cX12_surest 79 = .ok (.iload_n 3, 1) := by decide +kernel
theorem dX12_surest_80 : decode cX12_surest 80 = .ok (.ireturn, 1) := by decide +kernel
theorem dX12_surest_17 : decode cX12_surest 17 = .ok (.bipush (-2), 2) := by decide +kernel
theorem dX12_surest_19 : decode cX12_surest 19 = .ok (.ireturn, 1) := by decide +kernel
noncomputable def vX12_surest : List Cond := .code yX12_surest cX12_surest 7 (some .int) :: (([.methodLink RX12 221 yX12_isIcicle, .instanceMethod yX12_isIcicle, .selects RX12 yX12_isIcicle yX12_isIcicle, .initialized RX12, .methodLink RX12 205 yX12_isDay, .instanceMethod yX12_isDay, .selects RX12 yX12_isDay yX12_isDay, .methodLink RX12 225 yX12_of, .instanceMethod yX12_of, .selects RX12 yX12_of yX12_of, .methodLink RX12 365 yX12_layWarm, .instanceMethod yX12_layWarm, .selects RX12 yX12_layWarm yX12_layWarm, .fieldLink RX12 56 "IcicleClockModel" "oftenOn" "[J"] : List Cond) ++ (wsX120 ++ (vX12_isIcicle ++ (vX12_isDay ++ (vX12_of ++ vX12_layWarm)))))
theorem iX12_surest_12 : ∀ w ∈ wsX120, w ∈ vX12_surest := fun _ h => List.mem_cons_of_mem _ (List.mem_append_right _ (List.mem_append_left _ h))
theorem gs_X12_surest : Gd vX12_surest := Gd.cons (by decide +kernel) (Gd.app (Gd.r (by decide +kernel)) (Gd.app gwX_12 (Gd.app gs_X12_isIcicle (Gd.app gs_X12_isDay (Gd.app gs_X12_of gs_X12_layWarm)))))
theorem gg_X12_surest_X12_isIcicle : GoodIn vX12_surest (wsV RX12 221 RX12 yX12_isIcicle vX12_isIcicle) := goodIn_app (goodIn_r _ [1, 2, 3, 4] (by decide +kernel) (by decide +kernel)) (fun w h => ⟨List.mem_cons_of_mem _ (List.mem_append_right _ (List.mem_append_right _ (List.mem_append_left _ h))), gs_X12_isIcicle w h⟩)
theorem gg_X12_surest_X12_isDay : GoodIn vX12_surest (wsV RX12 205 RX12 yX12_isDay vX12_isDay) := goodIn_app (goodIn_r _ [5, 6, 7, 4] (by decide +kernel) (by decide +kernel)) (fun w h => ⟨List.mem_cons_of_mem _ (List.mem_append_right _ (List.mem_append_right _ (List.mem_append_right _ (List.mem_append_left _ h)))), gs_X12_isDay w h⟩)
theorem gg_X12_surest_X12_of : GoodIn vX12_surest (wsV RX12 225 RX12 yX12_of vX12_of) := goodIn_app (goodIn_r _ [8, 9, 10, 4] (by decide +kernel) (by decide +kernel)) (fun w h => ⟨List.mem_cons_of_mem _ (List.mem_append_right _ (List.mem_append_right _ (List.mem_append_right _ (List.mem_append_right _ (List.mem_append_left _ h))))), gs_X12_of w h⟩)
theorem gg_X12_surest_X12_layWarm : GoodIn vX12_surest (wsV RX12 365 RX12 yX12_layWarm vX12_layWarm) := goodIn_app (goodIn_r _ [11, 12, 13, 4] (by decide +kernel) (by decide +kernel)) (fun w h => ⟨List.mem_cons_of_mem _ (List.mem_append_right _ (List.mem_append_right _ (List.mem_append_right _ (List.mem_append_right _ (List.mem_append_right _ (h)))))), gs_X12_layWarm w h⟩)
set_option maxHeartbeats 4000000 in
set_option maxRecDepth 100000 in
theorem s_X12_surest (l : Launch) (D : va_G) (cs : Nat → ClassId) (ad : Nat → Nat) (kS : kSt) (K : sK) (hKO : KO K) (hj : wJ ad 218) (g : Nat → va_E) (hW : WF (shp ad K) ad cs g) (ic : Int32) (dy : Int32) : sI l yX12_surest vX12_surest { frames := 3, cells := 0, slots := 0, locals := 72 } D cs ad kS [.ref (ad 197), .int ic, .int dy] g (fun r g2 => WF (shp ad K) ad cs g2 ∧ (∀ j, j ≠ 197 ∧ j ≠ 204 ∧ j ≠ 209 ∧ j ≠ 210 ∧ j ≠ 211 → g2 j = g j)) := by
  refine Met.startS (cc := cX12_surest) (maxL := 7) (ret := (some .int)) RX12 rfl (by decide) rfl (Nat.le_of_ble_eq_true rfl) ?_
  intro p e s m below meth c ls X Z hP hl
  have hx := X.1
  have hb := X.2.1
  have hS : va_S (wA ad 218) s.heap s.heap [] := va_S.rf
  have hA : ∀ i, i < 218 → wA ad 218 (ad i) := fun i h => ⟨i, h, rfl⟩
  have hfr : ∀ j, j ≠ 197 ∧ j ≠ 204 ∧ j ≠ 209 ∧ j ≠ 210 ∧ j ≠ 211 → g j = g j := fun _ _ => rfl
  have hl : lv_has ls 7 [(0, .ref (ad 197)), (1, .int ic), (2, .int dy)] := hl
  refine lv_aload_n hx hb dX12_surest_0 rfl (lv_at hl 0 rfl) ?_
  refine lv_iload_n hx hb dX12_surest_1 rfl (lv_at hl 1 rfl) ?_
  refine lv_i2l hx hb dX12_surest_2 rfl ?_
  refine lv_topl (fun z_1 ez_1 => ?_)
  have hz_1 : z_1.toInt = ic.toInt := ez_1 ▸ j_of rfl
  have := n_hi ic
  have := n_lo ic
  obtain ⟨fsc_5, hgc_5, hOc_5⟩ := hW.obj (i := 197) (by decide) (sh_197 ad K)
  refine s_calli (q := (RX12, TX12, 40)) (As := [.long z_1]) (rest := []) X Z (s_X12_isIcicle l D cs ad kS K hKO hj g hW z_1) (cwV 1 X.2.2.2.2.1 gg_X12_surest_X12_isIcicle rfl rfl rfl (by decide +kernel) ⟨Nat.le_of_ble_eq_true rfl, Nat.le_of_ble_eq_true rfl⟩) (by decide) hgc_5 rfl hP hA hS.2.1 hS rfl hl.1 rfl (Nat.le_of_ble_eq_true rfl) dX12_surest_3 ⟨Nat.le_of_ble_eq_true rfl, Nat.le_of_ble_eq_true rfl⟩ (fun r_4 g_3 H locs hw_2 hP hS => ?_)
  obtain ⟨hw_2g, hw_2⟩ := hw_2
  rw [hw_2g] at hP
  have HJ17 : ∀ (G17 : Nat → va_E) (H : Heap) (locs : List Loc) (ls : Array Slot), WF (shp ad K) ad cs G17 → (∀ j, j ≠ 197 ∧ j ≠ 204 ∧ j ≠ 209 ∧ j ≠ 210 ∧ j ≠ 211 → G17 j = g j) → G17 197 = .inr (12, fsc_5) → va_P D vwCl (wL ad G17 218) H → va_S (wA ad 218) s.heap H locs → lv_has ls 7 [] → W p l e ({ frames := 3, cells := 0, slots := 0, locals := 72 } : Room) s m ([.ref (ad 197), .int ic, .int dy] : List Value).toArray below meth c H locs 0 0 (MQ below (qI D ad 218 (fun r g2 => WF (shp ad K) ad cs g2 ∧ (∀ j, j ≠ 197 ∧ j ≠ 204 ∧ j ≠ 209 ∧ j ≠ 210 ∧ j ≠ 211 → g2 j = g j))) ([.ref (ad 197), .int ic, .int dy] : List Value).toArray s 0 0 (wA ad 218)) (F0 m 17 ls []) := by
    intro G17 H locs ls hW17 hfr17 hg17_0 hP hS hl
    refine lv_bipush (v := (-2)) hx hb dX12_surest_17 (by decide) ?_
    exact q_iret X hP hS ⟨hW17, hfr17⟩ dX12_surest_19
  refine lv_if_eq (tgt := 17) hx hb dX12_surest_6 (by decide) (fun hc_6 => ?_) (fun hc_6 => ?_)
  · have hhc_6 := n_eq (rfl : r_4.toInt = r_4.toInt) (by decide : (0 : Int32).toInt = 0) hc_6
    exact HJ17 g _ _ ls hW hfr hgc_5 hP hS (lv_sub hl [] rfl)
  · have hhc_6 := n_ne (rfl : r_4.toInt = r_4.toInt) (by decide : (0 : Int32).toInt = 0) hc_6
    refine lv_aload_n hx hb dX12_surest_9 rfl (lv_at hl 0 rfl) ?_
    refine lv_iload_n hx hb dX12_surest_10 rfl (lv_at hl 2 rfl) ?_
    refine s_calli (q := (RX12, TX12, 40)) (As := [.int dy]) (rest := []) X Z (s_X12_isDay l D cs ad kS K hKO hj g hW dy) (cwV 1 X.2.2.2.2.1 gg_X12_surest_X12_isDay rfl rfl rfl (by decide +kernel) ⟨Nat.le_of_ble_eq_true rfl, Nat.le_of_ble_eq_true rfl⟩) (by decide) hgc_5 rfl hP hA hS.2.1 hS rfl hl.1 rfl (Nat.le_of_ble_eq_true rfl) dX12_surest_11 ⟨Nat.le_of_ble_eq_true rfl, Nat.le_of_ble_eq_true rfl⟩ (fun r_9 g_8 H locs hw_7 hP hS => ?_)
    obtain ⟨hw_7g, hw_7⟩ := hw_7
    rw [hw_7g] at hP
    refine lv_if_ne (tgt := 20) hx hb dX12_surest_14 (by decide) (fun hc_10 => ?_) (fun hc_10 => ?_)
    · have hhc_10 := n_ne (rfl : r_9.toInt = r_9.toInt) (by decide : (0 : Int32).toInt = 0) hc_10
      refine lv_iconst (v := (-1)) hx hb dX12_surest_20 (by decide) ?_
      refine lv_istore_n (lv' := [(3, .int (-1)), (0, .ref (ad 197)), (1, .int ic), (2, .int dy)]) hx hb dX12_surest_21 rfl hl (by decide) rfl (fun ls hl => ?_)
      refine lv_lconst (v := 0) hx hb dX12_surest_22 (by decide) ?_
      refine lv_lstore (lv' := [(4, .long 0), (3, .int (-1)), (0, .ref (ad 197)), (1, .int ic), (2, .int dy)]) hx hb dX12_surest_23 hl (by decide) rfl (fun ls hl => ?_)
      refine lv_iconst (v := 1) hx hb dX12_surest_25 (by decide) ?_
      refine lv_istore (lv' := [(6, .int 1), (4, .long 0), (3, .int (-1)), (0, .ref (ad 197)), (1, .int ic), (2, .int dy)]) hx hb dX12_surest_26 hl (by decide) rfl (fun ls hl => ?_)
      have HL28 : ∀ (n28 : Nat) (v28_6 : Int32) (v28_4 : Int64) (v28_3 : Int32) (G28 : Nat → va_E) (H : Heap) (locs : List Loc) (ls : Array Slot), (100 - v28_6.toInt).toNat < n28 → (1 ≤ v28_6.toInt ∧ v28_6.toInt ≤ 100) → (0 ≤ v28_4.toInt) → ((-1) ≤ v28_3.toInt ∧ v28_3.toInt ≤ 99) → WF (shp ad K) ad cs G28 → (∀ j, j ≠ 197 ∧ j ≠ 204 ∧ j ≠ 209 ∧ j ≠ 210 ∧ j ≠ 211 → G28 j = g j) → va_P D vwCl (wL ad G28 218) H → va_S (wA ad 218) s.heap H locs → lv_has ls 7 [(6, .int v28_6), (4, .long v28_4), (3, .int v28_3), (0, .ref (ad 197)), (1, .int ic), (2, .int dy)] → W p l e ({ frames := 3, cells := 0, slots := 0, locals := 72 } : Room) s m ([.ref (ad 197), .int ic, .int dy] : List Value).toArray below meth c H locs 0 0 (MQ below (qI D ad 218 (fun r g2 => WF (shp ad K) ad cs g2 ∧ (∀ j, j ≠ 197 ∧ j ≠ 204 ∧ j ≠ 209 ∧ j ≠ 210 ∧ j ≠ 211 → g2 j = g j))) ([.ref (ad 197), .int ic, .int dy] : List Value).toArray s 0 0 (wA ad 218)) (F0 m 28 ls []) := by
        intro n28
        induction n28 with
        | zero =>
          intro v28_6 v28_4 v28_3 G28 H locs ls hm28 hv28_0 hv28_1 hv28_2 hW28 hfr28 hP hS hl
          exact absurd hm28 (Nat.not_lt_zero _)
        | succ n28 ih28 =>
          intro v28_6 v28_4 v28_3 G28 H locs ls hm28 hv28_0 hv28_1 hv28_2 hW28 hfr28 hP hS hl
          refine lv_iload hx hb dX12_surest_28 (lv_at hl 0 rfl) ?_
          refine lv_bipush (v := 99) hx hb dX12_surest_30 (by decide) ?_
          refine lv_icmp_gt (tgt := 79) hx hb dX12_surest_32 (by decide) (fun hc_11 => ?_) (fun hc_11 => ?_)
          · have hhc_11 := n_lt (by decide : (99 : Int32).toInt = 99) (rfl : v28_6.toInt = v28_6.toInt) hc_11
            refine lv_iload_n hx hb dX12_surest_79 rfl (lv_at hl 2 rfl) ?_
            exact q_iret X hP hS ⟨hW28, hfr28⟩ dX12_surest_80
          · have hhc_11 := n_nlt (by decide : (99 : Int32).toInt = 99) (rfl : v28_6.toInt = v28_6.toInt) hc_11
            refine lv_aload_n hx hb dX12_surest_35 rfl (lv_at hl 3 rfl) ?_
            refine lv_aload_n hx hb dX12_surest_36 rfl (lv_at hl 3 rfl) ?_
            refine lv_iload_n hx hb dX12_surest_37 rfl (lv_at hl 4 rfl) ?_
            refine lv_iconst (v := 0) hx hb dX12_surest_38 (by decide) ?_
            have hqk_12 : (0 : Int32).toInt = 0 := by decide
            obtain ⟨fsc_16, hgc_16, hOc_16⟩ := hW28.obj (i := 197) (by decide) (sh_197 ad K)
            refine s_calli (q := (RX12, TX12, 40)) (As := [.int ic, .int 0]) (rest := [.ref (ad 197)]) X Z (s_X12_of l D cs ad kS K hKO hj G28 hW28 ic 0 (by omega) (by omega)) (cwV 2 X.2.2.2.2.1 gg_X12_surest_X12_of rfl rfl rfl (by decide +kernel) ⟨Nat.le_of_ble_eq_true rfl, Nat.le_of_ble_eq_true rfl⟩) (by decide) hgc_16 rfl hP hA hS.2.1 hS rfl hl.1 rfl (Nat.le_of_ble_eq_true rfl) dX12_surest_39 ⟨Nat.le_of_ble_eq_true rfl, Nat.le_of_ble_eq_true rfl⟩ (fun r_15 g_14 H locs hw_13 hP hS => ?_)
            obtain ⟨hw_13g, hw_13⟩ := hw_13
            rw [hw_13g] at hP
            have hqk_17 : (0 : Int32).toInt = 0 := by decide
            refine lv_iload hx hb dX12_surest_42 (lv_at hl 0 rfl) ?_
            refine s_callv (q := (RX12, TX12, 40)) (As := [.int r_15, .int v28_6]) (rest := []) X Z (s_X12_layWarm l D cs ad kS K hKO hj G28 hW28 r_15 v28_6 (by omega)) (cwV 2 X.2.2.2.2.1 gg_X12_surest_X12_layWarm rfl rfl rfl (by decide +kernel) ⟨Nat.le_of_ble_eq_true rfl, Nat.le_of_ble_eq_true rfl⟩) (by decide) hgc_16 rfl hP hA hS.2.1 hS rfl hl.1 rfl (Nat.le_of_ble_eq_true rfl) dX12_surest_44 ⟨Nat.le_of_ble_eq_true rfl, Nat.le_of_ble_eq_true rfl⟩ (fun g_19 H locs hw_18 hP hS => ?_)
            obtain ⟨hw_18W, hw_18f, hw_18⟩ := hw_18
            have hfr_21 : ∀ j, j ≠ 197 ∧ j ≠ 204 ∧ j ≠ 209 ∧ j ≠ 210 ∧ j ≠ 211 → g_19 j = g j := fun j hj => (hw_18f j (by omega)).trans (hfr28 j hj)
            refine lv_aload_n hx hb dX12_surest_47 rfl (lv_at hl 3 rfl) ?_
            obtain ⟨fsc_22, hgc_22, hOc_22⟩ := hw_18W.obj (i := 197) (by decide) (sh_197 ad K)
            have hk_23 := hOc_22.ref 29 rfl
            refine q_get X iX12_surest_12 hP (by decide) hgc_22 rfl 29 (by decide) (List.mem_of_getElem? (i := 14) rfl) (v := .ref (ad 211)) hk_23 dX12_surest_48 ?_
            refine lv_iload_n hx hb dX12_surest_51 rfl (lv_at hl 5 rfl) ?_
            obtain ⟨fc_24, hgc_24, hFc_24⟩ := hw_18W.arj (i := 211) (by decide) (sh_211 ad K)
            refine q_lald X hP (by decide) hgc_24 (n_in (rfl : dy.toInt = dy.toInt) (by omega) (by omega)) dX12_surest_52 ?_
            refine lv_topl (fun z_25 ez_25 => ?_)
            refine lv_lload hx hb dX12_surest_53 (lv_at hl 1 rfl) ?_
            refine W.lcmp hx hb dX12_surest_55 ?_
            have HJ73 : ∀ (v73_4 : Int64) (v73_3 : Int32) (G73 : Nat → va_E) (H : Heap) (locs : List Loc) (ls : Array Slot), (0 ≤ v73_4.toInt) → ((-1) ≤ v73_3.toInt ∧ v73_3.toInt ≤ 99) → WF (shp ad K) ad cs G73 → (∀ j, j ≠ 197 ∧ j ≠ 204 ∧ j ≠ 209 ∧ j ≠ 210 ∧ j ≠ 211 → G73 j = g j) → G73 197 = .inr (12, fsc_22) → G73 211 = .inl (cs 2, 14, .inr (.inl fc_24)) → va_P D vwCl (wL ad G73 218) H → va_S (wA ad 218) s.heap H locs → lv_has ls 7 [(6, .int v28_6), (4, .long v73_4), (3, .int v73_3), (0, .ref (ad 197)), (1, .int ic), (2, .int dy)] → W p l e ({ frames := 3, cells := 0, slots := 0, locals := 72 } : Room) s m ([.ref (ad 197), .int ic, .int dy] : List Value).toArray below meth c H locs 0 0 (MQ below (qI D ad 218 (fun r g2 => WF (shp ad K) ad cs g2 ∧ (∀ j, j ≠ 197 ∧ j ≠ 204 ∧ j ≠ 209 ∧ j ≠ 210 ∧ j ≠ 211 → g2 j = g j))) ([.ref (ad 197), .int ic, .int dy] : List Value).toArray s 0 0 (wA ad 218)) (F0 m 73 ls []) := by
              intro v73_4 v73_3 G73 H locs ls hv73_0 hv73_1 hW73 hfr73 hg73_0 hg73_1 hP hS hl
              obtain ⟨x_26, ex_26⟩ : ∃ y : Int32, y = v28_6 + 1 := ⟨_, rfl⟩
              have hx_26 : x_26.toInt = v28_6.toInt + 1 := n_add rfl (by decide : (1 : Int32).toInt = 1) ex_26 (by omega) (by omega)
              refine lv_iinc (v := x_26) (lv' := [(6, .int x_26), (4, .long v73_4), (3, .int v73_3), (0, .ref (ad 197)), (1, .int ic), (2, .int dy)]) hx hb dX12_surest_73 hl (k := 0) rfl (by rw [ex_26]; rfl) (by decide) rfl (fun ls hl => ?_)
              refine lv_goto (tgt := 28) hx hb dX12_surest_76 (by decide) ?_
              exact ih28 x_26 v73_4 v73_3 G73 _ _ ls (by omega) (by omega) (by omega) (by omega) hW73 hfr73 hP hS (lv_sub hl [0, 1, 2, 3, 4, 5] rfl)
            refine lv_if_gt (tgt := 62) hx hb dX12_surest_56 (by decide) (fun hc_27 => ?_) (fun hc_27 => ?_)
            · have hhc_27 := j_cgt (rfl : z_25.toInt = z_25.toInt) (rfl : v28_4.toInt = v28_4.toInt) hc_27
              refine lv_aload_n hx hb dX12_surest_62 rfl (lv_at hl 3 rfl) ?_
              refine q_get X iX12_surest_12 hP (by decide) hgc_22 rfl 29 (by decide) (List.mem_of_getElem? (i := 14) rfl) (v := .ref (ad 211)) hk_23 dX12_surest_63 ?_
              refine lv_iload_n hx hb dX12_surest_66 rfl (lv_at hl 5 rfl) ?_
              refine q_lald X hP (by decide) hgc_24 (n_in (rfl : dy.toInt = dy.toInt) (by omega) (by omega)) dX12_surest_67 ?_
              refine lv_topl (fun z_28 ez_28 => ?_)
              have hsz_28 : z_28.toInt = z_25.toInt := by rw [ez_28, ez_25]
              refine lv_lstore (lv' := [(4, .long z_28), (6, .int v28_6), (3, .int v28_3), (0, .ref (ad 197)), (1, .int ic), (2, .int dy)]) hx hb dX12_surest_68 hl (by decide) rfl (fun ls hl => ?_)
              refine lv_iload hx hb dX12_surest_70 (lv_at hl 1 rfl) ?_
              refine lv_istore_n (lv' := [(3, .int v28_6), (4, .long z_28), (6, .int v28_6), (0, .ref (ad 197)), (1, .int ic), (2, .int dy)]) hx hb dX12_surest_72 rfl hl (by decide) rfl (fun ls hl => ?_)
              exact HJ73 z_28 v28_6 g_19 _ _ ls (by omega) (by omega) hw_18W hfr_21 hgc_22 hgc_24 hP hS (lv_sub hl [2, 1, 0, 3, 4, 5] rfl)
            · have hhc_27 := j_cle (rfl : z_25.toInt = z_25.toInt) (rfl : v28_4.toInt = v28_4.toInt) hc_27
              refine lv_goto (tgt := 73) hx hb dX12_surest_59 (by decide) ?_
              exact HJ73 v28_4 v28_3 g_19 _ _ ls (by omega) (by omega) hw_18W hfr_21 hgc_22 hgc_24 hP hS (lv_sub hl [0, 1, 2, 3, 4, 5] rfl)
      have hiv28_6 : (1 : Int32).toInt = 1 := by decide
      have hiv28_4 : (0 : Int64).toInt = 0 := by decide
      have hiv28_3 : ((-1) : Int32).toInt = -1 := by decide
      exact HL28 _ 1 0 (-1) g _ _ ls (Nat.lt_succ_self _) (by omega) (by omega) (by omega) hW hfr hP hS (lv_sub hl [0, 1, 2, 3, 4, 5] rfl)
    · have hhc_10 := n_eq (rfl : r_9.toInt = r_9.toInt) (by decide : (0 : Int32).toInt = 0) hc_10
      exact HJ17 g _ _ ls hW hfr hgc_5 hP hS (lv_sub hl [] rfl)

theorem dX11_leastSize_0 : decode cX11_leastSize 0 = .ok (.iconst 0, 1) := by decide +kernel
theorem dX11_leastSize_1 : decode cX11_leastSize 1 = .ok (.istore_n 3, 1) := by decide +kernel
theorem dX11_leastSize_2 : decode cX11_leastSize 2 = .ok (.iconst 0, 1) := by decide +kernel
theorem dX11_leastSize_3 : decode cX11_leastSize 3 = .ok (.istore 4, 2) := by decide +kernel
theorem dX11_leastSize_5 : decode cX11_leastSize 5 = .ok (.iconst 0, 1) := by decide +kernel
theorem dX11_leastSize_6 : decode cX11_leastSize 6 = .ok (.istore 5, 2) := by decide +kernel
theorem dX11_leastSize_8 : decode cX11_leastSize 8 = .ok (.iload 5, 2) := by decide +kernel
theorem dX11_leastSize_10 : decode cX11_leastSize 10 = .ok (.iload_n 2, 1) := by decide +kernel
theorem dX11_leastSize_11 : decode cX11_leastSize 11 = .ok (.if_icmp .ge 42, 3) := by decide +kernel
theorem dX11_leastSize_14 : decode cX11_leastSize 14 = .ok (.iload_n 3, 1) := by decide +kernel
theorem dX11_leastSize_15 : decode cX11_leastSize 15 = .ok (.aload_n 0, 1) := by decide +kernel
theorem dX11_leastSize_16 : decode cX11_leastSize 16 = .ok (.getfield 44, 3) := by decide +kernel
theorem dX11_leastSize_19 : decode cX11_leastSize 19 = .ok (.aload_n 0, 1) := by decide +kernel
theorem dX11_leastSize_20 : decode cX11_leastSize 20 = .ok (.getfield 19, 3) := by decide +kernel
theorem dX11_leastSize_23 : decode cX11_leastSize 23 = .ok (.aload_n 0, 1) := by decide +kernel
theorem dX11_leastSize_24 : decode cX11_leastSize 24 = .ok (.getfield 19, 3) := by decide +kernel
theorem dX11_leastSize_27 : decode cX11_leastSize 27 = .ok (.getfield 139, 3) := by decide +kernel
theorem dX11_leastSize_30 : decode cX11_leastSize 30 = .ok (.iload_n 1, 1) := by decide +kernel
theorem dX11_leastSize_31 : decode cX11_leastSize 31 = .ok (.iaload, 1) := by decide +kernel
theorem dX11_leastSize_32 : decode cX11_leastSize 32 = .ok (.iload 5, 2) := by decide +kernel
theorem dX11_leastSize_34 : decode cX11_leastSize 34 = .ok (.invokevirtual 180, 3) := by decide +kernel
theorem dX11_leastSize_37 : decode cX11_leastSize 37 = .ok (.iadd, 1) := by decide +kernel
theorem dX11_leastSize_38 : decode cX11_leastSize 38 = .ok (.istore_n 3, 1) := by decide +kernel
theorem dX11_leastSize_39 : decode cX11_leastSize 39 = .ok (.iload 4, 2) := by decide +kernel
theorem dX11_leastSize_41 : decode cX11_leastSize 41 = .ok (.iload_n 3, 1) := by decide +kernel
theorem dX11_leastSize_42 : decode cX11_leastSize 42 = .ok (.invokestatic 183, 3) := by decide +kernel
theorem dX11_leastSize_45 : decode cX11_leastSize 45 = .ok (.istore 4, 2) := by decide +kernel
theorem dX11_leastSize_47 : decode cX11_leastSize 47 = .ok (.iinc 5 1, 3) := by decide +kernel
theorem dX11_leastSize_50 : decode cX11_leastSize 50 = .ok (.goto (-42), 3) := by decide +kernel
theorem dX11_leastSize_53 : decode cX11_leastSize 53 = .ok (.iload 4, 2) := by decide +kernel
theorem dX11_leastSize_55 : decode cX11_leastSize 55 = .ok (.iconst 1, 1) := by decide +kernel
theorem dX11_leastSize_56 : decode cX11_leastSize 56 = .ok (.iadd, 1) := by decide +kernel
theorem dX11_leastSize_57 : decode cX11_leastSize 57 = .ok (.ireturn, 1) := by decide +kernel
noncomputable def vX11_leastSize : List Cond := .code yX11_leastSize cX11_leastSize 6 (some .int) :: (([.fieldLink RX11 44 "IcicleClock" "winter" "LIcicleClock$Winter;", .fieldLink RX11 19 "IcicleClock" "now" "LIcicleClock$Street;", .fieldLink RX11 139 "IcicleClock$Street" "eaveOf" "[I", .methodLink RX11 180 yX10_lossOn, .instanceMethod yX10_lossOn, .selects RX10 yX10_lossOn yX10_lossOn, .initialized RX10, .methodLink RX11 183 Lib.Math.max.name, .static Lib.Math.max.name, .initialized "java/lang/Math", .code Lib.Math.max.name Lib.Math.max.code 2 (some .int)] : List Cond) ++ (wsX110 ++ (wsX60 ++ vX10_lossOn)))
theorem iX11_leastSize_11 : ∀ w ∈ wsX110, w ∈ vX11_leastSize := fun _ h => List.mem_cons_of_mem _ (List.mem_append_right _ (List.mem_append_left _ h))
theorem iX11_leastSize_6 : ∀ w ∈ wsX60, w ∈ vX11_leastSize := fun _ h => List.mem_cons_of_mem _ (List.mem_append_right _ (List.mem_append_right _ (List.mem_append_left _ h)))
theorem gs_X11_leastSize : Gd vX11_leastSize := Gd.cons (by decide +kernel) (Gd.app (Gd.r (by decide +kernel)) (Gd.app gwX_11 (Gd.app gwX_6 gs_X10_lossOn)))
theorem gg_X11_leastSize_X10_lossOn : GoodIn vX11_leastSize (wsV RX11 180 RX10 yX10_lossOn vX10_lossOn) := goodIn_app (goodIn_r _ [4, 5, 6, 7] (by decide +kernel) (by decide +kernel)) (fun w h => ⟨List.mem_cons_of_mem _ (List.mem_append_right _ (List.mem_append_right _ (List.mem_append_right _ (h)))), gs_X10_lossOn w h⟩)
set_option maxHeartbeats 4000000 in
set_option maxRecDepth 100000 in
theorem s_X11_leastSize (l : Launch) (D : va_G) (cs : Nat → ClassId) (ad : Nat → Nat) (kS : kSt) (K : sK) (hKO : KO K) (hj : wJ ad 218) (g : Nat → va_E) (hW : WF (shp ad K) ad cs g) (ic : Int32) (dy : Int32) (hp0 : 0 ≤ ic.toInt ∧ ic.toInt ≤ 7) (hp1 : 0 ≤ dy.toInt ∧ dy.toInt ≤ 13) : sI l yX11_leastSize vX11_leastSize { frames := 2, cells := 0, slots := 0, locals := 46 } D cs ad kS [.ref (ad 0), .int ic, .int dy] g (fun r g2 => g2 = g) := by
  refine Met.startS (cc := cX11_leastSize) (maxL := 6) (ret := (some .int)) RX11 rfl (by decide) rfl (Nat.le_of_ble_eq_true rfl) ?_
  intro p e s m below meth c ls X Z hP hl
  have hx := X.1
  have hb := X.2.1
  have hS : va_S (wA ad 218) s.heap s.heap [] := va_S.rf
  have hA : ∀ i, i < 218 → wA ad 218 (ad i) := fun i h => ⟨i, h, rfl⟩
  have hl : lv_has ls 6 [(0, .ref (ad 0)), (1, .int ic), (2, .int dy)] := hl
  refine lv_iconst (v := 0) hx hb dX11_leastSize_0 (by decide) ?_
  refine lv_istore_n (lv' := [(3, .int 0), (0, .ref (ad 0)), (1, .int ic), (2, .int dy)]) hx hb dX11_leastSize_1 rfl hl (by decide) rfl (fun ls hl => ?_)
  refine lv_iconst (v := 0) hx hb dX11_leastSize_2 (by decide) ?_
  refine lv_istore (lv' := [(4, .int 0), (3, .int 0), (0, .ref (ad 0)), (1, .int ic), (2, .int dy)]) hx hb dX11_leastSize_3 hl (by decide) rfl (fun ls hl => ?_)
  refine lv_iconst (v := 0) hx hb dX11_leastSize_5 (by decide) ?_
  refine lv_istore (lv' := [(5, .int 0), (4, .int 0), (3, .int 0), (0, .ref (ad 0)), (1, .int ic), (2, .int dy)]) hx hb dX11_leastSize_6 hl (by decide) rfl (fun ls hl => ?_)
  have HL8 : ∀ (n8 : Nat) (v8_5 : Int32) (v8_4 : Int32) (v8_3 : Int32) (H : Heap) (locs : List Loc) (ls : Array Slot), (13 - v8_5.toInt).toNat < n8 → (0 ≤ v8_5.toInt ∧ v8_5.toInt ≤ 13) → (0 ≤ v8_4.toInt) → va_P D vwCl (wL ad g 218) H → va_S (wA ad 218) s.heap H locs → lv_has ls 6 [(5, .int v8_5), (4, .int v8_4), (3, .int v8_3), (0, .ref (ad 0)), (1, .int ic), (2, .int dy)] → W p l e ({ frames := 2, cells := 0, slots := 0, locals := 46 } : Room) s m ([.ref (ad 0), .int ic, .int dy] : List Value).toArray below meth c H locs 0 0 (MQ below (qI D ad 218 (fun r g2 => g2 = g)) ([.ref (ad 0), .int ic, .int dy] : List Value).toArray s 0 0 (wA ad 218)) (F0 m 8 ls []) := by
    intro n8
    induction n8 with
    | zero =>
      intro v8_5 v8_4 v8_3 H locs ls hm8 hv8_0 hv8_1 hP hS hl
      exact absurd hm8 (Nat.not_lt_zero _)
    | succ n8 ih8 =>
      intro v8_5 v8_4 v8_3 H locs ls hm8 hv8_0 hv8_1 hP hS hl
      refine lv_iload hx hb dX11_leastSize_8 (lv_at hl 0 rfl) ?_
      refine lv_iload_n hx hb dX11_leastSize_10 rfl (lv_at hl 5 rfl) ?_
      refine lv_icmp_ge (tgt := 53) hx hb dX11_leastSize_11 (by decide) (fun hc_1 => ?_) (fun hc_1 => ?_)
      · have hhc_1 := n_le (rfl : dy.toInt = dy.toInt) (rfl : v8_5.toInt = v8_5.toInt) hc_1
        refine lv_iload hx hb dX11_leastSize_53 (lv_at hl 1 rfl) ?_
        refine lv_iconst (v := 1) hx hb dX11_leastSize_55 (by decide) ?_
        refine lv_iadd hx hb dX11_leastSize_56 ?_
        refine lv_topi (fun z_2 ez_2 => ?_)
        exact q_iret X hP hS rfl dX11_leastSize_57
      · have hhc_1 := n_nle (rfl : dy.toInt = dy.toInt) (rfl : v8_5.toInt = v8_5.toInt) hc_1
        refine lv_iload_n hx hb dX11_leastSize_14 rfl (lv_at hl 2 rfl) ?_
        refine lv_aload_n hx hb dX11_leastSize_15 rfl (lv_at hl 3 rfl) ?_
        obtain ⟨fsc_3, hgc_3, hOc_3⟩ := hW.obj (i := 0) (by decide) (sh_0 ad K)
        have hk_4 := hOc_3.ref 6 rfl
        refine q_get X iX11_leastSize_11 hP (by decide) hgc_3 rfl 6 (by decide) (List.mem_of_getElem? (i := 1) rfl) (v := .ref (ad 114)) hk_4 dX11_leastSize_16 ?_
        refine lv_aload_n hx hb dX11_leastSize_19 rfl (lv_at hl 3 rfl) ?_
        have hk_5 := hOc_3.ref 1 rfl
        refine q_get X iX11_leastSize_11 hP (by decide) hgc_3 rfl 1 (by decide) (List.mem_of_getElem? (i := 2) rfl) (v := .ref (ad 3)) hk_5 dX11_leastSize_20 ?_
        refine lv_aload_n hx hb dX11_leastSize_23 rfl (lv_at hl 3 rfl) ?_
        refine q_get X iX11_leastSize_11 hP (by decide) hgc_3 rfl 1 (by decide) (List.mem_of_getElem? (i := 2) rfl) (v := .ref (ad 3)) hk_5 dX11_leastSize_24 ?_
        obtain ⟨fsc_6, hgc_6, hOc_6⟩ := hW.obj (i := 3) (by decide) (sh_3 ad K)
        have hk_7 := hOc_6.ref 11 rfl
        refine q_get X iX11_leastSize_6 hP (by decide) hgc_6 rfl 11 (by decide) (List.mem_of_getElem? (i := 3) rfl) (v := .ref (ad 7)) hk_7 dX11_leastSize_27 ?_
        refine lv_iload_n hx hb dX11_leastSize_30 rfl (lv_at hl 4 rfl) ?_
        obtain ⟨fc_8, hgc_8, hFc_8⟩ := hW.arr (i := 7) (by decide) (sh_7 ad K)
        refine q_iald X hP (by decide) hgc_8 (n_in (rfl : ic.toInt = ic.toInt) (by omega) (by omega)) dX11_leastSize_31 ?_
        refine lv_topi (fun z_9 ez_9 => ?_)
        have hz_9 : 0 ≤ z_9.toInt ∧ z_9.toInt ≤ 4 := ez_9 ▸ hFc_8 _
        refine lv_iload hx hb dX11_leastSize_32 (lv_at hl 0 rfl) ?_
        obtain ⟨fsc_13, hgc_13, hOc_13⟩ := hW.obj (i := 114) (by decide) (sh_114 ad K)
        refine s_calli (q := (RX10, TX10, 4)) (As := [.ref (ad 3), .int z_9, .int v8_5]) (rest := [.int v8_3]) X Z (s_X10_lossOn l D cs ad kS K hKO hj g hW 114 z_9 v8_5 (by omega) (by omega) (by omega)) (cwV 3 X.2.2.2.2.1 gg_X11_leastSize_X10_lossOn rfl rfl rfl (by decide +kernel) ⟨Nat.le_of_ble_eq_true rfl, Nat.le_of_ble_eq_true rfl⟩) (by decide) hgc_13 rfl hP hA hS.2.1 hS rfl hl.1 rfl (Nat.le_of_ble_eq_true rfl) dX11_leastSize_34 ⟨Nat.le_of_ble_eq_true rfl, Nat.le_of_ble_eq_true rfl⟩ (fun r_12 g_11 H locs hw_10 hP hS => ?_)
        rw [hw_10] at hP
        refine lv_iadd hx hb dX11_leastSize_37 ?_
        refine lv_topi (fun z_14 ez_14 => ?_)
        refine lv_istore_n (lv' := [(3, .int z_14), (5, .int v8_5), (4, .int v8_4), (0, .ref (ad 0)), (1, .int ic), (2, .int dy)]) hx hb dX11_leastSize_38 rfl hl (by decide) rfl (fun ls hl => ?_)
        refine lv_iload hx hb dX11_leastSize_39 (lv_at hl 2 rfl) ?_
        refine lv_iload_n hx hb dX11_leastSize_41 rfl (lv_at hl 0 rfl) ?_
        refine va_mmax hx hb (X.2.2.2.1.trans hl.1.symm) X.2.2.2.2.2.1 (X.2.2.2.2.1 _ (List.mem_of_getElem? (i := 8) rfl)) (X.2.2.2.2.1 _ (List.mem_of_getElem? (i := 9) rfl)) (X.2.2.2.2.1 _ (List.mem_of_getElem? (i := 10) rfl)) (X.2.2.2.2.1 _ (List.mem_of_getElem? (i := 11) rfl)) (Nat.le_of_ble_eq_true rfl) (Nat.le_of_ble_eq_true rfl) (Nat.le_of_ble_eq_true rfl) (Nat.le_of_ble_eq_true rfl) dX11_leastSize_42 ?_
        refine lv_topi (fun z_15 ez_15 => ?_)
        have hz_15 := n_max (rfl : v8_4.toInt = v8_4.toInt) (rfl : z_14.toInt = z_14.toInt) ez_15
        refine lv_istore (lv' := [(4, .int z_15), (3, .int z_14), (5, .int v8_5), (0, .ref (ad 0)), (1, .int ic), (2, .int dy)]) hx hb dX11_leastSize_45 hl (by decide) rfl (fun ls hl => ?_)
        obtain ⟨x_16, ex_16⟩ : ∃ y : Int32, y = v8_5 + 1 := ⟨_, rfl⟩
        have hx_16 : x_16.toInt = v8_5.toInt + 1 := n_add rfl (by decide : (1 : Int32).toInt = 1) ex_16 (by omega) (by omega)
        refine lv_iinc (v := x_16) (lv' := [(5, .int x_16), (4, .int z_15), (3, .int z_14), (0, .ref (ad 0)), (1, .int ic), (2, .int dy)]) hx hb dX11_leastSize_47 hl (k := 2) rfl (by rw [ex_16]; rfl) (by decide) rfl (fun ls hl => ?_)
        refine lv_goto (tgt := 8) hx hb dX11_leastSize_50 (by decide) ?_
        exact ih8 x_16 z_15 z_14 _ _ ls (by omega) (by omega) (by omega) hP hS (lv_sub hl [0, 1, 2, 3, 4, 5] rfl)
  have hiv8_5 : (0 : Int32).toInt = 0 := by decide
  have hiv8_4 : (0 : Int32).toInt = 0 := by decide
  have hiv8_3 : (0 : Int32).toInt = 0 := by decide
  exact HL8 _ 0 0 0 _ _ ls (Nat.lt_succ_self _) (by omega) (by omega) hP hS (lv_sub hl [0, 1, 2, 3, 4, 5] rfl)

theorem dX11_mostSize_0 : decode cX11_mostSize 0 = .ok (.bipush 99, 2) := by decide +kernel
theorem dX11_mostSize_2 : decode cX11_mostSize 2 = .ok (.aload_n 0, 1) := by decide +kernel
theorem dX11_mostSize_3 : decode cX11_mostSize 3 = .ok (.getfield 44, 3) := by decide +kernel
theorem dX11_mostSize_6 : decode cX11_mostSize 6 = .ok (.aload_n 0, 1) := by decide +kernel
theorem dX11_mostSize_7 : decode cX11_mostSize 7 = .ok (.getfield 19, 3) := by decide +kernel
theorem dX11_mostSize_10 : decode cX11_mostSize 10 = .ok (.aload_n 0, 1) := by decide +kernel
theorem dX11_mostSize_11 : decode cX11_mostSize 11 = .ok (.getfield 19, 3) := by decide +kernel
theorem dX11_mostSize_14 : decode cX11_mostSize 14 = .ok (.getfield 139, 3) := by decide +kernel
theorem dX11_mostSize_17 : decode cX11_mostSize 17 = .ok (.iload_n 1, 1) := by decide +kernel
theorem dX11_mostSize_18 : decode cX11_mostSize 18 = .ok (.iaload, 1) := by decide +kernel
theorem dX11_mostSize_19 : decode cX11_mostSize 19 = .ok (.iload_n 2, 1) := by decide +kernel
theorem dX11_mostSize_20 : decode cX11_mostSize 20 = .ok (.invokevirtual 173, 3) := by decide +kernel
theorem dX11_mostSize_23 : decode cX11_mostSize 23 = .ok (.invokestatic 220, 3) := by decide +kernel
theorem dX11_mostSize_26 : decode cX11_mostSize 26 = .ok (.ireturn, 1) := by decide +kernel
noncomputable def vX11_mostSize : List Cond := .code yX11_mostSize cX11_mostSize 3 (some .int) :: (([.fieldLink RX11 44 "IcicleClock" "winter" "LIcicleClock$Winter;", .fieldLink RX11 19 "IcicleClock" "now" "LIcicleClock$Street;", .fieldLink RX11 139 "IcicleClock$Street" "eaveOf" "[I", .methodLink RX11 173 yX10_lossThrough, .instanceMethod yX10_lossThrough, .selects RX10 yX10_lossThrough yX10_lossThrough, .initialized RX10, .methodLink RX11 220 Lib.Math.min.name, .static Lib.Math.min.name, .initialized "java/lang/Math", .code Lib.Math.min.name Lib.Math.min.code 2 (some .int)] : List Cond) ++ (wsX110 ++ (wsX60 ++ vX10_lossThrough)))
theorem iX11_mostSize_11 : ∀ w ∈ wsX110, w ∈ vX11_mostSize := fun _ h => List.mem_cons_of_mem _ (List.mem_append_right _ (List.mem_append_left _ h))
theorem iX11_mostSize_6 : ∀ w ∈ wsX60, w ∈ vX11_mostSize := fun _ h => List.mem_cons_of_mem _ (List.mem_append_right _ (List.mem_append_right _ (List.mem_append_left _ h)))
theorem gs_X11_mostSize : Gd vX11_mostSize := Gd.cons (by decide +kernel) (Gd.app (Gd.r (by decide +kernel)) (Gd.app gwX_11 (Gd.app gwX_6 gs_X10_lossThrough)))
theorem gg_X11_mostSize_X10_lossThrough : GoodIn vX11_mostSize (wsV RX11 173 RX10 yX10_lossThrough vX10_lossThrough) := goodIn_app (goodIn_r _ [4, 5, 6, 7] (by decide +kernel) (by decide +kernel)) (fun w h => ⟨List.mem_cons_of_mem _ (List.mem_append_right _ (List.mem_append_right _ (List.mem_append_right _ (h)))), gs_X10_lossThrough w h⟩)
set_option maxHeartbeats 4000000 in
set_option maxRecDepth 100000 in
theorem s_X11_mostSize (l : Launch) (D : va_G) (cs : Nat → ClassId) (ad : Nat → Nat) (kS : kSt) (K : sK) (hKO : KO K) (hj : wJ ad 218) (g : Nat → va_E) (hW : WF (shp ad K) ad cs g) (ic : Int32) (dy : Int32) (hp0 : 0 ≤ ic.toInt ∧ ic.toInt ≤ 7) (hp1 : 0 ≤ dy.toInt ∧ dy.toInt ≤ 13) : sI l yX11_mostSize vX11_mostSize { frames := 3, cells := 0, slots := 0, locals := 71 } D cs ad kS [.ref (ad 0), .int ic, .int dy] g (fun r g2 => g2 = g) := by
  refine Met.startS (cc := cX11_mostSize) (maxL := 3) (ret := (some .int)) RX11 rfl (by decide) rfl (Nat.le_of_ble_eq_true rfl) ?_
  intro p e s m below meth c ls X Z hP hl
  have hx := X.1
  have hb := X.2.1
  have hS : va_S (wA ad 218) s.heap s.heap [] := va_S.rf
  have hA : ∀ i, i < 218 → wA ad 218 (ad i) := fun i h => ⟨i, h, rfl⟩
  have hl : lv_has ls 3 [(0, .ref (ad 0)), (1, .int ic), (2, .int dy)] := hl
  refine lv_bipush (v := 99) hx hb dX11_mostSize_0 (by decide) ?_
  refine lv_aload_n hx hb dX11_mostSize_2 rfl (lv_at hl 0 rfl) ?_
  obtain ⟨fsc_1, hgc_1, hOc_1⟩ := hW.obj (i := 0) (by decide) (sh_0 ad K)
  have hk_2 := hOc_1.ref 6 rfl
  refine q_get X iX11_mostSize_11 hP (by decide) hgc_1 rfl 6 (by decide) (List.mem_of_getElem? (i := 1) rfl) (v := .ref (ad 114)) hk_2 dX11_mostSize_3 ?_
  refine lv_aload_n hx hb dX11_mostSize_6 rfl (lv_at hl 0 rfl) ?_
  have hk_3 := hOc_1.ref 1 rfl
  refine q_get X iX11_mostSize_11 hP (by decide) hgc_1 rfl 1 (by decide) (List.mem_of_getElem? (i := 2) rfl) (v := .ref (ad 3)) hk_3 dX11_mostSize_7 ?_
  refine lv_aload_n hx hb dX11_mostSize_10 rfl (lv_at hl 0 rfl) ?_
  refine q_get X iX11_mostSize_11 hP (by decide) hgc_1 rfl 1 (by decide) (List.mem_of_getElem? (i := 2) rfl) (v := .ref (ad 3)) hk_3 dX11_mostSize_11 ?_
  obtain ⟨fsc_4, hgc_4, hOc_4⟩ := hW.obj (i := 3) (by decide) (sh_3 ad K)
  have hk_5 := hOc_4.ref 11 rfl
  refine q_get X iX11_mostSize_6 hP (by decide) hgc_4 rfl 11 (by decide) (List.mem_of_getElem? (i := 3) rfl) (v := .ref (ad 7)) hk_5 dX11_mostSize_14 ?_
  refine lv_iload_n hx hb dX11_mostSize_17 rfl (lv_at hl 1 rfl) ?_
  obtain ⟨fc_6, hgc_6, hFc_6⟩ := hW.arr (i := 7) (by decide) (sh_7 ad K)
  refine q_iald X hP (by decide) hgc_6 (n_in (rfl : ic.toInt = ic.toInt) (by omega) (by omega)) dX11_mostSize_18 ?_
  refine lv_topi (fun z_7 ez_7 => ?_)
  have hz_7 : 0 ≤ z_7.toInt ∧ z_7.toInt ≤ 4 := ez_7 ▸ hFc_6 _
  refine lv_iload_n hx hb dX11_mostSize_19 rfl (lv_at hl 2 rfl) ?_
  obtain ⟨fsc_11, hgc_11, hOc_11⟩ := hW.obj (i := 114) (by decide) (sh_114 ad K)
  refine s_calli (q := (RX10, TX10, 4)) (As := [.ref (ad 3), .int z_7, .int dy]) (rest := [.int 99]) X Z (s_X10_lossThrough l D cs ad kS K hKO hj g hW 114 z_7 dy (by omega) (by omega) (by omega)) (cwV 3 X.2.2.2.2.1 gg_X11_mostSize_X10_lossThrough rfl rfl rfl (by decide +kernel) ⟨Nat.le_of_ble_eq_true rfl, Nat.le_of_ble_eq_true rfl⟩) (by decide) hgc_11 rfl hP hA hS.2.1 hS rfl hl.1 rfl (Nat.le_of_ble_eq_true rfl) dX11_mostSize_20 ⟨Nat.le_of_ble_eq_true rfl, Nat.le_of_ble_eq_true rfl⟩ (fun r_10 g_9 H locs hw_8 hP hS => ?_)
  rw [hw_8] at hP
  refine va_mmin hx hb (X.2.2.2.1.trans hl.1.symm) X.2.2.2.2.2.1 (X.2.2.2.2.1 _ (List.mem_of_getElem? (i := 8) rfl)) (X.2.2.2.2.1 _ (List.mem_of_getElem? (i := 9) rfl)) (X.2.2.2.2.1 _ (List.mem_of_getElem? (i := 10) rfl)) (X.2.2.2.2.1 _ (List.mem_of_getElem? (i := 11) rfl)) (Nat.le_of_ble_eq_true rfl) (Nat.le_of_ble_eq_true rfl) (Nat.le_of_ble_eq_true rfl) (Nat.le_of_ble_eq_true rfl) dX11_mostSize_23 ?_
  refine lv_topi (fun z_12 ez_12 => ?_)
  have hz_12 := n_min (by decide : (99 : Int32).toInt = 99) (rfl : r_10.toInt = r_10.toInt) ez_12
  exact q_iret X hP hS rfl dX11_mostSize_26

theorem dX11_size_0 : decode cX11_size 0 = .ok (.aload_n 0, 1) := by decide +kernel
theorem dX11_size_1 : decode cX11_size 1 = .ok (.iload_n 1, 1) := by decide +kernel
theorem dX11_size_2 : decode cX11_size 2 = .ok (.invokevirtual 136, 3) := by decide +kernel
theorem dX11_size_5 : decode cX11_size 5 = .ok (.ifCond .eq 11, 3) := by decide +kernel
theorem dX11_size_8 : decode cX11_size 8 = .ok (.aload_n 0, 1) := by decide +kernel
theorem dX11_size_9 : decode cX11_size 9 = .ok (.iload_n 2, 1) := by decide +kernel
theorem dX11_size_10 : decode cX11_size 10 = .ok (.invokevirtual 121, 3) := by decide +kernel
theorem dX11_size_13 : decode cX11_size 13 = .ok (.ifCond .ne 6, 3) := by decide +kernel
theorem dX11_size_19 : decode cX11_size 19 = .ok (.aload_n 0, 1) := by decide +kernel
theorem dX11_size_20 : decode cX11_size 20 = .ok (.iload_n 1, 1) := by decide +kernel
theorem dX11_size_21 : decode cX11_size 21 = .ok (.iload_n 2, 1) := by decide +kernel
theorem dX11_size_22 : decode cX11_size 22 = .ok (.invokevirtual 233, 3) := by decide +kernel
theorem dX11_size_25 : decode cX11_size 25 = .ok (.istore_n 3, 1) := by decide +kernel
theorem dX11_size_26 : decode cX11_size 26 = .ok (.iload_n 3, 1) := by decide +kernel
theorem dX11_size_27 : decode cX11_size 27 = .ok (.aload_n 0, 1) := by decide +kernel
theorem dX11_size_28 : decode cX11_size 28 = .ok (.iload_n 1, 1) := by decide +kernel
theorem dX11_size_29 : decode cX11_size 29 = .ok (.iload_n 2, 1) := by decide +kernel
theorem dX11_size_30 : decode cX11_size 30 = .ok (.invokevirtual 236, 3) := by decide +kernel
theorem dX11_size_33 : decode cX11_size 33 = .ok (.if_icmp .gt 7, 3) := by decide +kernel
theorem dX11_size_36 : decode cX11_size 36 = .ok (.iload_n 3, 1) := by decide +kernel
theorem dX11_size_37 : decode cX11_size 37 = .ok (.goto 4, 3) := by decide +kernel
theorem dX11_size_40 : decode cX11_size 40 = .ok (.iconst (-1), 1) := by decide +kernel
theorem dX11_size_41 : decode cX11_size 41 = .ok (.ireturn, 1) := by decide +kernel
theorem dX11_size_16 : decode cX11_size 16 = .ok (.bipush (-2), 2) := by decide +kernel
theorem dX11_size_18 : decode cX11_size 18 = .ok (.ireturn, 1) := by decide +kernel
noncomputable def vX11_size : List Cond := .code yX11_size cX11_size 4 (some .int) :: (([.methodLink RX11 136 yX11_isIcicle, .instanceMethod yX11_isIcicle, .selects RX11 yX11_isIcicle yX11_isIcicle, .initialized RX11, .methodLink RX11 121 yX11_isDay, .instanceMethod yX11_isDay, .selects RX11 yX11_isDay yX11_isDay, .methodLink RX11 233 yX11_leastSize, .instanceMethod yX11_leastSize, .selects RX11 yX11_leastSize yX11_leastSize, .methodLink RX11 236 yX11_mostSize, .instanceMethod yX11_mostSize, .selects RX11 yX11_mostSize yX11_mostSize] : List Cond) ++ (vX11_isIcicle ++ (vX11_isDay ++ (vX11_leastSize ++ vX11_mostSize))))
theorem gs_X11_size : Gd vX11_size := Gd.cons (by decide +kernel) (Gd.app (Gd.r (by decide +kernel)) (Gd.app gs_X11_isIcicle (Gd.app gs_X11_isDay (Gd.app gs_X11_leastSize gs_X11_mostSize))))
theorem gg_X11_size_X11_isIcicle : GoodIn vX11_size (wsV RX11 136 RX11 yX11_isIcicle vX11_isIcicle) := goodIn_app (goodIn_r _ [1, 2, 3, 4] (by decide +kernel) (by decide +kernel)) (fun w h => ⟨List.mem_cons_of_mem _ (List.mem_append_right _ (List.mem_append_left _ h)), gs_X11_isIcicle w h⟩)
theorem gg_X11_size_X11_isDay : GoodIn vX11_size (wsV RX11 121 RX11 yX11_isDay vX11_isDay) := goodIn_app (goodIn_r _ [5, 6, 7, 4] (by decide +kernel) (by decide +kernel)) (fun w h => ⟨List.mem_cons_of_mem _ (List.mem_append_right _ (List.mem_append_right _ (List.mem_append_left _ h))), gs_X11_isDay w h⟩)
theorem gg_X11_size_X11_leastSize : GoodIn vX11_size (wsV RX11 233 RX11 yX11_leastSize vX11_leastSize) := goodIn_app (goodIn_r _ [8, 9, 10, 4] (by decide +kernel) (by decide +kernel)) (fun w h => ⟨List.mem_cons_of_mem _ (List.mem_append_right _ (List.mem_append_right _ (List.mem_append_right _ (List.mem_append_left _ h)))), gs_X11_leastSize w h⟩)
theorem gg_X11_size_X11_mostSize : GoodIn vX11_size (wsV RX11 236 RX11 yX11_mostSize vX11_mostSize) := goodIn_app (goodIn_r _ [11, 12, 13, 4] (by decide +kernel) (by decide +kernel)) (fun w h => ⟨List.mem_cons_of_mem _ (List.mem_append_right _ (List.mem_append_right _ (List.mem_append_right _ (List.mem_append_right _ (h))))), gs_X11_mostSize w h⟩)
set_option maxHeartbeats 4000000 in
set_option maxRecDepth 100000 in
theorem s_X11_size (l : Launch) (D : va_G) (cs : Nat → ClassId) (ad : Nat → Nat) (kS : kSt) (K : sK) (hKO : KO K) (hj : wJ ad 218) (g : Nat → va_E) (hW : WF (shp ad K) ad cs g) (ic : Int32) (dy : Int32) : sI l yX11_size vX11_size { frames := 4, cells := 0, slots := 0, locals := 93 } D cs ad kS [.ref (ad 0), .int ic, .int dy] g (fun r g2 => g2 = g) := by
  refine Met.startS (cc := cX11_size) (maxL := 4) (ret := (some .int)) RX11 rfl (by decide) rfl (Nat.le_of_ble_eq_true rfl) ?_
  intro p e s m below meth c ls X Z hP hl
  have hx := X.1
  have hb := X.2.1
  have hS : va_S (wA ad 218) s.heap s.heap [] := va_S.rf
  have hA : ∀ i, i < 218 → wA ad 218 (ad i) := fun i h => ⟨i, h, rfl⟩
  have hl : lv_has ls 4 [(0, .ref (ad 0)), (1, .int ic), (2, .int dy)] := hl
  refine lv_aload_n hx hb dX11_size_0 rfl (lv_at hl 0 rfl) ?_
  refine lv_iload_n hx hb dX11_size_1 rfl (lv_at hl 1 rfl) ?_
  obtain ⟨fsc_4, hgc_4, hOc_4⟩ := hW.obj (i := 0) (by decide) (sh_0 ad K)
  refine s_calli (q := (RX11, TX11, 14)) (As := [.int ic]) (rest := []) X Z (s_X11_isIcicle l D cs ad kS K hKO hj g hW ic) (cwV 1 X.2.2.2.2.1 gg_X11_size_X11_isIcicle rfl rfl rfl (by decide +kernel) ⟨Nat.le_of_ble_eq_true rfl, Nat.le_of_ble_eq_true rfl⟩) (by decide) hgc_4 rfl hP hA hS.2.1 hS rfl hl.1 rfl (Nat.le_of_ble_eq_true rfl) dX11_size_2 ⟨Nat.le_of_ble_eq_true rfl, Nat.le_of_ble_eq_true rfl⟩ (fun r_3 g_2 H locs hw_1 hP hS => ?_)
  obtain ⟨hw_1g, hw_1⟩ := hw_1
  rw [hw_1g] at hP
  have HJ16 : ∀ (H : Heap) (locs : List Loc) (ls : Array Slot), va_P D vwCl (wL ad g 218) H → va_S (wA ad 218) s.heap H locs → lv_has ls 4 [] → W p l e ({ frames := 4, cells := 0, slots := 0, locals := 93 } : Room) s m ([.ref (ad 0), .int ic, .int dy] : List Value).toArray below meth c H locs 0 0 (MQ below (qI D ad 218 (fun r g2 => g2 = g)) ([.ref (ad 0), .int ic, .int dy] : List Value).toArray s 0 0 (wA ad 218)) (F0 m 16 ls []) := by
    intro H locs ls hP hS hl
    refine lv_bipush (v := (-2)) hx hb dX11_size_16 (by decide) ?_
    exact q_iret X hP hS rfl dX11_size_18
  refine lv_if_eq (tgt := 16) hx hb dX11_size_5 (by decide) (fun hc_5 => ?_) (fun hc_5 => ?_)
  · have hhc_5 := n_eq (rfl : r_3.toInt = r_3.toInt) (by decide : (0 : Int32).toInt = 0) hc_5
    exact HJ16 _ _ ls hP hS (lv_sub hl [] rfl)
  · have hhc_5 := n_ne (rfl : r_3.toInt = r_3.toInt) (by decide : (0 : Int32).toInt = 0) hc_5
    refine lv_aload_n hx hb dX11_size_8 rfl (lv_at hl 0 rfl) ?_
    refine lv_iload_n hx hb dX11_size_9 rfl (lv_at hl 2 rfl) ?_
    refine s_calli (q := (RX11, TX11, 14)) (As := [.int dy]) (rest := []) X Z (s_X11_isDay l D cs ad kS K hKO hj g hW dy) (cwV 1 X.2.2.2.2.1 gg_X11_size_X11_isDay rfl rfl rfl (by decide +kernel) ⟨Nat.le_of_ble_eq_true rfl, Nat.le_of_ble_eq_true rfl⟩) (by decide) hgc_4 rfl hP hA hS.2.1 hS rfl hl.1 rfl (Nat.le_of_ble_eq_true rfl) dX11_size_10 ⟨Nat.le_of_ble_eq_true rfl, Nat.le_of_ble_eq_true rfl⟩ (fun r_8 g_7 H locs hw_6 hP hS => ?_)
    obtain ⟨hw_6g, hw_6⟩ := hw_6
    rw [hw_6g] at hP
    refine lv_if_ne (tgt := 19) hx hb dX11_size_13 (by decide) (fun hc_9 => ?_) (fun hc_9 => ?_)
    · have hhc_9 := n_ne (rfl : r_8.toInt = r_8.toInt) (by decide : (0 : Int32).toInt = 0) hc_9
      refine lv_aload_n hx hb dX11_size_19 rfl (lv_at hl 0 rfl) ?_
      refine lv_iload_n hx hb dX11_size_20 rfl (lv_at hl 1 rfl) ?_
      refine lv_iload_n hx hb dX11_size_21 rfl (lv_at hl 2 rfl) ?_
      refine s_calli (q := (RX11, TX11, 14)) (As := [.int ic, .int dy]) (rest := []) X Z (s_X11_leastSize l D cs ad kS K hKO hj g hW ic dy (by omega) (by omega)) (cwV 2 X.2.2.2.2.1 gg_X11_size_X11_leastSize rfl rfl rfl (by decide +kernel) ⟨Nat.le_of_ble_eq_true rfl, Nat.le_of_ble_eq_true rfl⟩) (by decide) hgc_4 rfl hP hA hS.2.1 hS rfl hl.1 rfl (Nat.le_of_ble_eq_true rfl) dX11_size_22 ⟨Nat.le_of_ble_eq_true rfl, Nat.le_of_ble_eq_true rfl⟩ (fun r_12 g_11 H locs hw_10 hP hS => ?_)
      rw [hw_10] at hP
      refine lv_istore_n (lv' := [(3, .int r_12), (0, .ref (ad 0)), (1, .int ic), (2, .int dy)]) hx hb dX11_size_25 rfl hl (by decide) rfl (fun ls hl => ?_)
      refine lv_iload_n hx hb dX11_size_26 rfl (lv_at hl 0 rfl) ?_
      refine lv_aload_n hx hb dX11_size_27 rfl (lv_at hl 1 rfl) ?_
      refine lv_iload_n hx hb dX11_size_28 rfl (lv_at hl 2 rfl) ?_
      refine lv_iload_n hx hb dX11_size_29 rfl (lv_at hl 3 rfl) ?_
      refine s_calli (q := (RX11, TX11, 14)) (As := [.int ic, .int dy]) (rest := [.int r_12]) X Z (s_X11_mostSize l D cs ad kS K hKO hj g hW ic dy (by omega) (by omega)) (cwV 2 X.2.2.2.2.1 gg_X11_size_X11_mostSize rfl rfl rfl (by decide +kernel) ⟨Nat.le_of_ble_eq_true rfl, Nat.le_of_ble_eq_true rfl⟩) (by decide) hgc_4 rfl hP hA hS.2.1 hS rfl hl.1 rfl (Nat.le_of_ble_eq_true rfl) dX11_size_30 ⟨Nat.le_of_ble_eq_true rfl, Nat.le_of_ble_eq_true rfl⟩ (fun r_15 g_14 H locs hw_13 hP hS => ?_)
      rw [hw_13] at hP
      refine lv_icmp_gt (tgt := 40) hx hb dX11_size_33 (by decide) (fun hc_16 => ?_) (fun hc_16 => ?_)
      · have hhc_16 := n_lt (rfl : r_15.toInt = r_15.toInt) (rfl : r_12.toInt = r_12.toInt) hc_16
        have := n_hi r_15
        have := n_lo r_15
        have := n_hi r_12
        have := n_lo r_12
        refine lv_iconst (v := (-1)) hx hb dX11_size_40 (by decide) ?_
        exact q_iret X hP hS rfl dX11_size_41
      · have hhc_16 := n_nlt (rfl : r_15.toInt = r_15.toInt) (rfl : r_12.toInt = r_12.toInt) hc_16
        have := n_hi r_15
        have := n_lo r_15
        have := n_hi r_12
        have := n_lo r_12
        refine lv_iload_n hx hb dX11_size_36 rfl (lv_at hl 0 rfl) ?_
        refine lv_goto (tgt := 41) hx hb dX11_size_37 (by decide) ?_
        exact q_iret X hP hS rfl dX11_size_41
    · have hhc_9 := n_eq (rfl : r_8.toInt = r_8.toInt) (by decide : (0 : Int32).toInt = 0) hc_9
      exact HJ16 _ _ ls hP hS (lv_sub hl [] rfl)

theorem dX11_sizes_0 : decode cX11_sizes 0 = .ok (.aload_n 0, 1) := by decide +kernel
theorem dX11_sizes_1 : decode cX11_sizes 1 = .ok (.iload_n 1, 1) := by decide +kernel
theorem dX11_sizes_2 : decode cX11_sizes 2 = .ok (.invokevirtual 136, 3) := by decide +kernel
theorem dX11_sizes_5 : decode cX11_sizes 5 = .ok (.ifCond .eq 11, 3) := by decide +kernel
theorem dX11_sizes_8 : decode cX11_sizes 8 = .ok (.aload_n 0, 1) := by decide +kernel
theorem dX11_sizes_9 : decode cX11_sizes 9 = .ok (.iload_n 2, 1) := by decide +kernel
theorem dX11_sizes_10 : decode cX11_sizes 10 = .ok (.invokevirtual 121, 3) := by decide +kernel
theorem dX11_sizes_13 : decode cX11_sizes 13 = .ok (.ifCond .ne 6, 3) := by decide +kernel
theorem dX11_sizes_19 : decode cX11_sizes 19 = .ok (.iconst 0, 1) := by decide +kernel
theorem dX11_sizes_20 : decode cX11_sizes 20 = .ok (.aload_n 0, 1) := by decide +kernel
theorem dX11_sizes_21 : decode cX11_sizes 21 = .ok (.iload_n 1, 1) := by decide +kernel
theorem dX11_sizes_22 : decode cX11_sizes 22 = .ok (.iload_n 2, 1) := by decide +kernel
theorem dX11_sizes_23 : decode cX11_sizes 23 = .ok (.invokevirtual 236, 3) := by decide +kernel
theorem dX11_sizes_26 : decode cX11_sizes 26 = .ok (.aload_n 0, 1) := by decide +kernel
theorem dX11_sizes_27 : decode cX11_sizes 27 = .ok (.iload_n 1, 1) := by decide +kernel
theorem dX11_sizes_28 : decode cX11_sizes 28 = .ok (.iload_n 2, 1) := by decide +kernel
theorem dX11_sizes_29 : decode cX11_sizes 29 = .ok (.invokevirtual 233, 3) := by decide +kernel
theorem dX11_sizes_32 : decode cX11_sizes 32 = .ok (.isub, 1) := by decide +kernel
theorem dX11_sizes_33 : decode cX11_sizes 33 = .ok (.iconst 1, 1) := by decide +kernel
theorem dX11_sizes_34 : decode cX11_sizes 34 = .ok (.iadd, 1) := by decide +kernel
theorem dX11_sizes_35 : decode cX11_sizes 35 = .ok (.invokestatic 183, 3) := by decide +kernel
theorem dX11_sizes_38 : decode cX11_sizes 38 = .ok (.ireturn, 1) := by decide +kernel
theorem dX11_sizes_16 : decode cX11_sizes 16 = .ok (.bipush (-2), 2) := by decide +kernel
theorem dX11_sizes_18 : decode cX11_sizes 18 = .ok (.ireturn, 1) := by decide +kernel
noncomputable def vX11_sizes : List Cond := .code yX11_sizes cX11_sizes 3 (some .int) :: (([.methodLink RX11 136 yX11_isIcicle, .instanceMethod yX11_isIcicle, .selects RX11 yX11_isIcicle yX11_isIcicle, .initialized RX11, .methodLink RX11 121 yX11_isDay, .instanceMethod yX11_isDay, .selects RX11 yX11_isDay yX11_isDay, .methodLink RX11 236 yX11_mostSize, .instanceMethod yX11_mostSize, .selects RX11 yX11_mostSize yX11_mostSize, .methodLink RX11 233 yX11_leastSize, .instanceMethod yX11_leastSize, .selects RX11 yX11_leastSize yX11_leastSize, .methodLink RX11 183 Lib.Math.max.name, .static Lib.Math.max.name, .initialized "java/lang/Math", .code Lib.Math.max.name Lib.Math.max.code 2 (some .int)] : List Cond) ++ (vX11_isIcicle ++ (vX11_isDay ++ (vX11_mostSize ++ vX11_leastSize))))
theorem gs_X11_sizes : Gd vX11_sizes := Gd.cons (by decide +kernel) (Gd.app (Gd.r (by decide +kernel)) (Gd.app gs_X11_isIcicle (Gd.app gs_X11_isDay (Gd.app gs_X11_mostSize gs_X11_leastSize))))
theorem gg_X11_sizes_X11_isIcicle : GoodIn vX11_sizes (wsV RX11 136 RX11 yX11_isIcicle vX11_isIcicle) := goodIn_app (goodIn_r _ [1, 2, 3, 4] (by decide +kernel) (by decide +kernel)) (fun w h => ⟨List.mem_cons_of_mem _ (List.mem_append_right _ (List.mem_append_left _ h)), gs_X11_isIcicle w h⟩)
theorem gg_X11_sizes_X11_isDay : GoodIn vX11_sizes (wsV RX11 121 RX11 yX11_isDay vX11_isDay) := goodIn_app (goodIn_r _ [5, 6, 7, 4] (by decide +kernel) (by decide +kernel)) (fun w h => ⟨List.mem_cons_of_mem _ (List.mem_append_right _ (List.mem_append_right _ (List.mem_append_left _ h))), gs_X11_isDay w h⟩)
theorem gg_X11_sizes_X11_mostSize : GoodIn vX11_sizes (wsV RX11 236 RX11 yX11_mostSize vX11_mostSize) := goodIn_app (goodIn_r _ [8, 9, 10, 4] (by decide +kernel) (by decide +kernel)) (fun w h => ⟨List.mem_cons_of_mem _ (List.mem_append_right _ (List.mem_append_right _ (List.mem_append_right _ (List.mem_append_left _ h)))), gs_X11_mostSize w h⟩)
theorem gg_X11_sizes_X11_leastSize : GoodIn vX11_sizes (wsV RX11 233 RX11 yX11_leastSize vX11_leastSize) := goodIn_app (goodIn_r _ [11, 12, 13, 4] (by decide +kernel) (by decide +kernel)) (fun w h => ⟨List.mem_cons_of_mem _ (List.mem_append_right _ (List.mem_append_right _ (List.mem_append_right _ (List.mem_append_right _ (h))))), gs_X11_leastSize w h⟩)
set_option maxHeartbeats 4000000 in
set_option maxRecDepth 100000 in
theorem s_X11_sizes (l : Launch) (D : va_G) (cs : Nat → ClassId) (ad : Nat → Nat) (kS : kSt) (K : sK) (hKO : KO K) (hj : wJ ad 218) (g : Nat → va_E) (hW : WF (shp ad K) ad cs g) (ic : Int32) (dy : Int32) : sI l yX11_sizes vX11_sizes { frames := 4, cells := 0, slots := 0, locals := 93 } D cs ad kS [.ref (ad 0), .int ic, .int dy] g (fun r g2 => g2 = g) := by
  refine Met.startS (cc := cX11_sizes) (maxL := 3) (ret := (some .int)) RX11 rfl (by decide) rfl (Nat.le_of_ble_eq_true rfl) ?_
  intro p e s m below meth c ls X Z hP hl
  have hx := X.1
  have hb := X.2.1
  have hS : va_S (wA ad 218) s.heap s.heap [] := va_S.rf
  have hA : ∀ i, i < 218 → wA ad 218 (ad i) := fun i h => ⟨i, h, rfl⟩
  have hl : lv_has ls 3 [(0, .ref (ad 0)), (1, .int ic), (2, .int dy)] := hl
  refine lv_aload_n hx hb dX11_sizes_0 rfl (lv_at hl 0 rfl) ?_
  refine lv_iload_n hx hb dX11_sizes_1 rfl (lv_at hl 1 rfl) ?_
  obtain ⟨fsc_4, hgc_4, hOc_4⟩ := hW.obj (i := 0) (by decide) (sh_0 ad K)
  refine s_calli (q := (RX11, TX11, 14)) (As := [.int ic]) (rest := []) X Z (s_X11_isIcicle l D cs ad kS K hKO hj g hW ic) (cwV 1 X.2.2.2.2.1 gg_X11_sizes_X11_isIcicle rfl rfl rfl (by decide +kernel) ⟨Nat.le_of_ble_eq_true rfl, Nat.le_of_ble_eq_true rfl⟩) (by decide) hgc_4 rfl hP hA hS.2.1 hS rfl hl.1 rfl (Nat.le_of_ble_eq_true rfl) dX11_sizes_2 ⟨Nat.le_of_ble_eq_true rfl, Nat.le_of_ble_eq_true rfl⟩ (fun r_3 g_2 H locs hw_1 hP hS => ?_)
  obtain ⟨hw_1g, hw_1⟩ := hw_1
  rw [hw_1g] at hP
  have HJ16 : ∀ (H : Heap) (locs : List Loc) (ls : Array Slot), va_P D vwCl (wL ad g 218) H → va_S (wA ad 218) s.heap H locs → lv_has ls 3 [] → W p l e ({ frames := 4, cells := 0, slots := 0, locals := 93 } : Room) s m ([.ref (ad 0), .int ic, .int dy] : List Value).toArray below meth c H locs 0 0 (MQ below (qI D ad 218 (fun r g2 => g2 = g)) ([.ref (ad 0), .int ic, .int dy] : List Value).toArray s 0 0 (wA ad 218)) (F0 m 16 ls []) := by
    intro H locs ls hP hS hl
    refine lv_bipush (v := (-2)) hx hb dX11_sizes_16 (by decide) ?_
    exact q_iret X hP hS rfl dX11_sizes_18
  refine lv_if_eq (tgt := 16) hx hb dX11_sizes_5 (by decide) (fun hc_5 => ?_) (fun hc_5 => ?_)
  · have hhc_5 := n_eq (rfl : r_3.toInt = r_3.toInt) (by decide : (0 : Int32).toInt = 0) hc_5
    exact HJ16 _ _ ls hP hS (lv_sub hl [] rfl)
  · have hhc_5 := n_ne (rfl : r_3.toInt = r_3.toInt) (by decide : (0 : Int32).toInt = 0) hc_5
    refine lv_aload_n hx hb dX11_sizes_8 rfl (lv_at hl 0 rfl) ?_
    refine lv_iload_n hx hb dX11_sizes_9 rfl (lv_at hl 2 rfl) ?_
    refine s_calli (q := (RX11, TX11, 14)) (As := [.int dy]) (rest := []) X Z (s_X11_isDay l D cs ad kS K hKO hj g hW dy) (cwV 1 X.2.2.2.2.1 gg_X11_sizes_X11_isDay rfl rfl rfl (by decide +kernel) ⟨Nat.le_of_ble_eq_true rfl, Nat.le_of_ble_eq_true rfl⟩) (by decide) hgc_4 rfl hP hA hS.2.1 hS rfl hl.1 rfl (Nat.le_of_ble_eq_true rfl) dX11_sizes_10 ⟨Nat.le_of_ble_eq_true rfl, Nat.le_of_ble_eq_true rfl⟩ (fun r_8 g_7 H locs hw_6 hP hS => ?_)
    obtain ⟨hw_6g, hw_6⟩ := hw_6
    rw [hw_6g] at hP
    refine lv_if_ne (tgt := 19) hx hb dX11_sizes_13 (by decide) (fun hc_9 => ?_) (fun hc_9 => ?_)
    · have hhc_9 := n_ne (rfl : r_8.toInt = r_8.toInt) (by decide : (0 : Int32).toInt = 0) hc_9
      refine lv_iconst (v := 0) hx hb dX11_sizes_19 (by decide) ?_
      refine lv_aload_n hx hb dX11_sizes_20 rfl (lv_at hl 0 rfl) ?_
      refine lv_iload_n hx hb dX11_sizes_21 rfl (lv_at hl 1 rfl) ?_
      refine lv_iload_n hx hb dX11_sizes_22 rfl (lv_at hl 2 rfl) ?_
      refine s_calli (q := (RX11, TX11, 14)) (As := [.int ic, .int dy]) (rest := [.int 0]) X Z (s_X11_mostSize l D cs ad kS K hKO hj g hW ic dy (by omega) (by omega)) (cwV 2 X.2.2.2.2.1 gg_X11_sizes_X11_mostSize rfl rfl rfl (by decide +kernel) ⟨Nat.le_of_ble_eq_true rfl, Nat.le_of_ble_eq_true rfl⟩) (by decide) hgc_4 rfl hP hA hS.2.1 hS rfl hl.1 rfl (Nat.le_of_ble_eq_true rfl) dX11_sizes_23 ⟨Nat.le_of_ble_eq_true rfl, Nat.le_of_ble_eq_true rfl⟩ (fun r_12 g_11 H locs hw_10 hP hS => ?_)
      rw [hw_10] at hP
      refine lv_aload_n hx hb dX11_sizes_26 rfl (lv_at hl 0 rfl) ?_
      refine lv_iload_n hx hb dX11_sizes_27 rfl (lv_at hl 1 rfl) ?_
      refine lv_iload_n hx hb dX11_sizes_28 rfl (lv_at hl 2 rfl) ?_
      refine s_calli (q := (RX11, TX11, 14)) (As := [.int ic, .int dy]) (rest := [.int r_12, .int 0]) X Z (s_X11_leastSize l D cs ad kS K hKO hj g hW ic dy (by omega) (by omega)) (cwV 2 X.2.2.2.2.1 gg_X11_sizes_X11_leastSize rfl rfl rfl (by decide +kernel) ⟨Nat.le_of_ble_eq_true rfl, Nat.le_of_ble_eq_true rfl⟩) (by decide) hgc_4 rfl hP hA hS.2.1 hS rfl hl.1 rfl (Nat.le_of_ble_eq_true rfl) dX11_sizes_29 ⟨Nat.le_of_ble_eq_true rfl, Nat.le_of_ble_eq_true rfl⟩ (fun r_15 g_14 H locs hw_13 hP hS => ?_)
      rw [hw_13] at hP
      refine lv_isub hx hb dX11_sizes_32 ?_
      refine lv_topi (fun z_16 ez_16 => ?_)
      refine lv_iconst (v := 1) hx hb dX11_sizes_33 (by decide) ?_
      refine lv_iadd hx hb dX11_sizes_34 ?_
      refine lv_topi (fun z_17 ez_17 => ?_)
      refine va_mmax hx hb (X.2.2.2.1.trans hl.1.symm) X.2.2.2.2.2.1 (X.2.2.2.2.1 _ (List.mem_of_getElem? (i := 14) rfl)) (X.2.2.2.2.1 _ (List.mem_of_getElem? (i := 15) rfl)) (X.2.2.2.2.1 _ (List.mem_of_getElem? (i := 16) rfl)) (X.2.2.2.2.1 _ (List.mem_of_getElem? (i := 17) rfl)) (Nat.le_of_ble_eq_true rfl) (Nat.le_of_ble_eq_true rfl) (Nat.le_of_ble_eq_true rfl) (Nat.le_of_ble_eq_true rfl) dX11_sizes_35 ?_
      refine lv_topi (fun z_18 ez_18 => ?_)
      have hz_18 := n_max (by decide : (0 : Int32).toInt = 0) (rfl : z_17.toInt = z_17.toInt) ez_18
      exact q_iret X hP hS rfl dX11_sizes_38
    · have hhc_9 := n_eq (rfl : r_8.toInt = r_8.toInt) (by decide : (0 : Int32).toInt = 0) hc_9
      exact HJ16 _ _ ls hP hS (lv_sub hl [] rfl)

theorem dX11_place_0 : decode cX11_place 0 = .ok (.aload_n 0, 1) := by decide +kernel
theorem dX11_place_1 : decode cX11_place 1 = .ok (.iload_n 1, 1) := by decide +kernel
theorem dX11_place_2 : decode cX11_place 2 = .ok (.invokevirtual 136, 3) := by decide +kernel
theorem dX11_place_5 : decode cX11_place 5 = .ok (.ifCond .eq 11, 3) := by decide +kernel
theorem dX11_place_8 : decode cX11_place 8 = .ok (.aload_n 0, 1) := by decide +kernel
theorem dX11_place_9 : decode cX11_place 9 = .ok (.iload_n 2, 1) := by decide +kernel
theorem dX11_place_10 : decode cX11_place 10 = .ok (.invokevirtual 121, 3) := by decide +kernel
theorem dX11_place_13 : decode cX11_place 13 = .ok (.ifCond .ne 6, 3) := by decide +kernel
theorem dX11_place_19 : decode cX11_place 19 = .ok (.iconst (-1), 1) := by decide +kernel
theorem dX11_place_20 : decode cX11_place 20 = .ok (.istore_n 3, 1) := by decide +kernel
theorem dX11_place_21 : decode cX11_place 21 = .ok (.bipush 14, 2) := by decide +kernel
theorem dX11_place_23 : decode cX11_place 23 = .ok (.istore 4, 2) := by decide +kernel
theorem dX11_place_25 : decode cX11_place 25 = .ok (.iconst 0, 1) := by decide +kernel
theorem dX11_place_26 : decode cX11_place 26 = .ok (.istore 5, 2) := by decide +kernel
theorem dX11_place_28 : decode cX11_place 28 = .ok (.iload 5, 2) := by decide +kernel
theorem dX11_place_30 : decode cX11_place 30 = .ok (.aload_n 0, 1) := by decide +kernel
theorem dX11_place_31 : decode cX11_place 31 = .ok (.getfield 19, 3) := by decide +kernel
theorem dX11_place_34 : decode cX11_place 34 = .ok (.getfield 208, 3) := by decide +kernel
theorem dX11_place_37 : decode cX11_place 37 = .ok (.if_icmp .ge 63, 3) := by decide +kernel
theorem dX11_place_40 : decode cX11_place 40 = .ok (.aload_n 0, 1) := by decide +kernel
theorem dX11_place_41 : decode cX11_place 41 = .ok (.getfield 44, 3) := by decide +kernel
theorem dX11_place_44 : decode cX11_place 44 = .ok (.aload_n 0, 1) := by decide +kernel
theorem dX11_place_45 : decode cX11_place 45 = .ok (.getfield 19, 3) := by decide +kernel
theorem dX11_place_48 : decode cX11_place 48 = .ok (.iload 5, 2) := by decide +kernel
theorem dX11_place_50 : decode cX11_place 50 = .ok (.aload_n 0, 1) := by decide +kernel
theorem dX11_place_51 : decode cX11_place 51 = .ok (.getfield 19, 3) := by decide +kernel
theorem dX11_place_54 : decode cX11_place 54 = .ok (.getfield 170, 3) := by decide +kernel
theorem dX11_place_57 : decode cX11_place 57 = .ok (.iload_n 1, 1) := by decide +kernel
theorem dX11_place_58 : decode cX11_place 58 = .ok (.iaload, 1) := by decide +kernel
theorem dX11_place_59 : decode cX11_place 59 = .ok (.invokevirtual 239, 3) := by decide +kernel
theorem dX11_place_62 : decode cX11_place 62 = .ok (.istore 6, 2) := by decide +kernel
theorem dX11_place_64 : decode cX11_place 64 = .ok (.iload 6, 2) := by decide +kernel
theorem dX11_place_66 : decode cX11_place 66 = .ok (.iconst (-1), 1) := by decide +kernel
theorem dX11_place_67 : decode cX11_place 67 = .ok (.if_icmp .eq 27, 3) := by decide +kernel
theorem dX11_place_70 : decode cX11_place 70 = .ok (.iload 6, 2) := by decide +kernel
theorem dX11_place_72 : decode cX11_place 72 = .ok (.iload_n 2, 1) := by decide +kernel
theorem dX11_place_73 : decode cX11_place 73 = .ok (.isub, 1) := by decide +kernel
theorem dX11_place_74 : decode cX11_place 74 = .ok (.invokestatic 217, 3) := by decide +kernel
theorem dX11_place_77 : decode cX11_place 77 = .ok (.iload 4, 2) := by decide +kernel
theorem dX11_place_79 : decode cX11_place 79 = .ok (.if_icmp .ge 15, 3) := by decide +kernel
theorem dX11_place_82 : decode cX11_place 82 = .ok (.iload 6, 2) := by decide +kernel
theorem dX11_place_84 : decode cX11_place 84 = .ok (.iload_n 2, 1) := by decide +kernel
theorem dX11_place_85 : decode cX11_place 85 = .ok (.isub, 1) := by decide +kernel
theorem dX11_place_86 : decode cX11_place 86 = .ok (.invokestatic 217, 3) := by decide +kernel
theorem dX11_place_89 : decode cX11_place 89 = .ok (.istore 4, 2) := by decide +kernel
theorem dX11_place_91 : decode cX11_place 91 = .ok (.iload 5, 2) := by decide +kernel
theorem dX11_place_93 : decode cX11_place 93 = .ok (.istore_n 3, 1) := by decide +kernel
theorem dX11_place_94 : decode cX11_place 94 = .ok (.iinc 5 1, 3) := by decide +kernel
theorem dX11_place_97 : decode cX11_place 97 = .ok (.goto (-69), 3) := by decide +kernel
theorem dX11_place_100 : decode cX11_place 100 = .ok (.iload_n 3, 1) := by decide +kernel
theorem dX11_place_101 : decode cX11_place 101 = .ok (.ireturn, 1) := by decide +kernel
theorem dX11_place_16 : decode cX11_place 16 = .ok (.bipush (-2), 2) := by decide +kernel
theorem dX11_place_18 : decode cX11_place 18 = .ok (.ireturn, 1) := by decide +kernel
noncomputable def vX11_place : List Cond := .code yX11_place cX11_place 7 (some .int) :: (([.methodLink RX11 136 yX11_isIcicle, .instanceMethod yX11_isIcicle, .selects RX11 yX11_isIcicle yX11_isIcicle, .initialized RX11, .methodLink RX11 121 yX11_isDay, .instanceMethod yX11_isDay, .selects RX11 yX11_isDay yX11_isDay, .fieldLink RX11 19 "IcicleClock" "now" "LIcicleClock$Street;", .fieldLink RX11 208 "IcicleClock$Street" "eaves" "I", .fieldLink RX11 44 "IcicleClock" "winter" "LIcicleClock$Winter;", .fieldLink RX11 170 "IcicleClock$Street" "lengthHung" "[I", .methodLink RX11 239 yX10_fallOf, .instanceMethod yX10_fallOf, .selects RX10 yX10_fallOf yX10_fallOf, .initialized RX10, .methodLink RX11 217 Lib.Math.abs.name, .static Lib.Math.abs.name, .initialized "java/lang/Math", .code Lib.Math.abs.name Lib.Math.abs.code 1 (some .int)] : List Cond) ++ (wsX110 ++ (wsX60 ++ (vX11_isIcicle ++ (vX11_isDay ++ vX10_fallOf)))))
theorem iX11_place_11 : ∀ w ∈ wsX110, w ∈ vX11_place := fun _ h => List.mem_cons_of_mem _ (List.mem_append_right _ (List.mem_append_left _ h))
theorem iX11_place_6 : ∀ w ∈ wsX60, w ∈ vX11_place := fun _ h => List.mem_cons_of_mem _ (List.mem_append_right _ (List.mem_append_right _ (List.mem_append_left _ h)))
theorem gs_X11_place : Gd vX11_place := Gd.cons (by decide +kernel) (Gd.app (Gd.r (by decide +kernel)) (Gd.app gwX_11 (Gd.app gwX_6 (Gd.app gs_X11_isIcicle (Gd.app gs_X11_isDay gs_X10_fallOf)))))
theorem gg_X11_place_X11_isIcicle : GoodIn vX11_place (wsV RX11 136 RX11 yX11_isIcicle vX11_isIcicle) := goodIn_app (goodIn_r _ [1, 2, 3, 4] (by decide +kernel) (by decide +kernel)) (fun w h => ⟨List.mem_cons_of_mem _ (List.mem_append_right _ (List.mem_append_right _ (List.mem_append_right _ (List.mem_append_left _ h)))), gs_X11_isIcicle w h⟩)
theorem gg_X11_place_X11_isDay : GoodIn vX11_place (wsV RX11 121 RX11 yX11_isDay vX11_isDay) := goodIn_app (goodIn_r _ [5, 6, 7, 4] (by decide +kernel) (by decide +kernel)) (fun w h => ⟨List.mem_cons_of_mem _ (List.mem_append_right _ (List.mem_append_right _ (List.mem_append_right _ (List.mem_append_right _ (List.mem_append_left _ h))))), gs_X11_isDay w h⟩)
theorem gg_X11_place_X10_fallOf : GoodIn vX11_place (wsV RX11 239 RX10 yX10_fallOf vX10_fallOf) := goodIn_app (goodIn_r _ [12, 13, 14, 15] (by decide +kernel) (by decide +kernel)) (fun w h => ⟨List.mem_cons_of_mem _ (List.mem_append_right _ (List.mem_append_right _ (List.mem_append_right _ (List.mem_append_right _ (List.mem_append_right _ (h)))))), gs_X10_fallOf w h⟩)
set_option maxHeartbeats 4000000 in
set_option maxRecDepth 100000 in
theorem s_X11_place (l : Launch) (D : va_G) (cs : Nat → ClassId) (ad : Nat → Nat) (kS : kSt) (K : sK) (hKO : KO K) (hj : wJ ad 218) (g : Nat → va_E) (hW : WF (shp ad K) ad cs g) (ic : Int32) (dy : Int32) : sI l yX11_place vX11_place { frames := 3, cells := 0, slots := 0, locals := 71 } D cs ad kS [.ref (ad 0), .int ic, .int dy] g (fun r g2 => g2 = g) := by
  refine Met.startS (cc := cX11_place) (maxL := 7) (ret := (some .int)) RX11 rfl (by decide) rfl (Nat.le_of_ble_eq_true rfl) ?_
  intro p e s m below meth c ls X Z hP hl
  have hx := X.1
  have hb := X.2.1
  have hS : va_S (wA ad 218) s.heap s.heap [] := va_S.rf
  have hA : ∀ i, i < 218 → wA ad 218 (ad i) := fun i h => ⟨i, h, rfl⟩
  have hl : lv_has ls 7 [(0, .ref (ad 0)), (1, .int ic), (2, .int dy)] := hl
  refine lv_aload_n hx hb dX11_place_0 rfl (lv_at hl 0 rfl) ?_
  refine lv_iload_n hx hb dX11_place_1 rfl (lv_at hl 1 rfl) ?_
  obtain ⟨fsc_4, hgc_4, hOc_4⟩ := hW.obj (i := 0) (by decide) (sh_0 ad K)
  refine s_calli (q := (RX11, TX11, 14)) (As := [.int ic]) (rest := []) X Z (s_X11_isIcicle l D cs ad kS K hKO hj g hW ic) (cwV 1 X.2.2.2.2.1 gg_X11_place_X11_isIcicle rfl rfl rfl (by decide +kernel) ⟨Nat.le_of_ble_eq_true rfl, Nat.le_of_ble_eq_true rfl⟩) (by decide) hgc_4 rfl hP hA hS.2.1 hS rfl hl.1 rfl (Nat.le_of_ble_eq_true rfl) dX11_place_2 ⟨Nat.le_of_ble_eq_true rfl, Nat.le_of_ble_eq_true rfl⟩ (fun r_3 g_2 H locs hw_1 hP hS => ?_)
  obtain ⟨hw_1g, hw_1⟩ := hw_1
  rw [hw_1g] at hP
  have HJ16 : ∀ (H : Heap) (locs : List Loc) (ls : Array Slot), va_P D vwCl (wL ad g 218) H → va_S (wA ad 218) s.heap H locs → lv_has ls 7 [] → W p l e ({ frames := 3, cells := 0, slots := 0, locals := 71 } : Room) s m ([.ref (ad 0), .int ic, .int dy] : List Value).toArray below meth c H locs 0 0 (MQ below (qI D ad 218 (fun r g2 => g2 = g)) ([.ref (ad 0), .int ic, .int dy] : List Value).toArray s 0 0 (wA ad 218)) (F0 m 16 ls []) := by
    intro H locs ls hP hS hl
    refine lv_bipush (v := (-2)) hx hb dX11_place_16 (by decide) ?_
    exact q_iret X hP hS rfl dX11_place_18
  refine lv_if_eq (tgt := 16) hx hb dX11_place_5 (by decide) (fun hc_5 => ?_) (fun hc_5 => ?_)
  · have hhc_5 := n_eq (rfl : r_3.toInt = r_3.toInt) (by decide : (0 : Int32).toInt = 0) hc_5
    exact HJ16 _ _ ls hP hS (lv_sub hl [] rfl)
  · have hhc_5 := n_ne (rfl : r_3.toInt = r_3.toInt) (by decide : (0 : Int32).toInt = 0) hc_5
    refine lv_aload_n hx hb dX11_place_8 rfl (lv_at hl 0 rfl) ?_
    refine lv_iload_n hx hb dX11_place_9 rfl (lv_at hl 2 rfl) ?_
    refine s_calli (q := (RX11, TX11, 14)) (As := [.int dy]) (rest := []) X Z (s_X11_isDay l D cs ad kS K hKO hj g hW dy) (cwV 1 X.2.2.2.2.1 gg_X11_place_X11_isDay rfl rfl rfl (by decide +kernel) ⟨Nat.le_of_ble_eq_true rfl, Nat.le_of_ble_eq_true rfl⟩) (by decide) hgc_4 rfl hP hA hS.2.1 hS rfl hl.1 rfl (Nat.le_of_ble_eq_true rfl) dX11_place_10 ⟨Nat.le_of_ble_eq_true rfl, Nat.le_of_ble_eq_true rfl⟩ (fun r_8 g_7 H locs hw_6 hP hS => ?_)
    obtain ⟨hw_6g, hw_6⟩ := hw_6
    rw [hw_6g] at hP
    refine lv_if_ne (tgt := 19) hx hb dX11_place_13 (by decide) (fun hc_9 => ?_) (fun hc_9 => ?_)
    · have hhc_9 := n_ne (rfl : r_8.toInt = r_8.toInt) (by decide : (0 : Int32).toInt = 0) hc_9
      refine lv_iconst (v := (-1)) hx hb dX11_place_19 (by decide) ?_
      refine lv_istore_n (lv' := [(3, .int (-1)), (0, .ref (ad 0)), (1, .int ic), (2, .int dy)]) hx hb dX11_place_20 rfl hl (by decide) rfl (fun ls hl => ?_)
      refine lv_bipush (v := 14) hx hb dX11_place_21 (by decide) ?_
      refine lv_istore (lv' := [(4, .int 14), (3, .int (-1)), (0, .ref (ad 0)), (1, .int ic), (2, .int dy)]) hx hb dX11_place_23 hl (by decide) rfl (fun ls hl => ?_)
      refine lv_iconst (v := 0) hx hb dX11_place_25 (by decide) ?_
      refine lv_istore (lv' := [(5, .int 0), (4, .int 14), (3, .int (-1)), (0, .ref (ad 0)), (1, .int ic), (2, .int dy)]) hx hb dX11_place_26 hl (by decide) rfl (fun ls hl => ?_)
      have HL28 : ∀ (n28 : Nat) (v28_5 : Int32) (v28_4 : Int32) (v28_3 : Int32) (H : Heap) (locs : List Loc) (ls : Array Slot), (5 - v28_5.toInt).toNat < n28 → (0 ≤ v28_5.toInt ∧ v28_5.toInt ≤ 5) → (0 ≤ v28_4.toInt ∧ v28_4.toInt ≤ 14) → ((-1) ≤ v28_3.toInt ∧ v28_3.toInt ≤ 4) → va_P D vwCl (wL ad g 218) H → va_S (wA ad 218) s.heap H locs → lv_has ls 7 [(5, .int v28_5), (4, .int v28_4), (3, .int v28_3), (0, .ref (ad 0)), (1, .int ic), (2, .int dy)] → W p l e ({ frames := 3, cells := 0, slots := 0, locals := 71 } : Room) s m ([.ref (ad 0), .int ic, .int dy] : List Value).toArray below meth c H locs 0 0 (MQ below (qI D ad 218 (fun r g2 => g2 = g)) ([.ref (ad 0), .int ic, .int dy] : List Value).toArray s 0 0 (wA ad 218)) (F0 m 28 ls []) := by
        intro n28
        induction n28 with
        | zero =>
          intro v28_5 v28_4 v28_3 H locs ls hm28 hv28_0 hv28_1 hv28_2 hP hS hl
          exact absurd hm28 (Nat.not_lt_zero _)
        | succ n28 ih28 =>
          intro v28_5 v28_4 v28_3 H locs ls hm28 hv28_0 hv28_1 hv28_2 hP hS hl
          refine lv_iload hx hb dX11_place_28 (lv_at hl 0 rfl) ?_
          refine lv_aload_n hx hb dX11_place_30 rfl (lv_at hl 3 rfl) ?_
          have hk_10 := hOc_4.ref 1 rfl
          refine q_get X iX11_place_11 hP (by decide) hgc_4 rfl 1 (by decide) (List.mem_of_getElem? (i := 8) rfl) (v := .ref (ad 3)) hk_10 dX11_place_31 ?_
          obtain ⟨fsc_11, hgc_11, hOc_11⟩ := hW.obj (i := 3) (by decide) (sh_3 ad K)
          obtain ⟨x_13, hk_12, hlx_13, hhx_13⟩ := hOc_11.int 4 rfl
          refine q_get X iX11_place_6 hP (by decide) hgc_11 rfl 4 (by decide) (List.mem_of_getElem? (i := 9) rfl) (v := .int x_13) hk_12 dX11_place_34 ?_
          refine lv_icmp_ge (tgt := 100) hx hb dX11_place_37 (by decide) (fun hc_14 => ?_) (fun hc_14 => ?_)
          · have hhc_14 := n_le (rfl : x_13.toInt = x_13.toInt) (rfl : v28_5.toInt = v28_5.toInt) hc_14
            refine lv_iload_n hx hb dX11_place_100 rfl (lv_at hl 2 rfl) ?_
            exact q_iret X hP hS rfl dX11_place_101
          · have hhc_14 := n_nle (rfl : x_13.toInt = x_13.toInt) (rfl : v28_5.toInt = v28_5.toInt) hc_14
            refine lv_aload_n hx hb dX11_place_40 rfl (lv_at hl 3 rfl) ?_
            have hk_15 := hOc_4.ref 6 rfl
            refine q_get X iX11_place_11 hP (by decide) hgc_4 rfl 6 (by decide) (List.mem_of_getElem? (i := 10) rfl) (v := .ref (ad 114)) hk_15 dX11_place_41 ?_
            refine lv_aload_n hx hb dX11_place_44 rfl (lv_at hl 3 rfl) ?_
            refine q_get X iX11_place_11 hP (by decide) hgc_4 rfl 1 (by decide) (List.mem_of_getElem? (i := 8) rfl) (v := .ref (ad 3)) hk_10 dX11_place_45 ?_
            refine lv_iload hx hb dX11_place_48 (lv_at hl 0 rfl) ?_
            refine lv_aload_n hx hb dX11_place_50 rfl (lv_at hl 3 rfl) ?_
            refine q_get X iX11_place_11 hP (by decide) hgc_4 rfl 1 (by decide) (List.mem_of_getElem? (i := 8) rfl) (v := .ref (ad 3)) hk_10 dX11_place_51 ?_
            have hk_16 := hOc_11.ref 13 rfl
            refine q_get X iX11_place_6 hP (by decide) hgc_11 rfl 13 (by decide) (List.mem_of_getElem? (i := 11) rfl) (v := .ref (ad 9)) hk_16 dX11_place_54 ?_
            refine lv_iload_n hx hb dX11_place_57 rfl (lv_at hl 4 rfl) ?_
            obtain ⟨fc_17, hgc_17, hFc_17⟩ := hW.arr (i := 9) (by decide) (sh_9 ad K)
            refine q_iald X hP (by decide) hgc_17 (n_in (rfl : ic.toInt = ic.toInt) (by omega) (by omega)) dX11_place_58 ?_
            refine lv_topi (fun z_18 ez_18 => ?_)
            obtain ⟨fsc_22, hgc_22, hOc_22⟩ := hW.obj (i := 114) (by decide) (sh_114 ad K)
            refine s_calli (q := (RX10, TX10, 4)) (As := [.ref (ad 3), .int v28_5, .int z_18]) (rest := []) X Z (s_X10_fallOf l D cs ad kS K hKO hj g hW 114 v28_5 z_18 (by omega) (by omega)) (cwV 3 X.2.2.2.2.1 gg_X11_place_X10_fallOf rfl rfl rfl (by decide +kernel) ⟨Nat.le_of_ble_eq_true rfl, Nat.le_of_ble_eq_true rfl⟩) (by decide) hgc_22 rfl hP hA hS.2.1 hS rfl hl.1 rfl (Nat.le_of_ble_eq_true rfl) dX11_place_59 ⟨Nat.le_of_ble_eq_true rfl, Nat.le_of_ble_eq_true rfl⟩ (fun r_21 g_20 H locs hw_19 hP hS => ?_)
            obtain ⟨hw_19g, hw_19⟩ := hw_19
            rw [hw_19g] at hP
            refine lv_istore (lv' := [(6, .int r_21), (5, .int v28_5), (4, .int v28_4), (3, .int v28_3), (0, .ref (ad 0)), (1, .int ic), (2, .int dy)]) hx hb dX11_place_62 hl (by decide) rfl (fun ls hl => ?_)
            refine lv_iload hx hb dX11_place_64 (lv_at hl 0 rfl) ?_
            refine lv_iconst (v := (-1)) hx hb dX11_place_66 (by decide) ?_
            have HJ94 : ∀ (v94_4 : Int32) (v94_3 : Int32) (H : Heap) (locs : List Loc) (ls : Array Slot), (0 ≤ v94_4.toInt ∧ v94_4.toInt ≤ 14) → ((-1) ≤ v94_3.toInt ∧ v94_3.toInt ≤ 4) → va_P D vwCl (wL ad g 218) H → va_S (wA ad 218) s.heap H locs → lv_has ls 7 [(5, .int v28_5), (4, .int v94_4), (3, .int v94_3), (0, .ref (ad 0)), (1, .int ic), (2, .int dy)] → W p l e ({ frames := 3, cells := 0, slots := 0, locals := 71 } : Room) s m ([.ref (ad 0), .int ic, .int dy] : List Value).toArray below meth c H locs 0 0 (MQ below (qI D ad 218 (fun r g2 => g2 = g)) ([.ref (ad 0), .int ic, .int dy] : List Value).toArray s 0 0 (wA ad 218)) (F0 m 94 ls []) := by
              intro v94_4 v94_3 H locs ls hv94_0 hv94_1 hP hS hl
              obtain ⟨x_23, ex_23⟩ : ∃ y : Int32, y = v28_5 + 1 := ⟨_, rfl⟩
              have hx_23 : x_23.toInt = v28_5.toInt + 1 := n_add rfl (by decide : (1 : Int32).toInt = 1) ex_23 (by omega) (by omega)
              refine lv_iinc (v := x_23) (lv' := [(5, .int x_23), (4, .int v94_4), (3, .int v94_3), (0, .ref (ad 0)), (1, .int ic), (2, .int dy)]) hx hb dX11_place_94 hl (k := 0) rfl (by rw [ex_23]; rfl) (by decide) rfl (fun ls hl => ?_)
              refine lv_goto (tgt := 28) hx hb dX11_place_97 (by decide) ?_
              exact ih28 x_23 v94_4 v94_3 _ _ ls (by omega) (by omega) (by omega) (by omega) hP hS (lv_sub hl [0, 1, 2, 3, 4, 5] rfl)
            refine lv_icmp_eq (tgt := 94) hx hb dX11_place_67 (by decide) (fun hc_24 => ?_) (fun hc_24 => ?_)
            · have hhc_24 := n_eq (rfl : r_21.toInt = r_21.toInt) (by decide : (-1 : Int32).toInt = -1) hc_24
              exact HJ94 v28_4 v28_3 _ _ ls (by omega) (by omega) hP hS (lv_sub hl [1, 2, 3, 4, 5, 6] rfl)
            · have hhc_24 := n_ne (rfl : r_21.toInt = r_21.toInt) (by decide : (-1 : Int32).toInt = -1) hc_24
              refine lv_iload hx hb dX11_place_70 (lv_at hl 0 rfl) ?_
              refine lv_iload_n hx hb dX11_place_72 rfl (lv_at hl 6 rfl) ?_
              refine lv_isub hx hb dX11_place_73 ?_
              refine lv_topi (fun z_25 ez_25 => ?_)
              have hz_25 : z_25.toInt = r_21.toInt - dy.toInt := n_sub (rfl : r_21.toInt = r_21.toInt) (rfl : dy.toInt = dy.toInt) ez_25 (by omega) (by omega)
              refine va_mabs hx hb (X.2.2.2.1.trans hl.1.symm) X.2.2.2.2.2.1 (X.2.2.2.2.1 _ (List.mem_of_getElem? (i := 16) rfl)) (X.2.2.2.2.1 _ (List.mem_of_getElem? (i := 17) rfl)) (X.2.2.2.2.1 _ (List.mem_of_getElem? (i := 18) rfl)) (X.2.2.2.2.1 _ (List.mem_of_getElem? (i := 19) rfl)) (Nat.le_of_ble_eq_true rfl) (Nat.le_of_ble_eq_true rfl) (Nat.le_of_ble_eq_true rfl) (Nat.le_of_ble_eq_true rfl) dX11_place_74 ?_
              refine lv_topi (fun z_26 ez_26 => ?_)
              have hz_26 := n_abs (rfl : z_25.toInt = z_25.toInt) ez_26 (by omega)
              refine lv_iload hx hb dX11_place_77 (lv_at hl 2 rfl) ?_
              refine lv_icmp_ge (tgt := 94) hx hb dX11_place_79 (by decide) (fun hc_27 => ?_) (fun hc_27 => ?_)
              · have hhc_27 := n_le (rfl : v28_4.toInt = v28_4.toInt) (rfl : z_26.toInt = z_26.toInt) hc_27
                exact HJ94 v28_4 v28_3 _ _ ls (by omega) (by omega) hP hS (lv_sub hl [1, 2, 3, 4, 5, 6] rfl)
              · have hhc_27 := n_nle (rfl : v28_4.toInt = v28_4.toInt) (rfl : z_26.toInt = z_26.toInt) hc_27
                refine lv_iload hx hb dX11_place_82 (lv_at hl 0 rfl) ?_
                refine lv_iload_n hx hb dX11_place_84 rfl (lv_at hl 6 rfl) ?_
                refine lv_isub hx hb dX11_place_85 ?_
                refine lv_topi (fun z_28 ez_28 => ?_)
                have hz_28 : z_28.toInt = r_21.toInt - dy.toInt := n_sub (rfl : r_21.toInt = r_21.toInt) (rfl : dy.toInt = dy.toInt) ez_28 (by omega) (by omega)
                refine va_mabs hx hb (X.2.2.2.1.trans hl.1.symm) X.2.2.2.2.2.1 (X.2.2.2.2.1 _ (List.mem_of_getElem? (i := 16) rfl)) (X.2.2.2.2.1 _ (List.mem_of_getElem? (i := 17) rfl)) (X.2.2.2.2.1 _ (List.mem_of_getElem? (i := 18) rfl)) (X.2.2.2.2.1 _ (List.mem_of_getElem? (i := 19) rfl)) (Nat.le_of_ble_eq_true rfl) (Nat.le_of_ble_eq_true rfl) (Nat.le_of_ble_eq_true rfl) (Nat.le_of_ble_eq_true rfl) dX11_place_86 ?_
                refine lv_topi (fun z_29 ez_29 => ?_)
                have hz_29 := n_abs (rfl : z_28.toInt = z_28.toInt) ez_29 (by omega)
                refine lv_istore (lv' := [(4, .int z_29), (6, .int r_21), (5, .int v28_5), (3, .int v28_3), (0, .ref (ad 0)), (1, .int ic), (2, .int dy)]) hx hb dX11_place_89 hl (by decide) rfl (fun ls hl => ?_)
                refine lv_iload hx hb dX11_place_91 (lv_at hl 2 rfl) ?_
                refine lv_istore_n (lv' := [(3, .int v28_5), (4, .int z_29), (6, .int r_21), (5, .int v28_5), (0, .ref (ad 0)), (1, .int ic), (2, .int dy)]) hx hb dX11_place_93 rfl hl (by decide) rfl (fun ls hl => ?_)
                exact HJ94 z_29 v28_5 _ _ ls (by omega) (by omega) hP hS (lv_sub hl [3, 1, 0, 4, 5, 6] rfl)
      have hiv28_5 : (0 : Int32).toInt = 0 := by decide
      have hiv28_4 : (14 : Int32).toInt = 14 := by decide
      have hiv28_3 : ((-1) : Int32).toInt = -1 := by decide
      exact HL28 _ 0 14 (-1) _ _ ls (Nat.lt_succ_self _) (by omega) (by omega) (by omega) hP hS (lv_sub hl [0, 1, 2, 3, 4, 5] rfl)
    · have hhc_9 := n_eq (rfl : r_8.toInt = r_8.toInt) (by decide : (0 : Int32).toInt = 0) hc_9
      exact HJ16 _ _ ls hP hS (lv_sub hl [] rfl)

theorem dX11_doors_0 : decode cX11_doors 0 = .ok (.aload_n 0, 1) := by decide +kernel
theorem dX11_doors_1 : decode cX11_doors 1 = .ok (.iload_n 1, 1) := by decide +kernel
theorem dX11_doors_2 : decode cX11_doors 2 = .ok (.invokevirtual 136, 3) := by decide +kernel
theorem dX11_doors_5 : decode cX11_doors 5 = .ok (.ifCond .eq 11, 3) := by decide +kernel
theorem dX11_doors_8 : decode cX11_doors 8 = .ok (.aload_n 0, 1) := by decide +kernel
theorem dX11_doors_9 : decode cX11_doors 9 = .ok (.iload_n 2, 1) := by decide +kernel
theorem dX11_doors_10 : decode cX11_doors 10 = .ok (.invokevirtual 121, 3) := by decide +kernel
theorem dX11_doors_13 : decode cX11_doors 13 = .ok (.ifCond .ne 6, 3) := by decide +kernel
theorem dX11_doors_19 : decode cX11_doors 19 = .ok (.aload_n 0, 1) := by decide +kernel
theorem dX11_doors_20 : decode cX11_doors 20 = .ok (.getfield 44, 3) := by decide +kernel
theorem dX11_doors_23 : decode cX11_doors 23 = .ok (.iload_n 1, 1) := by decide +kernel
theorem dX11_doors_24 : decode cX11_doors 24 = .ok (.iload_n 2, 1) := by decide +kernel
theorem dX11_doors_25 : decode cX11_doors 25 = .ok (.invokevirtual 166, 3) := by decide +kernel
theorem dX11_doors_28 : decode cX11_doors 28 = .ok (.ifCond .eq 5, 3) := by decide +kernel
theorem dX11_doors_31 : decode cX11_doors 31 = .ok (.iconst 0, 1) := by decide +kernel
theorem dX11_doors_32 : decode cX11_doors 32 = .ok (.ireturn, 1) := by decide +kernel
theorem dX11_doors_33 : decode cX11_doors 33 = .ok (.aload_n 0, 1) := by decide +kernel
theorem dX11_doors_34 : decode cX11_doors 34 = .ok (.getfield 19, 3) := by decide +kernel
theorem dX11_doors_37 : decode cX11_doors 37 = .ok (.getfield 170, 3) := by decide +kernel
theorem dX11_doors_40 : decode cX11_doors 40 = .ok (.iload_n 1, 1) := by decide +kernel
theorem dX11_doors_41 : decode cX11_doors 41 = .ok (.iaload, 1) := by decide +kernel
theorem dX11_doors_42 : decode cX11_doors 42 = .ok (.aload_n 0, 1) := by decide +kernel
theorem dX11_doors_43 : decode cX11_doors 43 = .ok (.getfield 44, 3) := by decide +kernel
theorem dX11_doors_46 : decode cX11_doors 46 = .ok (.aload_n 0, 1) := by decide +kernel
theorem dX11_doors_47 : decode cX11_doors 47 = .ok (.getfield 19, 3) := by decide +kernel
theorem dX11_doors_50 : decode cX11_doors 50 = .ok (.aload_n 0, 1) := by decide +kernel
theorem dX11_doors_51 : decode cX11_doors 51 = .ok (.getfield 19, 3) := by decide +kernel
theorem dX11_doors_54 : decode cX11_doors 54 = .ok (.getfield 139, 3) := by decide +kernel
theorem dX11_doors_57 : decode cX11_doors 57 = .ok (.iload_n 1, 1) := by decide +kernel
theorem dX11_doors_58 : decode cX11_doors 58 = .ok (.iaload, 1) := by decide +kernel
theorem dX11_doors_59 : decode cX11_doors 59 = .ok (.iload_n 2, 1) := by decide +kernel
theorem dX11_doors_60 : decode cX11_doors 60 = .ok (.invokevirtual 173, 3) := by decide +kernel
theorem dX11_doors_63 : decode cX11_doors 63 = .ok (.isub, 1) := by decide +kernel
theorem dX11_doors_64 : decode cX11_doors 64 = .ok (.istore_n 3, 1) := by decide +kernel
theorem dX11_doors_65 : decode cX11_doors 65 = .ok (.iconst 1, 1) := by decide +kernel
theorem dX11_doors_66 : decode cX11_doors 66 = .ok (.istore 4, 2) := by decide +kernel
theorem dX11_doors_68 : decode cX11_doors 68 = .ok (.iload 4, 2) := by decide +kernel
theorem dX11_doors_70 : decode cX11_doors 70 = .ok (.bipush 20, 2) := by decide +kernel
theorem dX11_doors_72 : decode cX11_doors 72 = .ok (.if_icmp .gt 27, 3) := by decide +kernel
theorem dX11_doors_75 : decode cX11_doors 75 = .ok (.iload_n 3, 1) := by decide +kernel
theorem dX11_doors_76 : decode cX11_doors 76 = .ok (.iload 4, 2) := by decide +kernel
theorem dX11_doors_78 : decode cX11_doors 78 = .ok (.aload_n 0, 1) := by decide +kernel
theorem dX11_doors_79 : decode cX11_doors 79 = .ok (.getfield 19, 3) := by decide +kernel
theorem dX11_doors_82 : decode cX11_doors 82 = .ok (.getfield 248, 3) := by decide +kernel
theorem dX11_doors_85 : decode cX11_doors 85 = .ok (.imul, 1) := by decide +kernel
theorem dX11_doors_86 : decode cX11_doors 86 = .ok (.isub, 1) := by decide +kernel
theorem dX11_doors_87 : decode cX11_doors 87 = .ok (.ifCond .gt 6, 3) := by decide +kernel
theorem dX11_doors_90 : decode cX11_doors 90 = .ok (.iload 4, 2) := by decide +kernel
theorem dX11_doors_92 : decode cX11_doors 92 = .ok (.ireturn, 1) := by decide +kernel
theorem dX11_doors_93 : decode cX11_doors 93 = .ok (.iinc 4 1, 3) := by decide +kernel
theorem dX11_doors_96 : decode cX11_doors 96 = .ok (.goto (-28), 3) := by decide +kernel
theorem dX11_doors_99 : decode cX11_doors 99 = .ok (.iconst (-1), 1) := by decide +kernel
theorem dX11_doors_100 : decode cX11_doors 100 = .ok (.ireturn, 1) := by decide +kernel
theorem dX11_doors_16 : decode cX11_doors 16 = .ok (.bipush (-2), 2) := by decide +kernel
theorem dX11_doors_18 : decode cX11_doors 18 = .ok (.ireturn, 1) := by decide +kernel
noncomputable def vX11_doors : List Cond := .code yX11_doors cX11_doors 5 (some .int) :: (([.methodLink RX11 136 yX11_isIcicle, .instanceMethod yX11_isIcicle, .selects RX11 yX11_isIcicle yX11_isIcicle, .initialized RX11, .methodLink RX11 121 yX11_isDay, .instanceMethod yX11_isDay, .selects RX11 yX11_isDay yX11_isDay, .fieldLink RX11 44 "IcicleClock" "winter" "LIcicleClock$Winter;", .methodLink RX11 166 yX10_fellBy, .instanceMethod yX10_fellBy, .selects RX10 yX10_fellBy yX10_fellBy, .initialized RX10, .fieldLink RX11 19 "IcicleClock" "now" "LIcicleClock$Street;", .fieldLink RX11 170 "IcicleClock$Street" "lengthHung" "[I", .fieldLink RX11 139 "IcicleClock$Street" "eaveOf" "[I", .methodLink RX11 173 yX10_lossThrough, .instanceMethod yX10_lossThrough, .selects RX10 yX10_lossThrough yX10_lossThrough, .fieldLink RX11 248 "IcicleClock$Street" "slamTakes" "I"] : List Cond) ++ (wsX110 ++ (wsX60 ++ (vX11_isIcicle ++ (vX11_isDay ++ (vX10_fellBy ++ vX10_lossThrough))))))
theorem iX11_doors_11 : ∀ w ∈ wsX110, w ∈ vX11_doors := fun _ h => List.mem_cons_of_mem _ (List.mem_append_right _ (List.mem_append_left _ h))
theorem iX11_doors_6 : ∀ w ∈ wsX60, w ∈ vX11_doors := fun _ h => List.mem_cons_of_mem _ (List.mem_append_right _ (List.mem_append_right _ (List.mem_append_left _ h)))
theorem gs_X11_doors : Gd vX11_doors := Gd.cons (by decide +kernel) (Gd.app (Gd.r (by decide +kernel)) (Gd.app gwX_11 (Gd.app gwX_6 (Gd.app gs_X11_isIcicle (Gd.app gs_X11_isDay (Gd.app gs_X10_fellBy gs_X10_lossThrough))))))
theorem gg_X11_doors_X11_isIcicle : GoodIn vX11_doors (wsV RX11 136 RX11 yX11_isIcicle vX11_isIcicle) := goodIn_app (goodIn_r _ [1, 2, 3, 4] (by decide +kernel) (by decide +kernel)) (fun w h => ⟨List.mem_cons_of_mem _ (List.mem_append_right _ (List.mem_append_right _ (List.mem_append_right _ (List.mem_append_left _ h)))), gs_X11_isIcicle w h⟩)
theorem gg_X11_doors_X11_isDay : GoodIn vX11_doors (wsV RX11 121 RX11 yX11_isDay vX11_isDay) := goodIn_app (goodIn_r _ [5, 6, 7, 4] (by decide +kernel) (by decide +kernel)) (fun w h => ⟨List.mem_cons_of_mem _ (List.mem_append_right _ (List.mem_append_right _ (List.mem_append_right _ (List.mem_append_right _ (List.mem_append_left _ h))))), gs_X11_isDay w h⟩)
theorem gg_X11_doors_X10_fellBy : GoodIn vX11_doors (wsV RX11 166 RX10 yX10_fellBy vX10_fellBy) := goodIn_app (goodIn_r _ [9, 10, 11, 12] (by decide +kernel) (by decide +kernel)) (fun w h => ⟨List.mem_cons_of_mem _ (List.mem_append_right _ (List.mem_append_right _ (List.mem_append_right _ (List.mem_append_right _ (List.mem_append_right _ (List.mem_append_left _ h)))))), gs_X10_fellBy w h⟩)
theorem gg_X11_doors_X10_lossThrough : GoodIn vX11_doors (wsV RX11 173 RX10 yX10_lossThrough vX10_lossThrough) := goodIn_app (goodIn_r _ [16, 17, 18, 12] (by decide +kernel) (by decide +kernel)) (fun w h => ⟨List.mem_cons_of_mem _ (List.mem_append_right _ (List.mem_append_right _ (List.mem_append_right _ (List.mem_append_right _ (List.mem_append_right _ (List.mem_append_right _ (h))))))), gs_X10_lossThrough w h⟩)
set_option maxHeartbeats 4000000 in
set_option maxRecDepth 100000 in
theorem s_X11_doors (l : Launch) (D : va_G) (cs : Nat → ClassId) (ad : Nat → Nat) (kS : kSt) (K : sK) (hKO : KO K) (hj : wJ ad 218) (g : Nat → va_E) (hW : WF (shp ad K) ad cs g) (ic : Int32) (dy : Int32) : sI l yX11_doors vX11_doors { frames := 3, cells := 0, slots := 0, locals := 71 } D cs ad kS [.ref (ad 0), .int ic, .int dy] g (fun r g2 => g2 = g) := by
  refine Met.startS (cc := cX11_doors) (maxL := 5) (ret := (some .int)) RX11 rfl (by decide) rfl (Nat.le_of_ble_eq_true rfl) ?_
  intro p e s m below meth c ls X Z hP hl
  have hx := X.1
  have hb := X.2.1
  have hS : va_S (wA ad 218) s.heap s.heap [] := va_S.rf
  have hA : ∀ i, i < 218 → wA ad 218 (ad i) := fun i h => ⟨i, h, rfl⟩
  have hl : lv_has ls 5 [(0, .ref (ad 0)), (1, .int ic), (2, .int dy)] := hl
  refine lv_aload_n hx hb dX11_doors_0 rfl (lv_at hl 0 rfl) ?_
  refine lv_iload_n hx hb dX11_doors_1 rfl (lv_at hl 1 rfl) ?_
  obtain ⟨fsc_4, hgc_4, hOc_4⟩ := hW.obj (i := 0) (by decide) (sh_0 ad K)
  refine s_calli (q := (RX11, TX11, 14)) (As := [.int ic]) (rest := []) X Z (s_X11_isIcicle l D cs ad kS K hKO hj g hW ic) (cwV 1 X.2.2.2.2.1 gg_X11_doors_X11_isIcicle rfl rfl rfl (by decide +kernel) ⟨Nat.le_of_ble_eq_true rfl, Nat.le_of_ble_eq_true rfl⟩) (by decide) hgc_4 rfl hP hA hS.2.1 hS rfl hl.1 rfl (Nat.le_of_ble_eq_true rfl) dX11_doors_2 ⟨Nat.le_of_ble_eq_true rfl, Nat.le_of_ble_eq_true rfl⟩ (fun r_3 g_2 H locs hw_1 hP hS => ?_)
  obtain ⟨hw_1g, hw_1⟩ := hw_1
  rw [hw_1g] at hP
  have HJ16 : ∀ (H : Heap) (locs : List Loc) (ls : Array Slot), va_P D vwCl (wL ad g 218) H → va_S (wA ad 218) s.heap H locs → lv_has ls 5 [] → W p l e ({ frames := 3, cells := 0, slots := 0, locals := 71 } : Room) s m ([.ref (ad 0), .int ic, .int dy] : List Value).toArray below meth c H locs 0 0 (MQ below (qI D ad 218 (fun r g2 => g2 = g)) ([.ref (ad 0), .int ic, .int dy] : List Value).toArray s 0 0 (wA ad 218)) (F0 m 16 ls []) := by
    intro H locs ls hP hS hl
    refine lv_bipush (v := (-2)) hx hb dX11_doors_16 (by decide) ?_
    exact q_iret X hP hS rfl dX11_doors_18
  refine lv_if_eq (tgt := 16) hx hb dX11_doors_5 (by decide) (fun hc_5 => ?_) (fun hc_5 => ?_)
  · have hhc_5 := n_eq (rfl : r_3.toInt = r_3.toInt) (by decide : (0 : Int32).toInt = 0) hc_5
    exact HJ16 _ _ ls hP hS (lv_sub hl [] rfl)
  · have hhc_5 := n_ne (rfl : r_3.toInt = r_3.toInt) (by decide : (0 : Int32).toInt = 0) hc_5
    refine lv_aload_n hx hb dX11_doors_8 rfl (lv_at hl 0 rfl) ?_
    refine lv_iload_n hx hb dX11_doors_9 rfl (lv_at hl 2 rfl) ?_
    refine s_calli (q := (RX11, TX11, 14)) (As := [.int dy]) (rest := []) X Z (s_X11_isDay l D cs ad kS K hKO hj g hW dy) (cwV 1 X.2.2.2.2.1 gg_X11_doors_X11_isDay rfl rfl rfl (by decide +kernel) ⟨Nat.le_of_ble_eq_true rfl, Nat.le_of_ble_eq_true rfl⟩) (by decide) hgc_4 rfl hP hA hS.2.1 hS rfl hl.1 rfl (Nat.le_of_ble_eq_true rfl) dX11_doors_10 ⟨Nat.le_of_ble_eq_true rfl, Nat.le_of_ble_eq_true rfl⟩ (fun r_8 g_7 H locs hw_6 hP hS => ?_)
    obtain ⟨hw_6g, hw_6⟩ := hw_6
    rw [hw_6g] at hP
    refine lv_if_ne (tgt := 19) hx hb dX11_doors_13 (by decide) (fun hc_9 => ?_) (fun hc_9 => ?_)
    · have hhc_9 := n_ne (rfl : r_8.toInt = r_8.toInt) (by decide : (0 : Int32).toInt = 0) hc_9
      refine lv_aload_n hx hb dX11_doors_19 rfl (lv_at hl 0 rfl) ?_
      have hk_10 := hOc_4.ref 6 rfl
      refine q_get X iX11_doors_11 hP (by decide) hgc_4 rfl 6 (by decide) (List.mem_of_getElem? (i := 8) rfl) (v := .ref (ad 114)) hk_10 dX11_doors_20 ?_
      refine lv_iload_n hx hb dX11_doors_23 rfl (lv_at hl 1 rfl) ?_
      refine lv_iload_n hx hb dX11_doors_24 rfl (lv_at hl 2 rfl) ?_
      obtain ⟨fsc_14, hgc_14, hOc_14⟩ := hW.obj (i := 114) (by decide) (sh_114 ad K)
      refine s_calli (q := (RX10, TX10, 4)) (As := [.int ic, .int dy]) (rest := []) X Z (s_X10_fellBy l D cs ad kS K hKO hj g hW 114 ic dy (by omega) (by omega)) (cwV 2 X.2.2.2.2.1 gg_X11_doors_X10_fellBy rfl rfl rfl (by decide +kernel) ⟨Nat.le_of_ble_eq_true rfl, Nat.le_of_ble_eq_true rfl⟩) (by decide) hgc_14 rfl hP hA hS.2.1 hS rfl hl.1 rfl (Nat.le_of_ble_eq_true rfl) dX11_doors_25 ⟨Nat.le_of_ble_eq_true rfl, Nat.le_of_ble_eq_true rfl⟩ (fun r_13 g_12 H locs hw_11 hP hS => ?_)
      obtain ⟨hw_11g, hw_11⟩ := hw_11
      rw [hw_11g] at hP
      refine lv_if_eq (tgt := 33) hx hb dX11_doors_28 (by decide) (fun hc_15 => ?_) (fun hc_15 => ?_)
      · have hhc_15 := n_eq (rfl : r_13.toInt = r_13.toInt) (by decide : (0 : Int32).toInt = 0) hc_15
        refine lv_aload_n hx hb dX11_doors_33 rfl (lv_at hl 0 rfl) ?_
        have hk_16 := hOc_4.ref 1 rfl
        refine q_get X iX11_doors_11 hP (by decide) hgc_4 rfl 1 (by decide) (List.mem_of_getElem? (i := 13) rfl) (v := .ref (ad 3)) hk_16 dX11_doors_34 ?_
        obtain ⟨fsc_17, hgc_17, hOc_17⟩ := hW.obj (i := 3) (by decide) (sh_3 ad K)
        have hk_18 := hOc_17.ref 13 rfl
        refine q_get X iX11_doors_6 hP (by decide) hgc_17 rfl 13 (by decide) (List.mem_of_getElem? (i := 14) rfl) (v := .ref (ad 9)) hk_18 dX11_doors_37 ?_
        refine lv_iload_n hx hb dX11_doors_40 rfl (lv_at hl 1 rfl) ?_
        obtain ⟨fc_19, hgc_19, hFc_19⟩ := hW.arr (i := 9) (by decide) (sh_9 ad K)
        refine q_iald X hP (by decide) hgc_19 (n_in (rfl : ic.toInt = ic.toInt) (by omega) (by omega)) dX11_doors_41 ?_
        refine lv_topi (fun z_20 ez_20 => ?_)
        refine lv_aload_n hx hb dX11_doors_42 rfl (lv_at hl 0 rfl) ?_
        refine q_get X iX11_doors_11 hP (by decide) hgc_4 rfl 6 (by decide) (List.mem_of_getElem? (i := 8) rfl) (v := .ref (ad 114)) hk_10 dX11_doors_43 ?_
        refine lv_aload_n hx hb dX11_doors_46 rfl (lv_at hl 0 rfl) ?_
        refine q_get X iX11_doors_11 hP (by decide) hgc_4 rfl 1 (by decide) (List.mem_of_getElem? (i := 13) rfl) (v := .ref (ad 3)) hk_16 dX11_doors_47 ?_
        refine lv_aload_n hx hb dX11_doors_50 rfl (lv_at hl 0 rfl) ?_
        refine q_get X iX11_doors_11 hP (by decide) hgc_4 rfl 1 (by decide) (List.mem_of_getElem? (i := 13) rfl) (v := .ref (ad 3)) hk_16 dX11_doors_51 ?_
        have hk_21 := hOc_17.ref 11 rfl
        refine q_get X iX11_doors_6 hP (by decide) hgc_17 rfl 11 (by decide) (List.mem_of_getElem? (i := 15) rfl) (v := .ref (ad 7)) hk_21 dX11_doors_54 ?_
        refine lv_iload_n hx hb dX11_doors_57 rfl (lv_at hl 1 rfl) ?_
        obtain ⟨fc_22, hgc_22, hFc_22⟩ := hW.arr (i := 7) (by decide) (sh_7 ad K)
        refine q_iald X hP (by decide) hgc_22 (n_in (rfl : ic.toInt = ic.toInt) (by omega) (by omega)) dX11_doors_58 ?_
        refine lv_topi (fun z_23 ez_23 => ?_)
        have hz_23 : 0 ≤ z_23.toInt ∧ z_23.toInt ≤ 4 := ez_23 ▸ hFc_22 _
        refine lv_iload_n hx hb dX11_doors_59 rfl (lv_at hl 2 rfl) ?_
        refine s_calli (q := (RX10, TX10, 4)) (As := [.ref (ad 3), .int z_23, .int dy]) (rest := [.int z_20]) X Z (s_X10_lossThrough l D cs ad kS K hKO hj g hW 114 z_23 dy (by omega) (by omega) (by omega)) (cwV 3 X.2.2.2.2.1 gg_X11_doors_X10_lossThrough rfl rfl rfl (by decide +kernel) ⟨Nat.le_of_ble_eq_true rfl, Nat.le_of_ble_eq_true rfl⟩) (by decide) hgc_14 rfl hP hA hS.2.1 hS rfl hl.1 rfl (Nat.le_of_ble_eq_true rfl) dX11_doors_60 ⟨Nat.le_of_ble_eq_true rfl, Nat.le_of_ble_eq_true rfl⟩ (fun r_26 g_25 H locs hw_24 hP hS => ?_)
        rw [hw_24] at hP
        refine lv_isub hx hb dX11_doors_63 ?_
        refine lv_topi (fun z_27 ez_27 => ?_)
        refine lv_istore_n (lv' := [(3, .int z_27), (0, .ref (ad 0)), (1, .int ic), (2, .int dy)]) hx hb dX11_doors_64 rfl hl (by decide) rfl (fun ls hl => ?_)
        refine lv_iconst (v := 1) hx hb dX11_doors_65 (by decide) ?_
        refine lv_istore (lv' := [(4, .int 1), (3, .int z_27), (0, .ref (ad 0)), (1, .int ic), (2, .int dy)]) hx hb dX11_doors_66 hl (by decide) rfl (fun ls hl => ?_)
        have HL68 : ∀ (n68 : Nat) (v68_4 : Int32) (H : Heap) (locs : List Loc) (ls : Array Slot), (21 - v68_4.toInt).toNat < n68 → (1 ≤ v68_4.toInt ∧ v68_4.toInt ≤ 21) → va_P D vwCl (wL ad g 218) H → va_S (wA ad 218) s.heap H locs → lv_has ls 5 [(4, .int v68_4), (3, .int z_27), (0, .ref (ad 0))] → W p l e ({ frames := 3, cells := 0, slots := 0, locals := 71 } : Room) s m ([.ref (ad 0), .int ic, .int dy] : List Value).toArray below meth c H locs 0 0 (MQ below (qI D ad 218 (fun r g2 => g2 = g)) ([.ref (ad 0), .int ic, .int dy] : List Value).toArray s 0 0 (wA ad 218)) (F0 m 68 ls []) := by
          intro n68
          induction n68 with
          | zero =>
            intro v68_4 H locs ls hm68 hv68_0 hP hS hl
            exact absurd hm68 (Nat.not_lt_zero _)
          | succ n68 ih68 =>
            intro v68_4 H locs ls hm68 hv68_0 hP hS hl
            refine lv_iload hx hb dX11_doors_68 (lv_at hl 0 rfl) ?_
            refine lv_bipush (v := 20) hx hb dX11_doors_70 (by decide) ?_
            refine lv_icmp_gt (tgt := 99) hx hb dX11_doors_72 (by decide) (fun hc_28 => ?_) (fun hc_28 => ?_)
            · have hhc_28 := n_lt (by decide : (20 : Int32).toInt = 20) (rfl : v68_4.toInt = v68_4.toInt) hc_28
              refine lv_iconst (v := (-1)) hx hb dX11_doors_99 (by decide) ?_
              exact q_iret X hP hS rfl dX11_doors_100
            · have hhc_28 := n_nlt (by decide : (20 : Int32).toInt = 20) (rfl : v68_4.toInt = v68_4.toInt) hc_28
              refine lv_iload_n hx hb dX11_doors_75 rfl (lv_at hl 1 rfl) ?_
              refine lv_iload hx hb dX11_doors_76 (lv_at hl 0 rfl) ?_
              refine lv_aload_n hx hb dX11_doors_78 rfl (lv_at hl 2 rfl) ?_
              refine q_get X iX11_doors_11 hP (by decide) hgc_4 rfl 1 (by decide) (List.mem_of_getElem? (i := 13) rfl) (v := .ref (ad 3)) hk_16 dX11_doors_79 ?_
              obtain ⟨x_30, hk_29, -⟩ := hOc_17.int 0 rfl
              refine q_get X iX11_doors_6 hP (by decide) hgc_17 rfl 0 (by decide) (List.mem_of_getElem? (i := 19) rfl) (v := .int x_30) hk_29 dX11_doors_82 ?_
              refine lv_imul hx hb dX11_doors_85 ?_
              refine lv_topi (fun z_31 ez_31 => ?_)
              refine lv_isub hx hb dX11_doors_86 ?_
              refine lv_topi (fun z_32 ez_32 => ?_)
              refine lv_if_gt (tgt := 93) hx hb dX11_doors_87 (by decide) (fun hc_33 => ?_) (fun hc_33 => ?_)
              · have hhc_33 := n_lt (by decide : (0 : Int32).toInt = 0) (rfl : z_32.toInt = z_32.toInt) hc_33
                obtain ⟨x_34, ex_34⟩ : ∃ y : Int32, y = v68_4 + 1 := ⟨_, rfl⟩
                have hx_34 : x_34.toInt = v68_4.toInt + 1 := n_add rfl (by decide : (1 : Int32).toInt = 1) ex_34 (by omega) (by omega)
                refine lv_iinc (v := x_34) (lv' := [(4, .int x_34), (3, .int z_27), (0, .ref (ad 0))]) hx hb dX11_doors_93 hl (k := 0) rfl (by rw [ex_34]; rfl) (by decide) rfl (fun ls hl => ?_)
                refine lv_goto (tgt := 68) hx hb dX11_doors_96 (by decide) ?_
                exact ih68 x_34 _ _ ls (by omega) (by omega) hP hS (lv_sub hl [0, 1, 2] rfl)
              · have hhc_33 := n_nlt (by decide : (0 : Int32).toInt = 0) (rfl : z_32.toInt = z_32.toInt) hc_33
                refine lv_iload hx hb dX11_doors_90 (lv_at hl 0 rfl) ?_
                exact q_iret X hP hS rfl dX11_doors_92
        have hiv68_4 : (1 : Int32).toInt = 1 := by decide
        exact HL68 _ 1 _ _ ls (Nat.lt_succ_self _) (by omega) hP hS (lv_sub hl [0, 1, 2] rfl)
      · have hhc_15 := n_ne (rfl : r_13.toInt = r_13.toInt) (by decide : (0 : Int32).toInt = 0) hc_15
        refine lv_iconst (v := 0) hx hb dX11_doors_31 (by decide) ?_
        exact q_iret X hP hS rfl dX11_doors_32
    · have hhc_9 := n_eq (rfl : r_8.toInt = r_8.toInt) (by decide : (0 : Int32).toInt = 0) hc_9
      exact HJ16 _ _ ls hP hS (lv_sub hl [] rfl)

theorem dX11_areEaves_0 : decode cX11_areEaves 0 = .ok (.iload_n 1, 1) := by decide +kernel
theorem dX11_areEaves_1 : decode cX11_areEaves 1 = .ok (.ifCond .lt 20, 3) := by decide +kernel
theorem dX11_areEaves_4 : decode cX11_areEaves 4 = .ok (.iload_n 1, 1) := by decide +kernel
theorem dX11_areEaves_5 : decode cX11_areEaves 5 = .ok (.iconst 1, 1) := by decide +kernel
theorem dX11_areEaves_6 : decode cX11_areEaves 6 = .ok (.aload_n 0, 1) := by decide +kernel
theorem dX11_areEaves_7 : decode cX11_areEaves 7 = .ok (.getfield 19, 3) := by decide +kernel
theorem dX11_areEaves_10 : decode cX11_areEaves 10 = .ok (.getfield 208, 3) := by decide +kernel
theorem dX11_areEaves_13 : decode cX11_areEaves 13 = .ok (.ishl, 1) := by decide +kernel
theorem dX11_areEaves_14 : decode cX11_areEaves 14 = .ok (.if_icmp .ge 7, 3) := by decide +kernel
theorem dX11_areEaves_17 : decode cX11_areEaves 17 = .ok (.iconst 1, 1) := by decide +kernel
theorem dX11_areEaves_18 : decode cX11_areEaves 18 = .ok (.goto 4, 3) := by decide +kernel
theorem dX11_areEaves_21 : decode cX11_areEaves 21 = .ok (.iconst 0, 1) := by decide +kernel
theorem dX11_areEaves_22 : decode cX11_areEaves 22 = .ok (.ireturn, 1) := by decide +kernel
noncomputable def vX11_areEaves : List Cond := .code yX11_areEaves cX11_areEaves 2 (some .boolean) :: (([.fieldLink RX11 19 "IcicleClock" "now" "LIcicleClock$Street;", .fieldLink RX11 208 "IcicleClock$Street" "eaves" "I"] : List Cond) ++ (wsX110 ++ wsX60))
theorem iX11_areEaves_11 : ∀ w ∈ wsX110, w ∈ vX11_areEaves := fun _ h => List.mem_cons_of_mem _ (List.mem_append_right _ (List.mem_append_left _ h))
theorem iX11_areEaves_6 : ∀ w ∈ wsX60, w ∈ vX11_areEaves := fun _ h => List.mem_cons_of_mem _ (List.mem_append_right _ (List.mem_append_right _ (h)))
theorem gs_X11_areEaves : Gd vX11_areEaves := Gd.cons (by decide +kernel) (Gd.app (Gd.r (by decide +kernel)) (Gd.app gwX_11 gwX_6))
set_option maxHeartbeats 4000000 in
set_option maxRecDepth 100000 in
theorem s_X11_areEaves (l : Launch) (D : va_G) (cs : Nat → ClassId) (ad : Nat → Nat) (kS : kSt) (K : sK) (hKO : KO K) (hj : wJ ad 218) (g : Nat → va_E) (hW : WF (shp ad K) ad cs g) (st : Int32) : sI l yX11_areEaves vX11_areEaves { frames := 0, cells := 0, slots := 0, locals := 0 } D cs ad kS [.ref (ad 0), .int st] g (fun r g2 => g2 = g ∧ (0 ≤ r.toInt ∧ r.toInt ≤ 1)) := by
  refine Met.startS (cc := cX11_areEaves) (maxL := 2) (ret := (some .boolean)) RX11 rfl (by decide) rfl (Nat.le_of_ble_eq_true rfl) ?_
  intro p e s m below meth c ls X Z hP hl
  have hx := X.1
  have hb := X.2.1
  have hS : va_S (wA ad 218) s.heap s.heap [] := va_S.rf
  have hA : ∀ i, i < 218 → wA ad 218 (ad i) := fun i h => ⟨i, h, rfl⟩
  have hl : lv_has ls 2 [(0, .ref (ad 0)), (1, .int st)] := hl
  refine lv_iload_n hx hb dX11_areEaves_0 rfl (lv_at hl 1 rfl) ?_
  have HJ21 : ∀ (H : Heap) (locs : List Loc) (ls : Array Slot), va_P D vwCl (wL ad g 218) H → va_S (wA ad 218) s.heap H locs → lv_has ls 2 [] → W p l e ({ frames := 0, cells := 0, slots := 0, locals := 0 } : Room) s m ([.ref (ad 0), .int st] : List Value).toArray below meth c H locs 0 0 (MQ below (qI D ad 218 (fun r g2 => g2 = g ∧ (0 ≤ r.toInt ∧ r.toInt ≤ 1))) ([.ref (ad 0), .int st] : List Value).toArray s 0 0 (wA ad 218)) (F0 m 21 ls []) := by
    intro H locs ls hP hS hl
    refine lv_iconst (v := 0) hx hb dX11_areEaves_21 (by decide) ?_
    have hr0 : (0 : Int32).toInt = 0 := by decide
    exact q_zret X hP hS rfl ⟨rfl, (by omega)⟩ dX11_areEaves_22
  refine lv_if_lt (tgt := 21) hx hb dX11_areEaves_1 (by decide) (fun hc_1 => ?_) (fun hc_1 => ?_)
  · have hhc_1 := n_lt (rfl : st.toInt = st.toInt) (by decide : (0 : Int32).toInt = 0) hc_1
    exact HJ21 _ _ ls hP hS (lv_sub hl [] rfl)
  · have hhc_1 := n_nlt (rfl : st.toInt = st.toInt) (by decide : (0 : Int32).toInt = 0) hc_1
    refine lv_iload_n hx hb dX11_areEaves_4 rfl (lv_at hl 1 rfl) ?_
    refine lv_iconst (v := 1) hx hb dX11_areEaves_5 (by decide) ?_
    refine lv_aload_n hx hb dX11_areEaves_6 rfl (lv_at hl 0 rfl) ?_
    obtain ⟨fsc_2, hgc_2, hOc_2⟩ := hW.obj (i := 0) (by decide) (sh_0 ad K)
    have hk_3 := hOc_2.ref 1 rfl
    refine q_get X iX11_areEaves_11 hP (by decide) hgc_2 rfl 1 (by decide) (List.mem_of_getElem? (i := 1) rfl) (v := .ref (ad 3)) hk_3 dX11_areEaves_7 ?_
    obtain ⟨fsc_4, hgc_4, hOc_4⟩ := hW.obj (i := 3) (by decide) (sh_3 ad K)
    obtain ⟨x_6, hk_5, hlx_6, hhx_6⟩ := hOc_4.int 4 rfl
    refine q_get X iX11_areEaves_6 hP (by decide) hgc_4 rfl 4 (by decide) (List.mem_of_getElem? (i := 2) rfl) (v := .int x_6) hk_5 dX11_areEaves_10 ?_
    refine lv_ishl hx hb dX11_areEaves_13 ?_
    refine lv_topi (fun z_7 ez_7 => ?_)
    refine lv_icmp_ge (tgt := 21) hx hb dX11_areEaves_14 (by decide) (fun hc_8 => ?_) (fun hc_8 => ?_)
    · have hhc_8 := n_le (rfl : z_7.toInt = z_7.toInt) (rfl : st.toInt = st.toInt) hc_8
      have := n_hi z_7
      have := n_lo z_7
      have := n_hi st
      exact HJ21 _ _ ls hP hS (lv_sub hl [] rfl)
    · have hhc_8 := n_nle (rfl : z_7.toInt = z_7.toInt) (rfl : st.toInt = st.toInt) hc_8
      have := n_hi z_7
      have := n_lo z_7
      have := n_hi st
      refine lv_iconst (v := 1) hx hb dX11_areEaves_17 (by decide) ?_
      refine lv_goto (tgt := 22) hx hb dX11_areEaves_18 (by decide) ?_
      have hr0 : (1 : Int32).toInt = 1 := by decide
      exact q_zret X hP hS rfl ⟨rfl, (by omega)⟩ dX11_areEaves_22

theorem dX11_leastSteps_0 : decode cX11_leastSteps 0 = .ok (.iconst (-1), 1) := by decide +kernel
theorem dX11_leastSteps_1 : decode cX11_leastSteps 1 = .ok (.istore_n 2, 1) := by decide +kernel
theorem dX11_leastSteps_2 : decode cX11_leastSteps 2 = .ok (.iconst (-1), 1) := by decide +kernel
theorem dX11_leastSteps_3 : decode cX11_leastSteps 3 = .ok (.istore_n 3, 1) := by decide +kernel
theorem dX11_leastSteps_4 : decode cX11_leastSteps 4 = .ok (.iconst 0, 1) := by decide +kernel
theorem dX11_leastSteps_5 : decode cX11_leastSteps 5 = .ok (.istore 4, 2) := by decide +kernel
theorem dX11_leastSteps_7 : decode cX11_leastSteps 7 = .ok (.iload 4, 2) := by decide +kernel
theorem dX11_leastSteps_9 : decode cX11_leastSteps 9 = .ok (.iconst 5, 1) := by decide +kernel
theorem dX11_leastSteps_10 : decode cX11_leastSteps 10 = .ok (.if_icmp .ge 33, 3) := by decide +kernel
theorem dX11_leastSteps_13 : decode cX11_leastSteps 13 = .ok (.iload_n 1, 1) := by decide +kernel
theorem dX11_leastSteps_14 : decode cX11_leastSteps 14 = .ok (.iload 4, 2) := by decide +kernel
theorem dX11_leastSteps_16 : decode cX11_leastSteps 16 = .ok (.ishr, 1) := by decide +kernel
theorem dX11_leastSteps_17 : decode cX11_leastSteps 17 = .ok (.iconst 1, 1) := by decide +kernel
theorem dX11_leastSteps_18 : decode cX11_leastSteps 18 = .ok (.iand, 1) := by decide +kernel
theorem dX11_leastSteps_19 : decode cX11_leastSteps 19 = .ok (.ifCond .eq 18, 3) := by decide +kernel
theorem dX11_leastSteps_22 : decode cX11_leastSteps 22 = .ok (.iload_n 2, 1) := by decide +kernel
theorem dX11_leastSteps_23 : decode cX11_leastSteps 23 = .ok (.iconst (-1), 1) := by decide +kernel
theorem dX11_leastSteps_24 : decode cX11_leastSteps 24 = .ok (.if_icmp .ne 8, 3) := by decide +kernel
theorem dX11_leastSteps_27 : decode cX11_leastSteps 27 = .ok (.iload 4, 2) := by decide +kernel
theorem dX11_leastSteps_29 : decode cX11_leastSteps 29 = .ok (.goto 4, 3) := by decide +kernel
theorem dX11_leastSteps_33 : decode cX11_leastSteps 33 = .ok (.istore_n 2, 1) := by decide +kernel
theorem dX11_leastSteps_34 : decode cX11_leastSteps 34 = .ok (.iload 4, 2) := by decide +kernel
theorem dX11_leastSteps_36 : decode cX11_leastSteps 36 = .ok (.istore_n 3, 1) := by decide +kernel
theorem dX11_leastSteps_37 : decode cX11_leastSteps 37 = .ok (.iinc 4 1, 3) := by decide +kernel
theorem dX11_leastSteps_40 : decode cX11_leastSteps 40 = .ok (.goto (-33), 3) := by decide +kernel
theorem dX11_leastSteps_32 : decode cX11_leastSteps 32 = .ok (.iload_n 2, 1) := by decide +kernel
theorem dX11_leastSteps_43 : decode cX11_leastSteps 43 = .ok (.iload_n 2, 1) := by decide +kernel
theorem dX11_leastSteps_44 : decode cX11_leastSteps 44 = .ok (.iconst (-1), 1) := by decide +kernel
theorem dX11_leastSteps_45 : decode cX11_leastSteps 45 = .ok (.if_icmp .ne 5, 3) := by decide +kernel
theorem dX11_leastSteps_48 : decode cX11_leastSteps 48 = .ok (.iconst 0, 1) := by decide +kernel
theorem dX11_leastSteps_49 : decode cX11_leastSteps 49 = .ok (.ireturn, 1) := by decide +kernel
theorem dX11_leastSteps_50 : decode cX11_leastSteps 50 = .ok (.iload_n 0, 1) := by decide +kernel
theorem dX11_leastSteps_51 : decode cX11_leastSteps 51 = .ok (.iload_n 2, 1) := by decide +kernel
theorem dX11_leastSteps_52 : decode cX11_leastSteps 52 = .ok (.isub, 1) := by decide +kernel
theorem dX11_leastSteps_53 : decode cX11_leastSteps 53 = .ok (.invokestatic 217, 3) := by decide +kernel
theorem dX11_leastSteps_56 : decode cX11_leastSteps 56 = .ok (.iload_n 0, 1) := by decide +kernel
theorem dX11_leastSteps_57 : decode cX11_leastSteps 57 = .ok (.iload_n 3, 1) := by decide +kernel
theorem dX11_leastSteps_58 : decode cX11_leastSteps 58 = .ok (.isub, 1) := by decide +kernel
theorem dX11_leastSteps_59 : decode cX11_leastSteps 59 = .ok (.invokestatic 217, 3) := by decide +kernel
theorem dX11_leastSteps_62 : decode cX11_leastSteps 62 = .ok (.invokestatic 220, 3) := by decide +kernel
theorem dX11_leastSteps_65 : decode cX11_leastSteps 65 = .ok (.iload_n 3, 1) := by decide +kernel
theorem dX11_leastSteps_66 : decode cX11_leastSteps 66 = .ok (.iadd, 1) := by decide +kernel
theorem dX11_leastSteps_67 : decode cX11_leastSteps 67 = .ok (.iload_n 2, 1) := by decide +kernel
theorem dX11_leastSteps_68 : decode cX11_leastSteps 68 = .ok (.isub, 1) := by decide +kernel
theorem dX11_leastSteps_69 : decode cX11_leastSteps 69 = .ok (.ireturn, 1) := by decide +kernel
noncomputable def vX11_leastSteps : List Cond := .code yX11_leastSteps cX11_leastSteps 5 (some .int) :: ([.methodLink RX11 217 Lib.Math.abs.name, .static Lib.Math.abs.name, .initialized "java/lang/Math", .code Lib.Math.abs.name Lib.Math.abs.code 1 (some .int), .methodLink RX11 220 Lib.Math.min.name, .static Lib.Math.min.name, .code Lib.Math.min.name Lib.Math.min.code 2 (some .int)] : List Cond)
theorem gs_X11_leastSteps : Gd vX11_leastSteps := Gd.cons (by decide +kernel) (Gd.r (by decide +kernel))
set_option maxHeartbeats 4000000 in
set_option maxRecDepth 100000 in
theorem s_X11_leastSteps (l : Launch) (D : va_G) (cs : Nat → ClassId) (ad : Nat → Nat) (kS : kSt) (K : sK) (hKO : KO K) (hj : wJ ad 218) (g : Nat → va_E) (hW : WF (shp ad K) ad cs g) (fr : Int32) (st : Int32) : sI l yX11_leastSteps vX11_leastSteps { frames := 1, cells := 0, slots := 0, locals := 14 } D cs ad kS [.int fr, .int st] g (fun r g2 => g2 = g) := by
  refine Met.startS (cc := cX11_leastSteps) (maxL := 5) (ret := (some .int)) RX11 rfl (by decide) rfl (Nat.le_of_ble_eq_true rfl) ?_
  intro p e s m below meth c ls X Z hP hl
  have hx := X.1
  have hb := X.2.1
  have hS : va_S (wA ad 218) s.heap s.heap [] := va_S.rf
  have hA : ∀ i, i < 218 → wA ad 218 (ad i) := fun i h => ⟨i, h, rfl⟩
  have hl : lv_has ls 5 [(0, .int fr), (1, .int st)] := hl
  refine lv_iconst (v := (-1)) hx hb dX11_leastSteps_0 (by decide) ?_
  refine lv_istore_n (lv' := [(2, .int (-1)), (0, .int fr), (1, .int st)]) hx hb dX11_leastSteps_1 rfl hl (by decide) rfl (fun ls hl => ?_)
  refine lv_iconst (v := (-1)) hx hb dX11_leastSteps_2 (by decide) ?_
  refine lv_istore_n (lv' := [(3, .int (-1)), (2, .int (-1)), (0, .int fr), (1, .int st)]) hx hb dX11_leastSteps_3 rfl hl (by decide) rfl (fun ls hl => ?_)
  refine lv_iconst (v := 0) hx hb dX11_leastSteps_4 (by decide) ?_
  refine lv_istore (lv' := [(4, .int 0), (3, .int (-1)), (2, .int (-1)), (0, .int fr), (1, .int st)]) hx hb dX11_leastSteps_5 hl (by decide) rfl (fun ls hl => ?_)
  have HL7 : ∀ (n7 : Nat) (v7_4 : Int32) (v7_3 : Int32) (v7_2 : Int32) (H : Heap) (locs : List Loc) (ls : Array Slot), (5 - v7_4.toInt).toNat < n7 → (0 ≤ v7_4.toInt ∧ v7_4.toInt ≤ 5) → ((-1) ≤ v7_3.toInt ∧ v7_3.toInt ≤ 4) → ((-1) ≤ v7_2.toInt ∧ v7_2.toInt ≤ 4) → va_P D vwCl (wL ad g 218) H → va_S (wA ad 218) s.heap H locs → lv_has ls 5 [(4, .int v7_4), (3, .int v7_3), (2, .int v7_2), (0, .int fr), (1, .int st)] → W p l e ({ frames := 1, cells := 0, slots := 0, locals := 14 } : Room) s m ([.int fr, .int st] : List Value).toArray below meth c H locs 0 0 (MQ below (qI D ad 218 (fun r g2 => g2 = g)) ([.int fr, .int st] : List Value).toArray s 0 0 (wA ad 218)) (F0 m 7 ls []) := by
    intro n7
    induction n7 with
    | zero =>
      intro v7_4 v7_3 v7_2 H locs ls hm7 hv7_0 hv7_1 hv7_2 hP hS hl
      exact absurd hm7 (Nat.not_lt_zero _)
    | succ n7 ih7 =>
      intro v7_4 v7_3 v7_2 H locs ls hm7 hv7_0 hv7_1 hv7_2 hP hS hl
      refine lv_iload hx hb dX11_leastSteps_7 (lv_at hl 0 rfl) ?_
      refine lv_iconst (v := 5) hx hb dX11_leastSteps_9 (by decide) ?_
      refine lv_icmp_ge (tgt := 43) hx hb dX11_leastSteps_10 (by decide) (fun hc_1 => ?_) (fun hc_1 => ?_)
      · have hhc_1 := n_le (by decide : (5 : Int32).toInt = 5) (rfl : v7_4.toInt = v7_4.toInt) hc_1
        refine lv_iload_n hx hb dX11_leastSteps_43 rfl (lv_at hl 2 rfl) ?_
        refine lv_iconst (v := (-1)) hx hb dX11_leastSteps_44 (by decide) ?_
        refine lv_icmp_ne (tgt := 50) hx hb dX11_leastSteps_45 (by decide) (fun hc_2 => ?_) (fun hc_2 => ?_)
        · have hhc_2 := n_ne (rfl : v7_2.toInt = v7_2.toInt) (by decide : (-1 : Int32).toInt = -1) hc_2
          refine lv_iload_n hx hb dX11_leastSteps_50 rfl (lv_at hl 3 rfl) ?_
          refine lv_iload_n hx hb dX11_leastSteps_51 rfl (lv_at hl 2 rfl) ?_
          refine lv_isub hx hb dX11_leastSteps_52 ?_
          refine lv_topi (fun z_3 ez_3 => ?_)
          refine va_mabs hx hb (X.2.2.2.1.trans hl.1.symm) X.2.2.2.2.2.1 (X.2.2.2.2.1 _ (List.mem_of_getElem? (i := 1) rfl)) (X.2.2.2.2.1 _ (List.mem_of_getElem? (i := 2) rfl)) (X.2.2.2.2.1 _ (List.mem_of_getElem? (i := 3) rfl)) (X.2.2.2.2.1 _ (List.mem_of_getElem? (i := 4) rfl)) (Nat.le_of_ble_eq_true rfl) (Nat.le_of_ble_eq_true rfl) (Nat.le_of_ble_eq_true rfl) (Nat.le_of_ble_eq_true rfl) dX11_leastSteps_53 ?_
          refine lv_topi (fun z_4 ez_4 => ?_)
          refine lv_iload_n hx hb dX11_leastSteps_56 rfl (lv_at hl 3 rfl) ?_
          refine lv_iload_n hx hb dX11_leastSteps_57 rfl (lv_at hl 1 rfl) ?_
          refine lv_isub hx hb dX11_leastSteps_58 ?_
          refine lv_topi (fun z_5 ez_5 => ?_)
          refine va_mabs hx hb (X.2.2.2.1.trans hl.1.symm) X.2.2.2.2.2.1 (X.2.2.2.2.1 _ (List.mem_of_getElem? (i := 1) rfl)) (X.2.2.2.2.1 _ (List.mem_of_getElem? (i := 2) rfl)) (X.2.2.2.2.1 _ (List.mem_of_getElem? (i := 3) rfl)) (X.2.2.2.2.1 _ (List.mem_of_getElem? (i := 4) rfl)) (Nat.le_of_ble_eq_true rfl) (Nat.le_of_ble_eq_true rfl) (Nat.le_of_ble_eq_true rfl) (Nat.le_of_ble_eq_true rfl) dX11_leastSteps_59 ?_
          refine lv_topi (fun z_6 ez_6 => ?_)
          refine va_mmin hx hb (X.2.2.2.1.trans hl.1.symm) X.2.2.2.2.2.1 (X.2.2.2.2.1 _ (List.mem_of_getElem? (i := 5) rfl)) (X.2.2.2.2.1 _ (List.mem_of_getElem? (i := 6) rfl)) (X.2.2.2.2.1 _ (List.mem_of_getElem? (i := 3) rfl)) (X.2.2.2.2.1 _ (List.mem_of_getElem? (i := 7) rfl)) (Nat.le_of_ble_eq_true rfl) (Nat.le_of_ble_eq_true rfl) (Nat.le_of_ble_eq_true rfl) (Nat.le_of_ble_eq_true rfl) dX11_leastSteps_62 ?_
          refine lv_topi (fun z_7 ez_7 => ?_)
          have hz_7 := n_min (rfl : z_4.toInt = z_4.toInt) (rfl : z_6.toInt = z_6.toInt) ez_7
          refine lv_iload_n hx hb dX11_leastSteps_65 rfl (lv_at hl 1 rfl) ?_
          refine lv_iadd hx hb dX11_leastSteps_66 ?_
          refine lv_topi (fun z_8 ez_8 => ?_)
          refine lv_iload_n hx hb dX11_leastSteps_67 rfl (lv_at hl 2 rfl) ?_
          refine lv_isub hx hb dX11_leastSteps_68 ?_
          refine lv_topi (fun z_9 ez_9 => ?_)
          exact q_iret X hP hS rfl dX11_leastSteps_69
        · have hhc_2 := n_eq (rfl : v7_2.toInt = v7_2.toInt) (by decide : (-1 : Int32).toInt = -1) hc_2
          refine lv_iconst (v := 0) hx hb dX11_leastSteps_48 (by decide) ?_
          exact q_iret X hP hS rfl dX11_leastSteps_49
      · have hhc_1 := n_nle (by decide : (5 : Int32).toInt = 5) (rfl : v7_4.toInt = v7_4.toInt) hc_1
        refine lv_iload_n hx hb dX11_leastSteps_13 rfl (lv_at hl 4 rfl) ?_
        refine lv_iload hx hb dX11_leastSteps_14 (lv_at hl 0 rfl) ?_
        refine lv_ishr hx hb dX11_leastSteps_16 ?_
        refine lv_topi (fun z_10 ez_10 => ?_)
        refine lv_iconst (v := 1) hx hb dX11_leastSteps_17 (by decide) ?_
        refine lv_iand hx hb dX11_leastSteps_18 ?_
        refine lv_topi (fun z_11 ez_11 => ?_)
        have hz_11 : 0 ≤ z_11.toInt ∧ z_11.toInt ≤ 1 := n_and 1 (by decide) (by decide) (by decide) ez_11
        have HJ37 : ∀ (v37_3 : Int32) (v37_2 : Int32) (H : Heap) (locs : List Loc) (ls : Array Slot), ((-1) ≤ v37_3.toInt ∧ v37_3.toInt ≤ 4) → ((-1) ≤ v37_2.toInt ∧ v37_2.toInt ≤ 4) → va_P D vwCl (wL ad g 218) H → va_S (wA ad 218) s.heap H locs → lv_has ls 5 [(4, .int v7_4), (3, .int v37_3), (2, .int v37_2), (0, .int fr), (1, .int st)] → W p l e ({ frames := 1, cells := 0, slots := 0, locals := 14 } : Room) s m ([.int fr, .int st] : List Value).toArray below meth c H locs 0 0 (MQ below (qI D ad 218 (fun r g2 => g2 = g)) ([.int fr, .int st] : List Value).toArray s 0 0 (wA ad 218)) (F0 m 37 ls []) := by
          intro v37_3 v37_2 H locs ls hv37_0 hv37_1 hP hS hl
          obtain ⟨x_12, ex_12⟩ : ∃ y : Int32, y = v7_4 + 1 := ⟨_, rfl⟩
          have hx_12 : x_12.toInt = v7_4.toInt + 1 := n_add rfl (by decide : (1 : Int32).toInt = 1) ex_12 (by omega) (by omega)
          refine lv_iinc (v := x_12) (lv' := [(4, .int x_12), (3, .int v37_3), (2, .int v37_2), (0, .int fr), (1, .int st)]) hx hb dX11_leastSteps_37 hl (k := 0) rfl (by rw [ex_12]; rfl) (by decide) rfl (fun ls hl => ?_)
          refine lv_goto (tgt := 7) hx hb dX11_leastSteps_40 (by decide) ?_
          exact ih7 x_12 v37_3 v37_2 _ _ ls (by omega) (by omega) (by omega) (by omega) hP hS (lv_sub hl [0, 1, 2, 3, 4] rfl)
        refine lv_if_eq (tgt := 37) hx hb dX11_leastSteps_19 (by decide) (fun hc_13 => ?_) (fun hc_13 => ?_)
        · have hhc_13 := n_eq (rfl : z_11.toInt = z_11.toInt) (by decide : (0 : Int32).toInt = 0) hc_13
          exact HJ37 v7_3 v7_2 _ _ ls (by omega) (by omega) hP hS (lv_sub hl [0, 1, 2, 3, 4] rfl)
        · have hhc_13 := n_ne (rfl : z_11.toInt = z_11.toInt) (by decide : (0 : Int32).toInt = 0) hc_13
          refine lv_iload_n hx hb dX11_leastSteps_22 rfl (lv_at hl 2 rfl) ?_
          refine lv_iconst (v := (-1)) hx hb dX11_leastSteps_23 (by decide) ?_
          refine lv_icmp_ne (tgt := 32) hx hb dX11_leastSteps_24 (by decide) (fun hc_14 => ?_) (fun hc_14 => ?_)
          · have hhc_14 := n_ne (rfl : v7_2.toInt = v7_2.toInt) (by decide : (-1 : Int32).toInt = -1) hc_14
            refine lv_iload_n hx hb dX11_leastSteps_32 rfl (lv_at hl 2 rfl) ?_
            refine lv_istore_n (lv' := [(2, .int v7_2), (4, .int v7_4), (3, .int v7_3), (0, .int fr), (1, .int st)]) hx hb dX11_leastSteps_33 rfl hl (by decide) rfl (fun ls hl => ?_)
            refine lv_iload hx hb dX11_leastSteps_34 (lv_at hl 1 rfl) ?_
            refine lv_istore_n (lv' := [(3, .int v7_4), (2, .int v7_2), (4, .int v7_4), (0, .int fr), (1, .int st)]) hx hb dX11_leastSteps_36 rfl hl (by decide) rfl (fun ls hl => ?_)
            exact HJ37 v7_4 v7_2 _ _ ls (by omega) (by omega) hP hS (lv_sub hl [2, 0, 1, 3, 4] rfl)
          · have hhc_14 := n_eq (rfl : v7_2.toInt = v7_2.toInt) (by decide : (-1 : Int32).toInt = -1) hc_14
            refine lv_iload hx hb dX11_leastSteps_27 (lv_at hl 0 rfl) ?_
            refine lv_goto (tgt := 33) hx hb dX11_leastSteps_29 (by decide) ?_
            refine lv_istore_n (lv' := [(2, .int v7_4), (4, .int v7_4), (3, .int v7_3), (0, .int fr), (1, .int st)]) hx hb dX11_leastSteps_33 rfl hl (by decide) rfl (fun ls hl => ?_)
            refine lv_iload hx hb dX11_leastSteps_34 (lv_at hl 1 rfl) ?_
            refine lv_istore_n (lv' := [(3, .int v7_4), (2, .int v7_4), (4, .int v7_4), (0, .int fr), (1, .int st)]) hx hb dX11_leastSteps_36 rfl hl (by decide) rfl (fun ls hl => ?_)
            exact HJ37 v7_4 v7_4 _ _ ls (by omega) (by omega) hP hS (lv_sub hl [2, 0, 1, 3, 4] rfl)
  have hiv7_4 : (0 : Int32).toInt = 0 := by decide
  have hiv7_3 : ((-1) : Int32).toInt = -1 := by decide
  have hiv7_2 : ((-1) : Int32).toInt = -1 := by decide
  exact HL7 _ 0 (-1) (-1) _ _ ls (Nat.lt_succ_self _) (by omega) (by omega) (by omega) hP hS (lv_sub hl [0, 1, 2, 3, 4] rfl)

theorem dX11_firstStop_0 : decode cX11_firstStop 0 = .ok (.iload_n 0, 1) := by decide +kernel
theorem dX11_firstStop_1 : decode cX11_firstStop 1 = .ok (.iload_n 1, 1) := by decide +kernel
theorem dX11_firstStop_2 : decode cX11_firstStop 2 = .ok (.invokestatic 254, 3) := by decide +kernel
theorem dX11_firstStop_5 : decode cX11_firstStop 5 = .ok (.istore_n 2, 1) := by decide +kernel
theorem dX11_firstStop_6 : decode cX11_firstStop 6 = .ok (.iconst 0, 1) := by decide +kernel
theorem dX11_firstStop_7 : decode cX11_firstStop 7 = .ok (.istore_n 3, 1) := by decide +kernel
theorem dX11_firstStop_8 : decode cX11_firstStop 8 = .ok (.iload_n 3, 1) := by decide +kernel
theorem dX11_firstStop_9 : decode cX11_firstStop 9 = .ok (.iconst 5, 1) := by decide +kernel
theorem dX11_firstStop_10 : decode cX11_firstStop 10 = .ok (.if_icmp .ge 53, 3) := by decide +kernel
theorem dX11_firstStop_13 : decode cX11_firstStop 13 = .ok (.iload_n 1, 1) := by decide +kernel
theorem dX11_firstStop_14 : decode cX11_firstStop 14 = .ok (.iload_n 3, 1) := by decide +kernel
theorem dX11_firstStop_15 : decode cX11_firstStop 15 = .ok (.ishr, 1) := by decide +kernel
theorem dX11_firstStop_16 : decode cX11_firstStop 16 = .ok (.iconst 1, 1) := by decide +kernel
theorem dX11_firstStop_17 : decode cX11_firstStop 17 = .ok (.iand, 1) := by decide +kernel
theorem dX11_firstStop_18 : decode cX11_firstStop 18 = .ok (.ifCond .eq 7, 3) := by decide +kernel
theorem dX11_firstStop_21 : decode cX11_firstStop 21 = .ok (.iconst 1, 1) := by decide +kernel
theorem dX11_firstStop_22 : decode cX11_firstStop 22 = .ok (.goto 4, 3) := by decide +kernel
theorem dX11_firstStop_25 : decode cX11_firstStop 25 = .ok (.iconst 0, 1) := by decide +kernel
theorem dX11_firstStop_26 : decode cX11_firstStop 26 = .ok (.istore 4, 2) := by decide +kernel
theorem dX11_firstStop_28 : decode cX11_firstStop 28 = .ok (.iload 4, 2) := by decide +kernel
theorem dX11_firstStop_30 : decode cX11_firstStop 30 = .ok (.ifCond .eq 27, 3) := by decide +kernel
theorem dX11_firstStop_33 : decode cX11_firstStop 33 = .ok (.iload_n 0, 1) := by decide +kernel
theorem dX11_firstStop_34 : decode cX11_firstStop 34 = .ok (.iload_n 3, 1) := by decide +kernel
theorem dX11_firstStop_35 : decode cX11_firstStop 35 = .ok (.isub, 1) := by decide +kernel
theorem dX11_firstStop_36 : decode cX11_firstStop 36 = .ok (.invokestatic 217, 3) := by decide +kernel
theorem dX11_firstStop_39 : decode cX11_firstStop 39 = .ok (.iload_n 3, 1) := by decide +kernel
theorem dX11_firstStop_40 : decode cX11_firstStop 40 = .ok (.iload_n 1, 1) := by decide +kernel
theorem dX11_firstStop_41 : decode cX11_firstStop 41 = .ok (.iconst 1, 1) := by decide +kernel
theorem dX11_firstStop_42 : decode cX11_firstStop 42 = .ok (.iload_n 3, 1) := by decide +kernel
theorem dX11_firstStop_43 : decode cX11_firstStop 43 = .ok (.ishl, 1) := by decide +kernel
theorem dX11_firstStop_44 : decode cX11_firstStop 44 = .ok (.iconst (-1), 1) := by decide +kernel
theorem dX11_firstStop_45 : decode cX11_firstStop 45 = .ok (.ixor, 1) := by decide +kernel
theorem dX11_firstStop_46 : decode cX11_firstStop 46 = .ok (.iand, 1) := by decide +kernel
theorem dX11_firstStop_47 : decode cX11_firstStop 47 = .ok (.invokestatic 254, 3) := by decide +kernel
theorem dX11_firstStop_50 : decode cX11_firstStop 50 = .ok (.iadd, 1) := by decide +kernel
theorem dX11_firstStop_51 : decode cX11_firstStop 51 = .ok (.iload_n 2, 1) := by decide +kernel
theorem dX11_firstStop_52 : decode cX11_firstStop 52 = .ok (.if_icmp .ne 5, 3) := by decide +kernel
theorem dX11_firstStop_55 : decode cX11_firstStop 55 = .ok (.iload_n 3, 1) := by decide +kernel
theorem dX11_firstStop_56 : decode cX11_firstStop 56 = .ok (.ireturn, 1) := by decide +kernel
theorem dX11_firstStop_57 : decode cX11_firstStop 57 = .ok (.iinc 3 1, 3) := by decide +kernel
theorem dX11_firstStop_60 : decode cX11_firstStop 60 = .ok (.goto (-52), 3) := by decide +kernel
theorem dX11_firstStop_63 : decode cX11_firstStop 63 = .ok (.iload_n 0, 1) := by decide +kernel
theorem dX11_firstStop_64 : decode cX11_firstStop 64 = .ok (.ireturn, 1) := by decide +kernel
noncomputable def vX11_firstStop : List Cond := .code yX11_firstStop cX11_firstStop 5 (some .int) :: (([.methodLink RX11 254 yX11_leastSteps, .static yX11_leastSteps, .initialized RX11, .methodLink RX11 217 Lib.Math.abs.name, .static Lib.Math.abs.name, .initialized "java/lang/Math", .code Lib.Math.abs.name Lib.Math.abs.code 1 (some .int)] : List Cond) ++ vX11_leastSteps)
theorem gs_X11_firstStop : Gd vX11_firstStop := Gd.cons (by decide +kernel) (Gd.app (Gd.r (by decide +kernel)) gs_X11_leastSteps)
theorem gg_X11_firstStop_X11_leastSteps : GoodIn vX11_firstStop (wsS RX11 254 yX11_leastSteps vX11_leastSteps) := goodIn_app (goodIn_r _ [1, 2, 3] (by decide +kernel) (by decide +kernel)) (fun w h => ⟨List.mem_cons_of_mem _ (List.mem_append_right _ (h)), gs_X11_leastSteps w h⟩)
set_option maxHeartbeats 4000000 in
set_option maxRecDepth 100000 in
theorem s_X11_firstStop (l : Launch) (D : va_G) (cs : Nat → ClassId) (ad : Nat → Nat) (kS : kSt) (K : sK) (hKO : KO K) (hj : wJ ad 218) (g : Nat → va_E) (hW : WF (shp ad K) ad cs g) (fr : Int32) (st : Int32) (hp0 : 0 ≤ fr.toInt ∧ fr.toInt ≤ 4) : sI l yX11_firstStop vX11_firstStop { frames := 2, cells := 0, slots := 0, locals := 38 } D cs ad kS [.int fr, .int st] g (fun r g2 => g2 = g ∧ (0 ≤ r.toInt ∧ r.toInt ≤ 4)) := by
  refine Met.startS (cc := cX11_firstStop) (maxL := 5) (ret := (some .int)) RX11 rfl (by decide) rfl (Nat.le_of_ble_eq_true rfl) ?_
  intro p e s m below meth c ls X Z hP hl
  have hx := X.1
  have hb := X.2.1
  have hS : va_S (wA ad 218) s.heap s.heap [] := va_S.rf
  have hA : ∀ i, i < 218 → wA ad 218 (ad i) := fun i h => ⟨i, h, rfl⟩
  have hl : lv_has ls 5 [(0, .int fr), (1, .int st)] := hl
  refine lv_iload_n hx hb dX11_firstStop_0 rfl (lv_at hl 0 rfl) ?_
  refine lv_iload_n hx hb dX11_firstStop_1 rfl (lv_at hl 1 rfl) ?_
  refine s_callSi (As := [.int fr, .int st]) (rest := []) X Z (s_X11_leastSteps l D cs ad kS K hKO hj g hW fr st) (cwS 2 X.2.2.2.2.1 gg_X11_firstStop_X11_leastSteps rfl rfl rfl (by decide +kernel) ⟨Nat.le_of_ble_eq_true rfl, Nat.le_of_ble_eq_true rfl⟩) hP hA hS.2.1 hS rfl hl.1 rfl (Nat.le_of_ble_eq_true rfl) dX11_firstStop_2 ⟨Nat.le_of_ble_eq_true rfl, Nat.le_of_ble_eq_true rfl⟩ (fun r_3 g_2 H locs hw_1 hP hS => ?_)
  rw [hw_1] at hP
  refine lv_istore_n (lv' := [(2, .int r_3), (0, .int fr), (1, .int st)]) hx hb dX11_firstStop_5 rfl hl (by decide) rfl (fun ls hl => ?_)
  refine lv_iconst (v := 0) hx hb dX11_firstStop_6 (by decide) ?_
  refine lv_istore_n (lv' := [(3, .int 0), (2, .int r_3), (0, .int fr), (1, .int st)]) hx hb dX11_firstStop_7 rfl hl (by decide) rfl (fun ls hl => ?_)
  have HL8 : ∀ (n8 : Nat) (v8_3 : Int32) (H : Heap) (locs : List Loc) (ls : Array Slot), (5 - v8_3.toInt).toNat < n8 → (0 ≤ v8_3.toInt ∧ v8_3.toInt ≤ 5) → va_P D vwCl (wL ad g 218) H → va_S (wA ad 218) s.heap H locs → lv_has ls 5 [(3, .int v8_3), (2, .int r_3), (0, .int fr), (1, .int st)] → W p l e ({ frames := 2, cells := 0, slots := 0, locals := 38 } : Room) s m ([.int fr, .int st] : List Value).toArray below meth c H locs 0 0 (MQ below (qI D ad 218 (fun r g2 => g2 = g ∧ (0 ≤ r.toInt ∧ r.toInt ≤ 4))) ([.int fr, .int st] : List Value).toArray s 0 0 (wA ad 218)) (F0 m 8 ls []) := by
    intro n8
    induction n8 with
    | zero =>
      intro v8_3 H locs ls hm8 hv8_0 hP hS hl
      exact absurd hm8 (Nat.not_lt_zero _)
    | succ n8 ih8 =>
      intro v8_3 H locs ls hm8 hv8_0 hP hS hl
      refine lv_iload_n hx hb dX11_firstStop_8 rfl (lv_at hl 0 rfl) ?_
      refine lv_iconst (v := 5) hx hb dX11_firstStop_9 (by decide) ?_
      refine lv_icmp_ge (tgt := 63) hx hb dX11_firstStop_10 (by decide) (fun hc_4 => ?_) (fun hc_4 => ?_)
      · have hhc_4 := n_le (by decide : (5 : Int32).toInt = 5) (rfl : v8_3.toInt = v8_3.toInt) hc_4
        refine lv_iload_n hx hb dX11_firstStop_63 rfl (lv_at hl 2 rfl) ?_
        exact q_iret X hP hS ⟨rfl, (by omega)⟩ dX11_firstStop_64
      · have hhc_4 := n_nle (by decide : (5 : Int32).toInt = 5) (rfl : v8_3.toInt = v8_3.toInt) hc_4
        refine lv_iload_n hx hb dX11_firstStop_13 rfl (lv_at hl 3 rfl) ?_
        refine lv_iload_n hx hb dX11_firstStop_14 rfl (lv_at hl 0 rfl) ?_
        refine lv_ishr hx hb dX11_firstStop_15 ?_
        refine lv_topi (fun z_5 ez_5 => ?_)
        refine lv_iconst (v := 1) hx hb dX11_firstStop_16 (by decide) ?_
        refine lv_iand hx hb dX11_firstStop_17 ?_
        refine lv_topi (fun z_6 ez_6 => ?_)
        have hz_6 : 0 ≤ z_6.toInt ∧ z_6.toInt ≤ 1 := n_and 1 (by decide) (by decide) (by decide) ez_6
        refine lv_if_eq (tgt := 25) hx hb dX11_firstStop_18 (by decide) (fun hc_7 => ?_) (fun hc_7 => ?_)
        · have hhc_7 := n_eq (rfl : z_6.toInt = z_6.toInt) (by decide : (0 : Int32).toInt = 0) hc_7
          refine lv_iconst (v := 0) hx hb dX11_firstStop_25 (by decide) ?_
          refine lv_istore (lv' := [(4, .int 0), (3, .int v8_3), (2, .int r_3), (0, .int fr), (1, .int st)]) hx hb dX11_firstStop_26 hl (by decide) rfl (fun ls hl => ?_)
          refine lv_iload hx hb dX11_firstStop_28 (lv_at hl 0 rfl) ?_
          have HJ57 : ∀ (H : Heap) (locs : List Loc) (ls : Array Slot), va_P D vwCl (wL ad g 218) H → va_S (wA ad 218) s.heap H locs → lv_has ls 5 [(3, .int v8_3), (2, .int r_3), (0, .int fr), (1, .int st)] → W p l e ({ frames := 2, cells := 0, slots := 0, locals := 38 } : Room) s m ([.int fr, .int st] : List Value).toArray below meth c H locs 0 0 (MQ below (qI D ad 218 (fun r g2 => g2 = g ∧ (0 ≤ r.toInt ∧ r.toInt ≤ 4))) ([.int fr, .int st] : List Value).toArray s 0 0 (wA ad 218)) (F0 m 57 ls []) := by
            intro H locs ls hP hS hl
            obtain ⟨x_8, ex_8⟩ : ∃ y : Int32, y = v8_3 + 1 := ⟨_, rfl⟩
            have hx_8 : x_8.toInt = v8_3.toInt + 1 := n_add rfl (by decide : (1 : Int32).toInt = 1) ex_8 (by omega) (by omega)
            refine lv_iinc (v := x_8) (lv' := [(3, .int x_8), (2, .int r_3), (0, .int fr), (1, .int st)]) hx hb dX11_firstStop_57 hl (k := 0) rfl (by rw [ex_8]; rfl) (by decide) rfl (fun ls hl => ?_)
            refine lv_goto (tgt := 8) hx hb dX11_firstStop_60 (by decide) ?_
            exact ih8 x_8 _ _ ls (by omega) (by omega) hP hS (lv_sub hl [0, 1, 2, 3] rfl)
          refine lv_if_eq (tgt := 57) hx hb dX11_firstStop_30 (by decide) (fun _ => ?_) (fun h => absurd h (by decide))
          exact HJ57 _ _ ls hP hS (lv_sub hl [1, 2, 3, 4] rfl)
        · have hhc_7 := n_ne (rfl : z_6.toInt = z_6.toInt) (by decide : (0 : Int32).toInt = 0) hc_7
          refine lv_iconst (v := 1) hx hb dX11_firstStop_21 (by decide) ?_
          refine lv_goto (tgt := 26) hx hb dX11_firstStop_22 (by decide) ?_
          refine lv_istore (lv' := [(4, .int 1), (3, .int v8_3), (2, .int r_3), (0, .int fr), (1, .int st)]) hx hb dX11_firstStop_26 hl (by decide) rfl (fun ls hl => ?_)
          refine lv_iload hx hb dX11_firstStop_28 (lv_at hl 0 rfl) ?_
          have HJ57 : ∀ (H : Heap) (locs : List Loc) (ls : Array Slot), va_P D vwCl (wL ad g 218) H → va_S (wA ad 218) s.heap H locs → lv_has ls 5 [(3, .int v8_3), (2, .int r_3), (0, .int fr), (1, .int st)] → W p l e ({ frames := 2, cells := 0, slots := 0, locals := 38 } : Room) s m ([.int fr, .int st] : List Value).toArray below meth c H locs 0 0 (MQ below (qI D ad 218 (fun r g2 => g2 = g ∧ (0 ≤ r.toInt ∧ r.toInt ≤ 4))) ([.int fr, .int st] : List Value).toArray s 0 0 (wA ad 218)) (F0 m 57 ls []) := by
            intro H locs ls hP hS hl
            obtain ⟨x_9, ex_9⟩ : ∃ y : Int32, y = v8_3 + 1 := ⟨_, rfl⟩
            have hx_9 : x_9.toInt = v8_3.toInt + 1 := n_add rfl (by decide : (1 : Int32).toInt = 1) ex_9 (by omega) (by omega)
            refine lv_iinc (v := x_9) (lv' := [(3, .int x_9), (2, .int r_3), (0, .int fr), (1, .int st)]) hx hb dX11_firstStop_57 hl (k := 0) rfl (by rw [ex_9]; rfl) (by decide) rfl (fun ls hl => ?_)
            refine lv_goto (tgt := 8) hx hb dX11_firstStop_60 (by decide) ?_
            exact ih8 x_9 _ _ ls (by omega) (by omega) hP hS (lv_sub hl [0, 1, 2, 3] rfl)
          refine lv_if_eq (tgt := 57) hx hb dX11_firstStop_30 (by decide) (fun h => absurd h (by decide)) (fun _ => ?_)
          refine lv_iload_n hx hb dX11_firstStop_33 rfl (lv_at hl 3 rfl) ?_
          refine lv_iload_n hx hb dX11_firstStop_34 rfl (lv_at hl 1 rfl) ?_
          refine lv_isub hx hb dX11_firstStop_35 ?_
          refine lv_topi (fun z_10 ez_10 => ?_)
          have hz_10 : z_10.toInt = fr.toInt - v8_3.toInt := n_sub (rfl : fr.toInt = fr.toInt) (rfl : v8_3.toInt = v8_3.toInt) ez_10 (by omega) (by omega)
          refine va_mabs hx hb (X.2.2.2.1.trans hl.1.symm) X.2.2.2.2.2.1 (X.2.2.2.2.1 _ (List.mem_of_getElem? (i := 4) rfl)) (X.2.2.2.2.1 _ (List.mem_of_getElem? (i := 5) rfl)) (X.2.2.2.2.1 _ (List.mem_of_getElem? (i := 6) rfl)) (X.2.2.2.2.1 _ (List.mem_of_getElem? (i := 7) rfl)) (Nat.le_of_ble_eq_true rfl) (Nat.le_of_ble_eq_true rfl) (Nat.le_of_ble_eq_true rfl) (Nat.le_of_ble_eq_true rfl) dX11_firstStop_36 ?_
          refine lv_topi (fun z_11 ez_11 => ?_)
          have hz_11 := n_abs (rfl : z_10.toInt = z_10.toInt) ez_11 (by omega)
          refine lv_iload_n hx hb dX11_firstStop_39 rfl (lv_at hl 1 rfl) ?_
          refine lv_iload_n hx hb dX11_firstStop_40 rfl (lv_at hl 4 rfl) ?_
          refine lv_iconst (v := 1) hx hb dX11_firstStop_41 (by decide) ?_
          refine lv_iload_n hx hb dX11_firstStop_42 rfl (lv_at hl 1 rfl) ?_
          refine lv_ishl hx hb dX11_firstStop_43 ?_
          refine lv_topi (fun z_12 ez_12 => ?_)
          refine lv_iconst (v := (-1)) hx hb dX11_firstStop_44 (by decide) ?_
          refine lv_ixor hx hb dX11_firstStop_45 ?_
          refine lv_topi (fun z_13 ez_13 => ?_)
          refine lv_iand hx hb dX11_firstStop_46 ?_
          refine lv_topi (fun z_14 ez_14 => ?_)
          refine s_callSi (As := [.int v8_3, .int z_14]) (rest := [.int z_11]) X Z (s_X11_leastSteps l D cs ad kS K hKO hj g hW v8_3 z_14) (cwS 2 X.2.2.2.2.1 gg_X11_firstStop_X11_leastSteps rfl rfl rfl (by decide +kernel) ⟨Nat.le_of_ble_eq_true rfl, Nat.le_of_ble_eq_true rfl⟩) hP hA hS.2.1 hS rfl hl.1 rfl (Nat.le_of_ble_eq_true rfl) dX11_firstStop_47 ⟨Nat.le_of_ble_eq_true rfl, Nat.le_of_ble_eq_true rfl⟩ (fun r_17 g_16 H locs hw_15 hP hS => ?_)
          rw [hw_15] at hP
          refine lv_iadd hx hb dX11_firstStop_50 ?_
          refine lv_topi (fun z_18 ez_18 => ?_)
          refine lv_iload_n hx hb dX11_firstStop_51 rfl (lv_at hl 2 rfl) ?_
          refine lv_icmp_ne (tgt := 57) hx hb dX11_firstStop_52 (by decide) (fun hc_19 => ?_) (fun hc_19 => ?_)
          · have hhc_19 := n_ne (rfl : z_18.toInt = z_18.toInt) (rfl : r_3.toInt = r_3.toInt) hc_19
            exact HJ57 _ _ ls hP hS (lv_sub hl [1, 2, 3, 4] rfl)
          · have hhc_19 := n_eq (rfl : z_18.toInt = z_18.toInt) (rfl : r_3.toInt = r_3.toInt) hc_19
            refine lv_iload_n hx hb dX11_firstStop_55 rfl (lv_at hl 1 rfl) ?_
            exact q_iret X hP hS ⟨rfl, (by omega)⟩ dX11_firstStop_56
  have hiv8_3 : (0 : Int32).toInt = 0 := by decide
  exact HL8 _ 0 _ _ ls (Nat.lt_succ_self _) (by omega) hP hS (lv_sub hl [0, 1, 2, 3] rfl)

theorem dX11_round_0 : decode cX11_round 0 = .ok (.aload_n 0, 1) := by decide +kernel
theorem dX11_round_1 : decode cX11_round 1 = .ok (.iload_n 1, 1) := by decide +kernel
theorem dX11_round_2 : decode cX11_round 2 = .ok (.invokevirtual 129, 3) := by decide +kernel
theorem dX11_round_5 : decode cX11_round 5 = .ok (.ifCond .eq 19, 3) := by decide +kernel
theorem dX11_round_8 : decode cX11_round 8 = .ok (.aload_n 0, 1) := by decide +kernel
theorem dX11_round_9 : decode cX11_round 9 = .ok (.iload_n 2, 1) := by decide +kernel
theorem dX11_round_10 : decode cX11_round 10 = .ok (.invokevirtual 251, 3) := by decide +kernel
theorem dX11_round_13 : decode cX11_round 13 = .ok (.ifCond .eq 11, 3) := by decide +kernel
theorem dX11_round_16 : decode cX11_round 16 = .ok (.iload_n 1, 1) := by decide +kernel
theorem dX11_round_17 : decode cX11_round 17 = .ok (.iload_n 2, 1) := by decide +kernel
theorem dX11_round_18 : decode cX11_round 18 = .ok (.invokestatic 254, 3) := by decide +kernel
theorem dX11_round_21 : decode cX11_round 21 = .ok (.goto 5, 3) := by decide +kernel
theorem dX11_round_24 : decode cX11_round 24 = .ok (.bipush (-2), 2) := by decide +kernel
theorem dX11_round_26 : decode cX11_round 26 = .ok (.ireturn, 1) := by decide +kernel
noncomputable def vX11_round : List Cond := .code yX11_round cX11_round 3 (some .int) :: (([.methodLink RX11 129 yX11_isEave, .instanceMethod yX11_isEave, .selects RX11 yX11_isEave yX11_isEave, .initialized RX11, .methodLink RX11 251 yX11_areEaves, .instanceMethod yX11_areEaves, .selects RX11 yX11_areEaves yX11_areEaves, .methodLink RX11 254 yX11_leastSteps, .static yX11_leastSteps] : List Cond) ++ (vX11_isEave ++ (vX11_areEaves ++ vX11_leastSteps)))
theorem gs_X11_round : Gd vX11_round := Gd.cons (by decide +kernel) (Gd.app (Gd.r (by decide +kernel)) (Gd.app gs_X11_isEave (Gd.app gs_X11_areEaves gs_X11_leastSteps)))
theorem gg_X11_round_X11_isEave : GoodIn vX11_round (wsV RX11 129 RX11 yX11_isEave vX11_isEave) := goodIn_app (goodIn_r _ [1, 2, 3, 4] (by decide +kernel) (by decide +kernel)) (fun w h => ⟨List.mem_cons_of_mem _ (List.mem_append_right _ (List.mem_append_left _ h)), gs_X11_isEave w h⟩)
theorem gg_X11_round_X11_areEaves : GoodIn vX11_round (wsV RX11 251 RX11 yX11_areEaves vX11_areEaves) := goodIn_app (goodIn_r _ [5, 6, 7, 4] (by decide +kernel) (by decide +kernel)) (fun w h => ⟨List.mem_cons_of_mem _ (List.mem_append_right _ (List.mem_append_right _ (List.mem_append_left _ h))), gs_X11_areEaves w h⟩)
theorem gg_X11_round_X11_leastSteps : GoodIn vX11_round (wsS RX11 254 yX11_leastSteps vX11_leastSteps) := goodIn_app (goodIn_r _ [8, 9, 4] (by decide +kernel) (by decide +kernel)) (fun w h => ⟨List.mem_cons_of_mem _ (List.mem_append_right _ (List.mem_append_right _ (List.mem_append_right _ (h)))), gs_X11_leastSteps w h⟩)
set_option maxHeartbeats 4000000 in
set_option maxRecDepth 100000 in
theorem s_X11_round (l : Launch) (D : va_G) (cs : Nat → ClassId) (ad : Nat → Nat) (kS : kSt) (K : sK) (hKO : KO K) (hj : wJ ad 218) (g : Nat → va_E) (hW : WF (shp ad K) ad cs g) (fr : Int32) (st : Int32) : sI l yX11_round vX11_round { frames := 2, cells := 0, slots := 0, locals := 38 } D cs ad kS [.ref (ad 0), .int fr, .int st] g (fun r g2 => g2 = g) := by
  refine Met.startS (cc := cX11_round) (maxL := 3) (ret := (some .int)) RX11 rfl (by decide) rfl (Nat.le_of_ble_eq_true rfl) ?_
  intro p e s m below meth c ls X Z hP hl
  have hx := X.1
  have hb := X.2.1
  have hS : va_S (wA ad 218) s.heap s.heap [] := va_S.rf
  have hA : ∀ i, i < 218 → wA ad 218 (ad i) := fun i h => ⟨i, h, rfl⟩
  have hl : lv_has ls 3 [(0, .ref (ad 0)), (1, .int fr), (2, .int st)] := hl
  refine lv_aload_n hx hb dX11_round_0 rfl (lv_at hl 0 rfl) ?_
  refine lv_iload_n hx hb dX11_round_1 rfl (lv_at hl 1 rfl) ?_
  obtain ⟨fsc_4, hgc_4, hOc_4⟩ := hW.obj (i := 0) (by decide) (sh_0 ad K)
  refine s_calli (q := (RX11, TX11, 14)) (As := [.int fr]) (rest := []) X Z (s_X11_isEave l D cs ad kS K hKO hj g hW fr) (cwV 1 X.2.2.2.2.1 gg_X11_round_X11_isEave rfl rfl rfl (by decide +kernel) ⟨Nat.le_of_ble_eq_true rfl, Nat.le_of_ble_eq_true rfl⟩) (by decide) hgc_4 rfl hP hA hS.2.1 hS rfl hl.1 rfl (Nat.le_of_ble_eq_true rfl) dX11_round_2 ⟨Nat.le_of_ble_eq_true rfl, Nat.le_of_ble_eq_true rfl⟩ (fun r_3 g_2 H locs hw_1 hP hS => ?_)
  obtain ⟨hw_1g, hw_1⟩ := hw_1
  rw [hw_1g] at hP
  have HJ24 : ∀ (H : Heap) (locs : List Loc) (ls : Array Slot), va_P D vwCl (wL ad g 218) H → va_S (wA ad 218) s.heap H locs → lv_has ls 3 [] → W p l e ({ frames := 2, cells := 0, slots := 0, locals := 38 } : Room) s m ([.ref (ad 0), .int fr, .int st] : List Value).toArray below meth c H locs 0 0 (MQ below (qI D ad 218 (fun r g2 => g2 = g)) ([.ref (ad 0), .int fr, .int st] : List Value).toArray s 0 0 (wA ad 218)) (F0 m 24 ls []) := by
    intro H locs ls hP hS hl
    refine lv_bipush (v := (-2)) hx hb dX11_round_24 (by decide) ?_
    exact q_iret X hP hS rfl dX11_round_26
  refine lv_if_eq (tgt := 24) hx hb dX11_round_5 (by decide) (fun hc_5 => ?_) (fun hc_5 => ?_)
  · have hhc_5 := n_eq (rfl : r_3.toInt = r_3.toInt) (by decide : (0 : Int32).toInt = 0) hc_5
    exact HJ24 _ _ ls hP hS (lv_sub hl [] rfl)
  · have hhc_5 := n_ne (rfl : r_3.toInt = r_3.toInt) (by decide : (0 : Int32).toInt = 0) hc_5
    refine lv_aload_n hx hb dX11_round_8 rfl (lv_at hl 0 rfl) ?_
    refine lv_iload_n hx hb dX11_round_9 rfl (lv_at hl 2 rfl) ?_
    refine s_calli (q := (RX11, TX11, 14)) (As := [.int st]) (rest := []) X Z (s_X11_areEaves l D cs ad kS K hKO hj g hW st) (cwV 1 X.2.2.2.2.1 gg_X11_round_X11_areEaves rfl rfl rfl (by decide +kernel) ⟨Nat.le_of_ble_eq_true rfl, Nat.le_of_ble_eq_true rfl⟩) (by decide) hgc_4 rfl hP hA hS.2.1 hS rfl hl.1 rfl (Nat.le_of_ble_eq_true rfl) dX11_round_10 ⟨Nat.le_of_ble_eq_true rfl, Nat.le_of_ble_eq_true rfl⟩ (fun r_8 g_7 H locs hw_6 hP hS => ?_)
    obtain ⟨hw_6g, hw_6⟩ := hw_6
    rw [hw_6g] at hP
    refine lv_if_eq (tgt := 24) hx hb dX11_round_13 (by decide) (fun hc_9 => ?_) (fun hc_9 => ?_)
    · have hhc_9 := n_eq (rfl : r_8.toInt = r_8.toInt) (by decide : (0 : Int32).toInt = 0) hc_9
      exact HJ24 _ _ ls hP hS (lv_sub hl [] rfl)
    · have hhc_9 := n_ne (rfl : r_8.toInt = r_8.toInt) (by decide : (0 : Int32).toInt = 0) hc_9
      refine lv_iload_n hx hb dX11_round_16 rfl (lv_at hl 1 rfl) ?_
      refine lv_iload_n hx hb dX11_round_17 rfl (lv_at hl 2 rfl) ?_
      refine s_callSi (As := [.int fr, .int st]) (rest := []) X Z (s_X11_leastSteps l D cs ad kS K hKO hj g hW fr st) (cwS 2 X.2.2.2.2.1 gg_X11_round_X11_leastSteps rfl rfl rfl (by decide +kernel) ⟨Nat.le_of_ble_eq_true rfl, Nat.le_of_ble_eq_true rfl⟩) hP hA hS.2.1 hS rfl hl.1 rfl (Nat.le_of_ble_eq_true rfl) dX11_round_18 ⟨Nat.le_of_ble_eq_true rfl, Nat.le_of_ble_eq_true rfl⟩ (fun r_12 g_11 H locs hw_10 hP hS => ?_)
      rw [hw_10] at hP
      refine lv_goto (tgt := 26) hx hb dX11_round_21 (by decide) ?_
      exact q_iret X hP hS rfl dX11_round_26

theorem dX11_rounds_0 : decode cX11_rounds 0 = .ok (.aload_n 0, 1) := by decide +kernel
theorem dX11_rounds_1 : decode cX11_rounds 1 = .ok (.iload_n 1, 1) := by decide +kernel
theorem dX11_rounds_2 : decode cX11_rounds 2 = .ok (.invokevirtual 129, 3) := by decide +kernel
theorem dX11_rounds_5 : decode cX11_rounds 5 = .ok (.ifCond .eq 11, 3) := by decide +kernel
theorem dX11_rounds_8 : decode cX11_rounds 8 = .ok (.aload_n 0, 1) := by decide +kernel
theorem dX11_rounds_9 : decode cX11_rounds 9 = .ok (.iload_n 2, 1) := by decide +kernel
theorem dX11_rounds_10 : decode cX11_rounds 10 = .ok (.invokevirtual 251, 3) := by decide +kernel
theorem dX11_rounds_13 : decode cX11_rounds 13 = .ok (.ifCond .ne 6, 3) := by decide +kernel
theorem dX11_rounds_19 : decode cX11_rounds 19 = .ok (.iload_n 3, 1) := by decide +kernel
theorem dX11_rounds_20 : decode cX11_rounds 20 = .ok (.ifCond .lt 11, 3) := by decide +kernel
theorem dX11_rounds_23 : decode cX11_rounds 23 = .ok (.iload_n 3, 1) := by decide +kernel
theorem dX11_rounds_24 : decode cX11_rounds 24 = .ok (.iload_n 2, 1) := by decide +kernel
theorem dX11_rounds_25 : decode cX11_rounds 25 = .ok (.invokestatic 199, 3) := by decide +kernel
theorem dX11_rounds_28 : decode cX11_rounds 28 = .ok (.if_icmp .lt 5, 3) := by decide +kernel
theorem dX11_rounds_33 : decode cX11_rounds 33 = .ok (.iload_n 1, 1) := by decide +kernel
theorem dX11_rounds_34 : decode cX11_rounds 34 = .ok (.istore 4, 2) := by decide +kernel
theorem dX11_rounds_36 : decode cX11_rounds 36 = .ok (.iload_n 2, 1) := by decide +kernel
theorem dX11_rounds_37 : decode cX11_rounds 37 = .ok (.istore 5, 2) := by decide +kernel
theorem dX11_rounds_39 : decode cX11_rounds 39 = .ok (.iconst 0, 1) := by decide +kernel
theorem dX11_rounds_40 : decode cX11_rounds 40 = .ok (.istore 6, 2) := by decide +kernel
theorem dX11_rounds_42 : decode cX11_rounds 42 = .ok (.iload 6, 2) := by decide +kernel
theorem dX11_rounds_44 : decode cX11_rounds 44 = .ok (.iload_n 3, 1) := by decide +kernel
theorem dX11_rounds_45 : decode cX11_rounds 45 = .ok (.if_icmp .gt 29, 3) := by decide +kernel
theorem dX11_rounds_48 : decode cX11_rounds 48 = .ok (.iload 4, 2) := by decide +kernel
theorem dX11_rounds_50 : decode cX11_rounds 50 = .ok (.iload 5, 2) := by decide +kernel
theorem dX11_rounds_52 : decode cX11_rounds 52 = .ok (.invokestatic 257, 3) := by decide +kernel
theorem dX11_rounds_55 : decode cX11_rounds 55 = .ok (.istore 4, 2) := by decide +kernel
theorem dX11_rounds_57 : decode cX11_rounds 57 = .ok (.iload 5, 2) := by decide +kernel
theorem dX11_rounds_59 : decode cX11_rounds 59 = .ok (.iconst 1, 1) := by decide +kernel
theorem dX11_rounds_60 : decode cX11_rounds 60 = .ok (.iload 4, 2) := by decide +kernel
theorem dX11_rounds_62 : decode cX11_rounds 62 = .ok (.ishl, 1) := by decide +kernel
theorem dX11_rounds_63 : decode cX11_rounds 63 = .ok (.iconst (-1), 1) := by decide +kernel
theorem dX11_rounds_64 : decode cX11_rounds 64 = .ok (.ixor, 1) := by decide +kernel
theorem dX11_rounds_65 : decode cX11_rounds 65 = .ok (.iand, 1) := by decide +kernel
theorem dX11_rounds_66 : decode cX11_rounds 66 = .ok (.istore 5, 2) := by decide +kernel
theorem dX11_rounds_68 : decode cX11_rounds 68 = .ok (.iinc 6 1, 3) := by decide +kernel
theorem dX11_rounds_71 : decode cX11_rounds 71 = .ok (.goto (-29), 3) := by decide +kernel
theorem dX11_rounds_74 : decode cX11_rounds 74 = .ok (.iload 4, 2) := by decide +kernel
theorem dX11_rounds_76 : decode cX11_rounds 76 = .ok (.ireturn, 1) := by decide +kernel
theorem dX11_rounds_31 : decode cX11_rounds 31 = .ok (.iconst (-1), 1) := by decide +kernel
theorem dX11_rounds_32 : decode cX11_rounds 32 = .ok (.ireturn, 1) := by decide +kernel
theorem dX11_rounds_16 : decode cX11_rounds 16 = .ok (.bipush (-2), 2) := by decide +kernel
theorem dX11_rounds_18 : decode cX11_rounds 18 = .ok (.ireturn, 1) := by decide +kernel
noncomputable def vX11_rounds : List Cond := .code yX11_rounds cX11_rounds 7 (some .int) :: (([.methodLink RX11 129 yX11_isEave, .instanceMethod yX11_isEave, .selects RX11 yX11_isEave yX11_isEave, .initialized RX11, .methodLink RX11 251 yX11_areEaves, .instanceMethod yX11_areEaves, .selects RX11 yX11_areEaves yX11_areEaves, .methodLink RX11 199 yJ6_bitCount_0f7a4, .static yJ6_bitCount_0f7a4, .initialized RJ6, .methodLink RX11 257 yX11_firstStop, .static yX11_firstStop] : List Cond) ++ (vX11_isEave ++ (vX11_areEaves ++ (vJ6_bitCount_0f7a4 ++ vX11_firstStop))))
theorem gs_X11_rounds : Gd vX11_rounds := Gd.cons (by decide +kernel) (Gd.app (Gd.r (by decide +kernel)) (Gd.app gs_X11_isEave (Gd.app gs_X11_areEaves (Gd.app gs_J6_bitCount_0f7a4 gs_X11_firstStop))))
theorem gg_X11_rounds_X11_isEave : GoodIn vX11_rounds (wsV RX11 129 RX11 yX11_isEave vX11_isEave) := goodIn_app (goodIn_r _ [1, 2, 3, 4] (by decide +kernel) (by decide +kernel)) (fun w h => ⟨List.mem_cons_of_mem _ (List.mem_append_right _ (List.mem_append_left _ h)), gs_X11_isEave w h⟩)
theorem gg_X11_rounds_X11_areEaves : GoodIn vX11_rounds (wsV RX11 251 RX11 yX11_areEaves vX11_areEaves) := goodIn_app (goodIn_r _ [5, 6, 7, 4] (by decide +kernel) (by decide +kernel)) (fun w h => ⟨List.mem_cons_of_mem _ (List.mem_append_right _ (List.mem_append_right _ (List.mem_append_left _ h))), gs_X11_areEaves w h⟩)
theorem gg_X11_rounds_J6_bitCount_0f7a4 : GoodIn vX11_rounds (va_wsS RX11 199 yJ6_bitCount_0f7a4 vJ6_bitCount_0f7a4) := goodIn_app (goodIn_r _ [8, 9, 10] (by decide +kernel) (by decide +kernel)) (fun w h => ⟨List.mem_cons_of_mem _ (List.mem_append_right _ (List.mem_append_right _ (List.mem_append_right _ (List.mem_append_left _ h)))), gs_J6_bitCount_0f7a4 w h⟩)
theorem gg_X11_rounds_X11_firstStop : GoodIn vX11_rounds (wsS RX11 257 yX11_firstStop vX11_firstStop) := goodIn_app (goodIn_r _ [11, 12, 4] (by decide +kernel) (by decide +kernel)) (fun w h => ⟨List.mem_cons_of_mem _ (List.mem_append_right _ (List.mem_append_right _ (List.mem_append_right _ (List.mem_append_right _ (h))))), gs_X11_firstStop w h⟩)
set_option maxHeartbeats 4000000 in
set_option maxRecDepth 100000 in
theorem s_X11_rounds (l : Launch) (D : va_G) (cs : Nat → ClassId) (ad : Nat → Nat) (kS : kSt) (K : sK) (hKO : KO K) (hj : wJ ad 218) (g : Nat → va_E) (hW : WF (shp ad K) ad cs g) (fr : Int32) (st : Int32) (ix : Int32) : sI l yX11_rounds vX11_rounds { frames := 3, cells := 0, slots := 0, locals := 62 } D cs ad kS [.ref (ad 0), .int fr, .int st, .int ix] g (fun r g2 => g2 = g) := by
  refine Met.startS (cc := cX11_rounds) (maxL := 7) (ret := (some .int)) RX11 rfl (by decide) rfl (Nat.le_of_ble_eq_true rfl) ?_
  intro p e s m below meth c ls X Z hP hl
  have hx := X.1
  have hb := X.2.1
  have hS : va_S (wA ad 218) s.heap s.heap [] := va_S.rf
  have hA : ∀ i, i < 218 → wA ad 218 (ad i) := fun i h => ⟨i, h, rfl⟩
  have hl : lv_has ls 7 [(0, .ref (ad 0)), (1, .int fr), (2, .int st), (3, .int ix)] := hl
  refine lv_aload_n hx hb dX11_rounds_0 rfl (lv_at hl 0 rfl) ?_
  refine lv_iload_n hx hb dX11_rounds_1 rfl (lv_at hl 1 rfl) ?_
  obtain ⟨fsc_4, hgc_4, hOc_4⟩ := hW.obj (i := 0) (by decide) (sh_0 ad K)
  refine s_calli (q := (RX11, TX11, 14)) (As := [.int fr]) (rest := []) X Z (s_X11_isEave l D cs ad kS K hKO hj g hW fr) (cwV 1 X.2.2.2.2.1 gg_X11_rounds_X11_isEave rfl rfl rfl (by decide +kernel) ⟨Nat.le_of_ble_eq_true rfl, Nat.le_of_ble_eq_true rfl⟩) (by decide) hgc_4 rfl hP hA hS.2.1 hS rfl hl.1 rfl (Nat.le_of_ble_eq_true rfl) dX11_rounds_2 ⟨Nat.le_of_ble_eq_true rfl, Nat.le_of_ble_eq_true rfl⟩ (fun r_3 g_2 H locs hw_1 hP hS => ?_)
  obtain ⟨hw_1g, hw_1⟩ := hw_1
  rw [hw_1g] at hP
  have HJ16 : ∀ (H : Heap) (locs : List Loc) (ls : Array Slot), va_P D vwCl (wL ad g 218) H → va_S (wA ad 218) s.heap H locs → lv_has ls 7 [] → W p l e ({ frames := 3, cells := 0, slots := 0, locals := 62 } : Room) s m ([.ref (ad 0), .int fr, .int st, .int ix] : List Value).toArray below meth c H locs 0 0 (MQ below (qI D ad 218 (fun r g2 => g2 = g)) ([.ref (ad 0), .int fr, .int st, .int ix] : List Value).toArray s 0 0 (wA ad 218)) (F0 m 16 ls []) := by
    intro H locs ls hP hS hl
    refine lv_bipush (v := (-2)) hx hb dX11_rounds_16 (by decide) ?_
    exact q_iret X hP hS rfl dX11_rounds_18
  refine lv_if_eq (tgt := 16) hx hb dX11_rounds_5 (by decide) (fun hc_5 => ?_) (fun hc_5 => ?_)
  · have hhc_5 := n_eq (rfl : r_3.toInt = r_3.toInt) (by decide : (0 : Int32).toInt = 0) hc_5
    exact HJ16 _ _ ls hP hS (lv_sub hl [] rfl)
  · have hhc_5 := n_ne (rfl : r_3.toInt = r_3.toInt) (by decide : (0 : Int32).toInt = 0) hc_5
    refine lv_aload_n hx hb dX11_rounds_8 rfl (lv_at hl 0 rfl) ?_
    refine lv_iload_n hx hb dX11_rounds_9 rfl (lv_at hl 2 rfl) ?_
    refine s_calli (q := (RX11, TX11, 14)) (As := [.int st]) (rest := []) X Z (s_X11_areEaves l D cs ad kS K hKO hj g hW st) (cwV 1 X.2.2.2.2.1 gg_X11_rounds_X11_areEaves rfl rfl rfl (by decide +kernel) ⟨Nat.le_of_ble_eq_true rfl, Nat.le_of_ble_eq_true rfl⟩) (by decide) hgc_4 rfl hP hA hS.2.1 hS rfl hl.1 rfl (Nat.le_of_ble_eq_true rfl) dX11_rounds_10 ⟨Nat.le_of_ble_eq_true rfl, Nat.le_of_ble_eq_true rfl⟩ (fun r_8 g_7 H locs hw_6 hP hS => ?_)
    obtain ⟨hw_6g, hw_6⟩ := hw_6
    rw [hw_6g] at hP
    refine lv_if_ne (tgt := 19) hx hb dX11_rounds_13 (by decide) (fun hc_9 => ?_) (fun hc_9 => ?_)
    · have hhc_9 := n_ne (rfl : r_8.toInt = r_8.toInt) (by decide : (0 : Int32).toInt = 0) hc_9
      refine lv_iload_n hx hb dX11_rounds_19 rfl (lv_at hl 3 rfl) ?_
      have HJ31 : ∀ (H : Heap) (locs : List Loc) (ls : Array Slot), va_P D vwCl (wL ad g 218) H → va_S (wA ad 218) s.heap H locs → lv_has ls 7 [] → W p l e ({ frames := 3, cells := 0, slots := 0, locals := 62 } : Room) s m ([.ref (ad 0), .int fr, .int st, .int ix] : List Value).toArray below meth c H locs 0 0 (MQ below (qI D ad 218 (fun r g2 => g2 = g)) ([.ref (ad 0), .int fr, .int st, .int ix] : List Value).toArray s 0 0 (wA ad 218)) (F0 m 31 ls []) := by
        intro H locs ls hP hS hl
        refine lv_iconst (v := (-1)) hx hb dX11_rounds_31 (by decide) ?_
        exact q_iret X hP hS rfl dX11_rounds_32
      refine lv_if_lt (tgt := 31) hx hb dX11_rounds_20 (by decide) (fun hc_10 => ?_) (fun hc_10 => ?_)
      · have hhc_10 := n_lt (rfl : ix.toInt = ix.toInt) (by decide : (0 : Int32).toInt = 0) hc_10
        exact HJ31 _ _ ls hP hS (lv_sub hl [] rfl)
      · have hhc_10 := n_nlt (rfl : ix.toInt = ix.toInt) (by decide : (0 : Int32).toInt = 0) hc_10
        refine lv_iload_n hx hb dX11_rounds_23 rfl (lv_at hl 3 rfl) ?_
        refine lv_iload_n hx hb dX11_rounds_24 rfl (lv_at hl 2 rfl) ?_
        refine s_callSi (As := [.int st]) (rest := [.int ix]) X Z (s_J6_bitCount_0f7a4 l D cs ad kS K hKO hj g hW st) (va_cwS 1 X.2.2.2.2.1 gg_X11_rounds_J6_bitCount_0f7a4 rfl rfl rfl (by decide +kernel) ⟨Nat.le_of_ble_eq_true rfl, Nat.le_of_ble_eq_true rfl⟩) hP hA hS.2.1 hS rfl hl.1 rfl (Nat.le_of_ble_eq_true rfl) dX11_rounds_25 ⟨Nat.le_of_ble_eq_true rfl, Nat.le_of_ble_eq_true rfl⟩ (fun r_13 g_12 H locs hw_11 hP hS => ?_)
        obtain ⟨hw_11g, hw_11⟩ := hw_11
        rw [hw_11g] at hP
        refine lv_icmp_lt (tgt := 33) hx hb dX11_rounds_28 (by decide) (fun hc_14 => ?_) (fun hc_14 => ?_)
        · have hhc_14 := n_lt (rfl : ix.toInt = ix.toInt) (rfl : r_13.toInt = r_13.toInt) hc_14
          have := n_hi ix
          refine lv_iload_n hx hb dX11_rounds_33 rfl (lv_at hl 1 rfl) ?_
          refine lv_istore (lv' := [(4, .int fr), (0, .ref (ad 0)), (1, .int fr), (2, .int st), (3, .int ix)]) hx hb dX11_rounds_34 hl (by decide) rfl (fun ls hl => ?_)
          refine lv_iload_n hx hb dX11_rounds_36 rfl (lv_at hl 3 rfl) ?_
          refine lv_istore (lv' := [(5, .int st), (4, .int fr), (0, .ref (ad 0)), (1, .int fr), (2, .int st), (3, .int ix)]) hx hb dX11_rounds_37 hl (by decide) rfl (fun ls hl => ?_)
          refine lv_iconst (v := 0) hx hb dX11_rounds_39 (by decide) ?_
          refine lv_istore (lv' := [(6, .int 0), (5, .int st), (4, .int fr), (0, .ref (ad 0)), (1, .int fr), (2, .int st), (3, .int ix)]) hx hb dX11_rounds_40 hl (by decide) rfl (fun ls hl => ?_)
          have HL42 : ∀ (n42 : Nat) (v42_6 : Int32) (v42_5 : Int32) (v42_4 : Int32) (H : Heap) (locs : List Loc) (ls : Array Slot), (63 - v42_6.toInt).toNat < n42 → (0 ≤ v42_6.toInt ∧ v42_6.toInt ≤ 63) → (0 ≤ v42_4.toInt ∧ v42_4.toInt ≤ 4) → va_P D vwCl (wL ad g 218) H → va_S (wA ad 218) s.heap H locs → lv_has ls 7 [(6, .int v42_6), (5, .int v42_5), (4, .int v42_4), (3, .int ix)] → W p l e ({ frames := 3, cells := 0, slots := 0, locals := 62 } : Room) s m ([.ref (ad 0), .int fr, .int st, .int ix] : List Value).toArray below meth c H locs 0 0 (MQ below (qI D ad 218 (fun r g2 => g2 = g)) ([.ref (ad 0), .int fr, .int st, .int ix] : List Value).toArray s 0 0 (wA ad 218)) (F0 m 42 ls []) := by
            intro n42
            induction n42 with
            | zero =>
              intro v42_6 v42_5 v42_4 H locs ls hm42 hv42_0 hv42_1 hP hS hl
              exact absurd hm42 (Nat.not_lt_zero _)
            | succ n42 ih42 =>
              intro v42_6 v42_5 v42_4 H locs ls hm42 hv42_0 hv42_1 hP hS hl
              refine lv_iload hx hb dX11_rounds_42 (lv_at hl 0 rfl) ?_
              refine lv_iload_n hx hb dX11_rounds_44 rfl (lv_at hl 3 rfl) ?_
              refine lv_icmp_gt (tgt := 74) hx hb dX11_rounds_45 (by decide) (fun hc_15 => ?_) (fun hc_15 => ?_)
              · have hhc_15 := n_lt (rfl : ix.toInt = ix.toInt) (rfl : v42_6.toInt = v42_6.toInt) hc_15
                refine lv_iload hx hb dX11_rounds_74 (lv_at hl 2 rfl) ?_
                exact q_iret X hP hS rfl dX11_rounds_76
              · have hhc_15 := n_nlt (rfl : ix.toInt = ix.toInt) (rfl : v42_6.toInt = v42_6.toInt) hc_15
                refine lv_iload hx hb dX11_rounds_48 (lv_at hl 2 rfl) ?_
                refine lv_iload hx hb dX11_rounds_50 (lv_at hl 1 rfl) ?_
                refine s_callSi (As := [.int v42_4, .int v42_5]) (rest := []) X Z (s_X11_firstStop l D cs ad kS K hKO hj g hW v42_4 v42_5 (by omega)) (cwS 2 X.2.2.2.2.1 gg_X11_rounds_X11_firstStop rfl rfl rfl (by decide +kernel) ⟨Nat.le_of_ble_eq_true rfl, Nat.le_of_ble_eq_true rfl⟩) hP hA hS.2.1 hS rfl hl.1 rfl (Nat.le_of_ble_eq_true rfl) dX11_rounds_52 ⟨Nat.le_of_ble_eq_true rfl, Nat.le_of_ble_eq_true rfl⟩ (fun r_18 g_17 H locs hw_16 hP hS => ?_)
                obtain ⟨hw_16g, hw_16⟩ := hw_16
                rw [hw_16g] at hP
                refine lv_istore (lv' := [(4, .int r_18), (6, .int v42_6), (5, .int v42_5), (3, .int ix)]) hx hb dX11_rounds_55 hl (by decide) rfl (fun ls hl => ?_)
                refine lv_iload hx hb dX11_rounds_57 (lv_at hl 2 rfl) ?_
                refine lv_iconst (v := 1) hx hb dX11_rounds_59 (by decide) ?_
                refine lv_iload hx hb dX11_rounds_60 (lv_at hl 0 rfl) ?_
                refine lv_ishl hx hb dX11_rounds_62 ?_
                refine lv_topi (fun z_19 ez_19 => ?_)
                refine lv_iconst (v := (-1)) hx hb dX11_rounds_63 (by decide) ?_
                refine lv_ixor hx hb dX11_rounds_64 ?_
                refine lv_topi (fun z_20 ez_20 => ?_)
                refine lv_iand hx hb dX11_rounds_65 ?_
                refine lv_topi (fun z_21 ez_21 => ?_)
                refine lv_istore (lv' := [(5, .int z_21), (4, .int r_18), (6, .int v42_6), (3, .int ix)]) hx hb dX11_rounds_66 hl (by decide) rfl (fun ls hl => ?_)
                obtain ⟨x_22, ex_22⟩ : ∃ y : Int32, y = v42_6 + 1 := ⟨_, rfl⟩
                have hx_22 : x_22.toInt = v42_6.toInt + 1 := n_add rfl (by decide : (1 : Int32).toInt = 1) ex_22 (by omega) (by omega)
                refine lv_iinc (v := x_22) (lv' := [(6, .int x_22), (5, .int z_21), (4, .int r_18), (3, .int ix)]) hx hb dX11_rounds_68 hl (k := 2) rfl (by rw [ex_22]; rfl) (by decide) rfl (fun ls hl => ?_)
                refine lv_goto (tgt := 42) hx hb dX11_rounds_71 (by decide) ?_
                exact ih42 x_22 z_21 r_18 _ _ ls (by omega) (by omega) (by omega) hP hS (lv_sub hl [0, 1, 2, 3] rfl)
          have hiv42_6 : (0 : Int32).toInt = 0 := by decide
          exact HL42 _ 0 st fr _ _ ls (Nat.lt_succ_self _) (by omega) (by omega) hP hS (lv_sub hl [0, 1, 2, 6] rfl)
        · have hhc_14 := n_nlt (rfl : ix.toInt = ix.toInt) (rfl : r_13.toInt = r_13.toInt) hc_14
          have := n_hi ix
          exact HJ31 _ _ ls hP hS (lv_sub hl [] rfl)
    · have hhc_9 := n_eq (rfl : r_8.toInt = r_8.toInt) (by decide : (0 : Int32).toInt = 0) hc_9
      exact HJ16 _ _ ls hP hS (lv_sub hl [] rfl)

theorem dX11_slotsLaid_0 : decode cX11_slotsLaid 0 = .ok (.iconst 0, 1) := by decide +kernel
theorem dX11_slotsLaid_1 : decode cX11_slotsLaid 1 = .ok (.istore_n 1, 1) := by decide +kernel
theorem dX11_slotsLaid_2 : decode cX11_slotsLaid 2 = .ok (.iconst 0, 1) := by decide +kernel
theorem dX11_slotsLaid_3 : decode cX11_slotsLaid 3 = .ok (.istore_n 2, 1) := by decide +kernel
theorem dX11_slotsLaid_4 : decode cX11_slotsLaid 4 = .ok (.iload_n 2, 1) := by decide +kernel
theorem dX11_slotsLaid_5 : decode cX11_slotsLaid 5 = .ok (.iconst 4, 1) := by decide +kernel
theorem dX11_slotsLaid_6 : decode cX11_slotsLaid 6 = .ok (.if_icmp .ge 24, 3) := by decide +kernel
theorem dX11_slotsLaid_9 : decode cX11_slotsLaid 9 = .ok (.aload_n 0, 1) := by decide +kernel
theorem dX11_slotsLaid_10 : decode cX11_slotsLaid 10 = .ok (.getfield 36, 3) := by decide +kernel
theorem dX11_slotsLaid_13 : decode cX11_slotsLaid 13 = .ok (.iload_n 2, 1) := by decide +kernel
theorem dX11_slotsLaid_14 : decode cX11_slotsLaid 14 = .ok (.aaload, 1) := by decide +kernel
theorem dX11_slotsLaid_15 : decode cX11_slotsLaid 15 = .ok (.getfield 384, 3) := by decide +kernel
theorem dX11_slotsLaid_18 : decode cX11_slotsLaid 18 = .ok (.ifCond .eq 6, 3) := by decide +kernel
theorem dX11_slotsLaid_21 : decode cX11_slotsLaid 21 = .ok (.iinc 1 1, 3) := by decide +kernel
theorem dX11_slotsLaid_24 : decode cX11_slotsLaid 24 = .ok (.iinc 2 1, 3) := by decide +kernel
theorem dX11_slotsLaid_27 : decode cX11_slotsLaid 27 = .ok (.goto (-23), 3) := by decide +kernel
theorem dX11_slotsLaid_30 : decode cX11_slotsLaid 30 = .ok (.iload_n 1, 1) := by decide +kernel
theorem dX11_slotsLaid_31 : decode cX11_slotsLaid 31 = .ok (.ireturn, 1) := by decide +kernel
noncomputable def vX11_slotsLaid : List Cond := .code yX11_slotsLaid cX11_slotsLaid 3 (some .int) :: (([.fieldLink RX11 36 "IcicleClock" "slots" "[LIcicleClock$Slot;", .fieldLink RX11 384 "IcicleClock$Slot" "laid" "Z"] : List Cond) ++ (wsX110 ++ wsX50))
theorem iX11_slotsLaid_11 : ∀ w ∈ wsX110, w ∈ vX11_slotsLaid := fun _ h => List.mem_cons_of_mem _ (List.mem_append_right _ (List.mem_append_left _ h))
theorem iX11_slotsLaid_5 : ∀ w ∈ wsX50, w ∈ vX11_slotsLaid := fun _ h => List.mem_cons_of_mem _ (List.mem_append_right _ (List.mem_append_right _ (h)))
theorem gs_X11_slotsLaid : Gd vX11_slotsLaid := Gd.cons (by decide +kernel) (Gd.app (Gd.r (by decide +kernel)) (Gd.app gwX_11 gwX_5))
set_option maxHeartbeats 4000000 in
set_option maxRecDepth 100000 in
theorem s_X11_slotsLaid (l : Launch) (D : va_G) (cs : Nat → ClassId) (ad : Nat → Nat) (kS : kSt) (K : sK) (hKO : KO K) (hj : wJ ad 218) (g : Nat → va_E) (hW : WF (shp ad K) ad cs g) : sI l yX11_slotsLaid vX11_slotsLaid { frames := 0, cells := 0, slots := 0, locals := 0 } D cs ad kS [.ref (ad 0)] g (fun r g2 => g2 = g) := by
  refine Met.startS (cc := cX11_slotsLaid) (maxL := 3) (ret := (some .int)) RX11 rfl (by decide) rfl (Nat.le_of_ble_eq_true rfl) ?_
  intro p e s m below meth c ls X Z hP hl
  have hx := X.1
  have hb := X.2.1
  have hS : va_S (wA ad 218) s.heap s.heap [] := va_S.rf
  have hA : ∀ i, i < 218 → wA ad 218 (ad i) := fun i h => ⟨i, h, rfl⟩
  have hl : lv_has ls 3 [(0, .ref (ad 0))] := hl
  refine lv_iconst (v := 0) hx hb dX11_slotsLaid_0 (by decide) ?_
  refine lv_istore_n (lv' := [(1, .int 0), (0, .ref (ad 0))]) hx hb dX11_slotsLaid_1 rfl hl (by decide) rfl (fun ls hl => ?_)
  refine lv_iconst (v := 0) hx hb dX11_slotsLaid_2 (by decide) ?_
  refine lv_istore_n (lv' := [(2, .int 0), (1, .int 0), (0, .ref (ad 0))]) hx hb dX11_slotsLaid_3 rfl hl (by decide) rfl (fun ls hl => ?_)
  have HL4 : ∀ (n4 : Nat) (v4_2 : Int32) (v4_1 : Int32) (H : Heap) (locs : List Loc) (ls : Array Slot), (4 - v4_2.toInt).toNat < n4 → (0 ≤ v4_2.toInt ∧ v4_2.toInt ≤ 4) → va_P D vwCl (wL ad g 218) H → va_S (wA ad 218) s.heap H locs → lv_has ls 3 [(2, .int v4_2), (1, .int v4_1), (0, .ref (ad 0))] → W p l e ({ frames := 0, cells := 0, slots := 0, locals := 0 } : Room) s m ([.ref (ad 0)] : List Value).toArray below meth c H locs 0 0 (MQ below (qI D ad 218 (fun r g2 => g2 = g)) ([.ref (ad 0)] : List Value).toArray s 0 0 (wA ad 218)) (F0 m 4 ls []) := by
    intro n4
    induction n4 with
    | zero =>
      intro v4_2 v4_1 H locs ls hm4 hv4_0 hP hS hl
      exact absurd hm4 (Nat.not_lt_zero _)
    | succ n4 ih4 =>
      intro v4_2 v4_1 H locs ls hm4 hv4_0 hP hS hl
      refine lv_iload_n hx hb dX11_slotsLaid_4 rfl (lv_at hl 0 rfl) ?_
      refine lv_iconst (v := 4) hx hb dX11_slotsLaid_5 (by decide) ?_
      refine lv_icmp_ge (tgt := 30) hx hb dX11_slotsLaid_6 (by decide) (fun hc_1 => ?_) (fun hc_1 => ?_)
      · have hhc_1 := n_le (by decide : (4 : Int32).toInt = 4) (rfl : v4_2.toInt = v4_2.toInt) hc_1
        refine lv_iload_n hx hb dX11_slotsLaid_30 rfl (lv_at hl 1 rfl) ?_
        exact q_iret X hP hS rfl dX11_slotsLaid_31
      · have hhc_1 := n_nle (by decide : (4 : Int32).toInt = 4) (rfl : v4_2.toInt = v4_2.toInt) hc_1
        refine lv_aload_n hx hb dX11_slotsLaid_9 rfl (lv_at hl 2 rfl) ?_
        obtain ⟨fsc_2, hgc_2, hOc_2⟩ := hW.obj (i := 0) (by decide) (sh_0 ad K)
        have hk_3 := hOc_2.ref 5 rfl
        refine q_get X iX11_slotsLaid_11 hP (by decide) hgc_2 rfl 5 (by decide) (List.mem_of_getElem? (i := 1) rfl) (v := .ref (ad 105)) hk_3 dX11_slotsLaid_10 ?_
        refine lv_iload_n hx hb dX11_slotsLaid_13 rfl (lv_at hl 0 rfl) ?_
        obtain ⟨fc_4, hgc_4, hFc_4⟩ := hW.aref (i := 105) (by decide) (sh_105 ad K)
        obtain ⟨e_5, h_e_5, e_e_5⟩ : ∃ q : Nat, q < 4 ∧ v4_2.toNatClampNeg = q := ⟨_, by have := n_cl (rfl : v4_2.toInt = v4_2.toInt) (by omega); omega, rfl⟩
        refine s_aald X hP 4 rfl rfl (by decide) hgc_4 (n_in (rfl : v4_2.toInt = v4_2.toInt) (by omega) (by omega)) (v := ad (106 + 2 * e_5)) (by rw [e_e_5]; exact hFc_4 _ h_e_5) dX11_slotsLaid_14 ?_
        have hj_e_5 := h_e_5
        obtain ⟨fsc_6, hgc_6, hOc_6⟩ := hW.obj (i := (106 + 2 * e_5)) (by omega) (shJ_0 ad K hj_e_5)
        obtain ⟨x_8, hk_7, hlx_8, hhx_8⟩ := hOc_6.int 1 rfl
        have hqx_8 := hKO e_5
        refine q_get X iX11_slotsLaid_5 hP (by omega) hgc_6 rfl 1 (by decide) (List.mem_of_getElem? (i := 2) rfl) (v := .int x_8) hk_7 dX11_slotsLaid_15 ?_
        have HJ24 : ∀ (v24_1 : Int32) (H : Heap) (locs : List Loc) (ls : Array Slot), va_P D vwCl (wL ad g 218) H → va_S (wA ad 218) s.heap H locs → lv_has ls 3 [(2, .int v4_2), (1, .int v24_1), (0, .ref (ad 0))] → W p l e ({ frames := 0, cells := 0, slots := 0, locals := 0 } : Room) s m ([.ref (ad 0)] : List Value).toArray below meth c H locs 0 0 (MQ below (qI D ad 218 (fun r g2 => g2 = g)) ([.ref (ad 0)] : List Value).toArray s 0 0 (wA ad 218)) (F0 m 24 ls []) := by
          intro v24_1 H locs ls hP hS hl
          obtain ⟨x_9, ex_9⟩ : ∃ y : Int32, y = v4_2 + 1 := ⟨_, rfl⟩
          have hx_9 : x_9.toInt = v4_2.toInt + 1 := n_add rfl (by decide : (1 : Int32).toInt = 1) ex_9 (by omega) (by omega)
          refine lv_iinc (v := x_9) (lv' := [(2, .int x_9), (1, .int v24_1), (0, .ref (ad 0))]) hx hb dX11_slotsLaid_24 hl (k := 0) rfl (by rw [ex_9]; rfl) (by decide) rfl (fun ls hl => ?_)
          refine lv_goto (tgt := 4) hx hb dX11_slotsLaid_27 (by decide) ?_
          exact ih4 x_9 v24_1 _ _ ls (by omega) (by omega) hP hS (lv_sub hl [0, 1, 2] rfl)
        refine lv_if_eq (tgt := 24) hx hb dX11_slotsLaid_18 (by decide) (fun hc_10 => ?_) (fun hc_10 => ?_)
        · have hhc_10 := n_eq (rfl : x_8.toInt = x_8.toInt) (by decide : (0 : Int32).toInt = 0) hc_10
          exact HJ24 v4_1 _ _ ls hP hS (lv_sub hl [0, 1, 2] rfl)
        · have hhc_10 := n_ne (rfl : x_8.toInt = x_8.toInt) (by decide : (0 : Int32).toInt = 0) hc_10
          obtain ⟨x_11, ex_11⟩ : ∃ y : Int32, y = v4_1 + 1 := ⟨_, rfl⟩
          refine lv_iinc (v := x_11) (lv' := [(1, .int x_11), (2, .int v4_2), (0, .ref (ad 0))]) hx hb dX11_slotsLaid_21 hl (k := 1) rfl (by rw [ex_11]; rfl) (by decide) rfl (fun ls hl => ?_)
          exact HJ24 x_11 _ _ ls hP hS (lv_sub hl [1, 0, 2] rfl)
  have hiv4_2 : (0 : Int32).toInt = 0 := by decide
  have hiv4_1 : (0 : Int32).toInt = 0 := by decide
  exact HL4 _ 0 0 _ _ ls (Nat.lt_succ_self _) (by omega) hP hS (lv_sub hl [0, 1, 2] rfl)

theorem dX11_greatestDivisor_0 : decode cX11_greatestDivisor 0 = .ok (.lload_n 0, 1) := by decide +kernel
theorem dX11_greatestDivisor_1 : decode cX11_greatestDivisor 1 = .ok (.lstore 4, 2) := by decide +kernel
theorem dX11_greatestDivisor_3 : decode cX11_greatestDivisor 3 = .ok (.lload_n 2, 1) := by decide +kernel
theorem dX11_greatestDivisor_4 : decode cX11_greatestDivisor 4 = .ok (.lstore 6, 2) := by decide +kernel
theorem dX11_greatestDivisor_6 : decode cX11_greatestDivisor 6 = .ok (.iconst 0, 1) := by decide +kernel
theorem dX11_greatestDivisor_7 : decode cX11_greatestDivisor 7 = .ok (.istore 8, 2) := by decide +kernel
theorem dX11_greatestDivisor_9 : decode cX11_greatestDivisor 9 = .ok (.iload 8, 2) := by decide +kernel
theorem dX11_greatestDivisor_11 : decode cX11_greatestDivisor 11 = .ok (.sipush 200, 3) := by decide +kernel
theorem dX11_greatestDivisor_14 : decode cX11_greatestDivisor 14 = .ok (.if_icmp .ge 31, 3) := by decide +kernel
theorem dX11_greatestDivisor_17 : decode cX11_greatestDivisor 17 = .ok (.lload 6, 2) := by decide +kernel
theorem dX11_greatestDivisor_19 : decode cX11_greatestDivisor 19 = .ok (.lconst 0, 1) := by decide +kernel
theorem dX11_greatestDivisor_20 : decode cX11_greatestDivisor 20 = .ok (.lcmp, 1) := by decide +kernel
theorem dX11_greatestDivisor_21 : decode cX11_greatestDivisor 21 = .ok (.ifCond .le 24, 3) := by decide +kernel
theorem dX11_greatestDivisor_24 : decode cX11_greatestDivisor 24 = .ok (.lload 4, 2) := by decide +kernel
theorem dX11_greatestDivisor_26 : decode cX11_greatestDivisor 26 = .ok (.lload 6, 2) := by decide +kernel
theorem dX11_greatestDivisor_28 : decode cX11_greatestDivisor 28 = .ok (.lrem, 1) := by decide +kernel
theorem dX11_greatestDivisor_29 : decode cX11_greatestDivisor 29 = .ok (.lstore 9, 2) := by decide +kernel
theorem dX11_greatestDivisor_31 : decode cX11_greatestDivisor 31 = .ok (.lload 6, 2) := by decide +kernel
theorem dX11_greatestDivisor_33 : decode cX11_greatestDivisor 33 = .ok (.lstore 4, 2) := by decide +kernel
theorem dX11_greatestDivisor_35 : decode cX11_greatestDivisor 35 = .ok (.lload 9, 2) := by decide +kernel
theorem dX11_greatestDivisor_37 : decode cX11_greatestDivisor 37 = .ok (.lstore 6, 2) := by decide +kernel
theorem dX11_greatestDivisor_39 : decode cX11_greatestDivisor 39 = .ok (.iinc 8 1, 3) := by decide +kernel
theorem dX11_greatestDivisor_42 : decode cX11_greatestDivisor 42 = .ok (.goto (-33), 3) := by decide +kernel
theorem dX11_greatestDivisor_45 : decode cX11_greatestDivisor 45 = .ok (.lload 4, 2) := by decide +kernel
theorem dX11_greatestDivisor_47 : decode cX11_greatestDivisor 47 = .ok (.lreturn, 1) := by decide +kernel
noncomputable def vX11_greatestDivisor : List Cond := .code yX11_greatestDivisor cX11_greatestDivisor 11 (some .long) :: ([] : List Cond)
theorem gs_X11_greatestDivisor : Gd vX11_greatestDivisor := Gd.cons (by decide +kernel) (Gd.r (by decide +kernel))
set_option maxHeartbeats 4000000 in
set_option maxRecDepth 100000 in
theorem s_X11_greatestDivisor (l : Launch) (D : va_G) (cs : Nat → ClassId) (ad : Nat → Nat) (kS : kSt) (K : sK) (hKO : KO K) (hj : wJ ad 218) (g : Nat → va_E) (hW : WF (shp ad K) ad cs g) (ja : Int64) (jb : Int64) : sJ l yX11_greatestDivisor vX11_greatestDivisor { frames := 0, cells := 0, slots := 0, locals := 0 } D cs ad kS [.long ja, .long jb] g (fun r g2 => g2 = g) := by
  refine Met.startS (cc := cX11_greatestDivisor) (maxL := 11) (ret := (some .long)) RX11 rfl (by decide) rfl (Nat.le_of_ble_eq_true rfl) ?_
  intro p e s m below meth c ls X Z hP hl
  have hx := X.1
  have hb := X.2.1
  have hS : va_S (wA ad 218) s.heap s.heap [] := va_S.rf
  have hA : ∀ i, i < 218 → wA ad 218 (ad i) := fun i h => ⟨i, h, rfl⟩
  have hl : lv_has ls 11 [(0, .long ja), (2, .long jb)] := hl
  refine lv_lload_n hx hb dX11_greatestDivisor_0 rfl (lv_at hl 0 rfl) ?_
  refine lv_lstore (lv' := [(4, .long ja), (0, .long ja), (2, .long jb)]) hx hb dX11_greatestDivisor_1 hl (by decide) rfl (fun ls hl => ?_)
  refine lv_lload_n hx hb dX11_greatestDivisor_3 rfl (lv_at hl 2 rfl) ?_
  refine lv_lstore (lv' := [(6, .long jb), (4, .long ja), (0, .long ja), (2, .long jb)]) hx hb dX11_greatestDivisor_4 hl (by decide) rfl (fun ls hl => ?_)
  refine lv_iconst (v := 0) hx hb dX11_greatestDivisor_6 (by decide) ?_
  refine lv_istore (lv' := [(8, .int 0), (6, .long jb), (4, .long ja), (0, .long ja), (2, .long jb)]) hx hb dX11_greatestDivisor_7 hl (by decide) rfl (fun ls hl => ?_)
  have HL9 : ∀ (n9 : Nat) (v9_8 : Int32) (v9_6 : Int64) (v9_4 : Int64) (H : Heap) (locs : List Loc) (ls : Array Slot), (200 - v9_8.toInt).toNat < n9 → (0 ≤ v9_8.toInt ∧ v9_8.toInt ≤ 200) → va_P D vwCl (wL ad g 218) H → va_S (wA ad 218) s.heap H locs → lv_has ls 11 [(8, .int v9_8), (6, .long v9_6), (4, .long v9_4)] → W p l e ({ frames := 0, cells := 0, slots := 0, locals := 0 } : Room) s m ([.long ja, .long jb] : List Value).toArray below meth c H locs 0 0 (MQ below (qJ D ad 218 (fun r g2 => g2 = g)) ([.long ja, .long jb] : List Value).toArray s 0 0 (wA ad 218)) (F0 m 9 ls []) := by
    intro n9
    induction n9 with
    | zero =>
      intro v9_8 v9_6 v9_4 H locs ls hm9 hv9_0 hP hS hl
      exact absurd hm9 (Nat.not_lt_zero _)
    | succ n9 ih9 =>
      intro v9_8 v9_6 v9_4 H locs ls hm9 hv9_0 hP hS hl
      refine lv_iload hx hb dX11_greatestDivisor_9 (lv_at hl 0 rfl) ?_
      refine lv_sipush (v := 200) hx hb dX11_greatestDivisor_11 (by decide) ?_
      have HJ45 : ∀ (H : Heap) (locs : List Loc) (ls : Array Slot), va_P D vwCl (wL ad g 218) H → va_S (wA ad 218) s.heap H locs → lv_has ls 11 [(4, .long v9_4)] → W p l e ({ frames := 0, cells := 0, slots := 0, locals := 0 } : Room) s m ([.long ja, .long jb] : List Value).toArray below meth c H locs 0 0 (MQ below (qJ D ad 218 (fun r g2 => g2 = g)) ([.long ja, .long jb] : List Value).toArray s 0 0 (wA ad 218)) (F0 m 45 ls []) := by
        intro H locs ls hP hS hl
        refine lv_lload hx hb dX11_greatestDivisor_45 (lv_at hl 0 rfl) ?_
        exact q_lret X hP hS rfl dX11_greatestDivisor_47
      refine lv_icmp_ge (tgt := 45) hx hb dX11_greatestDivisor_14 (by decide) (fun hc_1 => ?_) (fun hc_1 => ?_)
      · have hhc_1 := n_le (by decide : (200 : Int32).toInt = 200) (rfl : v9_8.toInt = v9_8.toInt) hc_1
        exact HJ45 _ _ ls hP hS (lv_sub hl [2] rfl)
      · have hhc_1 := n_nle (by decide : (200 : Int32).toInt = 200) (rfl : v9_8.toInt = v9_8.toInt) hc_1
        refine lv_lload hx hb dX11_greatestDivisor_17 (lv_at hl 1 rfl) ?_
        refine lv_lconst (v := 0) hx hb dX11_greatestDivisor_19 (by decide) ?_
        refine W.lcmp hx hb dX11_greatestDivisor_20 ?_
        refine lv_if_le (tgt := 45) hx hb dX11_greatestDivisor_21 (by decide) (fun hc_2 => ?_) (fun hc_2 => ?_)
        · have hhc_2 := j_cleP (rfl : v9_6.toInt = v9_6.toInt) (by decide : (0 : Int64).toInt = 0) hc_2
          exact HJ45 _ _ ls hP hS (lv_sub hl [2] rfl)
        · have hhc_2 := j_cgtN (rfl : v9_6.toInt = v9_6.toInt) (by decide : (0 : Int64).toInt = 0) hc_2
          refine lv_lload hx hb dX11_greatestDivisor_24 (lv_at hl 2 rfl) ?_
          refine lv_lload hx hb dX11_greatestDivisor_26 (lv_at hl 1 rfl) ?_
          refine lv_lrem hx hb dX11_greatestDivisor_28 (fun q => by have := congrArg Int64.toInt q; have e0 : (0 : Int64).toInt = 0 := (by decide); omega) ?_
          refine lv_topl (fun z_3 ez_3 => ?_)
          refine lv_lstore (lv' := [(9, .long z_3), (8, .int v9_8), (6, .long v9_6), (4, .long v9_4)]) hx hb dX11_greatestDivisor_29 hl (by decide) rfl (fun ls hl => ?_)
          refine lv_lload hx hb dX11_greatestDivisor_31 (lv_at hl 2 rfl) ?_
          refine lv_lstore (lv' := [(4, .long v9_6), (9, .long z_3), (8, .int v9_8), (6, .long v9_6)]) hx hb dX11_greatestDivisor_33 hl (by decide) rfl (fun ls hl => ?_)
          refine lv_lload hx hb dX11_greatestDivisor_35 (lv_at hl 1 rfl) ?_
          refine lv_lstore (lv' := [(6, .long z_3), (4, .long v9_6), (9, .long z_3), (8, .int v9_8)]) hx hb dX11_greatestDivisor_37 hl (by decide) rfl (fun ls hl => ?_)
          obtain ⟨x_4, ex_4⟩ : ∃ y : Int32, y = v9_8 + 1 := ⟨_, rfl⟩
          have hx_4 : x_4.toInt = v9_8.toInt + 1 := n_add rfl (by decide : (1 : Int32).toInt = 1) ex_4 (by omega) (by omega)
          refine lv_iinc (v := x_4) (lv' := [(8, .int x_4), (6, .long z_3), (4, .long v9_6), (9, .long z_3)]) hx hb dX11_greatestDivisor_39 hl (k := 3) rfl (by rw [ex_4]; rfl) (by decide) rfl (fun ls hl => ?_)
          refine lv_goto (tgt := 9) hx hb dX11_greatestDivisor_42 (by decide) ?_
          exact ih9 x_4 z_3 v9_6 _ _ ls (by omega) (by omega) hP hS (lv_sub hl [0, 1, 2] rfl)
  have hiv9_8 : (0 : Int32).toInt = 0 := by decide
  exact HL9 _ 0 jb ja _ _ ls (Nat.lt_succ_self _) (by omega) hP hS (lv_sub hl [0, 1, 2] rfl)

theorem dX11_count_0 : decode cX11_count 0 = .ok (.iload_n 1, 1) := by decide +kernel
theorem dX11_count_1 : decode cX11_count 1 = .ok (.tableswitch 147 0 10 #[59, 67, 75, 83, 91, 99, 107, 115, 126, 134, 142], 59) := by decide +kernel
theorem dX11_count_143 : decode cX11_count 143 = .ok (.aload_n 0, 1) := by decide +kernel
theorem dX11_count_144 : decode cX11_count 144 = .ok (.invokevirtual 374, 3) := by decide +kernel
theorem dX11_count_147 : decode cX11_count 147 = .ok (.ireturn, 1) := by decide +kernel
theorem dX11_count_135 : decode cX11_count 135 = .ok (.aload_n 0, 1) := by decide +kernel
theorem dX11_count_136 : decode cX11_count 136 = .ok (.getfield 12, 3) := by decide +kernel
theorem dX11_count_139 : decode cX11_count 139 = .ok (.getfield 93, 3) := by decide +kernel
theorem dX11_count_142 : decode cX11_count 142 = .ok (.ireturn, 1) := by decide +kernel
theorem dX11_count_127 : decode cX11_count 127 = .ok (.aload_n 0, 1) := by decide +kernel
theorem dX11_count_128 : decode cX11_count 128 = .ok (.getfield 19, 3) := by decide +kernel
theorem dX11_count_131 : decode cX11_count 131 = .ok (.getfield 112, 3) := by decide +kernel
theorem dX11_count_134 : decode cX11_count 134 = .ok (.ireturn, 1) := by decide +kernel
theorem dX11_count_116 : decode cX11_count 116 = .ok (.aload_n 0, 1) := by decide +kernel
theorem dX11_count_117 : decode cX11_count 117 = .ok (.getfield 19, 3) := by decide +kernel
theorem dX11_count_120 : decode cX11_count 120 = .ok (.getfield 340, 3) := by decide +kernel
theorem dX11_count_123 : decode cX11_count 123 = .ok (.getfield 352, 3) := by decide +kernel
theorem dX11_count_126 : decode cX11_count 126 = .ok (.ireturn, 1) := by decide +kernel
theorem dX11_count_108 : decode cX11_count 108 = .ok (.aload_n 0, 1) := by decide +kernel
theorem dX11_count_109 : decode cX11_count 109 = .ok (.getfield 19, 3) := by decide +kernel
theorem dX11_count_112 : decode cX11_count 112 = .ok (.getfield 226, 3) := by decide +kernel
theorem dX11_count_115 : decode cX11_count 115 = .ok (.ireturn, 1) := by decide +kernel
theorem dX11_count_100 : decode cX11_count 100 = .ok (.aload_n 0, 1) := by decide +kernel
theorem dX11_count_101 : decode cX11_count 101 = .ok (.getfield 19, 3) := by decide +kernel
theorem dX11_count_104 : decode cX11_count 104 = .ok (.getfield 160, 3) := by decide +kernel
theorem dX11_count_107 : decode cX11_count 107 = .ok (.ireturn, 1) := by decide +kernel
theorem dX11_count_92 : decode cX11_count 92 = .ok (.aload_n 0, 1) := by decide +kernel
theorem dX11_count_93 : decode cX11_count 93 = .ok (.getfield 19, 3) := by decide +kernel
theorem dX11_count_96 : decode cX11_count 96 = .ok (.getfield 208, 3) := by decide +kernel
theorem dX11_count_99 : decode cX11_count 99 = .ok (.ireturn, 1) := by decide +kernel
theorem dX11_count_84 : decode cX11_count 84 = .ok (.aload_n 0, 1) := by decide +kernel
theorem dX11_count_85 : decode cX11_count 85 = .ok (.getfield 19, 3) := by decide +kernel
theorem dX11_count_88 : decode cX11_count 88 = .ok (.getfield 177, 3) := by decide +kernel
theorem dX11_count_91 : decode cX11_count 91 = .ok (.ireturn, 1) := by decide +kernel
theorem dX11_count_76 : decode cX11_count 76 = .ok (.aload_n 0, 1) := by decide +kernel
theorem dX11_count_77 : decode cX11_count 77 = .ok (.getfield 19, 3) := by decide +kernel
theorem dX11_count_80 : decode cX11_count 80 = .ok (.getfield 371, 3) := by decide +kernel
theorem dX11_count_83 : decode cX11_count 83 = .ok (.ireturn, 1) := by decide +kernel
theorem dX11_count_68 : decode cX11_count 68 = .ok (.aload_n 0, 1) := by decide +kernel
theorem dX11_count_69 : decode cX11_count 69 = .ok (.getfield 19, 3) := by decide +kernel
theorem dX11_count_72 : decode cX11_count 72 = .ok (.getfield 368, 3) := by decide +kernel
theorem dX11_count_75 : decode cX11_count 75 = .ok (.ireturn, 1) := by decide +kernel
theorem dX11_count_60 : decode cX11_count 60 = .ok (.aload_n 0, 1) := by decide +kernel
theorem dX11_count_61 : decode cX11_count 61 = .ok (.getfield 19, 3) := by decide +kernel
theorem dX11_count_64 : decode cX11_count 64 = .ok (.getfield 248, 3) := by decide +kernel
theorem dX11_count_67 : decode cX11_count 67 = .ok (.ireturn, 1) := by decide +kernel
theorem dX11_count_148 : decode cX11_count 148 = .ok (.iconst (-1), 1) := by decide +kernel
theorem dX11_count_149 : decode cX11_count 149 = .ok (.ireturn, 1) := by decide +kernel
noncomputable def vX11_count : List Cond := .code yX11_count cX11_count 2 (some .int) :: (([.methodLink RX11 374 yX11_slotsLaid, .instanceMethod yX11_slotsLaid, .selects RX11 yX11_slotsLaid yX11_slotsLaid, .initialized RX11, .fieldLink RX11 12 "IcicleClock" "tape" "LIcicleClock$Tape;", .fieldLink RX11 93 "IcicleClock$Tape" "filled" "I", .fieldLink RX11 19 "IcicleClock" "now" "LIcicleClock$Street;", .fieldLink RX11 112 "IcicleClock$Street" "lines" "I", .fieldLink RX11 340 "IcicleClock$Street" "acts" "LIcicleClock$Acts;", .fieldLink RX11 352 "IcicleClock$Acts" "done" "I", .fieldLink RX11 226 "IcicleClock$Street" "works" "I", .fieldLink RX11 160 "IcicleClock$Street" "icicles" "I", .fieldLink RX11 208 "IcicleClock$Street" "eaves" "I", .fieldLink RX11 177 "IcicleClock$Street" "days" "I", .fieldLink RX11 371 "IcicleClock$Street" "odds" "I", .fieldLink RX11 368 "IcicleClock$Street" "bellTakes" "I", .fieldLink RX11 248 "IcicleClock$Street" "slamTakes" "I"] : List Cond) ++ (wsX110 ++ (wsX70 ++ (wsX60 ++ (wsX00 ++ vX11_slotsLaid)))))
theorem iX11_count_11 : ∀ w ∈ wsX110, w ∈ vX11_count := fun _ h => List.mem_cons_of_mem _ (List.mem_append_right _ (List.mem_append_left _ h))
theorem iX11_count_7 : ∀ w ∈ wsX70, w ∈ vX11_count := fun _ h => List.mem_cons_of_mem _ (List.mem_append_right _ (List.mem_append_right _ (List.mem_append_left _ h)))
theorem iX11_count_6 : ∀ w ∈ wsX60, w ∈ vX11_count := fun _ h => List.mem_cons_of_mem _ (List.mem_append_right _ (List.mem_append_right _ (List.mem_append_right _ (List.mem_append_left _ h))))
theorem iX11_count_0 : ∀ w ∈ wsX00, w ∈ vX11_count := fun _ h => List.mem_cons_of_mem _ (List.mem_append_right _ (List.mem_append_right _ (List.mem_append_right _ (List.mem_append_right _ (List.mem_append_left _ h)))))
theorem gs_X11_count : Gd vX11_count := Gd.cons (by decide +kernel) (Gd.app (Gd.r (by decide +kernel)) (Gd.app gwX_11 (Gd.app gwX_7 (Gd.app gwX_6 (Gd.app gwX_0 gs_X11_slotsLaid)))))
theorem gg_X11_count_X11_slotsLaid : GoodIn vX11_count (wsV RX11 374 RX11 yX11_slotsLaid vX11_slotsLaid) := goodIn_app (goodIn_r _ [1, 2, 3, 4] (by decide +kernel) (by decide +kernel)) (fun w h => ⟨List.mem_cons_of_mem _ (List.mem_append_right _ (List.mem_append_right _ (List.mem_append_right _ (List.mem_append_right _ (List.mem_append_right _ (h)))))), gs_X11_slotsLaid w h⟩)
set_option maxHeartbeats 4000000 in
set_option maxRecDepth 100000 in
theorem s_X11_count (l : Launch) (D : va_G) (cs : Nat → ClassId) (ad : Nat → Nat) (kS : kSt) (K : sK) (hKO : KO K) (hj : wJ ad 218) (g : Nat → va_E) (hW : WF (shp ad K) ad cs g) (wh : Int32) : sI l yX11_count vX11_count { frames := 1, cells := 0, slots := 0, locals := 22 } D cs ad kS [.ref (ad 0), .int wh] g (fun r g2 => g2 = g) := by
  refine Met.startS (cc := cX11_count) (maxL := 2) (ret := (some .int)) RX11 rfl (by decide) rfl (Nat.le_of_ble_eq_true rfl) ?_
  intro p e s m below meth c ls X Z hP hl
  have hx := X.1
  have hb := X.2.1
  have hS : va_S (wA ad 218) s.heap s.heap [] := va_S.rf
  have hA : ∀ i, i < 218 → wA ad 218 (ad i) := fun i h => ⟨i, h, rfl⟩
  have hl : lv_has ls 2 [(0, .ref (ad 0)), (1, .int wh)] := hl
  refine lv_iload_n hx hb dX11_count_0 rfl (lv_at hl 1 rfl) ?_
  by_cases hs_1 : wh.toInt < 0 ∨ 10 < wh.toInt
  · refine lv_tableOut (tgt := 148) hx hb dX11_count_1 hs_1 (by decide) ?_
    refine lv_iconst (v := (-1)) hx hb dX11_count_148 (by decide) ?_
    exact q_iret X hP hS rfl dX11_count_149
  rcases (by omega : wh.toInt = 0 ∨ wh.toInt = 1 ∨ wh.toInt = 2 ∨ wh.toInt = 3 ∨ wh.toInt = 4 ∨ wh.toInt = 5 ∨ wh.toInt = 6 ∨ wh.toInt = 7 ∨ wh.toInt = 8 ∨ wh.toInt = 9 ∨ wh.toInt = 10) with j_2 | j_2 | j_2 | j_2 | j_2 | j_2 | j_2 | j_2 | j_2 | j_2 | j_2
  · refine lv_tableIn (off := 59) (tgt := 60) hx hb dX11_count_1 (by omega) (by omega) (by rw [j_2]; rfl) (by decide) ?_
    refine lv_aload_n hx hb dX11_count_60 rfl (lv_at hl 0 rfl) ?_
    obtain ⟨fsc_3, hgc_3, hOc_3⟩ := hW.obj (i := 0) (by decide) (sh_0 ad K)
    have hk_4 := hOc_3.ref 1 rfl
    refine q_get X iX11_count_11 hP (by decide) hgc_3 rfl 1 (by decide) (List.mem_of_getElem? (i := 7) rfl) (v := .ref (ad 3)) hk_4 dX11_count_61 ?_
    obtain ⟨fsc_5, hgc_5, hOc_5⟩ := hW.obj (i := 3) (by decide) (sh_3 ad K)
    obtain ⟨x_7, hk_6, -⟩ := hOc_5.int 0 rfl
    refine q_get X iX11_count_6 hP (by decide) hgc_5 rfl 0 (by decide) (List.mem_of_getElem? (i := 17) rfl) (v := .int x_7) hk_6 dX11_count_64 ?_
    exact q_iret X hP hS rfl dX11_count_67
  · refine lv_tableIn (off := 67) (tgt := 68) hx hb dX11_count_1 (by omega) (by omega) (by rw [j_2]; rfl) (by decide) ?_
    refine lv_aload_n hx hb dX11_count_68 rfl (lv_at hl 0 rfl) ?_
    obtain ⟨fsc_8, hgc_8, hOc_8⟩ := hW.obj (i := 0) (by decide) (sh_0 ad K)
    have hk_9 := hOc_8.ref 1 rfl
    refine q_get X iX11_count_11 hP (by decide) hgc_8 rfl 1 (by decide) (List.mem_of_getElem? (i := 7) rfl) (v := .ref (ad 3)) hk_9 dX11_count_69 ?_
    obtain ⟨fsc_10, hgc_10, hOc_10⟩ := hW.obj (i := 3) (by decide) (sh_3 ad K)
    obtain ⟨x_12, hk_11, -⟩ := hOc_10.int 1 rfl
    refine q_get X iX11_count_6 hP (by decide) hgc_10 rfl 1 (by decide) (List.mem_of_getElem? (i := 16) rfl) (v := .int x_12) hk_11 dX11_count_72 ?_
    exact q_iret X hP hS rfl dX11_count_75
  · refine lv_tableIn (off := 75) (tgt := 76) hx hb dX11_count_1 (by omega) (by omega) (by rw [j_2]; rfl) (by decide) ?_
    refine lv_aload_n hx hb dX11_count_76 rfl (lv_at hl 0 rfl) ?_
    obtain ⟨fsc_13, hgc_13, hOc_13⟩ := hW.obj (i := 0) (by decide) (sh_0 ad K)
    have hk_14 := hOc_13.ref 1 rfl
    refine q_get X iX11_count_11 hP (by decide) hgc_13 rfl 1 (by decide) (List.mem_of_getElem? (i := 7) rfl) (v := .ref (ad 3)) hk_14 dX11_count_77 ?_
    obtain ⟨fsc_15, hgc_15, hOc_15⟩ := hW.obj (i := 3) (by decide) (sh_3 ad K)
    obtain ⟨x_17, hk_16, -⟩ := hOc_15.int 2 rfl
    refine q_get X iX11_count_6 hP (by decide) hgc_15 rfl 2 (by decide) (List.mem_of_getElem? (i := 15) rfl) (v := .int x_17) hk_16 dX11_count_80 ?_
    exact q_iret X hP hS rfl dX11_count_83
  · refine lv_tableIn (off := 83) (tgt := 84) hx hb dX11_count_1 (by omega) (by omega) (by rw [j_2]; rfl) (by decide) ?_
    refine lv_aload_n hx hb dX11_count_84 rfl (lv_at hl 0 rfl) ?_
    obtain ⟨fsc_18, hgc_18, hOc_18⟩ := hW.obj (i := 0) (by decide) (sh_0 ad K)
    have hk_19 := hOc_18.ref 1 rfl
    refine q_get X iX11_count_11 hP (by decide) hgc_18 rfl 1 (by decide) (List.mem_of_getElem? (i := 7) rfl) (v := .ref (ad 3)) hk_19 dX11_count_85 ?_
    obtain ⟨fsc_20, hgc_20, hOc_20⟩ := hW.obj (i := 3) (by decide) (sh_3 ad K)
    obtain ⟨x_22, hk_21, hlx_22, hhx_22⟩ := hOc_20.int 3 rfl
    refine q_get X iX11_count_6 hP (by decide) hgc_20 rfl 3 (by decide) (List.mem_of_getElem? (i := 14) rfl) (v := .int x_22) hk_21 dX11_count_88 ?_
    exact q_iret X hP hS rfl dX11_count_91
  · refine lv_tableIn (off := 91) (tgt := 92) hx hb dX11_count_1 (by omega) (by omega) (by rw [j_2]; rfl) (by decide) ?_
    refine lv_aload_n hx hb dX11_count_92 rfl (lv_at hl 0 rfl) ?_
    obtain ⟨fsc_23, hgc_23, hOc_23⟩ := hW.obj (i := 0) (by decide) (sh_0 ad K)
    have hk_24 := hOc_23.ref 1 rfl
    refine q_get X iX11_count_11 hP (by decide) hgc_23 rfl 1 (by decide) (List.mem_of_getElem? (i := 7) rfl) (v := .ref (ad 3)) hk_24 dX11_count_93 ?_
    obtain ⟨fsc_25, hgc_25, hOc_25⟩ := hW.obj (i := 3) (by decide) (sh_3 ad K)
    obtain ⟨x_27, hk_26, hlx_27, hhx_27⟩ := hOc_25.int 4 rfl
    refine q_get X iX11_count_6 hP (by decide) hgc_25 rfl 4 (by decide) (List.mem_of_getElem? (i := 13) rfl) (v := .int x_27) hk_26 dX11_count_96 ?_
    exact q_iret X hP hS rfl dX11_count_99
  · refine lv_tableIn (off := 99) (tgt := 100) hx hb dX11_count_1 (by omega) (by omega) (by rw [j_2]; rfl) (by decide) ?_
    refine lv_aload_n hx hb dX11_count_100 rfl (lv_at hl 0 rfl) ?_
    obtain ⟨fsc_28, hgc_28, hOc_28⟩ := hW.obj (i := 0) (by decide) (sh_0 ad K)
    have hk_29 := hOc_28.ref 1 rfl
    refine q_get X iX11_count_11 hP (by decide) hgc_28 rfl 1 (by decide) (List.mem_of_getElem? (i := 7) rfl) (v := .ref (ad 3)) hk_29 dX11_count_101 ?_
    obtain ⟨fsc_30, hgc_30, hOc_30⟩ := hW.obj (i := 3) (by decide) (sh_3 ad K)
    obtain ⟨x_32, hk_31, hlx_32, hhx_32⟩ := hOc_30.int 5 rfl
    refine q_get X iX11_count_6 hP (by decide) hgc_30 rfl 5 (by decide) (List.mem_of_getElem? (i := 12) rfl) (v := .int x_32) hk_31 dX11_count_104 ?_
    exact q_iret X hP hS rfl dX11_count_107
  · refine lv_tableIn (off := 107) (tgt := 108) hx hb dX11_count_1 (by omega) (by omega) (by rw [j_2]; rfl) (by decide) ?_
    refine lv_aload_n hx hb dX11_count_108 rfl (lv_at hl 0 rfl) ?_
    obtain ⟨fsc_33, hgc_33, hOc_33⟩ := hW.obj (i := 0) (by decide) (sh_0 ad K)
    have hk_34 := hOc_33.ref 1 rfl
    refine q_get X iX11_count_11 hP (by decide) hgc_33 rfl 1 (by decide) (List.mem_of_getElem? (i := 7) rfl) (v := .ref (ad 3)) hk_34 dX11_count_109 ?_
    obtain ⟨fsc_35, hgc_35, hOc_35⟩ := hW.obj (i := 3) (by decide) (sh_3 ad K)
    obtain ⟨x_37, hk_36, hlx_37, hhx_37⟩ := hOc_35.int 6 rfl
    refine q_get X iX11_count_6 hP (by decide) hgc_35 rfl 6 (by decide) (List.mem_of_getElem? (i := 11) rfl) (v := .int x_37) hk_36 dX11_count_112 ?_
    exact q_iret X hP hS rfl dX11_count_115
  · refine lv_tableIn (off := 115) (tgt := 116) hx hb dX11_count_1 (by omega) (by omega) (by rw [j_2]; rfl) (by decide) ?_
    refine lv_aload_n hx hb dX11_count_116 rfl (lv_at hl 0 rfl) ?_
    obtain ⟨fsc_38, hgc_38, hOc_38⟩ := hW.obj (i := 0) (by decide) (sh_0 ad K)
    have hk_39 := hOc_38.ref 1 rfl
    refine q_get X iX11_count_11 hP (by decide) hgc_38 rfl 1 (by decide) (List.mem_of_getElem? (i := 7) rfl) (v := .ref (ad 3)) hk_39 dX11_count_117 ?_
    obtain ⟨fsc_40, hgc_40, hOc_40⟩ := hW.obj (i := 3) (by decide) (sh_3 ad K)
    have hk_41 := hOc_40.ref 17 rfl
    refine q_get X iX11_count_6 hP (by decide) hgc_40 rfl 17 (by decide) (List.mem_of_getElem? (i := 9) rfl) (v := .ref (ad 13)) hk_41 dX11_count_120 ?_
    obtain ⟨fsc_42, hgc_42, hOc_42⟩ := hW.obj (i := 13) (by decide) (sh_13 ad K)
    obtain ⟨x_44, hk_43, hlx_44, hhx_44⟩ := hOc_42.int 0 rfl
    refine q_get X iX11_count_0 hP (by decide) hgc_42 rfl 0 (by decide) (List.mem_of_getElem? (i := 10) rfl) (v := .int x_44) hk_43 dX11_count_123 ?_
    exact q_iret X hP hS rfl dX11_count_126
  · refine lv_tableIn (off := 126) (tgt := 127) hx hb dX11_count_1 (by omega) (by omega) (by rw [j_2]; rfl) (by decide) ?_
    refine lv_aload_n hx hb dX11_count_127 rfl (lv_at hl 0 rfl) ?_
    obtain ⟨fsc_45, hgc_45, hOc_45⟩ := hW.obj (i := 0) (by decide) (sh_0 ad K)
    have hk_46 := hOc_45.ref 1 rfl
    refine q_get X iX11_count_11 hP (by decide) hgc_45 rfl 1 (by decide) (List.mem_of_getElem? (i := 7) rfl) (v := .ref (ad 3)) hk_46 dX11_count_128 ?_
    obtain ⟨fsc_47, hgc_47, hOc_47⟩ := hW.obj (i := 3) (by decide) (sh_3 ad K)
    obtain ⟨x_49, hk_48, -⟩ := hOc_47.int 7 rfl
    refine q_get X iX11_count_6 hP (by decide) hgc_47 rfl 7 (by decide) (List.mem_of_getElem? (i := 8) rfl) (v := .int x_49) hk_48 dX11_count_131 ?_
    exact q_iret X hP hS rfl dX11_count_134
  · refine lv_tableIn (off := 134) (tgt := 135) hx hb dX11_count_1 (by omega) (by omega) (by rw [j_2]; rfl) (by decide) ?_
    refine lv_aload_n hx hb dX11_count_135 rfl (lv_at hl 0 rfl) ?_
    obtain ⟨fsc_50, hgc_50, hOc_50⟩ := hW.obj (i := 0) (by decide) (sh_0 ad K)
    have hk_51 := hOc_50.ref 0 rfl
    refine q_get X iX11_count_11 hP (by decide) hgc_50 rfl 0 (by decide) (List.mem_of_getElem? (i := 5) rfl) (v := .ref (ad 1)) hk_51 dX11_count_136 ?_
    obtain ⟨fsc_52, hgc_52, hOc_52⟩ := hW.obj (i := 1) (by decide) (sh_1 ad K)
    obtain ⟨x_54, hk_53, hlx_54, hhx_54⟩ := hOc_52.int 1 rfl
    refine q_get X iX11_count_7 hP (by decide) hgc_52 rfl 1 (by decide) (List.mem_of_getElem? (i := 6) rfl) (v := .int x_54) hk_53 dX11_count_139 ?_
    exact q_iret X hP hS rfl dX11_count_142
  · refine lv_tableIn (off := 142) (tgt := 143) hx hb dX11_count_1 (by omega) (by omega) (by rw [j_2]; rfl) (by decide) ?_
    refine lv_aload_n hx hb dX11_count_143 rfl (lv_at hl 0 rfl) ?_
    obtain ⟨fsc_58, hgc_58, hOc_58⟩ := hW.obj (i := 0) (by decide) (sh_0 ad K)
    refine s_calli (q := (RX11, TX11, 14)) (As := []) (rest := []) X Z (s_X11_slotsLaid l D cs ad kS K hKO hj g hW) (cwV 0 X.2.2.2.2.1 gg_X11_count_X11_slotsLaid rfl rfl rfl (by decide +kernel) ⟨Nat.le_of_ble_eq_true rfl, Nat.le_of_ble_eq_true rfl⟩) (by decide) hgc_58 rfl hP hA hS.2.1 hS rfl hl.1 rfl (Nat.le_of_ble_eq_true rfl) dX11_count_144 ⟨Nat.le_of_ble_eq_true rfl, Nat.le_of_ble_eq_true rfl⟩ (fun r_57 g_56 H locs hw_55 hP hS => ?_)
    rw [hw_55] at hP
    exact q_iret X hP hS rfl dX11_count_147

theorem dX11_fault_0 : decode cX11_fault 0 = .ok (.iload_n 1, 1) := by decide +kernel
theorem dX11_fault_1 : decode cX11_fault 1 = .ok (.ifCond .ne 11, 3) := by decide +kernel
theorem dX11_fault_4 : decode cX11_fault 4 = .ok (.aload_n 0, 1) := by decide +kernel
theorem dX11_fault_5 : decode cX11_fault 5 = .ok (.getfield 12, 3) := by decide +kernel
theorem dX11_fault_8 : decode cX11_fault 8 = .ok (.getfield 115, 3) := by decide +kernel
theorem dX11_fault_11 : decode cX11_fault 11 = .ok (.ireturn, 1) := by decide +kernel
theorem dX11_fault_12 : decode cX11_fault 12 = .ok (.iload_n 1, 1) := by decide +kernel
theorem dX11_fault_13 : decode cX11_fault 13 = .ok (.iconst 1, 1) := by decide +kernel
theorem dX11_fault_14 : decode cX11_fault 14 = .ok (.if_icmp .ne 13, 3) := by decide +kernel
theorem dX11_fault_17 : decode cX11_fault 17 = .ok (.aload_n 0, 1) := by decide +kernel
theorem dX11_fault_18 : decode cX11_fault 18 = .ok (.getfield 12, 3) := by decide +kernel
theorem dX11_fault_21 : decode cX11_fault 21 = .ok (.getfield 118, 3) := by decide +kernel
theorem dX11_fault_24 : decode cX11_fault 24 = .ok (.goto 4, 3) := by decide +kernel
theorem dX11_fault_27 : decode cX11_fault 27 = .ok (.iconst (-1), 1) := by decide +kernel
theorem dX11_fault_28 : decode cX11_fault 28 = .ok (.ireturn, 1) := by decide +kernel
noncomputable def vX11_fault : List Cond := .code yX11_fault cX11_fault 2 (some .int) :: (([.fieldLink RX11 12 "IcicleClock" "tape" "LIcicleClock$Tape;", .fieldLink RX11 115 "IcicleClock$Tape" "fault" "I", .fieldLink RX11 118 "IcicleClock$Tape" "faultPlace" "I"] : List Cond) ++ (wsX110 ++ wsX70))
theorem iX11_fault_11 : ∀ w ∈ wsX110, w ∈ vX11_fault := fun _ h => List.mem_cons_of_mem _ (List.mem_append_right _ (List.mem_append_left _ h))
theorem iX11_fault_7 : ∀ w ∈ wsX70, w ∈ vX11_fault := fun _ h => List.mem_cons_of_mem _ (List.mem_append_right _ (List.mem_append_right _ (h)))
theorem gs_X11_fault : Gd vX11_fault := Gd.cons (by decide +kernel) (Gd.app (Gd.r (by decide +kernel)) (Gd.app gwX_11 gwX_7))
set_option maxHeartbeats 4000000 in
set_option maxRecDepth 100000 in
theorem s_X11_fault (l : Launch) (D : va_G) (cs : Nat → ClassId) (ad : Nat → Nat) (kS : kSt) (K : sK) (hKO : KO K) (hj : wJ ad 218) (g : Nat → va_E) (hW : WF (shp ad K) ad cs g) (wh : Int32) : sI l yX11_fault vX11_fault { frames := 0, cells := 0, slots := 0, locals := 0 } D cs ad kS [.ref (ad 0), .int wh] g (fun r g2 => g2 = g) := by
  refine Met.startS (cc := cX11_fault) (maxL := 2) (ret := (some .int)) RX11 rfl (by decide) rfl (Nat.le_of_ble_eq_true rfl) ?_
  intro p e s m below meth c ls X Z hP hl
  have hx := X.1
  have hb := X.2.1
  have hS : va_S (wA ad 218) s.heap s.heap [] := va_S.rf
  have hA : ∀ i, i < 218 → wA ad 218 (ad i) := fun i h => ⟨i, h, rfl⟩
  have hl : lv_has ls 2 [(0, .ref (ad 0)), (1, .int wh)] := hl
  refine lv_iload_n hx hb dX11_fault_0 rfl (lv_at hl 1 rfl) ?_
  refine lv_if_ne (tgt := 12) hx hb dX11_fault_1 (by decide) (fun hc_1 => ?_) (fun hc_1 => ?_)
  · have hhc_1 := n_ne (rfl : wh.toInt = wh.toInt) (by decide : (0 : Int32).toInt = 0) hc_1
    refine lv_iload_n hx hb dX11_fault_12 rfl (lv_at hl 1 rfl) ?_
    refine lv_iconst (v := 1) hx hb dX11_fault_13 (by decide) ?_
    refine lv_icmp_ne (tgt := 27) hx hb dX11_fault_14 (by decide) (fun hc_2 => ?_) (fun hc_2 => ?_)
    · have hhc_2 := n_ne (rfl : wh.toInt = wh.toInt) (by decide : (1 : Int32).toInt = 1) hc_2
      refine lv_iconst (v := (-1)) hx hb dX11_fault_27 (by decide) ?_
      exact q_iret X hP hS rfl dX11_fault_28
    · have hhc_2 := n_eq (rfl : wh.toInt = wh.toInt) (by decide : (1 : Int32).toInt = 1) hc_2
      refine lv_aload_n hx hb dX11_fault_17 rfl (lv_at hl 0 rfl) ?_
      obtain ⟨fsc_3, hgc_3, hOc_3⟩ := hW.obj (i := 0) (by decide) (sh_0 ad K)
      have hk_4 := hOc_3.ref 0 rfl
      refine q_get X iX11_fault_11 hP (by decide) hgc_3 rfl 0 (by decide) (List.mem_of_getElem? (i := 1) rfl) (v := .ref (ad 1)) hk_4 dX11_fault_18 ?_
      obtain ⟨fsc_5, hgc_5, hOc_5⟩ := hW.obj (i := 1) (by decide) (sh_1 ad K)
      obtain ⟨x_7, hk_6, -⟩ := hOc_5.int 3 rfl
      refine q_get X iX11_fault_7 hP (by decide) hgc_5 rfl 3 (by decide) (List.mem_of_getElem? (i := 3) rfl) (v := .int x_7) hk_6 dX11_fault_21 ?_
      refine lv_goto (tgt := 28) hx hb dX11_fault_24 (by decide) ?_
      exact q_iret X hP hS rfl dX11_fault_28
  · have hhc_1 := n_eq (rfl : wh.toInt = wh.toInt) (by decide : (0 : Int32).toInt = 0) hc_1
    refine lv_aload_n hx hb dX11_fault_4 rfl (lv_at hl 0 rfl) ?_
    obtain ⟨fsc_8, hgc_8, hOc_8⟩ := hW.obj (i := 0) (by decide) (sh_0 ad K)
    have hk_9 := hOc_8.ref 0 rfl
    refine q_get X iX11_fault_11 hP (by decide) hgc_8 rfl 0 (by decide) (List.mem_of_getElem? (i := 1) rfl) (v := .ref (ad 1)) hk_9 dX11_fault_5 ?_
    obtain ⟨fsc_10, hgc_10, hOc_10⟩ := hW.obj (i := 1) (by decide) (sh_1 ad K)
    obtain ⟨x_12, hk_11, -⟩ := hOc_10.int 2 rfl
    refine q_get X iX11_fault_7 hP (by decide) hgc_10 rfl 2 (by decide) (List.mem_of_getElem? (i := 2) rfl) (v := .int x_12) hk_11 dX11_fault_8 ?_
    exact q_iret X hP hS rfl dX11_fault_11

theorem dX5_covers_0 : decode cX5_covers 0 = .ok (.iload_n 1, 1) := by decide +kernel
theorem dX5_covers_1 : decode cX5_covers 1 = .ok (.ifCond .lt 29, 3) := by decide +kernel
theorem dX5_covers_4 : decode cX5_covers 4 = .ok (.iload_n 2, 1) := by decide +kernel
theorem dX5_covers_5 : decode cX5_covers 5 = .ok (.ifCond .lt 25, 3) := by decide +kernel
theorem dX5_covers_8 : decode cX5_covers 8 = .ok (.iload_n 2, 1) := by decide +kernel
theorem dX5_covers_9 : decode cX5_covers 9 = .ok (.aload_n 0, 1) := by decide +kernel
theorem dX5_covers_10 : decode cX5_covers 10 = .ok (.getfield 29, 3) := by decide +kernel
theorem dX5_covers_13 : decode cX5_covers 13 = .ok (.if_icmp .gt 17, 3) := by decide +kernel
theorem dX5_covers_16 : decode cX5_covers 16 = .ok (.iload_n 1, 1) := by decide +kernel
theorem dX5_covers_17 : decode cX5_covers 17 = .ok (.aload_n 0, 1) := by decide +kernel
theorem dX5_covers_18 : decode cX5_covers 18 = .ok (.getfield 29, 3) := by decide +kernel
theorem dX5_covers_21 : decode cX5_covers 21 = .ok (.iload_n 2, 1) := by decide +kernel
theorem dX5_covers_22 : decode cX5_covers 22 = .ok (.isub, 1) := by decide +kernel
theorem dX5_covers_23 : decode cX5_covers 23 = .ok (.if_icmp .gt 7, 3) := by decide +kernel
theorem dX5_covers_26 : decode cX5_covers 26 = .ok (.iconst 1, 1) := by decide +kernel
theorem dX5_covers_27 : decode cX5_covers 27 = .ok (.goto 4, 3) := by decide +kernel
theorem dX5_covers_30 : decode cX5_covers 30 = .ok (.iconst 0, 1) := by decide +kernel
theorem dX5_covers_31 : decode cX5_covers 31 = .ok (.ireturn, 1) := by decide +kernel
noncomputable def vX5_covers : List Cond := .code yX5_covers cX5_covers 3 (some .boolean) :: (([.fieldLink RX5 29 "IcicleClock$Slot" "held" "I"] : List Cond) ++ wsX50)
theorem iX5_covers_5 : ∀ w ∈ wsX50, w ∈ vX5_covers := fun _ h => List.mem_cons_of_mem _ (List.mem_append_right _ (h))
theorem gs_X5_covers : Gd vX5_covers := Gd.cons (by decide +kernel) (Gd.app (Gd.r (by decide +kernel)) gwX_5)
set_option maxHeartbeats 4000000 in
set_option maxRecDepth 100000 in
theorem s_X5_covers (l : Launch) (D : va_G) (cs : Nat → ClassId) (ad : Nat → Nat) (kS : kSt) (K : sK) (hKO : KO K) (hj : wJ ad 218) (g : Nat → va_E) (hW : WF (shp ad K) ad cs g) (jj : Nat) (fr : Int32) (nn : Int32) (hp0 : jj < 4) : sI l yX5_covers vX5_covers { frames := 0, cells := 0, slots := 0, locals := 0 } D cs ad kS [.ref (ad (106 + 2 * jj)), .int fr, .int nn] g (fun r g2 => g2 = g ∧ (0 ≤ r.toInt ∧ r.toInt ≤ 1)) := by
  refine Met.startS (cc := cX5_covers) (maxL := 3) (ret := (some .boolean)) RX5 rfl (by decide) rfl (Nat.le_of_ble_eq_true rfl) ?_
  intro p e s m below meth c ls X Z hP hl
  have hx := X.1
  have hb := X.2.1
  have hS : va_S (wA ad 218) s.heap s.heap [] := va_S.rf
  have hA : ∀ i, i < 218 → wA ad 218 (ad i) := fun i h => ⟨i, h, rfl⟩
  have hj_jj := hp0
  have hl : lv_has ls 3 [(0, .ref (ad (106 + 2 * jj))), (1, .int fr), (2, .int nn)] := hl
  refine lv_iload_n hx hb dX5_covers_0 rfl (lv_at hl 1 rfl) ?_
  have HJ30 : ∀ (H : Heap) (locs : List Loc) (ls : Array Slot), va_P D vwCl (wL ad g 218) H → va_S (wA ad 218) s.heap H locs → lv_has ls 3 [] → W p l e ({ frames := 0, cells := 0, slots := 0, locals := 0 } : Room) s m ([.ref (ad (106 + 2 * jj)), .int fr, .int nn] : List Value).toArray below meth c H locs 0 0 (MQ below (qI D ad 218 (fun r g2 => g2 = g ∧ (0 ≤ r.toInt ∧ r.toInt ≤ 1))) ([.ref (ad (106 + 2 * jj)), .int fr, .int nn] : List Value).toArray s 0 0 (wA ad 218)) (F0 m 30 ls []) := by
    intro H locs ls hP hS hl
    refine lv_iconst (v := 0) hx hb dX5_covers_30 (by decide) ?_
    have hr0 : (0 : Int32).toInt = 0 := by decide
    exact q_zret X hP hS rfl ⟨rfl, (by omega)⟩ dX5_covers_31
  refine lv_if_lt (tgt := 30) hx hb dX5_covers_1 (by decide) (fun hc_1 => ?_) (fun hc_1 => ?_)
  · have hhc_1 := n_lt (rfl : fr.toInt = fr.toInt) (by decide : (0 : Int32).toInt = 0) hc_1
    exact HJ30 _ _ ls hP hS (lv_sub hl [] rfl)
  · have hhc_1 := n_nlt (rfl : fr.toInt = fr.toInt) (by decide : (0 : Int32).toInt = 0) hc_1
    refine lv_iload_n hx hb dX5_covers_4 rfl (lv_at hl 2 rfl) ?_
    refine lv_if_lt (tgt := 30) hx hb dX5_covers_5 (by decide) (fun hc_2 => ?_) (fun hc_2 => ?_)
    · have hhc_2 := n_lt (rfl : nn.toInt = nn.toInt) (by decide : (0 : Int32).toInt = 0) hc_2
      exact HJ30 _ _ ls hP hS (lv_sub hl [] rfl)
    · have hhc_2 := n_nlt (rfl : nn.toInt = nn.toInt) (by decide : (0 : Int32).toInt = 0) hc_2
      refine lv_iload_n hx hb dX5_covers_8 rfl (lv_at hl 2 rfl) ?_
      refine lv_aload_n hx hb dX5_covers_9 rfl (lv_at hl 0 rfl) ?_
      obtain ⟨fsc_3, hgc_3, hOc_3⟩ := hW.obj (i := (106 + 2 * jj)) (by omega) (shJ_0 ad K hj_jj)
      obtain ⟨x_5, hk_4, hlx_5, hhx_5⟩ := hOc_3.int 3 rfl
      have hqx_5 := hKO jj
      refine q_get X iX5_covers_5 hP (by omega) hgc_3 rfl 3 (by decide) (List.mem_of_getElem? (i := 1) rfl) (v := .int x_5) hk_4 dX5_covers_10 ?_
      refine lv_icmp_gt (tgt := 30) hx hb dX5_covers_13 (by decide) (fun hc_6 => ?_) (fun hc_6 => ?_)
      · have hhc_6 := n_lt (rfl : x_5.toInt = x_5.toInt) (rfl : nn.toInt = nn.toInt) hc_6
        have := n_hi nn
        exact HJ30 _ _ ls hP hS (lv_sub hl [] rfl)
      · have hhc_6 := n_nlt (rfl : x_5.toInt = x_5.toInt) (rfl : nn.toInt = nn.toInt) hc_6
        have := n_hi nn
        refine lv_iload_n hx hb dX5_covers_16 rfl (lv_at hl 1 rfl) ?_
        refine lv_aload_n hx hb dX5_covers_17 rfl (lv_at hl 0 rfl) ?_
        refine q_get X iX5_covers_5 hP (by omega) hgc_3 rfl 3 (by decide) (List.mem_of_getElem? (i := 1) rfl) (v := .int x_5) hk_4 dX5_covers_18 ?_
        refine lv_iload_n hx hb dX5_covers_21 rfl (lv_at hl 2 rfl) ?_
        refine lv_isub hx hb dX5_covers_22 ?_
        refine lv_topi (fun z_7 ez_7 => ?_)
        have hz_7 : z_7.toInt = x_5.toInt - nn.toInt := n_sub (rfl : x_5.toInt = x_5.toInt) (rfl : nn.toInt = nn.toInt) ez_7 (by omega) (by omega)
        refine lv_icmp_gt (tgt := 30) hx hb dX5_covers_23 (by decide) (fun hc_8 => ?_) (fun hc_8 => ?_)
        · have hhc_8 := n_lt (rfl : z_7.toInt = z_7.toInt) (rfl : fr.toInt = fr.toInt) hc_8
          have := n_hi fr
          exact HJ30 _ _ ls hP hS (lv_sub hl [] rfl)
        · have hhc_8 := n_nlt (rfl : z_7.toInt = z_7.toInt) (rfl : fr.toInt = fr.toInt) hc_8
          have := n_hi fr
          refine lv_iconst (v := 1) hx hb dX5_covers_26 (by decide) ?_
          refine lv_goto (tgt := 31) hx hb dX5_covers_27 (by decide) ?_
          have hr0 : (1 : Int32).toInt = 1 := by decide
          exact q_zret X hP hS rfl ⟨rfl, (by omega)⟩ dX5_covers_31

theorem dX5_cut_0 : decode cX5_cut 0 = .ok (.aload_n 0, 1) := by decide +kernel
theorem dX5_cut_1 : decode cX5_cut 1 = .ok (.getfield 25, 3) := by decide +kernel
theorem dX5_cut_4 : decode cX5_cut 4 = .ok (.tableswitch 42 0 2 #[28, 33, 38], 28) := by decide +kernel
theorem dX5_cut_42 : decode cX5_cut 42 = .ok (.lload_n 1, 1) := by decide +kernel
theorem dX5_cut_43 : decode cX5_cut 43 = .ok (.l2i, 1) := by decide +kernel
theorem dX5_cut_44 : decode cX5_cut 44 = .ok (.i2l, 1) := by decide +kernel
theorem dX5_cut_45 : decode cX5_cut 45 = .ok (.lreturn, 1) := by decide +kernel
theorem dX5_cut_37 : decode cX5_cut 37 = .ok (.lload_n 1, 1) := by decide +kernel
theorem dX5_cut_38 : decode cX5_cut 38 = .ok (.l2i, 1) := by decide +kernel
theorem dX5_cut_39 : decode cX5_cut 39 = .ok (.i2s, 1) := by decide +kernel
theorem dX5_cut_40 : decode cX5_cut 40 = .ok (.i2l, 1) := by decide +kernel
theorem dX5_cut_41 : decode cX5_cut 41 = .ok (.lreturn, 1) := by decide +kernel
theorem dX5_cut_32 : decode cX5_cut 32 = .ok (.lload_n 1, 1) := by decide +kernel
theorem dX5_cut_33 : decode cX5_cut 33 = .ok (.l2i, 1) := by decide +kernel
theorem dX5_cut_34 : decode cX5_cut 34 = .ok (.i2b, 1) := by decide +kernel
theorem dX5_cut_35 : decode cX5_cut 35 = .ok (.i2l, 1) := by decide +kernel
theorem dX5_cut_36 : decode cX5_cut 36 = .ok (.lreturn, 1) := by decide +kernel
theorem dX5_cut_46 : decode cX5_cut 46 = .ok (.lload_n 1, 1) := by decide +kernel
theorem dX5_cut_47 : decode cX5_cut 47 = .ok (.lreturn, 1) := by decide +kernel
noncomputable def vX5_cut : List Cond := .code yX5_cut cX5_cut 3 (some .long) :: (([.fieldLink RX5 25 "IcicleClock$Slot" "width" "I"] : List Cond) ++ wsX50)
theorem iX5_cut_5 : ∀ w ∈ wsX50, w ∈ vX5_cut := fun _ h => List.mem_cons_of_mem _ (List.mem_append_right _ (h))
theorem gs_X5_cut : Gd vX5_cut := Gd.cons (by decide +kernel) (Gd.app (Gd.r (by decide +kernel)) gwX_5)
set_option maxHeartbeats 4000000 in
set_option maxRecDepth 100000 in
theorem s_X5_cut (l : Launch) (D : va_G) (cs : Nat → ClassId) (ad : Nat → Nat) (kS : kSt) (K : sK) (hKO : KO K) (hj : wJ ad 218) (g : Nat → va_E) (hW : WF (shp ad K) ad cs g) (jj : Nat) (vv : Int64) (hp0 : jj < 4) : sJ l yX5_cut vX5_cut { frames := 0, cells := 0, slots := 0, locals := 0 } D cs ad kS [.ref (ad (106 + 2 * jj)), .long vv] g (fun r g2 => g2 = g) := by
  refine Met.startS (cc := cX5_cut) (maxL := 3) (ret := (some .long)) RX5 rfl (by decide) rfl (Nat.le_of_ble_eq_true rfl) ?_
  intro p e s m below meth c ls X Z hP hl
  have hx := X.1
  have hb := X.2.1
  have hS : va_S (wA ad 218) s.heap s.heap [] := va_S.rf
  have hA : ∀ i, i < 218 → wA ad 218 (ad i) := fun i h => ⟨i, h, rfl⟩
  have hj_jj := hp0
  have hl : lv_has ls 3 [(0, .ref (ad (106 + 2 * jj))), (1, .long vv)] := hl
  refine lv_aload_n hx hb dX5_cut_0 rfl (lv_at hl 0 rfl) ?_
  obtain ⟨fsc_1, hgc_1, hOc_1⟩ := hW.obj (i := (106 + 2 * jj)) (by omega) (shJ_0 ad K hj_jj)
  obtain ⟨x_3, hk_2, hlx_3, hhx_3⟩ := hOc_1.int 2 rfl
  have hqx_3 := hKO jj
  refine q_get X iX5_cut_5 hP (by omega) hgc_1 rfl 2 (by decide) (List.mem_of_getElem? (i := 1) rfl) (v := .int x_3) hk_2 dX5_cut_1 ?_
  by_cases hs_4 : x_3.toInt < 0 ∨ 2 < x_3.toInt
  · refine lv_tableOut (tgt := 46) hx hb dX5_cut_4 hs_4 (by decide) ?_
    refine lv_lload_n hx hb dX5_cut_46 rfl (lv_at hl 1 rfl) ?_
    exact q_lret X hP hS rfl dX5_cut_47
  rcases (by omega : x_3.toInt = 0 ∨ x_3.toInt = 1 ∨ x_3.toInt = 2) with j_5 | j_5 | j_5
  · refine lv_tableIn (off := 28) (tgt := 32) hx hb dX5_cut_4 (by omega) (by omega) (by rw [j_5]; rfl) (by decide) ?_
    refine lv_lload_n hx hb dX5_cut_32 rfl (lv_at hl 1 rfl) ?_
    refine lv_l2i hx hb dX5_cut_33 rfl ?_
    refine lv_topi (fun z_6 ez_6 => ?_)
    refine lv_i2b hx hb dX5_cut_34 rfl ?_
    refine lv_topi (fun z_7 ez_7 => ?_)
    refine lv_i2l hx hb dX5_cut_35 rfl ?_
    refine lv_topl (fun z_8 ez_8 => ?_)
    have hz_8 : z_8.toInt = z_7.toInt := ez_8 ▸ j_of rfl
    have := n_hi z_7
    have := n_lo z_7
    exact q_lret X hP hS rfl dX5_cut_36
  · refine lv_tableIn (off := 33) (tgt := 37) hx hb dX5_cut_4 (by omega) (by omega) (by rw [j_5]; rfl) (by decide) ?_
    refine lv_lload_n hx hb dX5_cut_37 rfl (lv_at hl 1 rfl) ?_
    refine lv_l2i hx hb dX5_cut_38 rfl ?_
    refine lv_topi (fun z_9 ez_9 => ?_)
    refine lv_i2s hx hb dX5_cut_39 rfl ?_
    refine lv_topi (fun z_10 ez_10 => ?_)
    refine lv_i2l hx hb dX5_cut_40 rfl ?_
    refine lv_topl (fun z_11 ez_11 => ?_)
    have hz_11 : z_11.toInt = z_10.toInt := ez_11 ▸ j_of rfl
    have := n_hi z_10
    have := n_lo z_10
    exact q_lret X hP hS rfl dX5_cut_41
  · refine lv_tableIn (off := 38) (tgt := 42) hx hb dX5_cut_4 (by omega) (by omega) (by rw [j_5]; rfl) (by decide) ?_
    refine lv_lload_n hx hb dX5_cut_42 rfl (lv_at hl 1 rfl) ?_
    refine lv_l2i hx hb dX5_cut_43 rfl ?_
    refine lv_topi (fun z_12 ez_12 => ?_)
    refine lv_i2l hx hb dX5_cut_44 rfl ?_
    refine lv_topl (fun z_13 ez_13 => ?_)
    have hz_13 : z_13.toInt = z_12.toInt := ez_13 ▸ j_of rfl
    have := n_hi z_12
    have := n_lo z_12
    exact q_lret X hP hS rfl dX5_cut_45

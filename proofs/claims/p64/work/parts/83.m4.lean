theorem dX12_bits_0 : decode cX12_bits 0 = .ok (.iconst 0, 1) := by decide +kernel
theorem dX12_bits_1 : decode cX12_bits 1 = .ok (.istore_n 1, 1) := by decide +kernel
theorem dX12_bits_2 : decode cX12_bits 2 = .ok (.iconst 0, 1) := by decide +kernel
theorem dX12_bits_3 : decode cX12_bits 3 = .ok (.istore_n 2, 1) := by decide +kernel
theorem dX12_bits_4 : decode cX12_bits 4 = .ok (.iload_n 2, 1) := by decide +kernel
theorem dX12_bits_5 : decode cX12_bits 5 = .ok (.bipush 14, 2) := by decide +kernel
theorem dX12_bits_7 : decode cX12_bits 7 = .ok (.if_icmp .ge 17, 3) := by decide +kernel
theorem dX12_bits_10 : decode cX12_bits 10 = .ok (.iload_n 1, 1) := by decide +kernel
theorem dX12_bits_11 : decode cX12_bits 11 = .ok (.iload_n 0, 1) := by decide +kernel
theorem dX12_bits_12 : decode cX12_bits 12 = .ok (.iload_n 2, 1) := by decide +kernel
theorem dX12_bits_13 : decode cX12_bits 13 = .ok (.ishr, 1) := by decide +kernel
theorem dX12_bits_14 : decode cX12_bits 14 = .ok (.iconst 1, 1) := by decide +kernel
theorem dX12_bits_15 : decode cX12_bits 15 = .ok (.iand, 1) := by decide +kernel
theorem dX12_bits_16 : decode cX12_bits 16 = .ok (.iadd, 1) := by decide +kernel
theorem dX12_bits_17 : decode cX12_bits 17 = .ok (.istore_n 1, 1) := by decide +kernel
theorem dX12_bits_18 : decode cX12_bits 18 = .ok (.iinc 2 1, 3) := by decide +kernel
theorem dX12_bits_21 : decode cX12_bits 21 = .ok (.goto (-17), 3) := by decide +kernel
theorem dX12_bits_24 : decode cX12_bits 24 = .ok (.iload_n 1, 1) := by decide +kernel
theorem dX12_bits_25 : decode cX12_bits 25 = .ok (.ireturn, 1) := by decide +kernel
noncomputable def vX12_bits : List Cond := .code yX12_bits cX12_bits 3 (some .int) :: ([] : List Cond)
theorem gs_X12_bits : Gd vX12_bits := Gd.cons (by decide +kernel) (Gd.r (by decide +kernel))
set_option maxHeartbeats 4000000 in
set_option maxRecDepth 100000 in
theorem s_X12_bits (l : Launch) (D : va_G) (cs : Nat → ClassId) (ad : Nat → Nat) (kS : kSt) (K : sK) (hKO : KO K) (hj : wJ ad 218) (g : Nat → va_E) (hW : WF (shp ad K) ad cs g) (st : Int32) : sI l yX12_bits vX12_bits { frames := 0, cells := 0, slots := 0, locals := 0 } D cs ad kS [.int st] g (fun r g2 => g2 = g) := by
  refine Met.startS (cc := cX12_bits) (maxL := 3) (ret := (some .int)) RX12 rfl (by decide) rfl (Nat.le_of_ble_eq_true rfl) ?_
  intro p e s m below meth c ls X Z hP hl
  have hx := X.1
  have hb := X.2.1
  have hS : va_S (wA ad 218) s.heap s.heap [] := va_S.rf
  have hA : ∀ i, i < 218 → wA ad 218 (ad i) := fun i h => ⟨i, h, rfl⟩
  have hl : lv_has ls 3 [(0, .int st)] := hl
  refine lv_iconst (v := 0) hx hb dX12_bits_0 (by decide) ?_
  refine lv_istore_n (lv' := [(1, .int 0), (0, .int st)]) hx hb dX12_bits_1 rfl hl (by decide) rfl (fun ls hl => ?_)
  refine lv_iconst (v := 0) hx hb dX12_bits_2 (by decide) ?_
  refine lv_istore_n (lv' := [(2, .int 0), (1, .int 0), (0, .int st)]) hx hb dX12_bits_3 rfl hl (by decide) rfl (fun ls hl => ?_)
  have HL4 : ∀ (n4 : Nat) (v4_2 : Int32) (v4_1 : Int32) (H : Heap) (locs : List Loc) (ls : Array Slot), (14 - v4_2.toInt).toNat < n4 → (0 ≤ v4_2.toInt ∧ v4_2.toInt ≤ 14) → va_P D vwCl (wL ad g 218) H → va_S (wA ad 218) s.heap H locs → lv_has ls 3 [(2, .int v4_2), (1, .int v4_1), (0, .int st)] → W p l e ({ frames := 0, cells := 0, slots := 0, locals := 0 } : Room) s m ([.int st] : List Value).toArray below meth c H locs 0 0 (MQ below (qI D ad 218 (fun r g2 => g2 = g)) ([.int st] : List Value).toArray s 0 0 (wA ad 218)) (F0 m 4 ls []) := by
    intro n4
    induction n4 with
    | zero =>
      intro v4_2 v4_1 H locs ls hm4 hv4_0 hP hS hl
      exact absurd hm4 (Nat.not_lt_zero _)
    | succ n4 ih4 =>
      intro v4_2 v4_1 H locs ls hm4 hv4_0 hP hS hl
      refine lv_iload_n hx hb dX12_bits_4 rfl (lv_at hl 0 rfl) ?_
      refine lv_bipush (v := 14) hx hb dX12_bits_5 (by decide) ?_
      refine lv_icmp_ge (tgt := 24) hx hb dX12_bits_7 (by decide) (fun hc_1 => ?_) (fun hc_1 => ?_)
      · have hhc_1 := n_le (by decide : (14 : Int32).toInt = 14) (rfl : v4_2.toInt = v4_2.toInt) hc_1
        refine lv_iload_n hx hb dX12_bits_24 rfl (lv_at hl 1 rfl) ?_
        exact q_iret X hP hS rfl dX12_bits_25
      · have hhc_1 := n_nle (by decide : (14 : Int32).toInt = 14) (rfl : v4_2.toInt = v4_2.toInt) hc_1
        refine lv_iload_n hx hb dX12_bits_10 rfl (lv_at hl 1 rfl) ?_
        refine lv_iload_n hx hb dX12_bits_11 rfl (lv_at hl 2 rfl) ?_
        refine lv_iload_n hx hb dX12_bits_12 rfl (lv_at hl 0 rfl) ?_
        refine lv_ishr hx hb dX12_bits_13 ?_
        refine lv_topi (fun z_2 ez_2 => ?_)
        refine lv_iconst (v := 1) hx hb dX12_bits_14 (by decide) ?_
        refine lv_iand hx hb dX12_bits_15 ?_
        refine lv_topi (fun z_3 ez_3 => ?_)
        have hz_3 : 0 ≤ z_3.toInt ∧ z_3.toInt ≤ 1 := n_and 1 (by decide) (by decide) (by decide) ez_3
        refine lv_iadd hx hb dX12_bits_16 ?_
        refine lv_topi (fun z_4 ez_4 => ?_)
        refine lv_istore_n (lv' := [(1, .int z_4), (2, .int v4_2), (0, .int st)]) hx hb dX12_bits_17 rfl hl (by decide) rfl (fun ls hl => ?_)
        obtain ⟨x_5, ex_5⟩ : ∃ y : Int32, y = v4_2 + 1 := ⟨_, rfl⟩
        have hx_5 : x_5.toInt = v4_2.toInt + 1 := n_add rfl (by decide : (1 : Int32).toInt = 1) ex_5 (by omega) (by omega)
        refine lv_iinc (v := x_5) (lv' := [(2, .int x_5), (1, .int z_4), (0, .int st)]) hx hb dX12_bits_18 hl (k := 1) rfl (by rw [ex_5]; rfl) (by decide) rfl (fun ls hl => ?_)
        refine lv_goto (tgt := 4) hx hb dX12_bits_21 (by decide) ?_
        exact ih4 x_5 z_4 _ _ ls (by omega) (by omega) hP hS (lv_sub hl [0, 1, 2] rfl)
  have hiv4_2 : (0 : Int32).toInt = 0 := by decide
  have hiv4_1 : (0 : Int32).toInt = 0 := by decide
  exact HL4 _ 0 0 _ _ ls (Nat.lt_succ_self _) (by omega) hP hS (lv_sub hl [0, 1, 2] rfl)

theorem dX12_rush_0 : decode cX12_rush 0 = .ok (.aload_n 0, 1) := by decide +kernel
theorem dX12_rush_1 : decode cX12_rush 1 = .ok (.invokevirtual 261, 3) := by decide +kernel
theorem dX12_rush_4 : decode cX12_rush 4 = .ok (.ifCond .ne 6, 3) := by decide +kernel
theorem dX12_rush_7 : decode cX12_rush 7 = .ok (.bipush (-2), 2) := by decide +kernel
theorem dX12_rush_9 : decode cX12_rush 9 = .ok (.ireturn, 1) := by decide +kernel
theorem dX12_rush_10 : decode cX12_rush 10 = .ok (.aload_n 0, 1) := by decide +kernel
theorem dX12_rush_11 : decode cX12_rush 11 = .ok (.invokevirtual 246, 3) := by decide +kernel
theorem dX12_rush_14 : decode cX12_rush 14 = .ok (.iconst (-1), 1) := by decide +kernel
theorem dX12_rush_15 : decode cX12_rush 15 = .ok (.istore_n 1, 1) := by decide +kernel
theorem dX12_rush_16 : decode cX12_rush 16 = .ok (.iconst 0, 1) := by decide +kernel
theorem dX12_rush_17 : decode cX12_rush 17 = .ok (.istore_n 2, 1) := by decide +kernel
theorem dX12_rush_18 : decode cX12_rush 18 = .ok (.iconst 0, 1) := by decide +kernel
theorem dX12_rush_19 : decode cX12_rush 19 = .ok (.istore_n 3, 1) := by decide +kernel
theorem dX12_rush_20 : decode cX12_rush 20 = .ok (.iload_n 3, 1) := by decide +kernel
theorem dX12_rush_21 : decode cX12_rush 21 = .ok (.aload_n 0, 1) := by decide +kernel
theorem dX12_rush_22 : decode cX12_rush 22 = .ok (.getfield 231, 3) := by decide +kernel
theorem dX12_rush_25 : decode cX12_rush 25 = .ok (.if_icmp .ge 33, 3) := by decide +kernel
theorem dX12_rush_28 : decode cX12_rush 28 = .ok (.aload_n 0, 1) := by decide +kernel
theorem dX12_rush_29 : decode cX12_rush 29 = .ok (.iload_n 3, 1) := by decide +kernel
theorem dX12_rush_30 : decode cX12_rush 30 = .ok (.invokevirtual 255, 3) := by decide +kernel
theorem dX12_rush_33 : decode cX12_rush 33 = .ok (.invokestatic 264, 3) := by decide +kernel
theorem dX12_rush_36 : decode cX12_rush 36 = .ok (.istore 4, 2) := by decide +kernel
theorem dX12_rush_38 : decode cX12_rush 38 = .ok (.iload 4, 2) := by decide +kernel
theorem dX12_rush_40 : decode cX12_rush 40 = .ok (.iload_n 2, 1) := by decide +kernel
theorem dX12_rush_41 : decode cX12_rush 41 = .ok (.if_icmp .gt 6, 3) := by decide +kernel
theorem dX12_rush_44 : decode cX12_rush 44 = .ok (.goto 8, 3) := by decide +kernel
theorem dX12_rush_47 : decode cX12_rush 47 = .ok (.iload 4, 2) := by decide +kernel
theorem dX12_rush_49 : decode cX12_rush 49 = .ok (.istore_n 2, 1) := by decide +kernel
theorem dX12_rush_50 : decode cX12_rush 50 = .ok (.iload_n 3, 1) := by decide +kernel
theorem dX12_rush_51 : decode cX12_rush 51 = .ok (.istore_n 1, 1) := by decide +kernel
theorem dX12_rush_52 : decode cX12_rush 52 = .ok (.iinc 3 1, 3) := by decide +kernel
theorem dX12_rush_55 : decode cX12_rush 55 = .ok (.goto (-35), 3) := by decide +kernel
theorem dX12_rush_58 : decode cX12_rush 58 = .ok (.iload_n 1, 1) := by decide +kernel
theorem dX12_rush_59 : decode cX12_rush 59 = .ok (.ireturn, 1) := by decide +kernel
noncomputable def vX12_rush : List Cond := .code yX12_rush cX12_rush 5 (some .int) :: (([.methodLink RX12 261 yX12_isStreet, .instanceMethod yX12_isStreet, .selects RX12 yX12_isStreet yX12_isStreet, .initialized RX12, .methodLink RX12 246 yX12_layAll, .instanceMethod yX12_layAll, .selects RX12 yX12_layAll yX12_layAll, .fieldLink RX12 231 "IcicleClockModel" "days" "I", .methodLink RX12 255 yX12_dropsOn, .instanceMethod yX12_dropsOn, .selects RX12 yX12_dropsOn yX12_dropsOn, .methodLink RX12 264 yX12_bits, .static yX12_bits] : List Cond) ++ (wsX120 ++ (vX12_isStreet ++ (vX12_layAll ++ (vX12_dropsOn ++ vX12_bits)))))
theorem iX12_rush_12 : ∀ w ∈ wsX120, w ∈ vX12_rush := fun _ h => List.mem_cons_of_mem _ (List.mem_append_right _ (List.mem_append_left _ h))
theorem gs_X12_rush : Gd vX12_rush := Gd.cons (by decide +kernel) (Gd.app (Gd.r (by decide +kernel)) (Gd.app gwX_12 (Gd.app gs_X12_isStreet (Gd.app gs_X12_layAll (Gd.app gs_X12_dropsOn gs_X12_bits)))))
theorem gg_X12_rush_X12_isStreet : GoodIn vX12_rush (wsV RX12 261 RX12 yX12_isStreet vX12_isStreet) := goodIn_app (goodIn_r _ [1, 2, 3, 4] (by decide +kernel) (by decide +kernel)) (fun w h => ⟨List.mem_cons_of_mem _ (List.mem_append_right _ (List.mem_append_right _ (List.mem_append_left _ h))), gs_X12_isStreet w h⟩)
theorem gg_X12_rush_X12_layAll : GoodIn vX12_rush (wsV RX12 246 RX12 yX12_layAll vX12_layAll) := goodIn_app (goodIn_r _ [5, 6, 7, 4] (by decide +kernel) (by decide +kernel)) (fun w h => ⟨List.mem_cons_of_mem _ (List.mem_append_right _ (List.mem_append_right _ (List.mem_append_right _ (List.mem_append_left _ h)))), gs_X12_layAll w h⟩)
theorem gg_X12_rush_X12_dropsOn : GoodIn vX12_rush (wsV RX12 255 RX12 yX12_dropsOn vX12_dropsOn) := goodIn_app (goodIn_r _ [9, 10, 11, 4] (by decide +kernel) (by decide +kernel)) (fun w h => ⟨List.mem_cons_of_mem _ (List.mem_append_right _ (List.mem_append_right _ (List.mem_append_right _ (List.mem_append_right _ (List.mem_append_left _ h))))), gs_X12_dropsOn w h⟩)
theorem gg_X12_rush_X12_bits : GoodIn vX12_rush (wsS RX12 264 yX12_bits vX12_bits) := goodIn_app (goodIn_r _ [12, 13, 4] (by decide +kernel) (by decide +kernel)) (fun w h => ⟨List.mem_cons_of_mem _ (List.mem_append_right _ (List.mem_append_right _ (List.mem_append_right _ (List.mem_append_right _ (List.mem_append_right _ (h)))))), gs_X12_bits w h⟩)
set_option maxHeartbeats 4000000 in
set_option maxRecDepth 100000 in
theorem s_X12_rush (l : Launch) (D : va_G) (cs : Nat → ClassId) (ad : Nat → Nat) (kS : kSt) (K : sK) (hKO : KO K) (hj : wJ ad 218) (g : Nat → va_E) (hW : WF (shp ad K) ad cs g) : sI l yX12_rush vX12_rush { frames := 3, cells := 0, slots := 0, locals := 65 } D cs ad kS [.ref (ad 197)] g (fun r g2 => WF (shp ad K) ad cs g2 ∧ (∀ j, j ≠ 197 ∧ j ≠ 204 ∧ j ≠ 205 → g2 j = g j)) := by
  refine Met.startS (cc := cX12_rush) (maxL := 5) (ret := (some .int)) RX12 rfl (by decide) rfl (Nat.le_of_ble_eq_true rfl) ?_
  intro p e s m below meth c ls X Z hP hl
  have hx := X.1
  have hb := X.2.1
  have hS : va_S (wA ad 218) s.heap s.heap [] := va_S.rf
  have hA : ∀ i, i < 218 → wA ad 218 (ad i) := fun i h => ⟨i, h, rfl⟩
  have hfr : ∀ j, j ≠ 197 ∧ j ≠ 204 ∧ j ≠ 205 → g j = g j := fun _ _ => rfl
  have hl : lv_has ls 5 [(0, .ref (ad 197))] := hl
  refine lv_aload_n hx hb dX12_rush_0 rfl (lv_at hl 0 rfl) ?_
  obtain ⟨fsc_4, hgc_4, hOc_4⟩ := hW.obj (i := 197) (by decide) (sh_197 ad K)
  refine s_calli (q := (RX12, TX12, 40)) (As := []) (rest := []) X Z (s_X12_isStreet l D cs ad kS K hKO hj g hW) (cwV 0 X.2.2.2.2.1 gg_X12_rush_X12_isStreet rfl rfl rfl (by decide +kernel) ⟨Nat.le_of_ble_eq_true rfl, Nat.le_of_ble_eq_true rfl⟩) (by decide) hgc_4 rfl hP hA hS.2.1 hS rfl hl.1 rfl (Nat.le_of_ble_eq_true rfl) dX12_rush_1 ⟨Nat.le_of_ble_eq_true rfl, Nat.le_of_ble_eq_true rfl⟩ (fun r_3 g_2 H locs hw_1 hP hS => ?_)
  obtain ⟨hw_1g, hw_1⟩ := hw_1
  rw [hw_1g] at hP
  refine lv_if_ne (tgt := 10) hx hb dX12_rush_4 (by decide) (fun hc_5 => ?_) (fun hc_5 => ?_)
  · have hhc_5 := n_ne (rfl : r_3.toInt = r_3.toInt) (by decide : (0 : Int32).toInt = 0) hc_5
    refine lv_aload_n hx hb dX12_rush_10 rfl (lv_at hl 0 rfl) ?_
    refine s_callv (q := (RX12, TX12, 40)) (As := []) (rest := []) X Z (s_X12_layAll l D cs ad kS K hKO hj g hW) (cwV 0 X.2.2.2.2.1 gg_X12_rush_X12_layAll rfl rfl rfl (by decide +kernel) ⟨Nat.le_of_ble_eq_true rfl, Nat.le_of_ble_eq_true rfl⟩) (by decide) hgc_4 rfl hP hA hS.2.1 hS rfl hl.1 rfl (Nat.le_of_ble_eq_true rfl) dX12_rush_11 ⟨Nat.le_of_ble_eq_true rfl, Nat.le_of_ble_eq_true rfl⟩ (fun g_7 H locs hw_6 hP hS => ?_)
    obtain ⟨hw_6W, hw_6f⟩ := hw_6
    have hfr_9 : ∀ j, j ≠ 197 ∧ j ≠ 204 ∧ j ≠ 205 → g_7 j = g j := fun j hj => (hw_6f j (by omega)).trans (hfr j hj)
    refine lv_iconst (v := (-1)) hx hb dX12_rush_14 (by decide) ?_
    refine lv_istore_n (lv' := [(1, .int (-1)), (0, .ref (ad 197))]) hx hb dX12_rush_15 rfl hl (by decide) rfl (fun ls hl => ?_)
    refine lv_iconst (v := 0) hx hb dX12_rush_16 (by decide) ?_
    refine lv_istore_n (lv' := [(2, .int 0), (1, .int (-1)), (0, .ref (ad 197))]) hx hb dX12_rush_17 rfl hl (by decide) rfl (fun ls hl => ?_)
    refine lv_iconst (v := 0) hx hb dX12_rush_18 (by decide) ?_
    refine lv_istore_n (lv' := [(3, .int 0), (2, .int 0), (1, .int (-1)), (0, .ref (ad 197))]) hx hb dX12_rush_19 rfl hl (by decide) rfl (fun ls hl => ?_)
    have HL20 : ∀ (n20 : Nat) (v20_3 : Int32) (v20_2 : Int32) (v20_1 : Int32) (G20 : Nat → va_E) (H : Heap) (locs : List Loc) (ls : Array Slot), (14 - v20_3.toInt).toNat < n20 → (0 ≤ v20_3.toInt ∧ v20_3.toInt ≤ 14) → (0 ≤ v20_2.toInt) → ((-1) ≤ v20_1.toInt ∧ v20_1.toInt ≤ 13) → WF (shp ad K) ad cs G20 → (∀ j, j ≠ 197 ∧ j ≠ 204 ∧ j ≠ 205 → G20 j = g j) → va_P D vwCl (wL ad G20 218) H → va_S (wA ad 218) s.heap H locs → lv_has ls 5 [(3, .int v20_3), (2, .int v20_2), (1, .int v20_1), (0, .ref (ad 197))] → W p l e ({ frames := 3, cells := 0, slots := 0, locals := 65 } : Room) s m ([.ref (ad 197)] : List Value).toArray below meth c H locs 0 0 (MQ below (qI D ad 218 (fun r g2 => WF (shp ad K) ad cs g2 ∧ (∀ j, j ≠ 197 ∧ j ≠ 204 ∧ j ≠ 205 → g2 j = g j))) ([.ref (ad 197)] : List Value).toArray s 0 0 (wA ad 218)) (F0 m 20 ls []) := by
      intro n20
      induction n20 with
      | zero =>
        intro v20_3 v20_2 v20_1 G20 H locs ls hm20 hv20_0 hv20_1 hv20_2 hW20 hfr20 hP hS hl
        exact absurd hm20 (Nat.not_lt_zero _)
      | succ n20 ih20 =>
        intro v20_3 v20_2 v20_1 G20 H locs ls hm20 hv20_0 hv20_1 hv20_2 hW20 hfr20 hP hS hl
        refine lv_iload_n hx hb dX12_rush_20 rfl (lv_at hl 0 rfl) ?_
        refine lv_aload_n hx hb dX12_rush_21 rfl (lv_at hl 3 rfl) ?_
        obtain ⟨fsc_10, hgc_10, hOc_10⟩ := hW20.obj (i := 197) (by decide) (sh_197 ad K)
        obtain ⟨x_12, hk_11, hlx_12, hhx_12⟩ := hOc_10.int 17 rfl
        refine q_get X iX12_rush_12 hP (by decide) hgc_10 rfl 17 (by decide) (List.mem_of_getElem? (i := 8) rfl) (v := .int x_12) hk_11 dX12_rush_22 ?_
        refine lv_icmp_ge (tgt := 58) hx hb dX12_rush_25 (by decide) (fun hc_13 => ?_) (fun hc_13 => ?_)
        · have hhc_13 := n_le (rfl : x_12.toInt = x_12.toInt) (rfl : v20_3.toInt = v20_3.toInt) hc_13
          refine lv_iload_n hx hb dX12_rush_58 rfl (lv_at hl 2 rfl) ?_
          exact q_iret X hP hS ⟨hW20, hfr20⟩ dX12_rush_59
        · have hhc_13 := n_nle (rfl : x_12.toInt = x_12.toInt) (rfl : v20_3.toInt = v20_3.toInt) hc_13
          refine lv_aload_n hx hb dX12_rush_28 rfl (lv_at hl 3 rfl) ?_
          refine lv_iload_n hx hb dX12_rush_29 rfl (lv_at hl 0 rfl) ?_
          refine s_calli (q := (RX12, TX12, 40)) (As := [.int v20_3]) (rest := []) X Z (s_X12_dropsOn l D cs ad kS K hKO hj G20 hW20 v20_3) (cwV 1 X.2.2.2.2.1 gg_X12_rush_X12_dropsOn rfl rfl rfl (by decide +kernel) ⟨Nat.le_of_ble_eq_true rfl, Nat.le_of_ble_eq_true rfl⟩) (by decide) hgc_10 rfl hP hA hS.2.1 hS rfl hl.1 rfl (Nat.le_of_ble_eq_true rfl) dX12_rush_30 ⟨Nat.le_of_ble_eq_true rfl, Nat.le_of_ble_eq_true rfl⟩ (fun r_16 g_15 H locs hw_14 hP hS => ?_)
          rw [hw_14] at hP
          refine s_callSi (As := [.int r_16]) (rest := []) X Z (s_X12_bits l D cs ad kS K hKO hj G20 hW20 r_16) (cwS 1 X.2.2.2.2.1 gg_X12_rush_X12_bits rfl rfl rfl (by decide +kernel) ⟨Nat.le_of_ble_eq_true rfl, Nat.le_of_ble_eq_true rfl⟩) hP hA hS.2.1 hS rfl hl.1 rfl (Nat.le_of_ble_eq_true rfl) dX12_rush_33 ⟨Nat.le_of_ble_eq_true rfl, Nat.le_of_ble_eq_true rfl⟩ (fun r_19 g_18 H locs hw_17 hP hS => ?_)
          rw [hw_17] at hP
          refine lv_istore (lv' := [(4, .int r_19), (3, .int v20_3), (2, .int v20_2), (1, .int v20_1), (0, .ref (ad 197))]) hx hb dX12_rush_36 hl (by decide) rfl (fun ls hl => ?_)
          refine lv_iload hx hb dX12_rush_38 (lv_at hl 0 rfl) ?_
          refine lv_iload_n hx hb dX12_rush_40 rfl (lv_at hl 2 rfl) ?_
          have HJ52 : ∀ (v52_2 : Int32) (v52_1 : Int32) (G52 : Nat → va_E) (H : Heap) (locs : List Loc) (ls : Array Slot), (0 ≤ v52_2.toInt) → ((-1) ≤ v52_1.toInt ∧ v52_1.toInt ≤ 13) → WF (shp ad K) ad cs G52 → (∀ j, j ≠ 197 ∧ j ≠ 204 ∧ j ≠ 205 → G52 j = g j) → G52 197 = .inr (12, fsc_10) → va_P D vwCl (wL ad G52 218) H → va_S (wA ad 218) s.heap H locs → lv_has ls 5 [(3, .int v20_3), (2, .int v52_2), (1, .int v52_1), (0, .ref (ad 197))] → W p l e ({ frames := 3, cells := 0, slots := 0, locals := 65 } : Room) s m ([.ref (ad 197)] : List Value).toArray below meth c H locs 0 0 (MQ below (qI D ad 218 (fun r g2 => WF (shp ad K) ad cs g2 ∧ (∀ j, j ≠ 197 ∧ j ≠ 204 ∧ j ≠ 205 → g2 j = g j))) ([.ref (ad 197)] : List Value).toArray s 0 0 (wA ad 218)) (F0 m 52 ls []) := by
            intro v52_2 v52_1 G52 H locs ls hv52_0 hv52_1 hW52 hfr52 hg52_0 hP hS hl
            obtain ⟨x_20, ex_20⟩ : ∃ y : Int32, y = v20_3 + 1 := ⟨_, rfl⟩
            have hx_20 : x_20.toInt = v20_3.toInt + 1 := n_add rfl (by decide : (1 : Int32).toInt = 1) ex_20 (by omega) (by omega)
            refine lv_iinc (v := x_20) (lv' := [(3, .int x_20), (2, .int v52_2), (1, .int v52_1), (0, .ref (ad 197))]) hx hb dX12_rush_52 hl (k := 0) rfl (by rw [ex_20]; rfl) (by decide) rfl (fun ls hl => ?_)
            refine lv_goto (tgt := 20) hx hb dX12_rush_55 (by decide) ?_
            exact ih20 x_20 v52_2 v52_1 G52 _ _ ls (by omega) (by omega) (by omega) (by omega) hW52 hfr52 hP hS (lv_sub hl [0, 1, 2, 3] rfl)
          refine lv_icmp_gt (tgt := 47) hx hb dX12_rush_41 (by decide) (fun hc_21 => ?_) (fun hc_21 => ?_)
          · have hhc_21 := n_lt (rfl : v20_2.toInt = v20_2.toInt) (rfl : r_19.toInt = r_19.toInt) hc_21
            have := n_hi v20_2
            have := n_hi r_19
            have := n_lo r_19
            refine lv_iload hx hb dX12_rush_47 (lv_at hl 0 rfl) ?_
            refine lv_istore_n (lv' := [(2, .int r_19), (4, .int r_19), (3, .int v20_3), (1, .int v20_1), (0, .ref (ad 197))]) hx hb dX12_rush_49 rfl hl (by decide) rfl (fun ls hl => ?_)
            refine lv_iload_n hx hb dX12_rush_50 rfl (lv_at hl 2 rfl) ?_
            refine lv_istore_n (lv' := [(1, .int v20_3), (2, .int r_19), (4, .int r_19), (3, .int v20_3), (0, .ref (ad 197))]) hx hb dX12_rush_51 rfl hl (by decide) rfl (fun ls hl => ?_)
            exact HJ52 r_19 v20_3 G20 _ _ ls (by omega) (by omega) hW20 hfr20 hgc_10 hP hS (lv_sub hl [3, 1, 0, 4] rfl)
          · have hhc_21 := n_nlt (rfl : v20_2.toInt = v20_2.toInt) (rfl : r_19.toInt = r_19.toInt) hc_21
            have := n_hi v20_2
            have := n_hi r_19
            have := n_lo r_19
            refine lv_goto (tgt := 52) hx hb dX12_rush_44 (by decide) ?_
            exact HJ52 v20_2 v20_1 G20 _ _ ls (by omega) (by omega) hW20 hfr20 hgc_10 hP hS (lv_sub hl [1, 2, 3, 4] rfl)
    have hiv20_3 : (0 : Int32).toInt = 0 := by decide
    have hiv20_2 : (0 : Int32).toInt = 0 := by decide
    have hiv20_1 : ((-1) : Int32).toInt = -1 := by decide
    exact HL20 _ 0 0 (-1) g_7 _ _ ls (Nat.lt_succ_self _) (by omega) (by omega) (by omega) hw_6W hfr_9 hP hS (lv_sub hl [0, 1, 2, 3] rfl)
  · have hhc_5 := n_eq (rfl : r_3.toInt = r_3.toInt) (by decide : (0 : Int32).toInt = 0) hc_5
    refine lv_bipush (v := (-2)) hx hb dX12_rush_7 (by decide) ?_
    exact q_iret X hP hS ⟨hW, hfr⟩ dX12_rush_9

theorem dX12_timeOf_0 : decode cX12_timeOf 0 = .ok (.iconst (-1), 1) := by decide +kernel
theorem dX12_timeOf_1 : decode cX12_timeOf 1 = .ok (.istore_n 3, 1) := by decide +kernel
theorem dX12_timeOf_2 : decode cX12_timeOf 2 = .ok (.iconst 0, 1) := by decide +kernel
theorem dX12_timeOf_3 : decode cX12_timeOf 3 = .ok (.istore 4, 2) := by decide +kernel
theorem dX12_timeOf_5 : decode cX12_timeOf 5 = .ok (.iload 4, 2) := by decide +kernel
theorem dX12_timeOf_7 : decode cX12_timeOf 7 = .ok (.aload_n 0, 1) := by decide +kernel
theorem dX12_timeOf_8 : decode cX12_timeOf 8 = .ok (.getfield 9, 3) := by decide +kernel
theorem dX12_timeOf_11 : decode cX12_timeOf 11 = .ok (.iconst 5, 1) := by decide +kernel
theorem dX12_timeOf_12 : decode cX12_timeOf 12 = .ok (.iaload, 1) := by decide +kernel
theorem dX12_timeOf_13 : decode cX12_timeOf 13 = .ok (.if_icmp .ge 59, 3) := by decide +kernel
theorem dX12_timeOf_16 : decode cX12_timeOf 16 = .ok (.iload_n 1, 1) := by decide +kernel
theorem dX12_timeOf_17 : decode cX12_timeOf 17 = .ok (.iconst (-1), 1) := by decide +kernel
theorem dX12_timeOf_18 : decode cX12_timeOf 18 = .ok (.if_icmp .eq 14, 3) := by decide +kernel
theorem dX12_timeOf_21 : decode cX12_timeOf 21 = .ok (.aload_n 0, 1) := by decide +kernel
theorem dX12_timeOf_22 : decode cX12_timeOf 22 = .ok (.iload 4, 2) := by decide +kernel
theorem dX12_timeOf_24 : decode cX12_timeOf 24 = .ok (.iconst 0, 1) := by decide +kernel
theorem dX12_timeOf_25 : decode cX12_timeOf 25 = .ok (.invokevirtual 225, 3) := by decide +kernel
theorem dX12_timeOf_28 : decode cX12_timeOf 28 = .ok (.iload_n 1, 1) := by decide +kernel
theorem dX12_timeOf_29 : decode cX12_timeOf 29 = .ok (.if_icmp .ne 37, 3) := by decide +kernel
theorem dX12_timeOf_32 : decode cX12_timeOf 32 = .ok (.aload_n 0, 1) := by decide +kernel
theorem dX12_timeOf_33 : decode cX12_timeOf 33 = .ok (.iload 4, 2) := by decide +kernel
theorem dX12_timeOf_35 : decode cX12_timeOf 35 = .ok (.iload_n 2, 1) := by decide +kernel
theorem dX12_timeOf_36 : decode cX12_timeOf 36 = .ok (.invokevirtual 258, 3) := by decide +kernel
theorem dX12_timeOf_39 : decode cX12_timeOf 39 = .ok (.ifCond .eq 27, 3) := by decide +kernel
theorem dX12_timeOf_42 : decode cX12_timeOf 42 = .ok (.iload_n 3, 1) := by decide +kernel
theorem dX12_timeOf_43 : decode cX12_timeOf 43 = .ok (.iconst (-1), 1) := by decide +kernel
theorem dX12_timeOf_44 : decode cX12_timeOf 44 = .ok (.if_icmp .eq 19, 3) := by decide +kernel
theorem dX12_timeOf_63 : decode cX12_timeOf 63 = .ok (.iload 4, 2) := by decide +kernel
theorem dX12_timeOf_65 : decode cX12_timeOf 65 = .ok (.istore_n 3, 1) := by decide +kernel
theorem dX12_timeOf_66 : decode cX12_timeOf 66 = .ok (.iinc 4 1, 3) := by decide +kernel
theorem dX12_timeOf_69 : decode cX12_timeOf 69 = .ok (.goto (-64), 3) := by decide +kernel
theorem dX12_timeOf_47 : decode cX12_timeOf 47 = .ok (.aload_n 0, 1) := by decide +kernel
theorem dX12_timeOf_48 : decode cX12_timeOf 48 = .ok (.getfield 37, 3) := by decide +kernel
theorem dX12_timeOf_51 : decode cX12_timeOf 51 = .ok (.iload 4, 2) := by decide +kernel
theorem dX12_timeOf_53 : decode cX12_timeOf 53 = .ok (.iaload, 1) := by decide +kernel
theorem dX12_timeOf_54 : decode cX12_timeOf 54 = .ok (.aload_n 0, 1) := by decide +kernel
theorem dX12_timeOf_55 : decode cX12_timeOf 55 = .ok (.getfield 37, 3) := by decide +kernel
theorem dX12_timeOf_58 : decode cX12_timeOf 58 = .ok (.iload_n 3, 1) := by decide +kernel
theorem dX12_timeOf_59 : decode cX12_timeOf 59 = .ok (.iaload, 1) := by decide +kernel
theorem dX12_timeOf_60 : decode cX12_timeOf 60 = .ok (.if_icmp .lt 6, 3) := by decide +kernel
theorem dX12_timeOf_72 : decode cX12_timeOf 72 = .ok (.iload_n 3, 1) := by decide +kernel
theorem dX12_timeOf_73 : decode cX12_timeOf 73 = .ok (.iconst (-1), 1) := by decide +kernel
theorem dX12_timeOf_74 : decode cX12_timeOf 74 = .ok (.if_icmp .ne 7, 3) := by decide +kernel
theorem dX12_timeOf_77 : decode cX12_timeOf 77 = .ok (.iconst (-1), 1) := by decide +kernel
theorem dX12_timeOf_78 : decode cX12_timeOf 78 = .ok (.goto 9, 3) := by decide +kernel
theorem dX12_timeOf_81 : decode cX12_timeOf 81 = .ok (.aload_n 0, 1) := by decide +kernel
theorem dX12_timeOf_82 : decode cX12_timeOf 82 = .ok (.iload_n 3, 1) := by decide +kernel
theorem dX12_timeOf_83 : decode cX12_timeOf 83 = .ok (.iconst 2, 1) := by decide +kernel
theorem dX12_timeOf_84 : decode cX12_timeOf 84 = .ok (.invokevirtual 225, 3) := by decide +kernel
theorem dX12_timeOf_87 : decode cX12_timeOf 87 = .ok (.ireturn, 1) := by decide +kernel
noncomputable def vX12_timeOf : List Cond := .code yX12_timeOf cX12_timeOf 5 (some .int) :: (([.fieldLink RX12 9 "IcicleClockModel" "world" "[I", .methodLink RX12 225 yX12_of, .instanceMethod yX12_of, .selects RX12 yX12_of yX12_of, .initialized RX12, .methodLink RX12 258 yX12_fellBy, .instanceMethod yX12_fellBy, .selects RX12 yX12_fellBy yX12_fellBy, .fieldLink RX12 37 "IcicleClockModel" "fell" "[I"] : List Cond) ++ (wsX120 ++ (vX12_of ++ vX12_fellBy)))
theorem iX12_timeOf_12 : ∀ w ∈ wsX120, w ∈ vX12_timeOf := fun _ h => List.mem_cons_of_mem _ (List.mem_append_right _ (List.mem_append_left _ h))
theorem gs_X12_timeOf : Gd vX12_timeOf := Gd.cons (by decide +kernel) (Gd.app (Gd.r (by decide +kernel)) (Gd.app gwX_12 (Gd.app gs_X12_of gs_X12_fellBy)))
theorem gg_X12_timeOf_X12_of : GoodIn vX12_timeOf (wsV RX12 225 RX12 yX12_of vX12_of) := goodIn_app (goodIn_r _ [2, 3, 4, 5] (by decide +kernel) (by decide +kernel)) (fun w h => ⟨List.mem_cons_of_mem _ (List.mem_append_right _ (List.mem_append_right _ (List.mem_append_left _ h))), gs_X12_of w h⟩)
theorem gg_X12_timeOf_X12_fellBy : GoodIn vX12_timeOf (wsV RX12 258 RX12 yX12_fellBy vX12_fellBy) := goodIn_app (goodIn_r _ [6, 7, 8, 5] (by decide +kernel) (by decide +kernel)) (fun w h => ⟨List.mem_cons_of_mem _ (List.mem_append_right _ (List.mem_append_right _ (List.mem_append_right _ (h)))), gs_X12_fellBy w h⟩)
set_option maxHeartbeats 4000000 in
set_option maxRecDepth 100000 in
theorem s_X12_timeOf (l : Launch) (D : va_G) (cs : Nat → ClassId) (ad : Nat → Nat) (kS : kSt) (K : sK) (hKO : KO K) (hj : wJ ad 218) (g : Nat → va_E) (hW : WF (shp ad K) ad cs g) (ev : Int32) (dy : Int32) : sI l yX12_timeOf vX12_timeOf { frames := 1, cells := 0, slots := 0, locals := 22 } D cs ad kS [.ref (ad 197), .int ev, .int dy] g (fun r g2 => g2 = g) := by
  refine Met.startS (cc := cX12_timeOf) (maxL := 5) (ret := (some .int)) RX12 rfl (by decide) rfl (Nat.le_of_ble_eq_true rfl) ?_
  intro p e s m below meth c ls X Z hP hl
  have hx := X.1
  have hb := X.2.1
  have hS : va_S (wA ad 218) s.heap s.heap [] := va_S.rf
  have hA : ∀ i, i < 218 → wA ad 218 (ad i) := fun i h => ⟨i, h, rfl⟩
  have hl : lv_has ls 5 [(0, .ref (ad 197)), (1, .int ev), (2, .int dy)] := hl
  refine lv_iconst (v := (-1)) hx hb dX12_timeOf_0 (by decide) ?_
  refine lv_istore_n (lv' := [(3, .int (-1)), (0, .ref (ad 197)), (1, .int ev), (2, .int dy)]) hx hb dX12_timeOf_1 rfl hl (by decide) rfl (fun ls hl => ?_)
  refine lv_iconst (v := 0) hx hb dX12_timeOf_2 (by decide) ?_
  refine lv_istore (lv' := [(4, .int 0), (3, .int (-1)), (0, .ref (ad 197)), (1, .int ev), (2, .int dy)]) hx hb dX12_timeOf_3 hl (by decide) rfl (fun ls hl => ?_)
  have HL5 : ∀ (n5 : Nat) (v5_4 : Int32) (v5_3 : Int32) (H : Heap) (locs : List Loc) (ls : Array Slot), (8 - v5_4.toInt).toNat < n5 → (0 ≤ v5_4.toInt ∧ v5_4.toInt ≤ 8) → ((-1) ≤ v5_3.toInt ∧ v5_3.toInt ≤ 7) → va_P D vwCl (wL ad g 218) H → va_S (wA ad 218) s.heap H locs → lv_has ls 5 [(4, .int v5_4), (3, .int v5_3), (0, .ref (ad 197)), (1, .int ev), (2, .int dy)] → W p l e ({ frames := 1, cells := 0, slots := 0, locals := 22 } : Room) s m ([.ref (ad 197), .int ev, .int dy] : List Value).toArray below meth c H locs 0 0 (MQ below (qI D ad 218 (fun r g2 => g2 = g)) ([.ref (ad 197), .int ev, .int dy] : List Value).toArray s 0 0 (wA ad 218)) (F0 m 5 ls []) := by
    intro n5
    induction n5 with
    | zero =>
      intro v5_4 v5_3 H locs ls hm5 hv5_0 hv5_1 hP hS hl
      exact absurd hm5 (Nat.not_lt_zero _)
    | succ n5 ih5 =>
      intro v5_4 v5_3 H locs ls hm5 hv5_0 hv5_1 hP hS hl
      refine lv_iload hx hb dX12_timeOf_5 (lv_at hl 0 rfl) ?_
      refine lv_aload_n hx hb dX12_timeOf_7 rfl (lv_at hl 2 rfl) ?_
      obtain ⟨fsc_1, hgc_1, hOc_1⟩ := hW.obj (i := 197) (by decide) (sh_197 ad K)
      have hk_2 := hOc_1.ref 1 rfl
      refine q_get X iX12_timeOf_12 hP (by decide) hgc_1 rfl 1 (by decide) (List.mem_of_getElem? (i := 1) rfl) (v := .ref (ad 198)) hk_2 dX12_timeOf_8 ?_
      refine lv_iconst (v := 5) hx hb dX12_timeOf_11 (by decide) ?_
      obtain ⟨fc_3, hgc_3, hFc_3⟩ := hW.arr (i := 198) (by decide) (sh_198 ad K)
      refine q_iald X hP (by decide) hgc_3 (by unfold vp_in; decide) dX12_timeOf_12 ?_
      refine lv_topi (fun z_4 ez_4 => ?_)
      have hqz_4 : wq (5) z_4.toInt := ez_4 ▸ hFc_3 _
      have hz_4 : 0 ≤ z_4.toInt ∧ z_4.toInt ≤ 8 := by unfold wq at hqz_4; omega
      clear hqz_4
      refine lv_icmp_ge (tgt := 72) hx hb dX12_timeOf_13 (by decide) (fun hc_5 => ?_) (fun hc_5 => ?_)
      · have hhc_5 := n_le (rfl : z_4.toInt = z_4.toInt) (rfl : v5_4.toInt = v5_4.toInt) hc_5
        refine lv_iload_n hx hb dX12_timeOf_72 rfl (lv_at hl 1 rfl) ?_
        refine lv_iconst (v := (-1)) hx hb dX12_timeOf_73 (by decide) ?_
        refine lv_icmp_ne (tgt := 81) hx hb dX12_timeOf_74 (by decide) (fun hc_6 => ?_) (fun hc_6 => ?_)
        · have hhc_6 := n_ne (rfl : v5_3.toInt = v5_3.toInt) (by decide : (-1 : Int32).toInt = -1) hc_6
          refine lv_aload_n hx hb dX12_timeOf_81 rfl (lv_at hl 2 rfl) ?_
          refine lv_iload_n hx hb dX12_timeOf_82 rfl (lv_at hl 1 rfl) ?_
          refine lv_iconst (v := 2) hx hb dX12_timeOf_83 (by decide) ?_
          have hqk_7 : (2 : Int32).toInt = 2 := by decide
          refine s_calli (q := (RX12, TX12, 40)) (As := [.int v5_3, .int 2]) (rest := []) X Z (s_X12_of l D cs ad kS K hKO hj g hW v5_3 2 (by omega) (by omega)) (cwV 2 X.2.2.2.2.1 gg_X12_timeOf_X12_of rfl rfl rfl (by decide +kernel) ⟨Nat.le_of_ble_eq_true rfl, Nat.le_of_ble_eq_true rfl⟩) (by decide) hgc_1 rfl hP hA hS.2.1 hS rfl hl.1 rfl (Nat.le_of_ble_eq_true rfl) dX12_timeOf_84 ⟨Nat.le_of_ble_eq_true rfl, Nat.le_of_ble_eq_true rfl⟩ (fun r_10 g_9 H locs hw_8 hP hS => ?_)
          obtain ⟨hw_8g, hw_8⟩ := hw_8
          rw [hw_8g] at hP
          have hqk_11 : (2 : Int32).toInt = 2 := by decide
          exact q_iret X hP hS rfl dX12_timeOf_87
        · have hhc_6 := n_eq (rfl : v5_3.toInt = v5_3.toInt) (by decide : (-1 : Int32).toInt = -1) hc_6
          refine lv_iconst (v := (-1)) hx hb dX12_timeOf_77 (by decide) ?_
          refine lv_goto (tgt := 87) hx hb dX12_timeOf_78 (by decide) ?_
          exact q_iret X hP hS rfl dX12_timeOf_87
      · have hhc_5 := n_nle (rfl : z_4.toInt = z_4.toInt) (rfl : v5_4.toInt = v5_4.toInt) hc_5
        refine lv_iload_n hx hb dX12_timeOf_16 rfl (lv_at hl 3 rfl) ?_
        refine lv_iconst (v := (-1)) hx hb dX12_timeOf_17 (by decide) ?_
        have HJ66 : ∀ (v66_3 : Int32) (H : Heap) (locs : List Loc) (ls : Array Slot), ((-1) ≤ v66_3.toInt ∧ v66_3.toInt ≤ 7) → va_P D vwCl (wL ad g 218) H → va_S (wA ad 218) s.heap H locs → lv_has ls 5 [(4, .int v5_4), (3, .int v66_3), (0, .ref (ad 197)), (1, .int ev), (2, .int dy)] → W p l e ({ frames := 1, cells := 0, slots := 0, locals := 22 } : Room) s m ([.ref (ad 197), .int ev, .int dy] : List Value).toArray below meth c H locs 0 0 (MQ below (qI D ad 218 (fun r g2 => g2 = g)) ([.ref (ad 197), .int ev, .int dy] : List Value).toArray s 0 0 (wA ad 218)) (F0 m 66 ls []) := by
          intro v66_3 H locs ls hv66_0 hP hS hl
          obtain ⟨x_12, ex_12⟩ : ∃ y : Int32, y = v5_4 + 1 := ⟨_, rfl⟩
          have hx_12 : x_12.toInt = v5_4.toInt + 1 := n_add rfl (by decide : (1 : Int32).toInt = 1) ex_12 (by omega) (by omega)
          refine lv_iinc (v := x_12) (lv' := [(4, .int x_12), (3, .int v66_3), (0, .ref (ad 197)), (1, .int ev), (2, .int dy)]) hx hb dX12_timeOf_66 hl (k := 0) rfl (by rw [ex_12]; rfl) (by decide) rfl (fun ls hl => ?_)
          refine lv_goto (tgt := 5) hx hb dX12_timeOf_69 (by decide) ?_
          exact ih5 x_12 v66_3 _ _ ls (by omega) (by omega) (by omega) hP hS (lv_sub hl [0, 1, 2, 3, 4] rfl)
        have HJ32 : ∀ (H : Heap) (locs : List Loc) (ls : Array Slot), ((-1) ≤ ev.toInt ∧ ev.toInt ≤ 4) → va_P D vwCl (wL ad g 218) H → va_S (wA ad 218) s.heap H locs → lv_has ls 5 [(4, .int v5_4), (3, .int v5_3), (0, .ref (ad 197)), (1, .int ev), (2, .int dy)] → W p l e ({ frames := 1, cells := 0, slots := 0, locals := 22 } : Room) s m ([.ref (ad 197), .int ev, .int dy] : List Value).toArray below meth c H locs 0 0 (MQ below (qI D ad 218 (fun r g2 => g2 = g)) ([.ref (ad 197), .int ev, .int dy] : List Value).toArray s 0 0 (wA ad 218)) (F0 m 32 ls []) := by
          intro H locs ls hv32_0 hP hS hl
          refine lv_aload_n hx hb dX12_timeOf_32 rfl (lv_at hl 2 rfl) ?_
          refine lv_iload hx hb dX12_timeOf_33 (lv_at hl 0 rfl) ?_
          refine lv_iload_n hx hb dX12_timeOf_35 rfl (lv_at hl 4 rfl) ?_
          refine s_calli (q := (RX12, TX12, 40)) (As := [.int v5_4, .int dy]) (rest := []) X Z (s_X12_fellBy l D cs ad kS K hKO hj g hW v5_4 dy (by omega)) (cwV 2 X.2.2.2.2.1 gg_X12_timeOf_X12_fellBy rfl rfl rfl (by decide +kernel) ⟨Nat.le_of_ble_eq_true rfl, Nat.le_of_ble_eq_true rfl⟩) (by decide) hgc_1 rfl hP hA hS.2.1 hS rfl hl.1 rfl (Nat.le_of_ble_eq_true rfl) dX12_timeOf_36 ⟨Nat.le_of_ble_eq_true rfl, Nat.le_of_ble_eq_true rfl⟩ (fun r_15 g_14 H locs hw_13 hP hS => ?_)
          obtain ⟨hw_13g, hw_13⟩ := hw_13
          rw [hw_13g] at hP
          refine lv_if_eq (tgt := 66) hx hb dX12_timeOf_39 (by decide) (fun hc_16 => ?_) (fun hc_16 => ?_)
          · have hhc_16 := n_eq (rfl : r_15.toInt = r_15.toInt) (by decide : (0 : Int32).toInt = 0) hc_16
            exact HJ66 v5_3 _ _ ls (by omega) hP hS (lv_sub hl [0, 1, 2, 3, 4] rfl)
          · have hhc_16 := n_ne (rfl : r_15.toInt = r_15.toInt) (by decide : (0 : Int32).toInt = 0) hc_16
            refine lv_iload_n hx hb dX12_timeOf_42 rfl (lv_at hl 1 rfl) ?_
            refine lv_iconst (v := (-1)) hx hb dX12_timeOf_43 (by decide) ?_
            have HJ63 : ∀ (H : Heap) (locs : List Loc) (ls : Array Slot), va_P D vwCl (wL ad g 218) H → va_S (wA ad 218) s.heap H locs → lv_has ls 5 [(4, .int v5_4), (0, .ref (ad 197)), (1, .int ev), (2, .int dy)] → W p l e ({ frames := 1, cells := 0, slots := 0, locals := 22 } : Room) s m ([.ref (ad 197), .int ev, .int dy] : List Value).toArray below meth c H locs 0 0 (MQ below (qI D ad 218 (fun r g2 => g2 = g)) ([.ref (ad 197), .int ev, .int dy] : List Value).toArray s 0 0 (wA ad 218)) (F0 m 63 ls []) := by
              intro H locs ls hP hS hl
              refine lv_iload hx hb dX12_timeOf_63 (lv_at hl 0 rfl) ?_
              refine lv_istore_n (lv' := [(3, .int v5_4), (4, .int v5_4), (0, .ref (ad 197)), (1, .int ev), (2, .int dy)]) hx hb dX12_timeOf_65 rfl hl (by decide) rfl (fun ls hl => ?_)
              exact HJ66 v5_4 _ _ ls (by omega) hP hS (lv_sub hl [1, 0, 2, 3, 4] rfl)
            refine lv_icmp_eq (tgt := 63) hx hb dX12_timeOf_44 (by decide) (fun hc_17 => ?_) (fun hc_17 => ?_)
            · have hhc_17 := n_eq (rfl : v5_3.toInt = v5_3.toInt) (by decide : (-1 : Int32).toInt = -1) hc_17
              exact HJ63 _ _ ls hP hS (lv_sub hl [0, 2, 3, 4] rfl)
            · have hhc_17 := n_ne (rfl : v5_3.toInt = v5_3.toInt) (by decide : (-1 : Int32).toInt = -1) hc_17
              refine lv_aload_n hx hb dX12_timeOf_47 rfl (lv_at hl 2 rfl) ?_
              have hk_18 := hOc_1.ref 16 rfl
              refine q_get X iX12_timeOf_12 hP (by decide) hgc_1 rfl 16 (by decide) (List.mem_of_getElem? (i := 9) rfl) (v := .ref (ad 205)) hk_18 dX12_timeOf_48 ?_
              refine lv_iload hx hb dX12_timeOf_51 (lv_at hl 0 rfl) ?_
              obtain ⟨fc_19, hgc_19, hFc_19⟩ := hW.arr (i := 205) (by decide) (sh_205 ad K)
              refine q_iald X hP (by decide) hgc_19 (n_in (rfl : v5_4.toInt = v5_4.toInt) (by omega) (by omega)) dX12_timeOf_53 ?_
              refine lv_topi (fun z_20 ez_20 => ?_)
              have hz_20 : (-1) ≤ z_20.toInt ∧ z_20.toInt ≤ 13 := ez_20 ▸ hFc_19 _
              refine lv_aload_n hx hb dX12_timeOf_54 rfl (lv_at hl 2 rfl) ?_
              refine q_get X iX12_timeOf_12 hP (by decide) hgc_1 rfl 16 (by decide) (List.mem_of_getElem? (i := 9) rfl) (v := .ref (ad 205)) hk_18 dX12_timeOf_55 ?_
              refine lv_iload_n hx hb dX12_timeOf_58 rfl (lv_at hl 1 rfl) ?_
              refine q_iald X hP (by decide) hgc_19 (n_in (rfl : v5_3.toInt = v5_3.toInt) (by omega) (by omega)) dX12_timeOf_59 ?_
              refine lv_topi (fun z_21 ez_21 => ?_)
              have hz_21 : (-1) ≤ z_21.toInt ∧ z_21.toInt ≤ 13 := ez_21 ▸ hFc_19 _
              refine lv_icmp_lt (tgt := 66) hx hb dX12_timeOf_60 (by decide) (fun hc_22 => ?_) (fun hc_22 => ?_)
              · have hhc_22 := n_lt (rfl : z_20.toInt = z_20.toInt) (rfl : z_21.toInt = z_21.toInt) hc_22
                exact HJ66 v5_3 _ _ ls (by omega) hP hS (lv_sub hl [0, 1, 2, 3, 4] rfl)
              · have hhc_22 := n_nlt (rfl : z_20.toInt = z_20.toInt) (rfl : z_21.toInt = z_21.toInt) hc_22
                exact HJ63 _ _ ls hP hS (lv_sub hl [0, 2, 3, 4] rfl)
        refine lv_icmp_eq (tgt := 32) hx hb dX12_timeOf_18 (by decide) (fun hc_23 => ?_) (fun hc_23 => ?_)
        · have hhc_23 := n_eq (rfl : ev.toInt = ev.toInt) (by decide : (-1 : Int32).toInt = -1) hc_23
          exact HJ32 _ _ ls (by omega) hP hS (lv_sub hl [0, 1, 2, 3, 4] rfl)
        · have hhc_23 := n_ne (rfl : ev.toInt = ev.toInt) (by decide : (-1 : Int32).toInt = -1) hc_23
          refine lv_aload_n hx hb dX12_timeOf_21 rfl (lv_at hl 2 rfl) ?_
          refine lv_iload hx hb dX12_timeOf_22 (lv_at hl 0 rfl) ?_
          refine lv_iconst (v := 0) hx hb dX12_timeOf_24 (by decide) ?_
          have hqk_24 : (0 : Int32).toInt = 0 := by decide
          refine s_calli (q := (RX12, TX12, 40)) (As := [.int v5_4, .int 0]) (rest := []) X Z (s_X12_of l D cs ad kS K hKO hj g hW v5_4 0 (by omega) (by omega)) (cwV 2 X.2.2.2.2.1 gg_X12_timeOf_X12_of rfl rfl rfl (by decide +kernel) ⟨Nat.le_of_ble_eq_true rfl, Nat.le_of_ble_eq_true rfl⟩) (by decide) hgc_1 rfl hP hA hS.2.1 hS rfl hl.1 rfl (Nat.le_of_ble_eq_true rfl) dX12_timeOf_25 ⟨Nat.le_of_ble_eq_true rfl, Nat.le_of_ble_eq_true rfl⟩ (fun r_27 g_26 H locs hw_25 hP hS => ?_)
          obtain ⟨hw_25g, hw_25⟩ := hw_25
          rw [hw_25g] at hP
          have hqk_28 : (0 : Int32).toInt = 0 := by decide
          refine lv_iload_n hx hb dX12_timeOf_28 rfl (lv_at hl 3 rfl) ?_
          refine lv_icmp_ne (tgt := 66) hx hb dX12_timeOf_29 (by decide) (fun hc_29 => ?_) (fun hc_29 => ?_)
          · have hhc_29 := n_ne (rfl : r_27.toInt = r_27.toInt) (rfl : ev.toInt = ev.toInt) hc_29
            exact HJ66 v5_3 _ _ ls (by omega) hP hS (lv_sub hl [0, 1, 2, 3, 4] rfl)
          · have hhc_29 := n_eq (rfl : r_27.toInt = r_27.toInt) (rfl : ev.toInt = ev.toInt) hc_29
            exact HJ32 _ _ ls (by omega) hP hS (lv_sub hl [0, 1, 2, 3, 4] rfl)
  have hiv5_4 : (0 : Int32).toInt = 0 := by decide
  have hiv5_3 : ((-1) : Int32).toInt = -1 := by decide
  exact HL5 _ 0 (-1) _ _ ls (Nat.lt_succ_self _) (by omega) (by omega) hP hS (lv_sub hl [0, 1, 2, 3, 4] rfl)

theorem dX12_time_0 : decode cX12_time 0 = .ok (.aload_n 0, 1) := by decide +kernel
theorem dX12_time_1 : decode cX12_time 1 = .ok (.iload_n 1, 1) := by decide +kernel
theorem dX12_time_2 : decode cX12_time 2 = .ok (.invokevirtual 212, 3) := by decide +kernel
theorem dX12_time_5 : decode cX12_time 5 = .ok (.ifCond .eq 11, 3) := by decide +kernel
theorem dX12_time_8 : decode cX12_time 8 = .ok (.aload_n 0, 1) := by decide +kernel
theorem dX12_time_9 : decode cX12_time 9 = .ok (.iload_n 2, 1) := by decide +kernel
theorem dX12_time_10 : decode cX12_time 10 = .ok (.invokevirtual 205, 3) := by decide +kernel
theorem dX12_time_13 : decode cX12_time 13 = .ok (.ifCond .ne 6, 3) := by decide +kernel
theorem dX12_time_19 : decode cX12_time 19 = .ok (.aload_n 0, 1) := by decide +kernel
theorem dX12_time_20 : decode cX12_time 20 = .ok (.invokevirtual 246, 3) := by decide +kernel
theorem dX12_time_23 : decode cX12_time 23 = .ok (.aload_n 0, 1) := by decide +kernel
theorem dX12_time_24 : decode cX12_time 24 = .ok (.iload_n 1, 1) := by decide +kernel
theorem dX12_time_25 : decode cX12_time 25 = .ok (.iload_n 2, 1) := by decide +kernel
theorem dX12_time_26 : decode cX12_time 26 = .ok (.invokevirtual 267, 3) := by decide +kernel
theorem dX12_time_29 : decode cX12_time 29 = .ok (.ireturn, 1) := by decide +kernel
theorem dX12_time_16 : decode cX12_time 16 = .ok (.bipush (-2), 2) := by decide +kernel
theorem dX12_time_18 : decode cX12_time 18 = .ok (.ireturn, 1) := by decide +kernel
noncomputable def vX12_time : List Cond := .code yX12_time cX12_time 3 (some .int) :: (([.methodLink RX12 212 yX12_isEave, .instanceMethod yX12_isEave, .selects RX12 yX12_isEave yX12_isEave, .initialized RX12, .methodLink RX12 205 yX12_isDay, .instanceMethod yX12_isDay, .selects RX12 yX12_isDay yX12_isDay, .methodLink RX12 246 yX12_layAll, .instanceMethod yX12_layAll, .selects RX12 yX12_layAll yX12_layAll, .methodLink RX12 267 yX12_timeOf, .instanceMethod yX12_timeOf, .selects RX12 yX12_timeOf yX12_timeOf] : List Cond) ++ (vX12_isEave ++ (vX12_isDay ++ (vX12_layAll ++ vX12_timeOf))))
theorem gs_X12_time : Gd vX12_time := Gd.cons (by decide +kernel) (Gd.app (Gd.r (by decide +kernel)) (Gd.app gs_X12_isEave (Gd.app gs_X12_isDay (Gd.app gs_X12_layAll gs_X12_timeOf))))
theorem gg_X12_time_X12_isEave : GoodIn vX12_time (wsV RX12 212 RX12 yX12_isEave vX12_isEave) := goodIn_app (goodIn_r _ [1, 2, 3, 4] (by decide +kernel) (by decide +kernel)) (fun w h => ⟨List.mem_cons_of_mem _ (List.mem_append_right _ (List.mem_append_left _ h)), gs_X12_isEave w h⟩)
theorem gg_X12_time_X12_isDay : GoodIn vX12_time (wsV RX12 205 RX12 yX12_isDay vX12_isDay) := goodIn_app (goodIn_r _ [5, 6, 7, 4] (by decide +kernel) (by decide +kernel)) (fun w h => ⟨List.mem_cons_of_mem _ (List.mem_append_right _ (List.mem_append_right _ (List.mem_append_left _ h))), gs_X12_isDay w h⟩)
theorem gg_X12_time_X12_layAll : GoodIn vX12_time (wsV RX12 246 RX12 yX12_layAll vX12_layAll) := goodIn_app (goodIn_r _ [8, 9, 10, 4] (by decide +kernel) (by decide +kernel)) (fun w h => ⟨List.mem_cons_of_mem _ (List.mem_append_right _ (List.mem_append_right _ (List.mem_append_right _ (List.mem_append_left _ h)))), gs_X12_layAll w h⟩)
theorem gg_X12_time_X12_timeOf : GoodIn vX12_time (wsV RX12 267 RX12 yX12_timeOf vX12_timeOf) := goodIn_app (goodIn_r _ [11, 12, 13, 4] (by decide +kernel) (by decide +kernel)) (fun w h => ⟨List.mem_cons_of_mem _ (List.mem_append_right _ (List.mem_append_right _ (List.mem_append_right _ (List.mem_append_right _ (h))))), gs_X12_timeOf w h⟩)
set_option maxHeartbeats 4000000 in
set_option maxRecDepth 100000 in
theorem s_X12_time (l : Launch) (D : va_G) (cs : Nat → ClassId) (ad : Nat → Nat) (kS : kSt) (K : sK) (hKO : KO K) (hj : wJ ad 218) (g : Nat → va_E) (hW : WF (shp ad K) ad cs g) (ev : Int32) (dy : Int32) : sI l yX12_time vX12_time { frames := 3, cells := 0, slots := 0, locals := 65 } D cs ad kS [.ref (ad 197), .int ev, .int dy] g (fun r g2 => WF (shp ad K) ad cs g2 ∧ (∀ j, j ≠ 197 ∧ j ≠ 204 ∧ j ≠ 205 → g2 j = g j)) := by
  refine Met.startS (cc := cX12_time) (maxL := 3) (ret := (some .int)) RX12 rfl (by decide) rfl (Nat.le_of_ble_eq_true rfl) ?_
  intro p e s m below meth c ls X Z hP hl
  have hx := X.1
  have hb := X.2.1
  have hS : va_S (wA ad 218) s.heap s.heap [] := va_S.rf
  have hA : ∀ i, i < 218 → wA ad 218 (ad i) := fun i h => ⟨i, h, rfl⟩
  have hfr : ∀ j, j ≠ 197 ∧ j ≠ 204 ∧ j ≠ 205 → g j = g j := fun _ _ => rfl
  have hl : lv_has ls 3 [(0, .ref (ad 197)), (1, .int ev), (2, .int dy)] := hl
  refine lv_aload_n hx hb dX12_time_0 rfl (lv_at hl 0 rfl) ?_
  refine lv_iload_n hx hb dX12_time_1 rfl (lv_at hl 1 rfl) ?_
  obtain ⟨fsc_4, hgc_4, hOc_4⟩ := hW.obj (i := 197) (by decide) (sh_197 ad K)
  refine s_calli (q := (RX12, TX12, 40)) (As := [.int ev]) (rest := []) X Z (s_X12_isEave l D cs ad kS K hKO hj g hW ev) (cwV 1 X.2.2.2.2.1 gg_X12_time_X12_isEave rfl rfl rfl (by decide +kernel) ⟨Nat.le_of_ble_eq_true rfl, Nat.le_of_ble_eq_true rfl⟩) (by decide) hgc_4 rfl hP hA hS.2.1 hS rfl hl.1 rfl (Nat.le_of_ble_eq_true rfl) dX12_time_2 ⟨Nat.le_of_ble_eq_true rfl, Nat.le_of_ble_eq_true rfl⟩ (fun r_3 g_2 H locs hw_1 hP hS => ?_)
  obtain ⟨hw_1g, hw_1⟩ := hw_1
  rw [hw_1g] at hP
  have HJ16 : ∀ (G16 : Nat → va_E) (H : Heap) (locs : List Loc) (ls : Array Slot), WF (shp ad K) ad cs G16 → (∀ j, j ≠ 197 ∧ j ≠ 204 ∧ j ≠ 205 → G16 j = g j) → G16 197 = .inr (12, fsc_4) → va_P D vwCl (wL ad G16 218) H → va_S (wA ad 218) s.heap H locs → lv_has ls 3 [] → W p l e ({ frames := 3, cells := 0, slots := 0, locals := 65 } : Room) s m ([.ref (ad 197), .int ev, .int dy] : List Value).toArray below meth c H locs 0 0 (MQ below (qI D ad 218 (fun r g2 => WF (shp ad K) ad cs g2 ∧ (∀ j, j ≠ 197 ∧ j ≠ 204 ∧ j ≠ 205 → g2 j = g j))) ([.ref (ad 197), .int ev, .int dy] : List Value).toArray s 0 0 (wA ad 218)) (F0 m 16 ls []) := by
    intro G16 H locs ls hW16 hfr16 hg16_0 hP hS hl
    refine lv_bipush (v := (-2)) hx hb dX12_time_16 (by decide) ?_
    exact q_iret X hP hS ⟨hW16, hfr16⟩ dX12_time_18
  refine lv_if_eq (tgt := 16) hx hb dX12_time_5 (by decide) (fun hc_5 => ?_) (fun hc_5 => ?_)
  · have hhc_5 := n_eq (rfl : r_3.toInt = r_3.toInt) (by decide : (0 : Int32).toInt = 0) hc_5
    exact HJ16 g _ _ ls hW hfr hgc_4 hP hS (lv_sub hl [] rfl)
  · have hhc_5 := n_ne (rfl : r_3.toInt = r_3.toInt) (by decide : (0 : Int32).toInt = 0) hc_5
    refine lv_aload_n hx hb dX12_time_8 rfl (lv_at hl 0 rfl) ?_
    refine lv_iload_n hx hb dX12_time_9 rfl (lv_at hl 2 rfl) ?_
    refine s_calli (q := (RX12, TX12, 40)) (As := [.int dy]) (rest := []) X Z (s_X12_isDay l D cs ad kS K hKO hj g hW dy) (cwV 1 X.2.2.2.2.1 gg_X12_time_X12_isDay rfl rfl rfl (by decide +kernel) ⟨Nat.le_of_ble_eq_true rfl, Nat.le_of_ble_eq_true rfl⟩) (by decide) hgc_4 rfl hP hA hS.2.1 hS rfl hl.1 rfl (Nat.le_of_ble_eq_true rfl) dX12_time_10 ⟨Nat.le_of_ble_eq_true rfl, Nat.le_of_ble_eq_true rfl⟩ (fun r_8 g_7 H locs hw_6 hP hS => ?_)
    obtain ⟨hw_6g, hw_6⟩ := hw_6
    rw [hw_6g] at hP
    refine lv_if_ne (tgt := 19) hx hb dX12_time_13 (by decide) (fun hc_9 => ?_) (fun hc_9 => ?_)
    · have hhc_9 := n_ne (rfl : r_8.toInt = r_8.toInt) (by decide : (0 : Int32).toInt = 0) hc_9
      refine lv_aload_n hx hb dX12_time_19 rfl (lv_at hl 0 rfl) ?_
      refine s_callv (q := (RX12, TX12, 40)) (As := []) (rest := []) X Z (s_X12_layAll l D cs ad kS K hKO hj g hW) (cwV 0 X.2.2.2.2.1 gg_X12_time_X12_layAll rfl rfl rfl (by decide +kernel) ⟨Nat.le_of_ble_eq_true rfl, Nat.le_of_ble_eq_true rfl⟩) (by decide) hgc_4 rfl hP hA hS.2.1 hS rfl hl.1 rfl (Nat.le_of_ble_eq_true rfl) dX12_time_20 ⟨Nat.le_of_ble_eq_true rfl, Nat.le_of_ble_eq_true rfl⟩ (fun g_11 H locs hw_10 hP hS => ?_)
      obtain ⟨hw_10W, hw_10f⟩ := hw_10
      have hfr_13 : ∀ j, j ≠ 197 ∧ j ≠ 204 ∧ j ≠ 205 → g_11 j = g j := fun j hj => (hw_10f j (by omega)).trans (hfr j hj)
      refine lv_aload_n hx hb dX12_time_23 rfl (lv_at hl 0 rfl) ?_
      refine lv_iload_n hx hb dX12_time_24 rfl (lv_at hl 1 rfl) ?_
      refine lv_iload_n hx hb dX12_time_25 rfl (lv_at hl 2 rfl) ?_
      obtain ⟨fsc_17, hgc_17, hOc_17⟩ := hw_10W.obj (i := 197) (by decide) (sh_197 ad K)
      refine s_calli (q := (RX12, TX12, 40)) (As := [.int ev, .int dy]) (rest := []) X Z (s_X12_timeOf l D cs ad kS K hKO hj g_11 hw_10W ev dy) (cwV 2 X.2.2.2.2.1 gg_X12_time_X12_timeOf rfl rfl rfl (by decide +kernel) ⟨Nat.le_of_ble_eq_true rfl, Nat.le_of_ble_eq_true rfl⟩) (by decide) hgc_17 rfl hP hA hS.2.1 hS rfl hl.1 rfl (Nat.le_of_ble_eq_true rfl) dX12_time_26 ⟨Nat.le_of_ble_eq_true rfl, Nat.le_of_ble_eq_true rfl⟩ (fun r_16 g_15 H locs hw_14 hP hS => ?_)
      rw [hw_14] at hP
      exact q_iret X hP hS ⟨hw_10W, hfr_13⟩ dX12_time_29
    · have hhc_9 := n_eq (rfl : r_8.toInt = r_8.toInt) (by decide : (0 : Int32).toInt = 0) hc_9
      exact HJ16 g _ _ ls hW hfr hgc_4 hP hS (lv_sub hl [] rfl)

theorem dX12_hour_0 : decode cX12_hour 0 = .ok (.aload_n 0, 1) := by decide +kernel
theorem dX12_hour_1 : decode cX12_hour 1 = .ok (.iload_n 1, 1) := by decide +kernel
theorem dX12_hour_2 : decode cX12_hour 2 = .ok (.invokevirtual 205, 3) := by decide +kernel
theorem dX12_hour_5 : decode cX12_hour 5 = .ok (.ifCond .ne 6, 3) := by decide +kernel
theorem dX12_hour_8 : decode cX12_hour 8 = .ok (.bipush (-2), 2) := by decide +kernel
theorem dX12_hour_10 : decode cX12_hour 10 = .ok (.ireturn, 1) := by decide +kernel
theorem dX12_hour_11 : decode cX12_hour 11 = .ok (.aload_n 0, 1) := by decide +kernel
theorem dX12_hour_12 : decode cX12_hour 12 = .ok (.invokevirtual 246, 3) := by decide +kernel
theorem dX12_hour_15 : decode cX12_hour 15 = .ok (.aload_n 0, 1) := by decide +kernel
theorem dX12_hour_16 : decode cX12_hour 16 = .ok (.iconst (-1), 1) := by decide +kernel
theorem dX12_hour_17 : decode cX12_hour 17 = .ok (.iload_n 1, 1) := by decide +kernel
theorem dX12_hour_18 : decode cX12_hour 18 = .ok (.invokevirtual 267, 3) := by decide +kernel
theorem dX12_hour_21 : decode cX12_hour 21 = .ok (.ireturn, 1) := by decide +kernel
noncomputable def vX12_hour : List Cond := .code yX12_hour cX12_hour 2 (some .int) :: (([.methodLink RX12 205 yX12_isDay, .instanceMethod yX12_isDay, .selects RX12 yX12_isDay yX12_isDay, .initialized RX12, .methodLink RX12 246 yX12_layAll, .instanceMethod yX12_layAll, .selects RX12 yX12_layAll yX12_layAll, .methodLink RX12 267 yX12_timeOf, .instanceMethod yX12_timeOf, .selects RX12 yX12_timeOf yX12_timeOf] : List Cond) ++ (vX12_isDay ++ (vX12_layAll ++ vX12_timeOf)))
theorem gs_X12_hour : Gd vX12_hour := Gd.cons (by decide +kernel) (Gd.app (Gd.r (by decide +kernel)) (Gd.app gs_X12_isDay (Gd.app gs_X12_layAll gs_X12_timeOf)))
theorem gg_X12_hour_X12_isDay : GoodIn vX12_hour (wsV RX12 205 RX12 yX12_isDay vX12_isDay) := goodIn_app (goodIn_r _ [1, 2, 3, 4] (by decide +kernel) (by decide +kernel)) (fun w h => ⟨List.mem_cons_of_mem _ (List.mem_append_right _ (List.mem_append_left _ h)), gs_X12_isDay w h⟩)
theorem gg_X12_hour_X12_layAll : GoodIn vX12_hour (wsV RX12 246 RX12 yX12_layAll vX12_layAll) := goodIn_app (goodIn_r _ [5, 6, 7, 4] (by decide +kernel) (by decide +kernel)) (fun w h => ⟨List.mem_cons_of_mem _ (List.mem_append_right _ (List.mem_append_right _ (List.mem_append_left _ h))), gs_X12_layAll w h⟩)
theorem gg_X12_hour_X12_timeOf : GoodIn vX12_hour (wsV RX12 267 RX12 yX12_timeOf vX12_timeOf) := goodIn_app (goodIn_r _ [8, 9, 10, 4] (by decide +kernel) (by decide +kernel)) (fun w h => ⟨List.mem_cons_of_mem _ (List.mem_append_right _ (List.mem_append_right _ (List.mem_append_right _ (h)))), gs_X12_timeOf w h⟩)
set_option maxHeartbeats 4000000 in
set_option maxRecDepth 100000 in
theorem s_X12_hour (l : Launch) (D : va_G) (cs : Nat → ClassId) (ad : Nat → Nat) (kS : kSt) (K : sK) (hKO : KO K) (hj : wJ ad 218) (g : Nat → va_E) (hW : WF (shp ad K) ad cs g) (dy : Int32) : sI l yX12_hour vX12_hour { frames := 3, cells := 0, slots := 0, locals := 65 } D cs ad kS [.ref (ad 197), .int dy] g (fun r g2 => WF (shp ad K) ad cs g2 ∧ (∀ j, j ≠ 197 ∧ j ≠ 204 ∧ j ≠ 205 → g2 j = g j)) := by
  refine Met.startS (cc := cX12_hour) (maxL := 2) (ret := (some .int)) RX12 rfl (by decide) rfl (Nat.le_of_ble_eq_true rfl) ?_
  intro p e s m below meth c ls X Z hP hl
  have hx := X.1
  have hb := X.2.1
  have hS : va_S (wA ad 218) s.heap s.heap [] := va_S.rf
  have hA : ∀ i, i < 218 → wA ad 218 (ad i) := fun i h => ⟨i, h, rfl⟩
  have hfr : ∀ j, j ≠ 197 ∧ j ≠ 204 ∧ j ≠ 205 → g j = g j := fun _ _ => rfl
  have hl : lv_has ls 2 [(0, .ref (ad 197)), (1, .int dy)] := hl
  refine lv_aload_n hx hb dX12_hour_0 rfl (lv_at hl 0 rfl) ?_
  refine lv_iload_n hx hb dX12_hour_1 rfl (lv_at hl 1 rfl) ?_
  obtain ⟨fsc_4, hgc_4, hOc_4⟩ := hW.obj (i := 197) (by decide) (sh_197 ad K)
  refine s_calli (q := (RX12, TX12, 40)) (As := [.int dy]) (rest := []) X Z (s_X12_isDay l D cs ad kS K hKO hj g hW dy) (cwV 1 X.2.2.2.2.1 gg_X12_hour_X12_isDay rfl rfl rfl (by decide +kernel) ⟨Nat.le_of_ble_eq_true rfl, Nat.le_of_ble_eq_true rfl⟩) (by decide) hgc_4 rfl hP hA hS.2.1 hS rfl hl.1 rfl (Nat.le_of_ble_eq_true rfl) dX12_hour_2 ⟨Nat.le_of_ble_eq_true rfl, Nat.le_of_ble_eq_true rfl⟩ (fun r_3 g_2 H locs hw_1 hP hS => ?_)
  obtain ⟨hw_1g, hw_1⟩ := hw_1
  rw [hw_1g] at hP
  refine lv_if_ne (tgt := 11) hx hb dX12_hour_5 (by decide) (fun hc_5 => ?_) (fun hc_5 => ?_)
  · have hhc_5 := n_ne (rfl : r_3.toInt = r_3.toInt) (by decide : (0 : Int32).toInt = 0) hc_5
    refine lv_aload_n hx hb dX12_hour_11 rfl (lv_at hl 0 rfl) ?_
    refine s_callv (q := (RX12, TX12, 40)) (As := []) (rest := []) X Z (s_X12_layAll l D cs ad kS K hKO hj g hW) (cwV 0 X.2.2.2.2.1 gg_X12_hour_X12_layAll rfl rfl rfl (by decide +kernel) ⟨Nat.le_of_ble_eq_true rfl, Nat.le_of_ble_eq_true rfl⟩) (by decide) hgc_4 rfl hP hA hS.2.1 hS rfl hl.1 rfl (Nat.le_of_ble_eq_true rfl) dX12_hour_12 ⟨Nat.le_of_ble_eq_true rfl, Nat.le_of_ble_eq_true rfl⟩ (fun g_7 H locs hw_6 hP hS => ?_)
    obtain ⟨hw_6W, hw_6f⟩ := hw_6
    have hfr_9 : ∀ j, j ≠ 197 ∧ j ≠ 204 ∧ j ≠ 205 → g_7 j = g j := fun j hj => (hw_6f j (by omega)).trans (hfr j hj)
    refine lv_aload_n hx hb dX12_hour_15 rfl (lv_at hl 0 rfl) ?_
    refine lv_iconst (v := (-1)) hx hb dX12_hour_16 (by decide) ?_
    refine lv_iload_n hx hb dX12_hour_17 rfl (lv_at hl 1 rfl) ?_
    obtain ⟨fsc_13, hgc_13, hOc_13⟩ := hw_6W.obj (i := 197) (by decide) (sh_197 ad K)
    refine s_calli (q := (RX12, TX12, 40)) (As := [.int (-1), .int dy]) (rest := []) X Z (s_X12_timeOf l D cs ad kS K hKO hj g_7 hw_6W (-1) dy) (cwV 2 X.2.2.2.2.1 gg_X12_hour_X12_timeOf rfl rfl rfl (by decide +kernel) ⟨Nat.le_of_ble_eq_true rfl, Nat.le_of_ble_eq_true rfl⟩) (by decide) hgc_13 rfl hP hA hS.2.1 hS rfl hl.1 rfl (Nat.le_of_ble_eq_true rfl) dX12_hour_18 ⟨Nat.le_of_ble_eq_true rfl, Nat.le_of_ble_eq_true rfl⟩ (fun r_12 g_11 H locs hw_10 hP hS => ?_)
    rw [hw_10] at hP
    exact q_iret X hP hS ⟨hw_6W, hfr_9⟩ dX12_hour_21
  · have hhc_5 := n_eq (rfl : r_3.toInt = r_3.toInt) (by decide : (0 : Int32).toInt = 0) hc_5
    refine lv_bipush (v := (-2)) hx hb dX12_hour_8 (by decide) ?_
    exact q_iret X hP hS ⟨hW, hfr⟩ dX12_hour_10

theorem dX12_meetOf_0 : decode cX12_meetOf 0 = .ok (.iconst 0, 1) := by decide +kernel
theorem dX12_meetOf_1 : decode cX12_meetOf 1 = .ok (.istore_n 3, 1) := by decide +kernel
theorem dX12_meetOf_2 : decode cX12_meetOf 2 = .ok (.iconst 0, 1) := by decide +kernel
theorem dX12_meetOf_3 : decode cX12_meetOf 3 = .ok (.istore 4, 2) := by decide +kernel
theorem dX12_meetOf_5 : decode cX12_meetOf 5 = .ok (.iload 4, 2) := by decide +kernel
theorem dX12_meetOf_7 : decode cX12_meetOf 7 = .ok (.aload_n 0, 1) := by decide +kernel
theorem dX12_meetOf_8 : decode cX12_meetOf 8 = .ok (.getfield 231, 3) := by decide +kernel
theorem dX12_meetOf_11 : decode cX12_meetOf 11 = .ok (.if_icmp .ge 48, 3) := by decide +kernel
theorem dX12_meetOf_14 : decode cX12_meetOf 14 = .ok (.iload_n 3, 1) := by decide +kernel
theorem dX12_meetOf_15 : decode cX12_meetOf 15 = .ok (.aload_n 0, 1) := by decide +kernel
theorem dX12_meetOf_16 : decode cX12_meetOf 16 = .ok (.iload_n 1, 1) := by decide +kernel
theorem dX12_meetOf_17 : decode cX12_meetOf 17 = .ok (.iload 4, 2) := by decide +kernel
theorem dX12_meetOf_19 : decode cX12_meetOf 19 = .ok (.invokevirtual 267, 3) := by decide +kernel
theorem dX12_meetOf_22 : decode cX12_meetOf 22 = .ok (.iconst (-1), 1) := by decide +kernel
theorem dX12_meetOf_23 : decode cX12_meetOf 23 = .ok (.if_icmp .eq 27, 3) := by decide +kernel
theorem dX12_meetOf_26 : decode cX12_meetOf 26 = .ok (.aload_n 0, 1) := by decide +kernel
theorem dX12_meetOf_27 : decode cX12_meetOf 27 = .ok (.iload_n 1, 1) := by decide +kernel
theorem dX12_meetOf_28 : decode cX12_meetOf 28 = .ok (.iload 4, 2) := by decide +kernel
theorem dX12_meetOf_30 : decode cX12_meetOf 30 = .ok (.invokevirtual 267, 3) := by decide +kernel
theorem dX12_meetOf_33 : decode cX12_meetOf 33 = .ok (.aload_n 0, 1) := by decide +kernel
theorem dX12_meetOf_34 : decode cX12_meetOf 34 = .ok (.iload_n 2, 1) := by decide +kernel
theorem dX12_meetOf_35 : decode cX12_meetOf 35 = .ok (.iload 4, 2) := by decide +kernel
theorem dX12_meetOf_37 : decode cX12_meetOf 37 = .ok (.invokevirtual 267, 3) := by decide +kernel
theorem dX12_meetOf_40 : decode cX12_meetOf 40 = .ok (.if_icmp .ne 10, 3) := by decide +kernel
theorem dX12_meetOf_43 : decode cX12_meetOf 43 = .ok (.iconst 1, 1) := by decide +kernel
theorem dX12_meetOf_44 : decode cX12_meetOf 44 = .ok (.iload 4, 2) := by decide +kernel
theorem dX12_meetOf_46 : decode cX12_meetOf 46 = .ok (.ishl, 1) := by decide +kernel
theorem dX12_meetOf_47 : decode cX12_meetOf 47 = .ok (.goto 4, 3) := by decide +kernel
theorem dX12_meetOf_50 : decode cX12_meetOf 50 = .ok (.iconst 0, 1) := by decide +kernel
theorem dX12_meetOf_51 : decode cX12_meetOf 51 = .ok (.ior, 1) := by decide +kernel
theorem dX12_meetOf_52 : decode cX12_meetOf 52 = .ok (.istore_n 3, 1) := by decide +kernel
theorem dX12_meetOf_53 : decode cX12_meetOf 53 = .ok (.iinc 4 1, 3) := by decide +kernel
theorem dX12_meetOf_56 : decode cX12_meetOf 56 = .ok (.goto (-51), 3) := by decide +kernel
theorem dX12_meetOf_59 : decode cX12_meetOf 59 = .ok (.iload_n 3, 1) := by decide +kernel
theorem dX12_meetOf_60 : decode cX12_meetOf 60 = .ok (.ireturn, 1) := by decide +kernel
noncomputable def vX12_meetOf : List Cond := .code yX12_meetOf cX12_meetOf 5 (some .int) :: (([.fieldLink RX12 231 "IcicleClockModel" "days" "I", .methodLink RX12 267 yX12_timeOf, .instanceMethod yX12_timeOf, .selects RX12 yX12_timeOf yX12_timeOf, .initialized RX12] : List Cond) ++ (wsX120 ++ vX12_timeOf))
theorem iX12_meetOf_12 : ∀ w ∈ wsX120, w ∈ vX12_meetOf := fun _ h => List.mem_cons_of_mem _ (List.mem_append_right _ (List.mem_append_left _ h))
theorem gs_X12_meetOf : Gd vX12_meetOf := Gd.cons (by decide +kernel) (Gd.app (Gd.r (by decide +kernel)) (Gd.app gwX_12 gs_X12_timeOf))
theorem gg_X12_meetOf_X12_timeOf : GoodIn vX12_meetOf (wsV RX12 267 RX12 yX12_timeOf vX12_timeOf) := goodIn_app (goodIn_r _ [2, 3, 4, 5] (by decide +kernel) (by decide +kernel)) (fun w h => ⟨List.mem_cons_of_mem _ (List.mem_append_right _ (List.mem_append_right _ (h))), gs_X12_timeOf w h⟩)
set_option maxHeartbeats 4000000 in
set_option maxRecDepth 100000 in
theorem s_X12_meetOf (l : Launch) (D : va_G) (cs : Nat → ClassId) (ad : Nat → Nat) (kS : kSt) (K : sK) (hKO : KO K) (hj : wJ ad 218) (g : Nat → va_E) (hW : WF (shp ad K) ad cs g) (ev : Int32) (eo : Int32) : sI l yX12_meetOf vX12_meetOf { frames := 2, cells := 0, slots := 0, locals := 46 } D cs ad kS [.ref (ad 197), .int ev, .int eo] g (fun r g2 => g2 = g) := by
  refine Met.startS (cc := cX12_meetOf) (maxL := 5) (ret := (some .int)) RX12 rfl (by decide) rfl (Nat.le_of_ble_eq_true rfl) ?_
  intro p e s m below meth c ls X Z hP hl
  have hx := X.1
  have hb := X.2.1
  have hS : va_S (wA ad 218) s.heap s.heap [] := va_S.rf
  have hA : ∀ i, i < 218 → wA ad 218 (ad i) := fun i h => ⟨i, h, rfl⟩
  have hl : lv_has ls 5 [(0, .ref (ad 197)), (1, .int ev), (2, .int eo)] := hl
  refine lv_iconst (v := 0) hx hb dX12_meetOf_0 (by decide) ?_
  refine lv_istore_n (lv' := [(3, .int 0), (0, .ref (ad 197)), (1, .int ev), (2, .int eo)]) hx hb dX12_meetOf_1 rfl hl (by decide) rfl (fun ls hl => ?_)
  refine lv_iconst (v := 0) hx hb dX12_meetOf_2 (by decide) ?_
  refine lv_istore (lv' := [(4, .int 0), (3, .int 0), (0, .ref (ad 197)), (1, .int ev), (2, .int eo)]) hx hb dX12_meetOf_3 hl (by decide) rfl (fun ls hl => ?_)
  have HL5 : ∀ (n5 : Nat) (v5_4 : Int32) (v5_3 : Int32) (H : Heap) (locs : List Loc) (ls : Array Slot), (14 - v5_4.toInt).toNat < n5 → (0 ≤ v5_4.toInt ∧ v5_4.toInt ≤ 14) → va_P D vwCl (wL ad g 218) H → va_S (wA ad 218) s.heap H locs → lv_has ls 5 [(4, .int v5_4), (3, .int v5_3), (0, .ref (ad 197)), (1, .int ev), (2, .int eo)] → W p l e ({ frames := 2, cells := 0, slots := 0, locals := 46 } : Room) s m ([.ref (ad 197), .int ev, .int eo] : List Value).toArray below meth c H locs 0 0 (MQ below (qI D ad 218 (fun r g2 => g2 = g)) ([.ref (ad 197), .int ev, .int eo] : List Value).toArray s 0 0 (wA ad 218)) (F0 m 5 ls []) := by
    intro n5
    induction n5 with
    | zero =>
      intro v5_4 v5_3 H locs ls hm5 hv5_0 hP hS hl
      exact absurd hm5 (Nat.not_lt_zero _)
    | succ n5 ih5 =>
      intro v5_4 v5_3 H locs ls hm5 hv5_0 hP hS hl
      refine lv_iload hx hb dX12_meetOf_5 (lv_at hl 0 rfl) ?_
      refine lv_aload_n hx hb dX12_meetOf_7 rfl (lv_at hl 2 rfl) ?_
      obtain ⟨fsc_1, hgc_1, hOc_1⟩ := hW.obj (i := 197) (by decide) (sh_197 ad K)
      obtain ⟨x_3, hk_2, hlx_3, hhx_3⟩ := hOc_1.int 17 rfl
      refine q_get X iX12_meetOf_12 hP (by decide) hgc_1 rfl 17 (by decide) (List.mem_of_getElem? (i := 1) rfl) (v := .int x_3) hk_2 dX12_meetOf_8 ?_
      refine lv_icmp_ge (tgt := 59) hx hb dX12_meetOf_11 (by decide) (fun hc_4 => ?_) (fun hc_4 => ?_)
      · have hhc_4 := n_le (rfl : x_3.toInt = x_3.toInt) (rfl : v5_4.toInt = v5_4.toInt) hc_4
        refine lv_iload_n hx hb dX12_meetOf_59 rfl (lv_at hl 1 rfl) ?_
        exact q_iret X hP hS rfl dX12_meetOf_60
      · have hhc_4 := n_nle (rfl : x_3.toInt = x_3.toInt) (rfl : v5_4.toInt = v5_4.toInt) hc_4
        refine lv_iload_n hx hb dX12_meetOf_14 rfl (lv_at hl 1 rfl) ?_
        refine lv_aload_n hx hb dX12_meetOf_15 rfl (lv_at hl 2 rfl) ?_
        refine lv_iload_n hx hb dX12_meetOf_16 rfl (lv_at hl 3 rfl) ?_
        refine lv_iload hx hb dX12_meetOf_17 (lv_at hl 0 rfl) ?_
        refine s_calli (q := (RX12, TX12, 40)) (As := [.int ev, .int v5_4]) (rest := [.int v5_3]) X Z (s_X12_timeOf l D cs ad kS K hKO hj g hW ev v5_4) (cwV 2 X.2.2.2.2.1 gg_X12_meetOf_X12_timeOf rfl rfl rfl (by decide +kernel) ⟨Nat.le_of_ble_eq_true rfl, Nat.le_of_ble_eq_true rfl⟩) (by decide) hgc_1 rfl hP hA hS.2.1 hS rfl hl.1 rfl (Nat.le_of_ble_eq_true rfl) dX12_meetOf_19 ⟨Nat.le_of_ble_eq_true rfl, Nat.le_of_ble_eq_true rfl⟩ (fun r_7 g_6 H locs hw_5 hP hS => ?_)
        rw [hw_5] at hP
        refine lv_iconst (v := (-1)) hx hb dX12_meetOf_22 (by decide) ?_
        refine lv_icmp_eq (tgt := 50) hx hb dX12_meetOf_23 (by decide) (fun hc_8 => ?_) (fun hc_8 => ?_)
        · have hhc_8 := n_eq (rfl : r_7.toInt = r_7.toInt) (by decide : (-1 : Int32).toInt = -1) hc_8
          refine lv_iconst (v := 0) hx hb dX12_meetOf_50 (by decide) ?_
          refine lv_ior hx hb dX12_meetOf_51 ?_
          refine lv_topi (fun z_9 ez_9 => ?_)
          refine lv_istore_n (lv' := [(3, .int z_9), (4, .int v5_4), (0, .ref (ad 197)), (1, .int ev), (2, .int eo)]) hx hb dX12_meetOf_52 rfl hl (by decide) rfl (fun ls hl => ?_)
          obtain ⟨x_10, ex_10⟩ : ∃ y : Int32, y = v5_4 + 1 := ⟨_, rfl⟩
          have hx_10 : x_10.toInt = v5_4.toInt + 1 := n_add rfl (by decide : (1 : Int32).toInt = 1) ex_10 (by omega) (by omega)
          refine lv_iinc (v := x_10) (lv' := [(4, .int x_10), (3, .int z_9), (0, .ref (ad 197)), (1, .int ev), (2, .int eo)]) hx hb dX12_meetOf_53 hl (k := 1) rfl (by rw [ex_10]; rfl) (by decide) rfl (fun ls hl => ?_)
          refine lv_goto (tgt := 5) hx hb dX12_meetOf_56 (by decide) ?_
          exact ih5 x_10 z_9 _ _ ls (by omega) (by omega) hP hS (lv_sub hl [0, 1, 2, 3, 4] rfl)
        · have hhc_8 := n_ne (rfl : r_7.toInt = r_7.toInt) (by decide : (-1 : Int32).toInt = -1) hc_8
          refine lv_aload_n hx hb dX12_meetOf_26 rfl (lv_at hl 2 rfl) ?_
          refine lv_iload_n hx hb dX12_meetOf_27 rfl (lv_at hl 3 rfl) ?_
          refine lv_iload hx hb dX12_meetOf_28 (lv_at hl 0 rfl) ?_
          refine s_calli (q := (RX12, TX12, 40)) (As := [.int ev, .int v5_4]) (rest := [.int v5_3]) X Z (s_X12_timeOf l D cs ad kS K hKO hj g hW ev v5_4) (cwV 2 X.2.2.2.2.1 gg_X12_meetOf_X12_timeOf rfl rfl rfl (by decide +kernel) ⟨Nat.le_of_ble_eq_true rfl, Nat.le_of_ble_eq_true rfl⟩) (by decide) hgc_1 rfl hP hA hS.2.1 hS rfl hl.1 rfl (Nat.le_of_ble_eq_true rfl) dX12_meetOf_30 ⟨Nat.le_of_ble_eq_true rfl, Nat.le_of_ble_eq_true rfl⟩ (fun r_13 g_12 H locs hw_11 hP hS => ?_)
          rw [hw_11] at hP
          refine lv_aload_n hx hb dX12_meetOf_33 rfl (lv_at hl 2 rfl) ?_
          refine lv_iload_n hx hb dX12_meetOf_34 rfl (lv_at hl 4 rfl) ?_
          refine lv_iload hx hb dX12_meetOf_35 (lv_at hl 0 rfl) ?_
          refine s_calli (q := (RX12, TX12, 40)) (As := [.int eo, .int v5_4]) (rest := [.int r_13, .int v5_3]) X Z (s_X12_timeOf l D cs ad kS K hKO hj g hW eo v5_4) (cwV 2 X.2.2.2.2.1 gg_X12_meetOf_X12_timeOf rfl rfl rfl (by decide +kernel) ⟨Nat.le_of_ble_eq_true rfl, Nat.le_of_ble_eq_true rfl⟩) (by decide) hgc_1 rfl hP hA hS.2.1 hS rfl hl.1 rfl (Nat.le_of_ble_eq_true rfl) dX12_meetOf_37 ⟨Nat.le_of_ble_eq_true rfl, Nat.le_of_ble_eq_true rfl⟩ (fun r_16 g_15 H locs hw_14 hP hS => ?_)
          rw [hw_14] at hP
          refine lv_icmp_ne (tgt := 50) hx hb dX12_meetOf_40 (by decide) (fun hc_17 => ?_) (fun hc_17 => ?_)
          · have hhc_17 := n_ne (rfl : r_13.toInt = r_13.toInt) (rfl : r_16.toInt = r_16.toInt) hc_17
            refine lv_iconst (v := 0) hx hb dX12_meetOf_50 (by decide) ?_
            refine lv_ior hx hb dX12_meetOf_51 ?_
            refine lv_topi (fun z_18 ez_18 => ?_)
            refine lv_istore_n (lv' := [(3, .int z_18), (4, .int v5_4), (0, .ref (ad 197)), (1, .int ev), (2, .int eo)]) hx hb dX12_meetOf_52 rfl hl (by decide) rfl (fun ls hl => ?_)
            obtain ⟨x_19, ex_19⟩ : ∃ y : Int32, y = v5_4 + 1 := ⟨_, rfl⟩
            have hx_19 : x_19.toInt = v5_4.toInt + 1 := n_add rfl (by decide : (1 : Int32).toInt = 1) ex_19 (by omega) (by omega)
            refine lv_iinc (v := x_19) (lv' := [(4, .int x_19), (3, .int z_18), (0, .ref (ad 197)), (1, .int ev), (2, .int eo)]) hx hb dX12_meetOf_53 hl (k := 1) rfl (by rw [ex_19]; rfl) (by decide) rfl (fun ls hl => ?_)
            refine lv_goto (tgt := 5) hx hb dX12_meetOf_56 (by decide) ?_
            exact ih5 x_19 z_18 _ _ ls (by omega) (by omega) hP hS (lv_sub hl [0, 1, 2, 3, 4] rfl)
          · have hhc_17 := n_eq (rfl : r_13.toInt = r_13.toInt) (rfl : r_16.toInt = r_16.toInt) hc_17
            refine lv_iconst (v := 1) hx hb dX12_meetOf_43 (by decide) ?_
            refine lv_iload hx hb dX12_meetOf_44 (lv_at hl 0 rfl) ?_
            refine lv_ishl hx hb dX12_meetOf_46 ?_
            refine lv_topi (fun z_20 ez_20 => ?_)
            refine lv_goto (tgt := 51) hx hb dX12_meetOf_47 (by decide) ?_
            refine lv_ior hx hb dX12_meetOf_51 ?_
            refine lv_topi (fun z_21 ez_21 => ?_)
            refine lv_istore_n (lv' := [(3, .int z_21), (4, .int v5_4), (0, .ref (ad 197)), (1, .int ev), (2, .int eo)]) hx hb dX12_meetOf_52 rfl hl (by decide) rfl (fun ls hl => ?_)
            obtain ⟨x_22, ex_22⟩ : ∃ y : Int32, y = v5_4 + 1 := ⟨_, rfl⟩
            have hx_22 : x_22.toInt = v5_4.toInt + 1 := n_add rfl (by decide : (1 : Int32).toInt = 1) ex_22 (by omega) (by omega)
            refine lv_iinc (v := x_22) (lv' := [(4, .int x_22), (3, .int z_21), (0, .ref (ad 197)), (1, .int ev), (2, .int eo)]) hx hb dX12_meetOf_53 hl (k := 1) rfl (by rw [ex_22]; rfl) (by decide) rfl (fun ls hl => ?_)
            refine lv_goto (tgt := 5) hx hb dX12_meetOf_56 (by decide) ?_
            exact ih5 x_22 z_21 _ _ ls (by omega) (by omega) hP hS (lv_sub hl [0, 1, 2, 3, 4] rfl)
  have hiv5_4 : (0 : Int32).toInt = 0 := by decide
  have hiv5_3 : (0 : Int32).toInt = 0 := by decide
  exact HL5 _ 0 0 _ _ ls (Nat.lt_succ_self _) (by omega) hP hS (lv_sub hl [0, 1, 2, 3, 4] rfl)

theorem dX12_meet_0 : decode cX12_meet 0 = .ok (.aload_n 0, 1) := by decide +kernel
theorem dX12_meet_1 : decode cX12_meet 1 = .ok (.iload_n 1, 1) := by decide +kernel
theorem dX12_meet_2 : decode cX12_meet 2 = .ok (.invokevirtual 212, 3) := by decide +kernel
theorem dX12_meet_5 : decode cX12_meet 5 = .ok (.ifCond .eq 11, 3) := by decide +kernel
theorem dX12_meet_8 : decode cX12_meet 8 = .ok (.aload_n 0, 1) := by decide +kernel
theorem dX12_meet_9 : decode cX12_meet 9 = .ok (.iload_n 2, 1) := by decide +kernel
theorem dX12_meet_10 : decode cX12_meet 10 = .ok (.invokevirtual 212, 3) := by decide +kernel
theorem dX12_meet_13 : decode cX12_meet 13 = .ok (.ifCond .ne 6, 3) := by decide +kernel
theorem dX12_meet_19 : decode cX12_meet 19 = .ok (.aload_n 0, 1) := by decide +kernel
theorem dX12_meet_20 : decode cX12_meet 20 = .ok (.invokevirtual 246, 3) := by decide +kernel
theorem dX12_meet_23 : decode cX12_meet 23 = .ok (.aload_n 0, 1) := by decide +kernel
theorem dX12_meet_24 : decode cX12_meet 24 = .ok (.iload_n 1, 1) := by decide +kernel
theorem dX12_meet_25 : decode cX12_meet 25 = .ok (.iload_n 2, 1) := by decide +kernel
theorem dX12_meet_26 : decode cX12_meet 26 = .ok (.invokevirtual 270, 3) := by decide +kernel
theorem dX12_meet_29 : decode cX12_meet 29 = .ok (.ireturn, 1) := by decide +kernel
theorem dX12_meet_16 : decode cX12_meet 16 = .ok (.bipush (-2), 2) := by decide +kernel
theorem dX12_meet_18 : decode cX12_meet 18 = .ok (.ireturn, 1) := by decide +kernel
noncomputable def vX12_meet : List Cond := .code yX12_meet cX12_meet 3 (some .int) :: (([.methodLink RX12 212 yX12_isEave, .instanceMethod yX12_isEave, .selects RX12 yX12_isEave yX12_isEave, .initialized RX12, .methodLink RX12 246 yX12_layAll, .instanceMethod yX12_layAll, .selects RX12 yX12_layAll yX12_layAll, .methodLink RX12 270 yX12_meetOf, .instanceMethod yX12_meetOf, .selects RX12 yX12_meetOf yX12_meetOf] : List Cond) ++ (vX12_isEave ++ (vX12_layAll ++ vX12_meetOf)))
theorem gs_X12_meet : Gd vX12_meet := Gd.cons (by decide +kernel) (Gd.app (Gd.r (by decide +kernel)) (Gd.app gs_X12_isEave (Gd.app gs_X12_layAll gs_X12_meetOf)))
theorem gg_X12_meet_X12_isEave : GoodIn vX12_meet (wsV RX12 212 RX12 yX12_isEave vX12_isEave) := goodIn_app (goodIn_r _ [1, 2, 3, 4] (by decide +kernel) (by decide +kernel)) (fun w h => ⟨List.mem_cons_of_mem _ (List.mem_append_right _ (List.mem_append_left _ h)), gs_X12_isEave w h⟩)
theorem gg_X12_meet_X12_layAll : GoodIn vX12_meet (wsV RX12 246 RX12 yX12_layAll vX12_layAll) := goodIn_app (goodIn_r _ [5, 6, 7, 4] (by decide +kernel) (by decide +kernel)) (fun w h => ⟨List.mem_cons_of_mem _ (List.mem_append_right _ (List.mem_append_right _ (List.mem_append_left _ h))), gs_X12_layAll w h⟩)
theorem gg_X12_meet_X12_meetOf : GoodIn vX12_meet (wsV RX12 270 RX12 yX12_meetOf vX12_meetOf) := goodIn_app (goodIn_r _ [8, 9, 10, 4] (by decide +kernel) (by decide +kernel)) (fun w h => ⟨List.mem_cons_of_mem _ (List.mem_append_right _ (List.mem_append_right _ (List.mem_append_right _ (h)))), gs_X12_meetOf w h⟩)
set_option maxHeartbeats 4000000 in
set_option maxRecDepth 100000 in
theorem s_X12_meet (l : Launch) (D : va_G) (cs : Nat → ClassId) (ad : Nat → Nat) (kS : kSt) (K : sK) (hKO : KO K) (hj : wJ ad 218) (g : Nat → va_E) (hW : WF (shp ad K) ad cs g) (ev : Int32) (eo : Int32) : sI l yX12_meet vX12_meet { frames := 3, cells := 0, slots := 0, locals := 70 } D cs ad kS [.ref (ad 197), .int ev, .int eo] g (fun r g2 => WF (shp ad K) ad cs g2 ∧ (∀ j, j ≠ 197 ∧ j ≠ 204 ∧ j ≠ 205 → g2 j = g j)) := by
  refine Met.startS (cc := cX12_meet) (maxL := 3) (ret := (some .int)) RX12 rfl (by decide) rfl (Nat.le_of_ble_eq_true rfl) ?_
  intro p e s m below meth c ls X Z hP hl
  have hx := X.1
  have hb := X.2.1
  have hS : va_S (wA ad 218) s.heap s.heap [] := va_S.rf
  have hA : ∀ i, i < 218 → wA ad 218 (ad i) := fun i h => ⟨i, h, rfl⟩
  have hfr : ∀ j, j ≠ 197 ∧ j ≠ 204 ∧ j ≠ 205 → g j = g j := fun _ _ => rfl
  have hl : lv_has ls 3 [(0, .ref (ad 197)), (1, .int ev), (2, .int eo)] := hl
  refine lv_aload_n hx hb dX12_meet_0 rfl (lv_at hl 0 rfl) ?_
  refine lv_iload_n hx hb dX12_meet_1 rfl (lv_at hl 1 rfl) ?_
  obtain ⟨fsc_4, hgc_4, hOc_4⟩ := hW.obj (i := 197) (by decide) (sh_197 ad K)
  refine s_calli (q := (RX12, TX12, 40)) (As := [.int ev]) (rest := []) X Z (s_X12_isEave l D cs ad kS K hKO hj g hW ev) (cwV 1 X.2.2.2.2.1 gg_X12_meet_X12_isEave rfl rfl rfl (by decide +kernel) ⟨Nat.le_of_ble_eq_true rfl, Nat.le_of_ble_eq_true rfl⟩) (by decide) hgc_4 rfl hP hA hS.2.1 hS rfl hl.1 rfl (Nat.le_of_ble_eq_true rfl) dX12_meet_2 ⟨Nat.le_of_ble_eq_true rfl, Nat.le_of_ble_eq_true rfl⟩ (fun r_3 g_2 H locs hw_1 hP hS => ?_)
  obtain ⟨hw_1g, hw_1⟩ := hw_1
  rw [hw_1g] at hP
  have HJ16 : ∀ (G16 : Nat → va_E) (H : Heap) (locs : List Loc) (ls : Array Slot), WF (shp ad K) ad cs G16 → (∀ j, j ≠ 197 ∧ j ≠ 204 ∧ j ≠ 205 → G16 j = g j) → G16 197 = .inr (12, fsc_4) → va_P D vwCl (wL ad G16 218) H → va_S (wA ad 218) s.heap H locs → lv_has ls 3 [] → W p l e ({ frames := 3, cells := 0, slots := 0, locals := 70 } : Room) s m ([.ref (ad 197), .int ev, .int eo] : List Value).toArray below meth c H locs 0 0 (MQ below (qI D ad 218 (fun r g2 => WF (shp ad K) ad cs g2 ∧ (∀ j, j ≠ 197 ∧ j ≠ 204 ∧ j ≠ 205 → g2 j = g j))) ([.ref (ad 197), .int ev, .int eo] : List Value).toArray s 0 0 (wA ad 218)) (F0 m 16 ls []) := by
    intro G16 H locs ls hW16 hfr16 hg16_0 hP hS hl
    refine lv_bipush (v := (-2)) hx hb dX12_meet_16 (by decide) ?_
    exact q_iret X hP hS ⟨hW16, hfr16⟩ dX12_meet_18
  refine lv_if_eq (tgt := 16) hx hb dX12_meet_5 (by decide) (fun hc_5 => ?_) (fun hc_5 => ?_)
  · have hhc_5 := n_eq (rfl : r_3.toInt = r_3.toInt) (by decide : (0 : Int32).toInt = 0) hc_5
    exact HJ16 g _ _ ls hW hfr hgc_4 hP hS (lv_sub hl [] rfl)
  · have hhc_5 := n_ne (rfl : r_3.toInt = r_3.toInt) (by decide : (0 : Int32).toInt = 0) hc_5
    refine lv_aload_n hx hb dX12_meet_8 rfl (lv_at hl 0 rfl) ?_
    refine lv_iload_n hx hb dX12_meet_9 rfl (lv_at hl 2 rfl) ?_
    refine s_calli (q := (RX12, TX12, 40)) (As := [.int eo]) (rest := []) X Z (s_X12_isEave l D cs ad kS K hKO hj g hW eo) (cwV 1 X.2.2.2.2.1 gg_X12_meet_X12_isEave rfl rfl rfl (by decide +kernel) ⟨Nat.le_of_ble_eq_true rfl, Nat.le_of_ble_eq_true rfl⟩) (by decide) hgc_4 rfl hP hA hS.2.1 hS rfl hl.1 rfl (Nat.le_of_ble_eq_true rfl) dX12_meet_10 ⟨Nat.le_of_ble_eq_true rfl, Nat.le_of_ble_eq_true rfl⟩ (fun r_8 g_7 H locs hw_6 hP hS => ?_)
    obtain ⟨hw_6g, hw_6⟩ := hw_6
    rw [hw_6g] at hP
    refine lv_if_ne (tgt := 19) hx hb dX12_meet_13 (by decide) (fun hc_9 => ?_) (fun hc_9 => ?_)
    · have hhc_9 := n_ne (rfl : r_8.toInt = r_8.toInt) (by decide : (0 : Int32).toInt = 0) hc_9
      refine lv_aload_n hx hb dX12_meet_19 rfl (lv_at hl 0 rfl) ?_
      refine s_callv (q := (RX12, TX12, 40)) (As := []) (rest := []) X Z (s_X12_layAll l D cs ad kS K hKO hj g hW) (cwV 0 X.2.2.2.2.1 gg_X12_meet_X12_layAll rfl rfl rfl (by decide +kernel) ⟨Nat.le_of_ble_eq_true rfl, Nat.le_of_ble_eq_true rfl⟩) (by decide) hgc_4 rfl hP hA hS.2.1 hS rfl hl.1 rfl (Nat.le_of_ble_eq_true rfl) dX12_meet_20 ⟨Nat.le_of_ble_eq_true rfl, Nat.le_of_ble_eq_true rfl⟩ (fun g_11 H locs hw_10 hP hS => ?_)
      obtain ⟨hw_10W, hw_10f⟩ := hw_10
      have hfr_13 : ∀ j, j ≠ 197 ∧ j ≠ 204 ∧ j ≠ 205 → g_11 j = g j := fun j hj => (hw_10f j (by omega)).trans (hfr j hj)
      refine lv_aload_n hx hb dX12_meet_23 rfl (lv_at hl 0 rfl) ?_
      refine lv_iload_n hx hb dX12_meet_24 rfl (lv_at hl 1 rfl) ?_
      refine lv_iload_n hx hb dX12_meet_25 rfl (lv_at hl 2 rfl) ?_
      obtain ⟨fsc_17, hgc_17, hOc_17⟩ := hw_10W.obj (i := 197) (by decide) (sh_197 ad K)
      refine s_calli (q := (RX12, TX12, 40)) (As := [.int ev, .int eo]) (rest := []) X Z (s_X12_meetOf l D cs ad kS K hKO hj g_11 hw_10W ev eo) (cwV 2 X.2.2.2.2.1 gg_X12_meet_X12_meetOf rfl rfl rfl (by decide +kernel) ⟨Nat.le_of_ble_eq_true rfl, Nat.le_of_ble_eq_true rfl⟩) (by decide) hgc_17 rfl hP hA hS.2.1 hS rfl hl.1 rfl (Nat.le_of_ble_eq_true rfl) dX12_meet_26 ⟨Nat.le_of_ble_eq_true rfl, Nat.le_of_ble_eq_true rfl⟩ (fun r_16 g_15 H locs hw_14 hP hS => ?_)
      rw [hw_14] at hP
      exact q_iret X hP hS ⟨hw_10W, hfr_13⟩ dX12_meet_29
    · have hhc_9 := n_eq (rfl : r_8.toInt = r_8.toInt) (by decide : (0 : Int32).toInt = 0) hc_9
      exact HJ16 g _ _ ls hW hfr hgc_4 hP hS (lv_sub hl [] rfl)

theorem dX12_apart_0 : decode cX12_apart 0 = .ok (.aload_n 0, 1) := by decide +kernel
theorem dX12_apart_1 : decode cX12_apart 1 = .ok (.iload_n 1, 1) := by decide +kernel
theorem dX12_apart_2 : decode cX12_apart 2 = .ok (.invokevirtual 212, 3) := by decide +kernel
theorem dX12_apart_5 : decode cX12_apart 5 = .ok (.ifCond .eq 11, 3) := by decide +kernel
theorem dX12_apart_8 : decode cX12_apart 8 = .ok (.aload_n 0, 1) := by decide +kernel
theorem dX12_apart_9 : decode cX12_apart 9 = .ok (.iload_n 2, 1) := by decide +kernel
theorem dX12_apart_10 : decode cX12_apart 10 = .ok (.invokevirtual 212, 3) := by decide +kernel
theorem dX12_apart_13 : decode cX12_apart 13 = .ok (.ifCond .ne 6, 3) := by decide +kernel
theorem dX12_apart_19 : decode cX12_apart 19 = .ok (.aload_n 0, 1) := by decide +kernel
theorem dX12_apart_20 : decode cX12_apart 20 = .ok (.invokevirtual 246, 3) := by decide +kernel
theorem dX12_apart_23 : decode cX12_apart 23 = .ok (.iconst (-1), 1) := by decide +kernel
theorem dX12_apart_24 : decode cX12_apart 24 = .ok (.istore_n 3, 1) := by decide +kernel
theorem dX12_apart_25 : decode cX12_apart 25 = .ok (.iconst 0, 1) := by decide +kernel
theorem dX12_apart_26 : decode cX12_apart 26 = .ok (.istore 4, 2) := by decide +kernel
theorem dX12_apart_28 : decode cX12_apart 28 = .ok (.iload 4, 2) := by decide +kernel
theorem dX12_apart_30 : decode cX12_apart 30 = .ok (.aload_n 0, 1) := by decide +kernel
theorem dX12_apart_31 : decode cX12_apart 31 = .ok (.getfield 231, 3) := by decide +kernel
theorem dX12_apart_34 : decode cX12_apart 34 = .ok (.if_icmp .ge 67, 3) := by decide +kernel
theorem dX12_apart_37 : decode cX12_apart 37 = .ok (.aload_n 0, 1) := by decide +kernel
theorem dX12_apart_38 : decode cX12_apart 38 = .ok (.iload_n 1, 1) := by decide +kernel
theorem dX12_apart_39 : decode cX12_apart 39 = .ok (.iload 4, 2) := by decide +kernel
theorem dX12_apart_41 : decode cX12_apart 41 = .ok (.invokevirtual 267, 3) := by decide +kernel
theorem dX12_apart_44 : decode cX12_apart 44 = .ok (.istore 5, 2) := by decide +kernel
theorem dX12_apart_46 : decode cX12_apart 46 = .ok (.aload_n 0, 1) := by decide +kernel
theorem dX12_apart_47 : decode cX12_apart 47 = .ok (.iload_n 2, 1) := by decide +kernel
theorem dX12_apart_48 : decode cX12_apart 48 = .ok (.iload 4, 2) := by decide +kernel
theorem dX12_apart_50 : decode cX12_apart 50 = .ok (.invokevirtual 267, 3) := by decide +kernel
theorem dX12_apart_53 : decode cX12_apart 53 = .ok (.istore 6, 2) := by decide +kernel
theorem dX12_apart_55 : decode cX12_apart 55 = .ok (.iload 5, 2) := by decide +kernel
theorem dX12_apart_57 : decode cX12_apart 57 = .ok (.iconst (-1), 1) := by decide +kernel
theorem dX12_apart_58 : decode cX12_apart 58 = .ok (.if_icmp .eq 37, 3) := by decide +kernel
theorem dX12_apart_61 : decode cX12_apart 61 = .ok (.iload 6, 2) := by decide +kernel
theorem dX12_apart_63 : decode cX12_apart 63 = .ok (.iconst (-1), 1) := by decide +kernel
theorem dX12_apart_64 : decode cX12_apart 64 = .ok (.if_icmp .ne 6, 3) := by decide +kernel
theorem dX12_apart_67 : decode cX12_apart 67 = .ok (.goto 28, 3) := by decide +kernel
theorem dX12_apart_70 : decode cX12_apart 70 = .ok (.iload 5, 2) := by decide +kernel
theorem dX12_apart_72 : decode cX12_apart 72 = .ok (.iload 6, 2) := by decide +kernel
theorem dX12_apart_74 : decode cX12_apart 74 = .ok (.isub, 1) := by decide +kernel
theorem dX12_apart_75 : decode cX12_apart 75 = .ok (.invokestatic 273, 3) := by decide +kernel
theorem dX12_apart_78 : decode cX12_apart 78 = .ok (.istore 7, 2) := by decide +kernel
theorem dX12_apart_80 : decode cX12_apart 80 = .ok (.iload_n 3, 1) := by decide +kernel
theorem dX12_apart_81 : decode cX12_apart 81 = .ok (.iload 7, 2) := by decide +kernel
theorem dX12_apart_83 : decode cX12_apart 83 = .ok (.bipush 24, 2) := by decide +kernel
theorem dX12_apart_85 : decode cX12_apart 85 = .ok (.iload 7, 2) := by decide +kernel
theorem dX12_apart_87 : decode cX12_apart 87 = .ok (.isub, 1) := by decide +kernel
theorem dX12_apart_88 : decode cX12_apart 88 = .ok (.invokestatic 117, 3) := by decide +kernel
theorem dX12_apart_91 : decode cX12_apart 91 = .ok (.invokestatic 252, 3) := by decide +kernel
theorem dX12_apart_94 : decode cX12_apart 94 = .ok (.istore_n 3, 1) := by decide +kernel
theorem dX12_apart_95 : decode cX12_apart 95 = .ok (.iinc 4 1, 3) := by decide +kernel
theorem dX12_apart_98 : decode cX12_apart 98 = .ok (.goto (-70), 3) := by decide +kernel
theorem dX12_apart_101 : decode cX12_apart 101 = .ok (.iload_n 3, 1) := by decide +kernel
theorem dX12_apart_102 : decode cX12_apart 102 = .ok (.ireturn, 1) := by decide +kernel
theorem dX12_apart_16 : decode cX12_apart 16 = .ok (.bipush (-2), 2) := by decide +kernel
theorem dX12_apart_18 : decode cX12_apart 18 = .ok (.ireturn, 1) := by decide +kernel
noncomputable def vX12_apart : List Cond := .code yX12_apart cX12_apart 8 (some .int) :: (([.methodLink RX12 212 yX12_isEave, .instanceMethod yX12_isEave, .selects RX12 yX12_isEave yX12_isEave, .initialized RX12, .methodLink RX12 246 yX12_layAll, .instanceMethod yX12_layAll, .selects RX12 yX12_layAll yX12_layAll, .fieldLink RX12 231 "IcicleClockModel" "days" "I", .methodLink RX12 267 yX12_timeOf, .instanceMethod yX12_timeOf, .selects RX12 yX12_timeOf yX12_timeOf, .methodLink RX12 273 Lib.Math.abs.name, .static Lib.Math.abs.name, .initialized "java/lang/Math", .code Lib.Math.abs.name Lib.Math.abs.code 1 (some .int), .methodLink RX12 117 Lib.Math.min.name, .static Lib.Math.min.name, .code Lib.Math.min.name Lib.Math.min.code 2 (some .int), .methodLink RX12 252 Lib.Math.max.name, .static Lib.Math.max.name, .code Lib.Math.max.name Lib.Math.max.code 2 (some .int)] : List Cond) ++ (wsX120 ++ (vX12_isEave ++ (vX12_layAll ++ vX12_timeOf))))
theorem iX12_apart_12 : ∀ w ∈ wsX120, w ∈ vX12_apart := fun _ h => List.mem_cons_of_mem _ (List.mem_append_right _ (List.mem_append_left _ h))
theorem gs_X12_apart : Gd vX12_apart := Gd.cons (by decide +kernel) (Gd.app (Gd.r (by decide +kernel)) (Gd.app gwX_12 (Gd.app gs_X12_isEave (Gd.app gs_X12_layAll gs_X12_timeOf))))
theorem gg_X12_apart_X12_isEave : GoodIn vX12_apart (wsV RX12 212 RX12 yX12_isEave vX12_isEave) := goodIn_app (goodIn_r _ [1, 2, 3, 4] (by decide +kernel) (by decide +kernel)) (fun w h => ⟨List.mem_cons_of_mem _ (List.mem_append_right _ (List.mem_append_right _ (List.mem_append_left _ h))), gs_X12_isEave w h⟩)
theorem gg_X12_apart_X12_layAll : GoodIn vX12_apart (wsV RX12 246 RX12 yX12_layAll vX12_layAll) := goodIn_app (goodIn_r _ [5, 6, 7, 4] (by decide +kernel) (by decide +kernel)) (fun w h => ⟨List.mem_cons_of_mem _ (List.mem_append_right _ (List.mem_append_right _ (List.mem_append_right _ (List.mem_append_left _ h)))), gs_X12_layAll w h⟩)
theorem gg_X12_apart_X12_timeOf : GoodIn vX12_apart (wsV RX12 267 RX12 yX12_timeOf vX12_timeOf) := goodIn_app (goodIn_r _ [9, 10, 11, 4] (by decide +kernel) (by decide +kernel)) (fun w h => ⟨List.mem_cons_of_mem _ (List.mem_append_right _ (List.mem_append_right _ (List.mem_append_right _ (List.mem_append_right _ (h))))), gs_X12_timeOf w h⟩)
set_option maxHeartbeats 4000000 in
set_option maxRecDepth 100000 in
theorem s_X12_apart (l : Launch) (D : va_G) (cs : Nat → ClassId) (ad : Nat → Nat) (kS : kSt) (K : sK) (hKO : KO K) (hj : wJ ad 218) (g : Nat → va_E) (hW : WF (shp ad K) ad cs g) (ev : Int32) (eo : Int32) : sI l yX12_apart vX12_apart { frames := 3, cells := 0, slots := 0, locals := 65 } D cs ad kS [.ref (ad 197), .int ev, .int eo] g (fun r g2 => WF (shp ad K) ad cs g2 ∧ (∀ j, j ≠ 197 ∧ j ≠ 204 ∧ j ≠ 205 → g2 j = g j)) := by
  refine Met.startS (cc := cX12_apart) (maxL := 8) (ret := (some .int)) RX12 rfl (by decide) rfl (Nat.le_of_ble_eq_true rfl) ?_
  intro p e s m below meth c ls X Z hP hl
  have hx := X.1
  have hb := X.2.1
  have hS : va_S (wA ad 218) s.heap s.heap [] := va_S.rf
  have hA : ∀ i, i < 218 → wA ad 218 (ad i) := fun i h => ⟨i, h, rfl⟩
  have hfr : ∀ j, j ≠ 197 ∧ j ≠ 204 ∧ j ≠ 205 → g j = g j := fun _ _ => rfl
  have hl : lv_has ls 8 [(0, .ref (ad 197)), (1, .int ev), (2, .int eo)] := hl
  refine lv_aload_n hx hb dX12_apart_0 rfl (lv_at hl 0 rfl) ?_
  refine lv_iload_n hx hb dX12_apart_1 rfl (lv_at hl 1 rfl) ?_
  obtain ⟨fsc_4, hgc_4, hOc_4⟩ := hW.obj (i := 197) (by decide) (sh_197 ad K)
  refine s_calli (q := (RX12, TX12, 40)) (As := [.int ev]) (rest := []) X Z (s_X12_isEave l D cs ad kS K hKO hj g hW ev) (cwV 1 X.2.2.2.2.1 gg_X12_apart_X12_isEave rfl rfl rfl (by decide +kernel) ⟨Nat.le_of_ble_eq_true rfl, Nat.le_of_ble_eq_true rfl⟩) (by decide) hgc_4 rfl hP hA hS.2.1 hS rfl hl.1 rfl (Nat.le_of_ble_eq_true rfl) dX12_apart_2 ⟨Nat.le_of_ble_eq_true rfl, Nat.le_of_ble_eq_true rfl⟩ (fun r_3 g_2 H locs hw_1 hP hS => ?_)
  obtain ⟨hw_1g, hw_1⟩ := hw_1
  rw [hw_1g] at hP
  have HJ16 : ∀ (G16 : Nat → va_E) (H : Heap) (locs : List Loc) (ls : Array Slot), WF (shp ad K) ad cs G16 → (∀ j, j ≠ 197 ∧ j ≠ 204 ∧ j ≠ 205 → G16 j = g j) → G16 197 = .inr (12, fsc_4) → va_P D vwCl (wL ad G16 218) H → va_S (wA ad 218) s.heap H locs → lv_has ls 8 [] → W p l e ({ frames := 3, cells := 0, slots := 0, locals := 65 } : Room) s m ([.ref (ad 197), .int ev, .int eo] : List Value).toArray below meth c H locs 0 0 (MQ below (qI D ad 218 (fun r g2 => WF (shp ad K) ad cs g2 ∧ (∀ j, j ≠ 197 ∧ j ≠ 204 ∧ j ≠ 205 → g2 j = g j))) ([.ref (ad 197), .int ev, .int eo] : List Value).toArray s 0 0 (wA ad 218)) (F0 m 16 ls []) := by
    intro G16 H locs ls hW16 hfr16 hg16_0 hP hS hl
    refine lv_bipush (v := (-2)) hx hb dX12_apart_16 (by decide) ?_
    exact q_iret X hP hS ⟨hW16, hfr16⟩ dX12_apart_18
  refine lv_if_eq (tgt := 16) hx hb dX12_apart_5 (by decide) (fun hc_5 => ?_) (fun hc_5 => ?_)
  · have hhc_5 := n_eq (rfl : r_3.toInt = r_3.toInt) (by decide : (0 : Int32).toInt = 0) hc_5
    exact HJ16 g _ _ ls hW hfr hgc_4 hP hS (lv_sub hl [] rfl)
  · have hhc_5 := n_ne (rfl : r_3.toInt = r_3.toInt) (by decide : (0 : Int32).toInt = 0) hc_5
    refine lv_aload_n hx hb dX12_apart_8 rfl (lv_at hl 0 rfl) ?_
    refine lv_iload_n hx hb dX12_apart_9 rfl (lv_at hl 2 rfl) ?_
    refine s_calli (q := (RX12, TX12, 40)) (As := [.int eo]) (rest := []) X Z (s_X12_isEave l D cs ad kS K hKO hj g hW eo) (cwV 1 X.2.2.2.2.1 gg_X12_apart_X12_isEave rfl rfl rfl (by decide +kernel) ⟨Nat.le_of_ble_eq_true rfl, Nat.le_of_ble_eq_true rfl⟩) (by decide) hgc_4 rfl hP hA hS.2.1 hS rfl hl.1 rfl (Nat.le_of_ble_eq_true rfl) dX12_apart_10 ⟨Nat.le_of_ble_eq_true rfl, Nat.le_of_ble_eq_true rfl⟩ (fun r_8 g_7 H locs hw_6 hP hS => ?_)
    obtain ⟨hw_6g, hw_6⟩ := hw_6
    rw [hw_6g] at hP
    refine lv_if_ne (tgt := 19) hx hb dX12_apart_13 (by decide) (fun hc_9 => ?_) (fun hc_9 => ?_)
    · have hhc_9 := n_ne (rfl : r_8.toInt = r_8.toInt) (by decide : (0 : Int32).toInt = 0) hc_9
      refine lv_aload_n hx hb dX12_apart_19 rfl (lv_at hl 0 rfl) ?_
      refine s_callv (q := (RX12, TX12, 40)) (As := []) (rest := []) X Z (s_X12_layAll l D cs ad kS K hKO hj g hW) (cwV 0 X.2.2.2.2.1 gg_X12_apart_X12_layAll rfl rfl rfl (by decide +kernel) ⟨Nat.le_of_ble_eq_true rfl, Nat.le_of_ble_eq_true rfl⟩) (by decide) hgc_4 rfl hP hA hS.2.1 hS rfl hl.1 rfl (Nat.le_of_ble_eq_true rfl) dX12_apart_20 ⟨Nat.le_of_ble_eq_true rfl, Nat.le_of_ble_eq_true rfl⟩ (fun g_11 H locs hw_10 hP hS => ?_)
      obtain ⟨hw_10W, hw_10f⟩ := hw_10
      have hfr_13 : ∀ j, j ≠ 197 ∧ j ≠ 204 ∧ j ≠ 205 → g_11 j = g j := fun j hj => (hw_10f j (by omega)).trans (hfr j hj)
      refine lv_iconst (v := (-1)) hx hb dX12_apart_23 (by decide) ?_
      refine lv_istore_n (lv' := [(3, .int (-1)), (0, .ref (ad 197)), (1, .int ev), (2, .int eo)]) hx hb dX12_apart_24 rfl hl (by decide) rfl (fun ls hl => ?_)
      refine lv_iconst (v := 0) hx hb dX12_apart_25 (by decide) ?_
      refine lv_istore (lv' := [(4, .int 0), (3, .int (-1)), (0, .ref (ad 197)), (1, .int ev), (2, .int eo)]) hx hb dX12_apart_26 hl (by decide) rfl (fun ls hl => ?_)
      have HL28 : ∀ (n28 : Nat) (v28_4 : Int32) (v28_3 : Int32) (G28 : Nat → va_E) (H : Heap) (locs : List Loc) (ls : Array Slot), (14 - v28_4.toInt).toNat < n28 → (0 ≤ v28_4.toInt ∧ v28_4.toInt ≤ 14) → ((-1) ≤ v28_3.toInt) → WF (shp ad K) ad cs G28 → (∀ j, j ≠ 197 ∧ j ≠ 204 ∧ j ≠ 205 → G28 j = g j) → va_P D vwCl (wL ad G28 218) H → va_S (wA ad 218) s.heap H locs → lv_has ls 8 [(4, .int v28_4), (3, .int v28_3), (0, .ref (ad 197)), (1, .int ev), (2, .int eo)] → W p l e ({ frames := 3, cells := 0, slots := 0, locals := 65 } : Room) s m ([.ref (ad 197), .int ev, .int eo] : List Value).toArray below meth c H locs 0 0 (MQ below (qI D ad 218 (fun r g2 => WF (shp ad K) ad cs g2 ∧ (∀ j, j ≠ 197 ∧ j ≠ 204 ∧ j ≠ 205 → g2 j = g j))) ([.ref (ad 197), .int ev, .int eo] : List Value).toArray s 0 0 (wA ad 218)) (F0 m 28 ls []) := by
        intro n28
        induction n28 with
        | zero =>
          intro v28_4 v28_3 G28 H locs ls hm28 hv28_0 hv28_1 hW28 hfr28 hP hS hl
          exact absurd hm28 (Nat.not_lt_zero _)
        | succ n28 ih28 =>
          intro v28_4 v28_3 G28 H locs ls hm28 hv28_0 hv28_1 hW28 hfr28 hP hS hl
          refine lv_iload hx hb dX12_apart_28 (lv_at hl 0 rfl) ?_
          refine lv_aload_n hx hb dX12_apart_30 rfl (lv_at hl 2 rfl) ?_
          obtain ⟨fsc_14, hgc_14, hOc_14⟩ := hW28.obj (i := 197) (by decide) (sh_197 ad K)
          obtain ⟨x_16, hk_15, hlx_16, hhx_16⟩ := hOc_14.int 17 rfl
          refine q_get X iX12_apart_12 hP (by decide) hgc_14 rfl 17 (by decide) (List.mem_of_getElem? (i := 8) rfl) (v := .int x_16) hk_15 dX12_apart_31 ?_
          refine lv_icmp_ge (tgt := 101) hx hb dX12_apart_34 (by decide) (fun hc_17 => ?_) (fun hc_17 => ?_)
          · have hhc_17 := n_le (rfl : x_16.toInt = x_16.toInt) (rfl : v28_4.toInt = v28_4.toInt) hc_17
            refine lv_iload_n hx hb dX12_apart_101 rfl (lv_at hl 1 rfl) ?_
            exact q_iret X hP hS ⟨hW28, hfr28⟩ dX12_apart_102
          · have hhc_17 := n_nle (rfl : x_16.toInt = x_16.toInt) (rfl : v28_4.toInt = v28_4.toInt) hc_17
            refine lv_aload_n hx hb dX12_apart_37 rfl (lv_at hl 2 rfl) ?_
            refine lv_iload_n hx hb dX12_apart_38 rfl (lv_at hl 3 rfl) ?_
            refine lv_iload hx hb dX12_apart_39 (lv_at hl 0 rfl) ?_
            refine s_calli (q := (RX12, TX12, 40)) (As := [.int ev, .int v28_4]) (rest := []) X Z (s_X12_timeOf l D cs ad kS K hKO hj G28 hW28 ev v28_4) (cwV 2 X.2.2.2.2.1 gg_X12_apart_X12_timeOf rfl rfl rfl (by decide +kernel) ⟨Nat.le_of_ble_eq_true rfl, Nat.le_of_ble_eq_true rfl⟩) (by decide) hgc_14 rfl hP hA hS.2.1 hS rfl hl.1 rfl (Nat.le_of_ble_eq_true rfl) dX12_apart_41 ⟨Nat.le_of_ble_eq_true rfl, Nat.le_of_ble_eq_true rfl⟩ (fun r_20 g_19 H locs hw_18 hP hS => ?_)
            rw [hw_18] at hP
            refine lv_istore (lv' := [(5, .int r_20), (4, .int v28_4), (3, .int v28_3), (0, .ref (ad 197)), (1, .int ev), (2, .int eo)]) hx hb dX12_apart_44 hl (by decide) rfl (fun ls hl => ?_)
            refine lv_aload_n hx hb dX12_apart_46 rfl (lv_at hl 3 rfl) ?_
            refine lv_iload_n hx hb dX12_apart_47 rfl (lv_at hl 5 rfl) ?_
            refine lv_iload hx hb dX12_apart_48 (lv_at hl 1 rfl) ?_
            refine s_calli (q := (RX12, TX12, 40)) (As := [.int eo, .int v28_4]) (rest := []) X Z (s_X12_timeOf l D cs ad kS K hKO hj G28 hW28 eo v28_4) (cwV 2 X.2.2.2.2.1 gg_X12_apart_X12_timeOf rfl rfl rfl (by decide +kernel) ⟨Nat.le_of_ble_eq_true rfl, Nat.le_of_ble_eq_true rfl⟩) (by decide) hgc_14 rfl hP hA hS.2.1 hS rfl hl.1 rfl (Nat.le_of_ble_eq_true rfl) dX12_apart_50 ⟨Nat.le_of_ble_eq_true rfl, Nat.le_of_ble_eq_true rfl⟩ (fun r_23 g_22 H locs hw_21 hP hS => ?_)
            rw [hw_21] at hP
            refine lv_istore (lv' := [(6, .int r_23), (5, .int r_20), (4, .int v28_4), (3, .int v28_3), (0, .ref (ad 197)), (1, .int ev), (2, .int eo)]) hx hb dX12_apart_53 hl (by decide) rfl (fun ls hl => ?_)
            refine lv_iload hx hb dX12_apart_55 (lv_at hl 1 rfl) ?_
            refine lv_iconst (v := (-1)) hx hb dX12_apart_57 (by decide) ?_
            have HJ95 : ∀ (v95_3 : Int32) (G95 : Nat → va_E) (H : Heap) (locs : List Loc) (ls : Array Slot), ((-1) ≤ v95_3.toInt) → WF (shp ad K) ad cs G95 → (∀ j, j ≠ 197 ∧ j ≠ 204 ∧ j ≠ 205 → G95 j = g j) → G95 197 = .inr (12, fsc_14) → va_P D vwCl (wL ad G95 218) H → va_S (wA ad 218) s.heap H locs → lv_has ls 8 [(4, .int v28_4), (3, .int v95_3), (0, .ref (ad 197)), (1, .int ev), (2, .int eo)] → W p l e ({ frames := 3, cells := 0, slots := 0, locals := 65 } : Room) s m ([.ref (ad 197), .int ev, .int eo] : List Value).toArray below meth c H locs 0 0 (MQ below (qI D ad 218 (fun r g2 => WF (shp ad K) ad cs g2 ∧ (∀ j, j ≠ 197 ∧ j ≠ 204 ∧ j ≠ 205 → g2 j = g j))) ([.ref (ad 197), .int ev, .int eo] : List Value).toArray s 0 0 (wA ad 218)) (F0 m 95 ls []) := by
              intro v95_3 G95 H locs ls hv95_0 hW95 hfr95 hg95_0 hP hS hl
              obtain ⟨x_24, ex_24⟩ : ∃ y : Int32, y = v28_4 + 1 := ⟨_, rfl⟩
              have hx_24 : x_24.toInt = v28_4.toInt + 1 := n_add rfl (by decide : (1 : Int32).toInt = 1) ex_24 (by omega) (by omega)
              refine lv_iinc (v := x_24) (lv' := [(4, .int x_24), (3, .int v95_3), (0, .ref (ad 197)), (1, .int ev), (2, .int eo)]) hx hb dX12_apart_95 hl (k := 0) rfl (by rw [ex_24]; rfl) (by decide) rfl (fun ls hl => ?_)
              refine lv_goto (tgt := 28) hx hb dX12_apart_98 (by decide) ?_
              exact ih28 x_24 v95_3 G95 _ _ ls (by omega) (by omega) (by omega) hW95 hfr95 hP hS (lv_sub hl [0, 1, 2, 3, 4] rfl)
            refine lv_icmp_eq (tgt := 95) hx hb dX12_apart_58 (by decide) (fun hc_25 => ?_) (fun hc_25 => ?_)
            · have hhc_25 := n_eq (rfl : r_20.toInt = r_20.toInt) (by decide : (-1 : Int32).toInt = -1) hc_25
              exact HJ95 v28_3 G28 _ _ ls (by omega) hW28 hfr28 hgc_14 hP hS (lv_sub hl [2, 3, 4, 5, 6] rfl)
            · have hhc_25 := n_ne (rfl : r_20.toInt = r_20.toInt) (by decide : (-1 : Int32).toInt = -1) hc_25
              refine lv_iload hx hb dX12_apart_61 (lv_at hl 0 rfl) ?_
              refine lv_iconst (v := (-1)) hx hb dX12_apart_63 (by decide) ?_
              refine lv_icmp_ne (tgt := 70) hx hb dX12_apart_64 (by decide) (fun hc_26 => ?_) (fun hc_26 => ?_)
              · have hhc_26 := n_ne (rfl : r_23.toInt = r_23.toInt) (by decide : (-1 : Int32).toInt = -1) hc_26
                refine lv_iload hx hb dX12_apart_70 (lv_at hl 1 rfl) ?_
                refine lv_iload hx hb dX12_apart_72 (lv_at hl 0 rfl) ?_
                refine lv_isub hx hb dX12_apart_74 ?_
                refine lv_topi (fun z_27 ez_27 => ?_)
                refine va_mabs hx hb (X.2.2.2.1.trans hl.1.symm) X.2.2.2.2.2.1 (X.2.2.2.2.1 _ (List.mem_of_getElem? (i := 12) rfl)) (X.2.2.2.2.1 _ (List.mem_of_getElem? (i := 13) rfl)) (X.2.2.2.2.1 _ (List.mem_of_getElem? (i := 14) rfl)) (X.2.2.2.2.1 _ (List.mem_of_getElem? (i := 15) rfl)) (Nat.le_of_ble_eq_true rfl) (Nat.le_of_ble_eq_true rfl) (Nat.le_of_ble_eq_true rfl) (Nat.le_of_ble_eq_true rfl) dX12_apart_75 ?_
                refine lv_topi (fun z_28 ez_28 => ?_)
                refine lv_istore (lv' := [(7, .int z_28), (6, .int r_23), (5, .int r_20), (4, .int v28_4), (3, .int v28_3), (0, .ref (ad 197)), (1, .int ev), (2, .int eo)]) hx hb dX12_apart_78 hl (by decide) rfl (fun ls hl => ?_)
                refine lv_iload_n hx hb dX12_apart_80 rfl (lv_at hl 4 rfl) ?_
                refine lv_iload hx hb dX12_apart_81 (lv_at hl 0 rfl) ?_
                refine lv_bipush (v := 24) hx hb dX12_apart_83 (by decide) ?_
                refine lv_iload hx hb dX12_apart_85 (lv_at hl 0 rfl) ?_
                refine lv_isub hx hb dX12_apart_87 ?_
                refine lv_topi (fun z_29 ez_29 => ?_)
                refine va_mmin hx hb (X.2.2.2.1.trans hl.1.symm) X.2.2.2.2.2.1 (X.2.2.2.2.1 _ (List.mem_of_getElem? (i := 16) rfl)) (X.2.2.2.2.1 _ (List.mem_of_getElem? (i := 17) rfl)) (X.2.2.2.2.1 _ (List.mem_of_getElem? (i := 14) rfl)) (X.2.2.2.2.1 _ (List.mem_of_getElem? (i := 18) rfl)) (Nat.le_of_ble_eq_true rfl) (Nat.le_of_ble_eq_true rfl) (Nat.le_of_ble_eq_true rfl) (Nat.le_of_ble_eq_true rfl) dX12_apart_88 ?_
                refine lv_topi (fun z_30 ez_30 => ?_)
                have hz_30 := n_min (rfl : z_28.toInt = z_28.toInt) (rfl : z_29.toInt = z_29.toInt) ez_30
                refine va_mmax hx hb (X.2.2.2.1.trans hl.1.symm) X.2.2.2.2.2.1 (X.2.2.2.2.1 _ (List.mem_of_getElem? (i := 19) rfl)) (X.2.2.2.2.1 _ (List.mem_of_getElem? (i := 20) rfl)) (X.2.2.2.2.1 _ (List.mem_of_getElem? (i := 14) rfl)) (X.2.2.2.2.1 _ (List.mem_of_getElem? (i := 21) rfl)) (Nat.le_of_ble_eq_true rfl) (Nat.le_of_ble_eq_true rfl) (Nat.le_of_ble_eq_true rfl) (Nat.le_of_ble_eq_true rfl) dX12_apart_91 ?_
                refine lv_topi (fun z_31 ez_31 => ?_)
                have hz_31 := n_max (rfl : v28_3.toInt = v28_3.toInt) (rfl : z_30.toInt = z_30.toInt) ez_31
                refine lv_istore_n (lv' := [(3, .int z_31), (7, .int z_28), (6, .int r_23), (5, .int r_20), (4, .int v28_4), (0, .ref (ad 197)), (1, .int ev), (2, .int eo)]) hx hb dX12_apart_94 rfl hl (by decide) rfl (fun ls hl => ?_)
                exact HJ95 z_31 G28 _ _ ls (by omega) hW28 hfr28 hgc_14 hP hS (lv_sub hl [4, 0, 5, 6, 7] rfl)
              · have hhc_26 := n_eq (rfl : r_23.toInt = r_23.toInt) (by decide : (-1 : Int32).toInt = -1) hc_26
                refine lv_goto (tgt := 95) hx hb dX12_apart_67 (by decide) ?_
                exact HJ95 v28_3 G28 _ _ ls (by omega) hW28 hfr28 hgc_14 hP hS (lv_sub hl [2, 3, 4, 5, 6] rfl)
      have hiv28_4 : (0 : Int32).toInt = 0 := by decide
      have hiv28_3 : ((-1) : Int32).toInt = -1 := by decide
      exact HL28 _ 0 (-1) g_11 _ _ ls (Nat.lt_succ_self _) (by omega) (by omega) hw_10W hfr_13 hP hS (lv_sub hl [0, 1, 2, 3, 4] rfl)
    · have hhc_9 := n_eq (rfl : r_8.toInt = r_8.toInt) (by decide : (0 : Int32).toInt = 0) hc_9
      exact HJ16 g _ _ ls hW hfr hgc_4 hP hS (lv_sub hl [] rfl)

theorem dX12_lateOf_0 : decode cX12_lateOf 0 = .ok (.iconst 0, 1) := by decide +kernel
theorem dX12_lateOf_1 : decode cX12_lateOf 1 = .ok (.istore_n 2, 1) := by decide +kernel
theorem dX12_lateOf_2 : decode cX12_lateOf 2 = .ok (.iload_n 2, 1) := by decide +kernel
theorem dX12_lateOf_3 : decode cX12_lateOf 3 = .ok (.aload_n 0, 1) := by decide +kernel
theorem dX12_lateOf_4 : decode cX12_lateOf 4 = .ok (.getfield 9, 3) := by decide +kernel
theorem dX12_lateOf_7 : decode cX12_lateOf 7 = .ok (.iconst 5, 1) := by decide +kernel
theorem dX12_lateOf_8 : decode cX12_lateOf 8 = .ok (.iaload, 1) := by decide +kernel
theorem dX12_lateOf_9 : decode cX12_lateOf 9 = .ok (.if_icmp .ge 68, 3) := by decide +kernel
theorem dX12_lateOf_12 : decode cX12_lateOf 12 = .ok (.aload_n 0, 1) := by decide +kernel
theorem dX12_lateOf_13 : decode cX12_lateOf 13 = .ok (.iload_n 2, 1) := by decide +kernel
theorem dX12_lateOf_14 : decode cX12_lateOf 14 = .ok (.iconst 2, 1) := by decide +kernel
theorem dX12_lateOf_15 : decode cX12_lateOf 15 = .ok (.invokevirtual 225, 3) := by decide +kernel
theorem dX12_lateOf_18 : decode cX12_lateOf 18 = .ok (.aload_n 0, 1) := by decide +kernel
theorem dX12_lateOf_19 : decode cX12_lateOf 19 = .ok (.getfield 9, 3) := by decide +kernel
theorem dX12_lateOf_22 : decode cX12_lateOf 22 = .ok (.bipush 66, 2) := by decide +kernel
theorem dX12_lateOf_24 : decode cX12_lateOf 24 = .ok (.iconst 2, 1) := by decide +kernel
theorem dX12_lateOf_25 : decode cX12_lateOf 25 = .ok (.iload_n 1, 1) := by decide +kernel
theorem dX12_lateOf_26 : decode cX12_lateOf 26 = .ok (.imul, 1) := by decide +kernel
theorem dX12_lateOf_27 : decode cX12_lateOf 27 = .ok (.iadd, 1) := by decide +kernel
theorem dX12_lateOf_28 : decode cX12_lateOf 28 = .ok (.iaload, 1) := by decide +kernel
theorem dX12_lateOf_29 : decode cX12_lateOf 29 = .ok (.if_icmp .eq 6, 3) := by decide +kernel
theorem dX12_lateOf_32 : decode cX12_lateOf 32 = .ok (.goto 39, 3) := by decide +kernel
theorem dX12_lateOf_71 : decode cX12_lateOf 71 = .ok (.iinc 2 1, 3) := by decide +kernel
theorem dX12_lateOf_74 : decode cX12_lateOf 74 = .ok (.goto (-72), 3) := by decide +kernel
theorem dX12_lateOf_35 : decode cX12_lateOf 35 = .ok (.aload_n 0, 1) := by decide +kernel
theorem dX12_lateOf_36 : decode cX12_lateOf 36 = .ok (.getfield 37, 3) := by decide +kernel
theorem dX12_lateOf_39 : decode cX12_lateOf 39 = .ok (.iload_n 2, 1) := by decide +kernel
theorem dX12_lateOf_40 : decode cX12_lateOf 40 = .ok (.iaload, 1) := by decide +kernel
theorem dX12_lateOf_41 : decode cX12_lateOf 41 = .ok (.iconst (-1), 1) := by decide +kernel
theorem dX12_lateOf_42 : decode cX12_lateOf 42 = .ok (.if_icmp .ne 8, 3) := by decide +kernel
theorem dX12_lateOf_45 : decode cX12_lateOf 45 = .ok (.bipush 99, 2) := by decide +kernel
theorem dX12_lateOf_47 : decode cX12_lateOf 47 = .ok (.goto 23, 3) := by decide +kernel
theorem dX12_lateOf_50 : decode cX12_lateOf 50 = .ok (.aload_n 0, 1) := by decide +kernel
theorem dX12_lateOf_51 : decode cX12_lateOf 51 = .ok (.getfield 37, 3) := by decide +kernel
theorem dX12_lateOf_54 : decode cX12_lateOf 54 = .ok (.iload_n 2, 1) := by decide +kernel
theorem dX12_lateOf_55 : decode cX12_lateOf 55 = .ok (.iaload, 1) := by decide +kernel
theorem dX12_lateOf_56 : decode cX12_lateOf 56 = .ok (.aload_n 0, 1) := by decide +kernel
theorem dX12_lateOf_57 : decode cX12_lateOf 57 = .ok (.getfield 9, 3) := by decide +kernel
theorem dX12_lateOf_60 : decode cX12_lateOf 60 = .ok (.bipush 66, 2) := by decide +kernel
theorem dX12_lateOf_62 : decode cX12_lateOf 62 = .ok (.iconst 2, 1) := by decide +kernel
theorem dX12_lateOf_63 : decode cX12_lateOf 63 = .ok (.iload_n 1, 1) := by decide +kernel
theorem dX12_lateOf_64 : decode cX12_lateOf 64 = .ok (.imul, 1) := by decide +kernel
theorem dX12_lateOf_65 : decode cX12_lateOf 65 = .ok (.iadd, 1) := by decide +kernel
theorem dX12_lateOf_66 : decode cX12_lateOf 66 = .ok (.iconst 1, 1) := by decide +kernel
theorem dX12_lateOf_67 : decode cX12_lateOf 67 = .ok (.iadd, 1) := by decide +kernel
theorem dX12_lateOf_68 : decode cX12_lateOf 68 = .ok (.iaload, 1) := by decide +kernel
theorem dX12_lateOf_69 : decode cX12_lateOf 69 = .ok (.isub, 1) := by decide +kernel
theorem dX12_lateOf_70 : decode cX12_lateOf 70 = .ok (.ireturn, 1) := by decide +kernel
theorem dX12_lateOf_77 : decode cX12_lateOf 77 = .ok (.bipush 99, 2) := by decide +kernel
theorem dX12_lateOf_79 : decode cX12_lateOf 79 = .ok (.ireturn, 1) := by decide +kernel
noncomputable def vX12_lateOf : List Cond := .code yX12_lateOf cX12_lateOf 3 (some .int) :: (([.fieldLink RX12 9 "IcicleClockModel" "world" "[I", .methodLink RX12 225 yX12_of, .instanceMethod yX12_of, .selects RX12 yX12_of yX12_of, .initialized RX12, .fieldLink RX12 37 "IcicleClockModel" "fell" "[I"] : List Cond) ++ (wsX120 ++ vX12_of))
theorem iX12_lateOf_12 : ∀ w ∈ wsX120, w ∈ vX12_lateOf := fun _ h => List.mem_cons_of_mem _ (List.mem_append_right _ (List.mem_append_left _ h))
theorem gs_X12_lateOf : Gd vX12_lateOf := Gd.cons (by decide +kernel) (Gd.app (Gd.r (by decide +kernel)) (Gd.app gwX_12 gs_X12_of))
theorem gg_X12_lateOf_X12_of : GoodIn vX12_lateOf (wsV RX12 225 RX12 yX12_of vX12_of) := goodIn_app (goodIn_r _ [2, 3, 4, 5] (by decide +kernel) (by decide +kernel)) (fun w h => ⟨List.mem_cons_of_mem _ (List.mem_append_right _ (List.mem_append_right _ (h))), gs_X12_of w h⟩)
set_option maxHeartbeats 4000000 in
set_option maxRecDepth 100000 in
theorem s_X12_lateOf (l : Launch) (D : va_G) (cs : Nat → ClassId) (ad : Nat → Nat) (kS : kSt) (K : sK) (hKO : KO K) (hj : wJ ad 218) (g : Nat → va_E) (hW : WF (shp ad K) ad cs g) (wk : Int32) (hp0 : 0 ≤ wk.toInt ∧ wk.toInt ≤ 5) : sI l yX12_lateOf vX12_lateOf { frames := 1, cells := 0, slots := 0, locals := 22 } D cs ad kS [.ref (ad 197), .int wk] g (fun r g2 => g2 = g) := by
  refine Met.startS (cc := cX12_lateOf) (maxL := 3) (ret := (some .int)) RX12 rfl (by decide) rfl (Nat.le_of_ble_eq_true rfl) ?_
  intro p e s m below meth c ls X Z hP hl
  have hx := X.1
  have hb := X.2.1
  have hS : va_S (wA ad 218) s.heap s.heap [] := va_S.rf
  have hA : ∀ i, i < 218 → wA ad 218 (ad i) := fun i h => ⟨i, h, rfl⟩
  have hl : lv_has ls 3 [(0, .ref (ad 197)), (1, .int wk)] := hl
  refine lv_iconst (v := 0) hx hb dX12_lateOf_0 (by decide) ?_
  refine lv_istore_n (lv' := [(2, .int 0), (0, .ref (ad 197)), (1, .int wk)]) hx hb dX12_lateOf_1 rfl hl (by decide) rfl (fun ls hl => ?_)
  have HL2 : ∀ (n2 : Nat) (v2_2 : Int32) (H : Heap) (locs : List Loc) (ls : Array Slot), (8 - v2_2.toInt).toNat < n2 → (0 ≤ v2_2.toInt ∧ v2_2.toInt ≤ 8) → va_P D vwCl (wL ad g 218) H → va_S (wA ad 218) s.heap H locs → lv_has ls 3 [(2, .int v2_2), (0, .ref (ad 197)), (1, .int wk)] → W p l e ({ frames := 1, cells := 0, slots := 0, locals := 22 } : Room) s m ([.ref (ad 197), .int wk] : List Value).toArray below meth c H locs 0 0 (MQ below (qI D ad 218 (fun r g2 => g2 = g)) ([.ref (ad 197), .int wk] : List Value).toArray s 0 0 (wA ad 218)) (F0 m 2 ls []) := by
    intro n2
    induction n2 with
    | zero =>
      intro v2_2 H locs ls hm2 hv2_0 hP hS hl
      exact absurd hm2 (Nat.not_lt_zero _)
    | succ n2 ih2 =>
      intro v2_2 H locs ls hm2 hv2_0 hP hS hl
      refine lv_iload_n hx hb dX12_lateOf_2 rfl (lv_at hl 0 rfl) ?_
      refine lv_aload_n hx hb dX12_lateOf_3 rfl (lv_at hl 1 rfl) ?_
      obtain ⟨fsc_1, hgc_1, hOc_1⟩ := hW.obj (i := 197) (by decide) (sh_197 ad K)
      have hk_2 := hOc_1.ref 1 rfl
      refine q_get X iX12_lateOf_12 hP (by decide) hgc_1 rfl 1 (by decide) (List.mem_of_getElem? (i := 1) rfl) (v := .ref (ad 198)) hk_2 dX12_lateOf_4 ?_
      refine lv_iconst (v := 5) hx hb dX12_lateOf_7 (by decide) ?_
      obtain ⟨fc_3, hgc_3, hFc_3⟩ := hW.arr (i := 198) (by decide) (sh_198 ad K)
      refine q_iald X hP (by decide) hgc_3 (by unfold vp_in; decide) dX12_lateOf_8 ?_
      refine lv_topi (fun z_4 ez_4 => ?_)
      have hqz_4 : wq (5) z_4.toInt := ez_4 ▸ hFc_3 _
      have hz_4 : 0 ≤ z_4.toInt ∧ z_4.toInt ≤ 8 := by unfold wq at hqz_4; omega
      clear hqz_4
      refine lv_icmp_ge (tgt := 77) hx hb dX12_lateOf_9 (by decide) (fun hc_5 => ?_) (fun hc_5 => ?_)
      · have hhc_5 := n_le (rfl : z_4.toInt = z_4.toInt) (rfl : v2_2.toInt = v2_2.toInt) hc_5
        refine lv_bipush (v := 99) hx hb dX12_lateOf_77 (by decide) ?_
        exact q_iret X hP hS rfl dX12_lateOf_79
      · have hhc_5 := n_nle (rfl : z_4.toInt = z_4.toInt) (rfl : v2_2.toInt = v2_2.toInt) hc_5
        refine lv_aload_n hx hb dX12_lateOf_12 rfl (lv_at hl 1 rfl) ?_
        refine lv_iload_n hx hb dX12_lateOf_13 rfl (lv_at hl 0 rfl) ?_
        refine lv_iconst (v := 2) hx hb dX12_lateOf_14 (by decide) ?_
        have hqk_6 : (2 : Int32).toInt = 2 := by decide
        refine s_calli (q := (RX12, TX12, 40)) (As := [.int v2_2, .int 2]) (rest := []) X Z (s_X12_of l D cs ad kS K hKO hj g hW v2_2 2 (by omega) (by omega)) (cwV 2 X.2.2.2.2.1 gg_X12_lateOf_X12_of rfl rfl rfl (by decide +kernel) ⟨Nat.le_of_ble_eq_true rfl, Nat.le_of_ble_eq_true rfl⟩) (by decide) hgc_1 rfl hP hA hS.2.1 hS rfl hl.1 rfl (Nat.le_of_ble_eq_true rfl) dX12_lateOf_15 ⟨Nat.le_of_ble_eq_true rfl, Nat.le_of_ble_eq_true rfl⟩ (fun r_9 g_8 H locs hw_7 hP hS => ?_)
        obtain ⟨hw_7g, hw_7⟩ := hw_7
        rw [hw_7g] at hP
        have hqk_10 : (2 : Int32).toInt = 2 := by decide
        refine lv_aload_n hx hb dX12_lateOf_18 rfl (lv_at hl 1 rfl) ?_
        refine q_get X iX12_lateOf_12 hP (by decide) hgc_1 rfl 1 (by decide) (List.mem_of_getElem? (i := 1) rfl) (v := .ref (ad 198)) hk_2 dX12_lateOf_19 ?_
        refine lv_bipush (v := 66) hx hb dX12_lateOf_22 (by decide) ?_
        refine lv_iconst (v := 2) hx hb dX12_lateOf_24 (by decide) ?_
        refine lv_iload_n hx hb dX12_lateOf_25 rfl (lv_at hl 2 rfl) ?_
        refine lv_imul hx hb dX12_lateOf_26 ?_
        refine lv_topi (fun z_11 ez_11 => ?_)
        have hz_11 : z_11.toInt = 2 * wk.toInt := n_mul (by decide : (2 : Int32).toInt = 2) (rfl : wk.toInt = wk.toInt) ez_11 (by omega) (by omega)
        refine lv_iadd hx hb dX12_lateOf_27 ?_
        refine lv_topi (fun z_12 ez_12 => ?_)
        have hz_12 : z_12.toInt = 66 + z_11.toInt := n_add (by decide : (66 : Int32).toInt = 66) (rfl : z_11.toInt = z_11.toInt) ez_12 (by omega) (by omega)
        refine q_iald X hP (by decide) hgc_3 (n_in (rfl : z_12.toInt = z_12.toInt) (by omega) (by omega)) dX12_lateOf_28 ?_
        refine lv_topi (fun z_13 ez_13 => ?_)
        refine lv_icmp_eq (tgt := 35) hx hb dX12_lateOf_29 (by decide) (fun hc_14 => ?_) (fun hc_14 => ?_)
        · have hhc_14 := n_eq (rfl : r_9.toInt = r_9.toInt) (rfl : z_13.toInt = z_13.toInt) hc_14
          refine lv_aload_n hx hb dX12_lateOf_35 rfl (lv_at hl 1 rfl) ?_
          have hk_15 := hOc_1.ref 16 rfl
          refine q_get X iX12_lateOf_12 hP (by decide) hgc_1 rfl 16 (by decide) (List.mem_of_getElem? (i := 6) rfl) (v := .ref (ad 205)) hk_15 dX12_lateOf_36 ?_
          refine lv_iload_n hx hb dX12_lateOf_39 rfl (lv_at hl 0 rfl) ?_
          obtain ⟨fc_16, hgc_16, hFc_16⟩ := hW.arr (i := 205) (by decide) (sh_205 ad K)
          refine q_iald X hP (by decide) hgc_16 (n_in (rfl : v2_2.toInt = v2_2.toInt) (by omega) (by omega)) dX12_lateOf_40 ?_
          refine lv_topi (fun z_17 ez_17 => ?_)
          have hz_17 : (-1) ≤ z_17.toInt ∧ z_17.toInt ≤ 13 := ez_17 ▸ hFc_16 _
          refine lv_iconst (v := (-1)) hx hb dX12_lateOf_41 (by decide) ?_
          refine lv_icmp_ne (tgt := 50) hx hb dX12_lateOf_42 (by decide) (fun hc_18 => ?_) (fun hc_18 => ?_)
          · have hhc_18 := n_ne (rfl : z_17.toInt = z_17.toInt) (by decide : (-1 : Int32).toInt = -1) hc_18
            refine lv_aload_n hx hb dX12_lateOf_50 rfl (lv_at hl 1 rfl) ?_
            refine q_get X iX12_lateOf_12 hP (by decide) hgc_1 rfl 16 (by decide) (List.mem_of_getElem? (i := 6) rfl) (v := .ref (ad 205)) hk_15 dX12_lateOf_51 ?_
            refine lv_iload_n hx hb dX12_lateOf_54 rfl (lv_at hl 0 rfl) ?_
            refine q_iald X hP (by decide) hgc_16 (n_in (rfl : v2_2.toInt = v2_2.toInt) (by omega) (by omega)) dX12_lateOf_55 ?_
            refine lv_topi (fun z_19 ez_19 => ?_)
            have hz_19 : (-1) ≤ z_19.toInt ∧ z_19.toInt ≤ 13 := ez_19 ▸ hFc_16 _
            have hsz_19 : z_19.toInt = z_17.toInt := by rw [ez_19, ez_17]
            refine lv_aload_n hx hb dX12_lateOf_56 rfl (lv_at hl 1 rfl) ?_
            refine q_get X iX12_lateOf_12 hP (by decide) hgc_1 rfl 1 (by decide) (List.mem_of_getElem? (i := 1) rfl) (v := .ref (ad 198)) hk_2 dX12_lateOf_57 ?_
            refine lv_bipush (v := 66) hx hb dX12_lateOf_60 (by decide) ?_
            refine lv_iconst (v := 2) hx hb dX12_lateOf_62 (by decide) ?_
            refine lv_iload_n hx hb dX12_lateOf_63 rfl (lv_at hl 2 rfl) ?_
            refine lv_imul hx hb dX12_lateOf_64 ?_
            refine lv_topi (fun z_20 ez_20 => ?_)
            have hz_20 : z_20.toInt = 2 * wk.toInt := n_mul (by decide : (2 : Int32).toInt = 2) (rfl : wk.toInt = wk.toInt) ez_20 (by omega) (by omega)
            refine lv_iadd hx hb dX12_lateOf_65 ?_
            refine lv_topi (fun z_21 ez_21 => ?_)
            have hz_21 : z_21.toInt = 66 + z_20.toInt := n_add (by decide : (66 : Int32).toInt = 66) (rfl : z_20.toInt = z_20.toInt) ez_21 (by omega) (by omega)
            refine lv_iconst (v := 1) hx hb dX12_lateOf_66 (by decide) ?_
            refine lv_iadd hx hb dX12_lateOf_67 ?_
            refine lv_topi (fun z_22 ez_22 => ?_)
            have hz_22 : z_22.toInt = z_21.toInt + 1 := n_add (rfl : z_21.toInt = z_21.toInt) (by decide : (1 : Int32).toInt = 1) ez_22 (by omega) (by omega)
            refine q_iald X hP (by decide) hgc_3 (n_in (rfl : z_22.toInt = z_22.toInt) (by omega) (by omega)) dX12_lateOf_68 ?_
            refine lv_topi (fun z_23 ez_23 => ?_)
            refine lv_isub hx hb dX12_lateOf_69 ?_
            refine lv_topi (fun z_24 ez_24 => ?_)
            exact q_iret X hP hS rfl dX12_lateOf_70
          · have hhc_18 := n_eq (rfl : z_17.toInt = z_17.toInt) (by decide : (-1 : Int32).toInt = -1) hc_18
            refine lv_bipush (v := 99) hx hb dX12_lateOf_45 (by decide) ?_
            refine lv_goto (tgt := 70) hx hb dX12_lateOf_47 (by decide) ?_
            exact q_iret X hP hS rfl dX12_lateOf_70
        · have hhc_14 := n_ne (rfl : r_9.toInt = r_9.toInt) (rfl : z_13.toInt = z_13.toInt) hc_14
          refine lv_goto (tgt := 71) hx hb dX12_lateOf_32 (by decide) ?_
          obtain ⟨x_25, ex_25⟩ : ∃ y : Int32, y = v2_2 + 1 := ⟨_, rfl⟩
          have hx_25 : x_25.toInt = v2_2.toInt + 1 := n_add rfl (by decide : (1 : Int32).toInt = 1) ex_25 (by omega) (by omega)
          refine lv_iinc (v := x_25) (lv' := [(2, .int x_25), (0, .ref (ad 197)), (1, .int wk)]) hx hb dX12_lateOf_71 hl (k := 0) rfl (by rw [ex_25]; rfl) (by decide) rfl (fun ls hl => ?_)
          refine lv_goto (tgt := 2) hx hb dX12_lateOf_74 (by decide) ?_
          exact ih2 x_25 _ _ ls (by omega) (by omega) hP hS (lv_sub hl [0, 1, 2] rfl)
  have hiv2_2 : (0 : Int32).toInt = 0 := by decide
  exact HL2 _ 0 _ _ ls (Nat.lt_succ_self _) (by omega) hP hS (lv_sub hl [0, 1, 2] rfl)

theorem dX12_late_0 : decode cX12_late 0 = .ok (.aload_n 0, 1) := by decide +kernel
theorem dX12_late_1 : decode cX12_late 1 = .ok (.iload_n 1, 1) := by decide +kernel
theorem dX12_late_2 : decode cX12_late 2 = .ok (.invokevirtual 228, 3) := by decide +kernel
theorem dX12_late_5 : decode cX12_late 5 = .ok (.ifCond .ne 7, 3) := by decide +kernel
theorem dX12_late_8 : decode cX12_late 8 = .ok (.sipush (-1000), 3) := by decide +kernel
theorem dX12_late_11 : decode cX12_late 11 = .ok (.ireturn, 1) := by decide +kernel
theorem dX12_late_12 : decode cX12_late 12 = .ok (.aload_n 0, 1) := by decide +kernel
theorem dX12_late_13 : decode cX12_late 13 = .ok (.invokevirtual 246, 3) := by decide +kernel
theorem dX12_late_16 : decode cX12_late 16 = .ok (.aload_n 0, 1) := by decide +kernel
theorem dX12_late_17 : decode cX12_late 17 = .ok (.iload_n 1, 1) := by decide +kernel
theorem dX12_late_18 : decode cX12_late 18 = .ok (.invokevirtual 276, 3) := by decide +kernel
theorem dX12_late_21 : decode cX12_late 21 = .ok (.ireturn, 1) := by decide +kernel
noncomputable def vX12_late : List Cond := .code yX12_late cX12_late 2 (some .int) :: (([.methodLink RX12 228 yX12_isWork, .instanceMethod yX12_isWork, .selects RX12 yX12_isWork yX12_isWork, .initialized RX12, .methodLink RX12 246 yX12_layAll, .instanceMethod yX12_layAll, .selects RX12 yX12_layAll yX12_layAll, .methodLink RX12 276 yX12_lateOf, .instanceMethod yX12_lateOf, .selects RX12 yX12_lateOf yX12_lateOf] : List Cond) ++ (vX12_isWork ++ (vX12_layAll ++ vX12_lateOf)))
theorem gs_X12_late : Gd vX12_late := Gd.cons (by decide +kernel) (Gd.app (Gd.r (by decide +kernel)) (Gd.app gs_X12_isWork (Gd.app gs_X12_layAll gs_X12_lateOf)))
theorem gg_X12_late_X12_isWork : GoodIn vX12_late (wsV RX12 228 RX12 yX12_isWork vX12_isWork) := goodIn_app (goodIn_r _ [1, 2, 3, 4] (by decide +kernel) (by decide +kernel)) (fun w h => ⟨List.mem_cons_of_mem _ (List.mem_append_right _ (List.mem_append_left _ h)), gs_X12_isWork w h⟩)
theorem gg_X12_late_X12_layAll : GoodIn vX12_late (wsV RX12 246 RX12 yX12_layAll vX12_layAll) := goodIn_app (goodIn_r _ [5, 6, 7, 4] (by decide +kernel) (by decide +kernel)) (fun w h => ⟨List.mem_cons_of_mem _ (List.mem_append_right _ (List.mem_append_right _ (List.mem_append_left _ h))), gs_X12_layAll w h⟩)
theorem gg_X12_late_X12_lateOf : GoodIn vX12_late (wsV RX12 276 RX12 yX12_lateOf vX12_lateOf) := goodIn_app (goodIn_r _ [8, 9, 10, 4] (by decide +kernel) (by decide +kernel)) (fun w h => ⟨List.mem_cons_of_mem _ (List.mem_append_right _ (List.mem_append_right _ (List.mem_append_right _ (h)))), gs_X12_lateOf w h⟩)
set_option maxHeartbeats 4000000 in
set_option maxRecDepth 100000 in
theorem s_X12_late (l : Launch) (D : va_G) (cs : Nat → ClassId) (ad : Nat → Nat) (kS : kSt) (K : sK) (hKO : KO K) (hj : wJ ad 218) (g : Nat → va_E) (hW : WF (shp ad K) ad cs g) (wk : Int32) : sI l yX12_late vX12_late { frames := 3, cells := 0, slots := 0, locals := 65 } D cs ad kS [.ref (ad 197), .int wk] g (fun r g2 => WF (shp ad K) ad cs g2 ∧ (∀ j, j ≠ 197 ∧ j ≠ 204 ∧ j ≠ 205 → g2 j = g j)) := by
  refine Met.startS (cc := cX12_late) (maxL := 2) (ret := (some .int)) RX12 rfl (by decide) rfl (Nat.le_of_ble_eq_true rfl) ?_
  intro p e s m below meth c ls X Z hP hl
  have hx := X.1
  have hb := X.2.1
  have hS : va_S (wA ad 218) s.heap s.heap [] := va_S.rf
  have hA : ∀ i, i < 218 → wA ad 218 (ad i) := fun i h => ⟨i, h, rfl⟩
  have hfr : ∀ j, j ≠ 197 ∧ j ≠ 204 ∧ j ≠ 205 → g j = g j := fun _ _ => rfl
  have hl : lv_has ls 2 [(0, .ref (ad 197)), (1, .int wk)] := hl
  refine lv_aload_n hx hb dX12_late_0 rfl (lv_at hl 0 rfl) ?_
  refine lv_iload_n hx hb dX12_late_1 rfl (lv_at hl 1 rfl) ?_
  obtain ⟨fsc_4, hgc_4, hOc_4⟩ := hW.obj (i := 197) (by decide) (sh_197 ad K)
  refine s_calli (q := (RX12, TX12, 40)) (As := [.int wk]) (rest := []) X Z (s_X12_isWork l D cs ad kS K hKO hj g hW wk) (cwV 1 X.2.2.2.2.1 gg_X12_late_X12_isWork rfl rfl rfl (by decide +kernel) ⟨Nat.le_of_ble_eq_true rfl, Nat.le_of_ble_eq_true rfl⟩) (by decide) hgc_4 rfl hP hA hS.2.1 hS rfl hl.1 rfl (Nat.le_of_ble_eq_true rfl) dX12_late_2 ⟨Nat.le_of_ble_eq_true rfl, Nat.le_of_ble_eq_true rfl⟩ (fun r_3 g_2 H locs hw_1 hP hS => ?_)
  obtain ⟨hw_1g, hw_1⟩ := hw_1
  rw [hw_1g] at hP
  refine lv_if_ne (tgt := 12) hx hb dX12_late_5 (by decide) (fun hc_5 => ?_) (fun hc_5 => ?_)
  · have hhc_5 := n_ne (rfl : r_3.toInt = r_3.toInt) (by decide : (0 : Int32).toInt = 0) hc_5
    refine lv_aload_n hx hb dX12_late_12 rfl (lv_at hl 0 rfl) ?_
    refine s_callv (q := (RX12, TX12, 40)) (As := []) (rest := []) X Z (s_X12_layAll l D cs ad kS K hKO hj g hW) (cwV 0 X.2.2.2.2.1 gg_X12_late_X12_layAll rfl rfl rfl (by decide +kernel) ⟨Nat.le_of_ble_eq_true rfl, Nat.le_of_ble_eq_true rfl⟩) (by decide) hgc_4 rfl hP hA hS.2.1 hS rfl hl.1 rfl (Nat.le_of_ble_eq_true rfl) dX12_late_13 ⟨Nat.le_of_ble_eq_true rfl, Nat.le_of_ble_eq_true rfl⟩ (fun g_7 H locs hw_6 hP hS => ?_)
    obtain ⟨hw_6W, hw_6f⟩ := hw_6
    have hfr_9 : ∀ j, j ≠ 197 ∧ j ≠ 204 ∧ j ≠ 205 → g_7 j = g j := fun j hj => (hw_6f j (by omega)).trans (hfr j hj)
    refine lv_aload_n hx hb dX12_late_16 rfl (lv_at hl 0 rfl) ?_
    refine lv_iload_n hx hb dX12_late_17 rfl (lv_at hl 1 rfl) ?_
    obtain ⟨fsc_13, hgc_13, hOc_13⟩ := hw_6W.obj (i := 197) (by decide) (sh_197 ad K)
    refine s_calli (q := (RX12, TX12, 40)) (As := [.int wk]) (rest := []) X Z (s_X12_lateOf l D cs ad kS K hKO hj g_7 hw_6W wk (by omega)) (cwV 1 X.2.2.2.2.1 gg_X12_late_X12_lateOf rfl rfl rfl (by decide +kernel) ⟨Nat.le_of_ble_eq_true rfl, Nat.le_of_ble_eq_true rfl⟩) (by decide) hgc_13 rfl hP hA hS.2.1 hS rfl hl.1 rfl (Nat.le_of_ble_eq_true rfl) dX12_late_18 ⟨Nat.le_of_ble_eq_true rfl, Nat.le_of_ble_eq_true rfl⟩ (fun r_12 g_11 H locs hw_10 hP hS => ?_)
    rw [hw_10] at hP
    exact q_iret X hP hS ⟨hw_6W, hfr_9⟩ dX12_late_21
  · have hhc_5 := n_eq (rfl : r_3.toInt = r_3.toInt) (by decide : (0 : Int32).toInt = 0) hc_5
    refine lv_sipush (v := (-1000)) hx hb dX12_late_8 (by decide) ?_
    exact q_iret X hP hS ⟨hW, hfr⟩ dX12_late_11

theorem dX12_lates_0 : decode cX12_lates 0 = .ok (.aload_n 0, 1) := by decide +kernel
theorem dX12_lates_1 : decode cX12_lates 1 = .ok (.invokevirtual 261, 3) := by decide +kernel
theorem dX12_lates_4 : decode cX12_lates 4 = .ok (.ifCond .ne 6, 3) := by decide +kernel
theorem dX12_lates_7 : decode cX12_lates 7 = .ok (.bipush (-2), 2) := by decide +kernel
theorem dX12_lates_9 : decode cX12_lates 9 = .ok (.ireturn, 1) := by decide +kernel
theorem dX12_lates_10 : decode cX12_lates 10 = .ok (.aload_n 0, 1) := by decide +kernel
theorem dX12_lates_11 : decode cX12_lates 11 = .ok (.invokevirtual 246, 3) := by decide +kernel
theorem dX12_lates_14 : decode cX12_lates 14 = .ok (.iconst 0, 1) := by decide +kernel
theorem dX12_lates_15 : decode cX12_lates 15 = .ok (.istore_n 1, 1) := by decide +kernel
theorem dX12_lates_16 : decode cX12_lates 16 = .ok (.iconst 0, 1) := by decide +kernel
theorem dX12_lates_17 : decode cX12_lates 17 = .ok (.istore_n 2, 1) := by decide +kernel
theorem dX12_lates_18 : decode cX12_lates 18 = .ok (.iload_n 2, 1) := by decide +kernel
theorem dX12_lates_19 : decode cX12_lates 19 = .ok (.aload_n 0, 1) := by decide +kernel
theorem dX12_lates_20 : decode cX12_lates 20 = .ok (.getfield 9, 3) := by decide +kernel
theorem dX12_lates_23 : decode cX12_lates 23 = .ok (.bipush 6, 2) := by decide +kernel
theorem dX12_lates_25 : decode cX12_lates 25 = .ok (.iaload, 1) := by decide +kernel
theorem dX12_lates_26 : decode cX12_lates 26 = .ok (.if_icmp .ge 27, 3) := by decide +kernel
theorem dX12_lates_29 : decode cX12_lates 29 = .ok (.iload_n 1, 1) := by decide +kernel
theorem dX12_lates_30 : decode cX12_lates 30 = .ok (.aload_n 0, 1) := by decide +kernel
theorem dX12_lates_31 : decode cX12_lates 31 = .ok (.iload_n 2, 1) := by decide +kernel
theorem dX12_lates_32 : decode cX12_lates 32 = .ok (.invokevirtual 276, 3) := by decide +kernel
theorem dX12_lates_35 : decode cX12_lates 35 = .ok (.ifCond .le 9, 3) := by decide +kernel
theorem dX12_lates_38 : decode cX12_lates 38 = .ok (.iconst 1, 1) := by decide +kernel
theorem dX12_lates_39 : decode cX12_lates 39 = .ok (.iload_n 2, 1) := by decide +kernel
theorem dX12_lates_40 : decode cX12_lates 40 = .ok (.ishl, 1) := by decide +kernel
theorem dX12_lates_41 : decode cX12_lates 41 = .ok (.goto 4, 3) := by decide +kernel
theorem dX12_lates_44 : decode cX12_lates 44 = .ok (.iconst 0, 1) := by decide +kernel
theorem dX12_lates_45 : decode cX12_lates 45 = .ok (.ior, 1) := by decide +kernel
theorem dX12_lates_46 : decode cX12_lates 46 = .ok (.istore_n 1, 1) := by decide +kernel
theorem dX12_lates_47 : decode cX12_lates 47 = .ok (.iinc 2 1, 3) := by decide +kernel
theorem dX12_lates_50 : decode cX12_lates 50 = .ok (.goto (-32), 3) := by decide +kernel
theorem dX12_lates_53 : decode cX12_lates 53 = .ok (.iload_n 1, 1) := by decide +kernel
theorem dX12_lates_54 : decode cX12_lates 54 = .ok (.ireturn, 1) := by decide +kernel
noncomputable def vX12_lates : List Cond := .code yX12_lates cX12_lates 3 (some .int) :: (([.methodLink RX12 261 yX12_isStreet, .instanceMethod yX12_isStreet, .selects RX12 yX12_isStreet yX12_isStreet, .initialized RX12, .methodLink RX12 246 yX12_layAll, .instanceMethod yX12_layAll, .selects RX12 yX12_layAll yX12_layAll, .fieldLink RX12 9 "IcicleClockModel" "world" "[I", .methodLink RX12 276 yX12_lateOf, .instanceMethod yX12_lateOf, .selects RX12 yX12_lateOf yX12_lateOf] : List Cond) ++ (wsX120 ++ (vX12_isStreet ++ (vX12_layAll ++ vX12_lateOf))))
theorem iX12_lates_12 : ∀ w ∈ wsX120, w ∈ vX12_lates := fun _ h => List.mem_cons_of_mem _ (List.mem_append_right _ (List.mem_append_left _ h))
theorem gs_X12_lates : Gd vX12_lates := Gd.cons (by decide +kernel) (Gd.app (Gd.r (by decide +kernel)) (Gd.app gwX_12 (Gd.app gs_X12_isStreet (Gd.app gs_X12_layAll gs_X12_lateOf))))
theorem gg_X12_lates_X12_isStreet : GoodIn vX12_lates (wsV RX12 261 RX12 yX12_isStreet vX12_isStreet) := goodIn_app (goodIn_r _ [1, 2, 3, 4] (by decide +kernel) (by decide +kernel)) (fun w h => ⟨List.mem_cons_of_mem _ (List.mem_append_right _ (List.mem_append_right _ (List.mem_append_left _ h))), gs_X12_isStreet w h⟩)
theorem gg_X12_lates_X12_layAll : GoodIn vX12_lates (wsV RX12 246 RX12 yX12_layAll vX12_layAll) := goodIn_app (goodIn_r _ [5, 6, 7, 4] (by decide +kernel) (by decide +kernel)) (fun w h => ⟨List.mem_cons_of_mem _ (List.mem_append_right _ (List.mem_append_right _ (List.mem_append_right _ (List.mem_append_left _ h)))), gs_X12_layAll w h⟩)
theorem gg_X12_lates_X12_lateOf : GoodIn vX12_lates (wsV RX12 276 RX12 yX12_lateOf vX12_lateOf) := goodIn_app (goodIn_r _ [9, 10, 11, 4] (by decide +kernel) (by decide +kernel)) (fun w h => ⟨List.mem_cons_of_mem _ (List.mem_append_right _ (List.mem_append_right _ (List.mem_append_right _ (List.mem_append_right _ (h))))), gs_X12_lateOf w h⟩)
set_option maxHeartbeats 4000000 in
set_option maxRecDepth 100000 in
theorem s_X12_lates (l : Launch) (D : va_G) (cs : Nat → ClassId) (ad : Nat → Nat) (kS : kSt) (K : sK) (hKO : KO K) (hj : wJ ad 218) (g : Nat → va_E) (hW : WF (shp ad K) ad cs g) : sI l yX12_lates vX12_lates { frames := 3, cells := 0, slots := 0, locals := 65 } D cs ad kS [.ref (ad 197)] g (fun r g2 => WF (shp ad K) ad cs g2 ∧ (∀ j, j ≠ 197 ∧ j ≠ 204 ∧ j ≠ 205 → g2 j = g j)) := by
  refine Met.startS (cc := cX12_lates) (maxL := 3) (ret := (some .int)) RX12 rfl (by decide) rfl (Nat.le_of_ble_eq_true rfl) ?_
  intro p e s m below meth c ls X Z hP hl
  have hx := X.1
  have hb := X.2.1
  have hS : va_S (wA ad 218) s.heap s.heap [] := va_S.rf
  have hA : ∀ i, i < 218 → wA ad 218 (ad i) := fun i h => ⟨i, h, rfl⟩
  have hfr : ∀ j, j ≠ 197 ∧ j ≠ 204 ∧ j ≠ 205 → g j = g j := fun _ _ => rfl
  have hl : lv_has ls 3 [(0, .ref (ad 197))] := hl
  refine lv_aload_n hx hb dX12_lates_0 rfl (lv_at hl 0 rfl) ?_
  obtain ⟨fsc_4, hgc_4, hOc_4⟩ := hW.obj (i := 197) (by decide) (sh_197 ad K)
  refine s_calli (q := (RX12, TX12, 40)) (As := []) (rest := []) X Z (s_X12_isStreet l D cs ad kS K hKO hj g hW) (cwV 0 X.2.2.2.2.1 gg_X12_lates_X12_isStreet rfl rfl rfl (by decide +kernel) ⟨Nat.le_of_ble_eq_true rfl, Nat.le_of_ble_eq_true rfl⟩) (by decide) hgc_4 rfl hP hA hS.2.1 hS rfl hl.1 rfl (Nat.le_of_ble_eq_true rfl) dX12_lates_1 ⟨Nat.le_of_ble_eq_true rfl, Nat.le_of_ble_eq_true rfl⟩ (fun r_3 g_2 H locs hw_1 hP hS => ?_)
  obtain ⟨hw_1g, hw_1⟩ := hw_1
  rw [hw_1g] at hP
  refine lv_if_ne (tgt := 10) hx hb dX12_lates_4 (by decide) (fun hc_5 => ?_) (fun hc_5 => ?_)
  · have hhc_5 := n_ne (rfl : r_3.toInt = r_3.toInt) (by decide : (0 : Int32).toInt = 0) hc_5
    refine lv_aload_n hx hb dX12_lates_10 rfl (lv_at hl 0 rfl) ?_
    refine s_callv (q := (RX12, TX12, 40)) (As := []) (rest := []) X Z (s_X12_layAll l D cs ad kS K hKO hj g hW) (cwV 0 X.2.2.2.2.1 gg_X12_lates_X12_layAll rfl rfl rfl (by decide +kernel) ⟨Nat.le_of_ble_eq_true rfl, Nat.le_of_ble_eq_true rfl⟩) (by decide) hgc_4 rfl hP hA hS.2.1 hS rfl hl.1 rfl (Nat.le_of_ble_eq_true rfl) dX12_lates_11 ⟨Nat.le_of_ble_eq_true rfl, Nat.le_of_ble_eq_true rfl⟩ (fun g_7 H locs hw_6 hP hS => ?_)
    obtain ⟨hw_6W, hw_6f⟩ := hw_6
    have hfr_9 : ∀ j, j ≠ 197 ∧ j ≠ 204 ∧ j ≠ 205 → g_7 j = g j := fun j hj => (hw_6f j (by omega)).trans (hfr j hj)
    refine lv_iconst (v := 0) hx hb dX12_lates_14 (by decide) ?_
    refine lv_istore_n (lv' := [(1, .int 0), (0, .ref (ad 197))]) hx hb dX12_lates_15 rfl hl (by decide) rfl (fun ls hl => ?_)
    refine lv_iconst (v := 0) hx hb dX12_lates_16 (by decide) ?_
    refine lv_istore_n (lv' := [(2, .int 0), (1, .int 0), (0, .ref (ad 197))]) hx hb dX12_lates_17 rfl hl (by decide) rfl (fun ls hl => ?_)
    have HL18 : ∀ (n18 : Nat) (v18_2 : Int32) (v18_1 : Int32) (G18 : Nat → va_E) (H : Heap) (locs : List Loc) (ls : Array Slot), (6 - v18_2.toInt).toNat < n18 → (0 ≤ v18_2.toInt ∧ v18_2.toInt ≤ 6) → WF (shp ad K) ad cs G18 → (∀ j, j ≠ 197 ∧ j ≠ 204 ∧ j ≠ 205 → G18 j = g j) → va_P D vwCl (wL ad G18 218) H → va_S (wA ad 218) s.heap H locs → lv_has ls 3 [(2, .int v18_2), (1, .int v18_1), (0, .ref (ad 197))] → W p l e ({ frames := 3, cells := 0, slots := 0, locals := 65 } : Room) s m ([.ref (ad 197)] : List Value).toArray below meth c H locs 0 0 (MQ below (qI D ad 218 (fun r g2 => WF (shp ad K) ad cs g2 ∧ (∀ j, j ≠ 197 ∧ j ≠ 204 ∧ j ≠ 205 → g2 j = g j))) ([.ref (ad 197)] : List Value).toArray s 0 0 (wA ad 218)) (F0 m 18 ls []) := by
      intro n18
      induction n18 with
      | zero =>
        intro v18_2 v18_1 G18 H locs ls hm18 hv18_0 hW18 hfr18 hP hS hl
        exact absurd hm18 (Nat.not_lt_zero _)
      | succ n18 ih18 =>
        intro v18_2 v18_1 G18 H locs ls hm18 hv18_0 hW18 hfr18 hP hS hl
        refine lv_iload_n hx hb dX12_lates_18 rfl (lv_at hl 0 rfl) ?_
        refine lv_aload_n hx hb dX12_lates_19 rfl (lv_at hl 2 rfl) ?_
        obtain ⟨fsc_10, hgc_10, hOc_10⟩ := hW18.obj (i := 197) (by decide) (sh_197 ad K)
        have hk_11 := hOc_10.ref 1 rfl
        refine q_get X iX12_lates_12 hP (by decide) hgc_10 rfl 1 (by decide) (List.mem_of_getElem? (i := 8) rfl) (v := .ref (ad 198)) hk_11 dX12_lates_20 ?_
        refine lv_bipush (v := 6) hx hb dX12_lates_23 (by decide) ?_
        obtain ⟨fc_12, hgc_12, hFc_12⟩ := hW18.arr (i := 198) (by decide) (sh_198 ad K)
        refine q_iald X hP (by decide) hgc_12 (by unfold vp_in; decide) dX12_lates_25 ?_
        refine lv_topi (fun z_13 ez_13 => ?_)
        have hqz_13 : wq (6) z_13.toInt := ez_13 ▸ hFc_12 _
        have hz_13 : 0 ≤ z_13.toInt ∧ z_13.toInt ≤ 6 := by unfold wq at hqz_13; omega
        clear hqz_13
        refine lv_icmp_ge (tgt := 53) hx hb dX12_lates_26 (by decide) (fun hc_14 => ?_) (fun hc_14 => ?_)
        · have hhc_14 := n_le (rfl : z_13.toInt = z_13.toInt) (rfl : v18_2.toInt = v18_2.toInt) hc_14
          refine lv_iload_n hx hb dX12_lates_53 rfl (lv_at hl 1 rfl) ?_
          exact q_iret X hP hS ⟨hW18, hfr18⟩ dX12_lates_54
        · have hhc_14 := n_nle (rfl : z_13.toInt = z_13.toInt) (rfl : v18_2.toInt = v18_2.toInt) hc_14
          refine lv_iload_n hx hb dX12_lates_29 rfl (lv_at hl 1 rfl) ?_
          refine lv_aload_n hx hb dX12_lates_30 rfl (lv_at hl 2 rfl) ?_
          refine lv_iload_n hx hb dX12_lates_31 rfl (lv_at hl 0 rfl) ?_
          refine s_calli (q := (RX12, TX12, 40)) (As := [.int v18_2]) (rest := [.int v18_1]) X Z (s_X12_lateOf l D cs ad kS K hKO hj G18 hW18 v18_2 (by omega)) (cwV 1 X.2.2.2.2.1 gg_X12_lates_X12_lateOf rfl rfl rfl (by decide +kernel) ⟨Nat.le_of_ble_eq_true rfl, Nat.le_of_ble_eq_true rfl⟩) (by decide) hgc_10 rfl hP hA hS.2.1 hS rfl hl.1 rfl (Nat.le_of_ble_eq_true rfl) dX12_lates_32 ⟨Nat.le_of_ble_eq_true rfl, Nat.le_of_ble_eq_true rfl⟩ (fun r_17 g_16 H locs hw_15 hP hS => ?_)
          rw [hw_15] at hP
          refine lv_if_le (tgt := 44) hx hb dX12_lates_35 (by decide) (fun hc_18 => ?_) (fun hc_18 => ?_)
          · have hhc_18 := n_le (rfl : r_17.toInt = r_17.toInt) (by decide : (0 : Int32).toInt = 0) hc_18
            refine lv_iconst (v := 0) hx hb dX12_lates_44 (by decide) ?_
            refine lv_ior hx hb dX12_lates_45 ?_
            refine lv_topi (fun z_19 ez_19 => ?_)
            refine lv_istore_n (lv' := [(1, .int z_19), (2, .int v18_2), (0, .ref (ad 197))]) hx hb dX12_lates_46 rfl hl (by decide) rfl (fun ls hl => ?_)
            obtain ⟨x_20, ex_20⟩ : ∃ y : Int32, y = v18_2 + 1 := ⟨_, rfl⟩
            have hx_20 : x_20.toInt = v18_2.toInt + 1 := n_add rfl (by decide : (1 : Int32).toInt = 1) ex_20 (by omega) (by omega)
            refine lv_iinc (v := x_20) (lv' := [(2, .int x_20), (1, .int z_19), (0, .ref (ad 197))]) hx hb dX12_lates_47 hl (k := 1) rfl (by rw [ex_20]; rfl) (by decide) rfl (fun ls hl => ?_)
            refine lv_goto (tgt := 18) hx hb dX12_lates_50 (by decide) ?_
            exact ih18 x_20 z_19 G18 _ _ ls (by omega) (by omega) hW18 hfr18 hP hS (lv_sub hl [0, 1, 2] rfl)
          · have hhc_18 := n_nle (rfl : r_17.toInt = r_17.toInt) (by decide : (0 : Int32).toInt = 0) hc_18
            refine lv_iconst (v := 1) hx hb dX12_lates_38 (by decide) ?_
            refine lv_iload_n hx hb dX12_lates_39 rfl (lv_at hl 0 rfl) ?_
            refine lv_ishl hx hb dX12_lates_40 ?_
            refine lv_topi (fun z_21 ez_21 => ?_)
            refine lv_goto (tgt := 45) hx hb dX12_lates_41 (by decide) ?_
            refine lv_ior hx hb dX12_lates_45 ?_
            refine lv_topi (fun z_22 ez_22 => ?_)
            refine lv_istore_n (lv' := [(1, .int z_22), (2, .int v18_2), (0, .ref (ad 197))]) hx hb dX12_lates_46 rfl hl (by decide) rfl (fun ls hl => ?_)
            obtain ⟨x_23, ex_23⟩ : ∃ y : Int32, y = v18_2 + 1 := ⟨_, rfl⟩
            have hx_23 : x_23.toInt = v18_2.toInt + 1 := n_add rfl (by decide : (1 : Int32).toInt = 1) ex_23 (by omega) (by omega)
            refine lv_iinc (v := x_23) (lv' := [(2, .int x_23), (1, .int z_22), (0, .ref (ad 197))]) hx hb dX12_lates_47 hl (k := 1) rfl (by rw [ex_23]; rfl) (by decide) rfl (fun ls hl => ?_)
            refine lv_goto (tgt := 18) hx hb dX12_lates_50 (by decide) ?_
            exact ih18 x_23 z_22 G18 _ _ ls (by omega) (by omega) hW18 hfr18 hP hS (lv_sub hl [0, 1, 2] rfl)
    have hiv18_2 : (0 : Int32).toInt = 0 := by decide
    have hiv18_1 : (0 : Int32).toInt = 0 := by decide
    exact HL18 _ 0 0 g_7 _ _ ls (Nat.lt_succ_self _) (by omega) hw_6W hfr_9 hP hS (lv_sub hl [0, 1, 2] rfl)
  · have hhc_5 := n_eq (rfl : r_3.toInt = r_3.toInt) (by decide : (0 : Int32).toInt = 0) hc_5
    refine lv_bipush (v := (-2)) hx hb dX12_lates_7 (by decide) ?_
    exact q_iret X hP hS ⟨hW, hfr⟩ dX12_lates_9

theorem dX12_offAll_0 : decode cX12_offAll 0 = .ok (.iconst 0, 1) := by decide +kernel
theorem dX12_offAll_1 : decode cX12_offAll 1 = .ok (.istore_n 1, 1) := by decide +kernel
theorem dX12_offAll_2 : decode cX12_offAll 2 = .ok (.iconst 0, 1) := by decide +kernel
theorem dX12_offAll_3 : decode cX12_offAll 3 = .ok (.istore_n 2, 1) := by decide +kernel
theorem dX12_offAll_4 : decode cX12_offAll 4 = .ok (.iload_n 2, 1) := by decide +kernel
theorem dX12_offAll_5 : decode cX12_offAll 5 = .ok (.aload_n 0, 1) := by decide +kernel
theorem dX12_offAll_6 : decode cX12_offAll 6 = .ok (.getfield 9, 3) := by decide +kernel
theorem dX12_offAll_9 : decode cX12_offAll 9 = .ok (.bipush 6, 2) := by decide +kernel
theorem dX12_offAll_11 : decode cX12_offAll 11 = .ok (.iaload, 1) := by decide +kernel
theorem dX12_offAll_12 : decode cX12_offAll 12 = .ok (.if_icmp .ge 20, 3) := by decide +kernel
theorem dX12_offAll_15 : decode cX12_offAll 15 = .ok (.iload_n 1, 1) := by decide +kernel
theorem dX12_offAll_16 : decode cX12_offAll 16 = .ok (.aload_n 0, 1) := by decide +kernel
theorem dX12_offAll_17 : decode cX12_offAll 17 = .ok (.iload_n 2, 1) := by decide +kernel
theorem dX12_offAll_18 : decode cX12_offAll 18 = .ok (.invokevirtual 276, 3) := by decide +kernel
theorem dX12_offAll_21 : decode cX12_offAll 21 = .ok (.invokestatic 273, 3) := by decide +kernel
theorem dX12_offAll_24 : decode cX12_offAll 24 = .ok (.iadd, 1) := by decide +kernel
theorem dX12_offAll_25 : decode cX12_offAll 25 = .ok (.istore_n 1, 1) := by decide +kernel
theorem dX12_offAll_26 : decode cX12_offAll 26 = .ok (.iinc 2 1, 3) := by decide +kernel
theorem dX12_offAll_29 : decode cX12_offAll 29 = .ok (.goto (-25), 3) := by decide +kernel
theorem dX12_offAll_32 : decode cX12_offAll 32 = .ok (.iload_n 1, 1) := by decide +kernel
theorem dX12_offAll_33 : decode cX12_offAll 33 = .ok (.ireturn, 1) := by decide +kernel
noncomputable def vX12_offAll : List Cond := .code yX12_offAll cX12_offAll 3 (some .int) :: (([.fieldLink RX12 9 "IcicleClockModel" "world" "[I", .methodLink RX12 276 yX12_lateOf, .instanceMethod yX12_lateOf, .selects RX12 yX12_lateOf yX12_lateOf, .initialized RX12, .methodLink RX12 273 Lib.Math.abs.name, .static Lib.Math.abs.name, .initialized "java/lang/Math", .code Lib.Math.abs.name Lib.Math.abs.code 1 (some .int)] : List Cond) ++ (wsX120 ++ vX12_lateOf))
theorem iX12_offAll_12 : ∀ w ∈ wsX120, w ∈ vX12_offAll := fun _ h => List.mem_cons_of_mem _ (List.mem_append_right _ (List.mem_append_left _ h))
theorem gs_X12_offAll : Gd vX12_offAll := Gd.cons (by decide +kernel) (Gd.app (Gd.r (by decide +kernel)) (Gd.app gwX_12 gs_X12_lateOf))
theorem gg_X12_offAll_X12_lateOf : GoodIn vX12_offAll (wsV RX12 276 RX12 yX12_lateOf vX12_lateOf) := goodIn_app (goodIn_r _ [2, 3, 4, 5] (by decide +kernel) (by decide +kernel)) (fun w h => ⟨List.mem_cons_of_mem _ (List.mem_append_right _ (List.mem_append_right _ (h))), gs_X12_lateOf w h⟩)
set_option maxHeartbeats 4000000 in
set_option maxRecDepth 100000 in
theorem s_X12_offAll (l : Launch) (D : va_G) (cs : Nat → ClassId) (ad : Nat → Nat) (kS : kSt) (K : sK) (hKO : KO K) (hj : wJ ad 218) (g : Nat → va_E) (hW : WF (shp ad K) ad cs g) : sI l yX12_offAll vX12_offAll { frames := 2, cells := 0, slots := 0, locals := 44 } D cs ad kS [.ref (ad 197)] g (fun r g2 => g2 = g) := by
  refine Met.startS (cc := cX12_offAll) (maxL := 3) (ret := (some .int)) RX12 rfl (by decide) rfl (Nat.le_of_ble_eq_true rfl) ?_
  intro p e s m below meth c ls X Z hP hl
  have hx := X.1
  have hb := X.2.1
  have hS : va_S (wA ad 218) s.heap s.heap [] := va_S.rf
  have hA : ∀ i, i < 218 → wA ad 218 (ad i) := fun i h => ⟨i, h, rfl⟩
  have hl : lv_has ls 3 [(0, .ref (ad 197))] := hl
  refine lv_iconst (v := 0) hx hb dX12_offAll_0 (by decide) ?_
  refine lv_istore_n (lv' := [(1, .int 0), (0, .ref (ad 197))]) hx hb dX12_offAll_1 rfl hl (by decide) rfl (fun ls hl => ?_)
  refine lv_iconst (v := 0) hx hb dX12_offAll_2 (by decide) ?_
  refine lv_istore_n (lv' := [(2, .int 0), (1, .int 0), (0, .ref (ad 197))]) hx hb dX12_offAll_3 rfl hl (by decide) rfl (fun ls hl => ?_)
  have HL4 : ∀ (n4 : Nat) (v4_2 : Int32) (v4_1 : Int32) (H : Heap) (locs : List Loc) (ls : Array Slot), (6 - v4_2.toInt).toNat < n4 → (0 ≤ v4_2.toInt ∧ v4_2.toInt ≤ 6) → va_P D vwCl (wL ad g 218) H → va_S (wA ad 218) s.heap H locs → lv_has ls 3 [(2, .int v4_2), (1, .int v4_1), (0, .ref (ad 197))] → W p l e ({ frames := 2, cells := 0, slots := 0, locals := 44 } : Room) s m ([.ref (ad 197)] : List Value).toArray below meth c H locs 0 0 (MQ below (qI D ad 218 (fun r g2 => g2 = g)) ([.ref (ad 197)] : List Value).toArray s 0 0 (wA ad 218)) (F0 m 4 ls []) := by
    intro n4
    induction n4 with
    | zero =>
      intro v4_2 v4_1 H locs ls hm4 hv4_0 hP hS hl
      exact absurd hm4 (Nat.not_lt_zero _)
    | succ n4 ih4 =>
      intro v4_2 v4_1 H locs ls hm4 hv4_0 hP hS hl
      refine lv_iload_n hx hb dX12_offAll_4 rfl (lv_at hl 0 rfl) ?_
      refine lv_aload_n hx hb dX12_offAll_5 rfl (lv_at hl 2 rfl) ?_
      obtain ⟨fsc_1, hgc_1, hOc_1⟩ := hW.obj (i := 197) (by decide) (sh_197 ad K)
      have hk_2 := hOc_1.ref 1 rfl
      refine q_get X iX12_offAll_12 hP (by decide) hgc_1 rfl 1 (by decide) (List.mem_of_getElem? (i := 1) rfl) (v := .ref (ad 198)) hk_2 dX12_offAll_6 ?_
      refine lv_bipush (v := 6) hx hb dX12_offAll_9 (by decide) ?_
      obtain ⟨fc_3, hgc_3, hFc_3⟩ := hW.arr (i := 198) (by decide) (sh_198 ad K)
      refine q_iald X hP (by decide) hgc_3 (by unfold vp_in; decide) dX12_offAll_11 ?_
      refine lv_topi (fun z_4 ez_4 => ?_)
      have hqz_4 : wq (6) z_4.toInt := ez_4 ▸ hFc_3 _
      have hz_4 : 0 ≤ z_4.toInt ∧ z_4.toInt ≤ 6 := by unfold wq at hqz_4; omega
      clear hqz_4
      refine lv_icmp_ge (tgt := 32) hx hb dX12_offAll_12 (by decide) (fun hc_5 => ?_) (fun hc_5 => ?_)
      · have hhc_5 := n_le (rfl : z_4.toInt = z_4.toInt) (rfl : v4_2.toInt = v4_2.toInt) hc_5
        refine lv_iload_n hx hb dX12_offAll_32 rfl (lv_at hl 1 rfl) ?_
        exact q_iret X hP hS rfl dX12_offAll_33
      · have hhc_5 := n_nle (rfl : z_4.toInt = z_4.toInt) (rfl : v4_2.toInt = v4_2.toInt) hc_5
        refine lv_iload_n hx hb dX12_offAll_15 rfl (lv_at hl 1 rfl) ?_
        refine lv_aload_n hx hb dX12_offAll_16 rfl (lv_at hl 2 rfl) ?_
        refine lv_iload_n hx hb dX12_offAll_17 rfl (lv_at hl 0 rfl) ?_
        refine s_calli (q := (RX12, TX12, 40)) (As := [.int v4_2]) (rest := [.int v4_1]) X Z (s_X12_lateOf l D cs ad kS K hKO hj g hW v4_2 (by omega)) (cwV 1 X.2.2.2.2.1 gg_X12_offAll_X12_lateOf rfl rfl rfl (by decide +kernel) ⟨Nat.le_of_ble_eq_true rfl, Nat.le_of_ble_eq_true rfl⟩) (by decide) hgc_1 rfl hP hA hS.2.1 hS rfl hl.1 rfl (Nat.le_of_ble_eq_true rfl) dX12_offAll_18 ⟨Nat.le_of_ble_eq_true rfl, Nat.le_of_ble_eq_true rfl⟩ (fun r_8 g_7 H locs hw_6 hP hS => ?_)
        rw [hw_6] at hP
        refine va_mabs hx hb (X.2.2.2.1.trans hl.1.symm) X.2.2.2.2.2.1 (X.2.2.2.2.1 _ (List.mem_of_getElem? (i := 6) rfl)) (X.2.2.2.2.1 _ (List.mem_of_getElem? (i := 7) rfl)) (X.2.2.2.2.1 _ (List.mem_of_getElem? (i := 8) rfl)) (X.2.2.2.2.1 _ (List.mem_of_getElem? (i := 9) rfl)) (Nat.le_of_ble_eq_true rfl) (Nat.le_of_ble_eq_true rfl) (Nat.le_of_ble_eq_true rfl) (Nat.le_of_ble_eq_true rfl) dX12_offAll_21 ?_
        refine lv_topi (fun z_9 ez_9 => ?_)
        refine lv_iadd hx hb dX12_offAll_24 ?_
        refine lv_topi (fun z_10 ez_10 => ?_)
        refine lv_istore_n (lv' := [(1, .int z_10), (2, .int v4_2), (0, .ref (ad 197))]) hx hb dX12_offAll_25 rfl hl (by decide) rfl (fun ls hl => ?_)
        obtain ⟨x_11, ex_11⟩ : ∃ y : Int32, y = v4_2 + 1 := ⟨_, rfl⟩
        have hx_11 : x_11.toInt = v4_2.toInt + 1 := n_add rfl (by decide : (1 : Int32).toInt = 1) ex_11 (by omega) (by omega)
        refine lv_iinc (v := x_11) (lv' := [(2, .int x_11), (1, .int z_10), (0, .ref (ad 197))]) hx hb dX12_offAll_26 hl (k := 1) rfl (by rw [ex_11]; rfl) (by decide) rfl (fun ls hl => ?_)
        refine lv_goto (tgt := 4) hx hb dX12_offAll_29 (by decide) ?_
        exact ih4 x_11 z_10 _ _ ls (by omega) (by omega) hP hS (lv_sub hl [0, 1, 2] rfl)
  have hiv4_2 : (0 : Int32).toInt = 0 := by decide
  have hiv4_1 : (0 : Int32).toInt = 0 := by decide
  exact HL4 _ 0 0 _ _ ls (Nat.lt_succ_self _) (by omega) hP hS (lv_sub hl [0, 1, 2] rfl)

theorem dX12_off_0 : decode cX12_off 0 = .ok (.aload_n 0, 1) := by decide +kernel
theorem dX12_off_1 : decode cX12_off 1 = .ok (.invokevirtual 261, 3) := by decide +kernel
theorem dX12_off_4 : decode cX12_off 4 = .ok (.ifCond .ne 6, 3) := by decide +kernel
theorem dX12_off_7 : decode cX12_off 7 = .ok (.bipush (-2), 2) := by decide +kernel
theorem dX12_off_9 : decode cX12_off 9 = .ok (.ireturn, 1) := by decide +kernel
theorem dX12_off_10 : decode cX12_off 10 = .ok (.aload_n 0, 1) := by decide +kernel
theorem dX12_off_11 : decode cX12_off 11 = .ok (.invokevirtual 246, 3) := by decide +kernel
theorem dX12_off_14 : decode cX12_off 14 = .ok (.aload_n 0, 1) := by decide +kernel
theorem dX12_off_15 : decode cX12_off 15 = .ok (.invokevirtual 279, 3) := by decide +kernel
theorem dX12_off_18 : decode cX12_off 18 = .ok (.ireturn, 1) := by decide +kernel
noncomputable def vX12_off : List Cond := .code yX12_off cX12_off 1 (some .int) :: (([.methodLink RX12 261 yX12_isStreet, .instanceMethod yX12_isStreet, .selects RX12 yX12_isStreet yX12_isStreet, .initialized RX12, .methodLink RX12 246 yX12_layAll, .instanceMethod yX12_layAll, .selects RX12 yX12_layAll yX12_layAll, .methodLink RX12 279 yX12_offAll, .instanceMethod yX12_offAll, .selects RX12 yX12_offAll yX12_offAll] : List Cond) ++ (vX12_isStreet ++ (vX12_layAll ++ vX12_offAll)))
theorem gs_X12_off : Gd vX12_off := Gd.cons (by decide +kernel) (Gd.app (Gd.r (by decide +kernel)) (Gd.app gs_X12_isStreet (Gd.app gs_X12_layAll gs_X12_offAll)))
theorem gg_X12_off_X12_isStreet : GoodIn vX12_off (wsV RX12 261 RX12 yX12_isStreet vX12_isStreet) := goodIn_app (goodIn_r _ [1, 2, 3, 4] (by decide +kernel) (by decide +kernel)) (fun w h => ⟨List.mem_cons_of_mem _ (List.mem_append_right _ (List.mem_append_left _ h)), gs_X12_isStreet w h⟩)
theorem gg_X12_off_X12_layAll : GoodIn vX12_off (wsV RX12 246 RX12 yX12_layAll vX12_layAll) := goodIn_app (goodIn_r _ [5, 6, 7, 4] (by decide +kernel) (by decide +kernel)) (fun w h => ⟨List.mem_cons_of_mem _ (List.mem_append_right _ (List.mem_append_right _ (List.mem_append_left _ h))), gs_X12_layAll w h⟩)
theorem gg_X12_off_X12_offAll : GoodIn vX12_off (wsV RX12 279 RX12 yX12_offAll vX12_offAll) := goodIn_app (goodIn_r _ [8, 9, 10, 4] (by decide +kernel) (by decide +kernel)) (fun w h => ⟨List.mem_cons_of_mem _ (List.mem_append_right _ (List.mem_append_right _ (List.mem_append_right _ (h)))), gs_X12_offAll w h⟩)
set_option maxHeartbeats 4000000 in
set_option maxRecDepth 100000 in
theorem s_X12_off (l : Launch) (D : va_G) (cs : Nat → ClassId) (ad : Nat → Nat) (kS : kSt) (K : sK) (hKO : KO K) (hj : wJ ad 218) (g : Nat → va_E) (hW : WF (shp ad K) ad cs g) : sI l yX12_off vX12_off { frames := 3, cells := 0, slots := 0, locals := 66 } D cs ad kS [.ref (ad 197)] g (fun r g2 => WF (shp ad K) ad cs g2 ∧ (∀ j, j ≠ 197 ∧ j ≠ 204 ∧ j ≠ 205 → g2 j = g j)) := by
  refine Met.startS (cc := cX12_off) (maxL := 1) (ret := (some .int)) RX12 rfl (by decide) rfl (Nat.le_of_ble_eq_true rfl) ?_
  intro p e s m below meth c ls X Z hP hl
  have hx := X.1
  have hb := X.2.1
  have hS : va_S (wA ad 218) s.heap s.heap [] := va_S.rf
  have hA : ∀ i, i < 218 → wA ad 218 (ad i) := fun i h => ⟨i, h, rfl⟩
  have hfr : ∀ j, j ≠ 197 ∧ j ≠ 204 ∧ j ≠ 205 → g j = g j := fun _ _ => rfl
  have hl : lv_has ls 1 [(0, .ref (ad 197))] := hl
  refine lv_aload_n hx hb dX12_off_0 rfl (lv_at hl 0 rfl) ?_
  obtain ⟨fsc_4, hgc_4, hOc_4⟩ := hW.obj (i := 197) (by decide) (sh_197 ad K)
  refine s_calli (q := (RX12, TX12, 40)) (As := []) (rest := []) X Z (s_X12_isStreet l D cs ad kS K hKO hj g hW) (cwV 0 X.2.2.2.2.1 gg_X12_off_X12_isStreet rfl rfl rfl (by decide +kernel) ⟨Nat.le_of_ble_eq_true rfl, Nat.le_of_ble_eq_true rfl⟩) (by decide) hgc_4 rfl hP hA hS.2.1 hS rfl hl.1 rfl (Nat.le_of_ble_eq_true rfl) dX12_off_1 ⟨Nat.le_of_ble_eq_true rfl, Nat.le_of_ble_eq_true rfl⟩ (fun r_3 g_2 H locs hw_1 hP hS => ?_)
  obtain ⟨hw_1g, hw_1⟩ := hw_1
  rw [hw_1g] at hP
  refine lv_if_ne (tgt := 10) hx hb dX12_off_4 (by decide) (fun hc_5 => ?_) (fun hc_5 => ?_)
  · have hhc_5 := n_ne (rfl : r_3.toInt = r_3.toInt) (by decide : (0 : Int32).toInt = 0) hc_5
    refine lv_aload_n hx hb dX12_off_10 rfl (lv_at hl 0 rfl) ?_
    refine s_callv (q := (RX12, TX12, 40)) (As := []) (rest := []) X Z (s_X12_layAll l D cs ad kS K hKO hj g hW) (cwV 0 X.2.2.2.2.1 gg_X12_off_X12_layAll rfl rfl rfl (by decide +kernel) ⟨Nat.le_of_ble_eq_true rfl, Nat.le_of_ble_eq_true rfl⟩) (by decide) hgc_4 rfl hP hA hS.2.1 hS rfl hl.1 rfl (Nat.le_of_ble_eq_true rfl) dX12_off_11 ⟨Nat.le_of_ble_eq_true rfl, Nat.le_of_ble_eq_true rfl⟩ (fun g_7 H locs hw_6 hP hS => ?_)
    obtain ⟨hw_6W, hw_6f⟩ := hw_6
    have hfr_9 : ∀ j, j ≠ 197 ∧ j ≠ 204 ∧ j ≠ 205 → g_7 j = g j := fun j hj => (hw_6f j (by omega)).trans (hfr j hj)
    refine lv_aload_n hx hb dX12_off_14 rfl (lv_at hl 0 rfl) ?_
    obtain ⟨fsc_13, hgc_13, hOc_13⟩ := hw_6W.obj (i := 197) (by decide) (sh_197 ad K)
    refine s_calli (q := (RX12, TX12, 40)) (As := []) (rest := []) X Z (s_X12_offAll l D cs ad kS K hKO hj g_7 hw_6W) (cwV 0 X.2.2.2.2.1 gg_X12_off_X12_offAll rfl rfl rfl (by decide +kernel) ⟨Nat.le_of_ble_eq_true rfl, Nat.le_of_ble_eq_true rfl⟩) (by decide) hgc_13 rfl hP hA hS.2.1 hS rfl hl.1 rfl (Nat.le_of_ble_eq_true rfl) dX12_off_15 ⟨Nat.le_of_ble_eq_true rfl, Nat.le_of_ble_eq_true rfl⟩ (fun r_12 g_11 H locs hw_10 hP hS => ?_)
    rw [hw_10] at hP
    exact q_iret X hP hS ⟨hw_6W, hfr_9⟩ dX12_off_18
  · have hhc_5 := n_eq (rfl : r_3.toInt = r_3.toInt) (by decide : (0 : Int32).toInt = 0) hc_5
    refine lv_bipush (v := (-2)) hx hb dX12_off_7 (by decide) ?_
    exact q_iret X hP hS ⟨hW, hfr⟩ dX12_off_9

theorem dX12_worst_0 : decode cX12_worst 0 = .ok (.aload_n 0, 1) := by decide +kernel
theorem dX12_worst_1 : decode cX12_worst 1 = .ok (.invokevirtual 261, 3) := by decide +kernel
theorem dX12_worst_4 : decode cX12_worst 4 = .ok (.ifCond .ne 6, 3) := by decide +kernel
theorem dX12_worst_7 : decode cX12_worst 7 = .ok (.bipush (-2), 2) := by decide +kernel
theorem dX12_worst_9 : decode cX12_worst 9 = .ok (.ireturn, 1) := by decide +kernel
theorem dX12_worst_10 : decode cX12_worst 10 = .ok (.aload_n 0, 1) := by decide +kernel
theorem dX12_worst_11 : decode cX12_worst 11 = .ok (.invokevirtual 246, 3) := by decide +kernel
theorem dX12_worst_14 : decode cX12_worst 14 = .ok (.iconst (-1), 1) := by decide +kernel
theorem dX12_worst_15 : decode cX12_worst 15 = .ok (.istore_n 1, 1) := by decide +kernel
theorem dX12_worst_16 : decode cX12_worst 16 = .ok (.iconst 0, 1) := by decide +kernel
theorem dX12_worst_17 : decode cX12_worst 17 = .ok (.istore_n 2, 1) := by decide +kernel
theorem dX12_worst_18 : decode cX12_worst 18 = .ok (.iconst 0, 1) := by decide +kernel
theorem dX12_worst_19 : decode cX12_worst 19 = .ok (.istore_n 3, 1) := by decide +kernel
theorem dX12_worst_20 : decode cX12_worst 20 = .ok (.iload_n 3, 1) := by decide +kernel
theorem dX12_worst_21 : decode cX12_worst 21 = .ok (.aload_n 0, 1) := by decide +kernel
theorem dX12_worst_22 : decode cX12_worst 22 = .ok (.getfield 9, 3) := by decide +kernel
theorem dX12_worst_25 : decode cX12_worst 25 = .ok (.bipush 6, 2) := by decide +kernel
theorem dX12_worst_27 : decode cX12_worst 27 = .ok (.iaload, 1) := by decide +kernel
theorem dX12_worst_28 : decode cX12_worst 28 = .ok (.if_icmp .ge 33, 3) := by decide +kernel
theorem dX12_worst_31 : decode cX12_worst 31 = .ok (.aload_n 0, 1) := by decide +kernel
theorem dX12_worst_32 : decode cX12_worst 32 = .ok (.iload_n 3, 1) := by decide +kernel
theorem dX12_worst_33 : decode cX12_worst 33 = .ok (.invokevirtual 276, 3) := by decide +kernel
theorem dX12_worst_36 : decode cX12_worst 36 = .ok (.invokestatic 273, 3) := by decide +kernel
theorem dX12_worst_39 : decode cX12_worst 39 = .ok (.istore 4, 2) := by decide +kernel
theorem dX12_worst_41 : decode cX12_worst 41 = .ok (.iload 4, 2) := by decide +kernel
theorem dX12_worst_43 : decode cX12_worst 43 = .ok (.iload_n 2, 1) := by decide +kernel
theorem dX12_worst_44 : decode cX12_worst 44 = .ok (.if_icmp .gt 6, 3) := by decide +kernel
theorem dX12_worst_47 : decode cX12_worst 47 = .ok (.goto 8, 3) := by decide +kernel
theorem dX12_worst_50 : decode cX12_worst 50 = .ok (.iload 4, 2) := by decide +kernel
theorem dX12_worst_52 : decode cX12_worst 52 = .ok (.istore_n 2, 1) := by decide +kernel
theorem dX12_worst_53 : decode cX12_worst 53 = .ok (.iload_n 3, 1) := by decide +kernel
theorem dX12_worst_54 : decode cX12_worst 54 = .ok (.istore_n 1, 1) := by decide +kernel
theorem dX12_worst_55 : decode cX12_worst 55 = .ok (.iinc 3 1, 3) := by decide +kernel
theorem dX12_worst_58 : decode cX12_worst 58 = .ok (.goto (-38), 3) := by decide +kernel
theorem dX12_worst_61 : decode cX12_worst 61 = .ok (.iload_n 1, 1) := by decide +kernel
theorem dX12_worst_62 : decode cX12_worst 62 = .ok (.ireturn, 1) := by decide +kernel
noncomputable def vX12_worst : List Cond := .code yX12_worst cX12_worst 5 (some .int) :: (([.methodLink RX12 261 yX12_isStreet, .instanceMethod yX12_isStreet, .selects RX12 yX12_isStreet yX12_isStreet, .initialized RX12, .methodLink RX12 246 yX12_layAll, .instanceMethod yX12_layAll, .selects RX12 yX12_layAll yX12_layAll, .fieldLink RX12 9 "IcicleClockModel" "world" "[I", .methodLink RX12 276 yX12_lateOf, .instanceMethod yX12_lateOf, .selects RX12 yX12_lateOf yX12_lateOf, .methodLink RX12 273 Lib.Math.abs.name, .static Lib.Math.abs.name, .initialized "java/lang/Math", .code Lib.Math.abs.name Lib.Math.abs.code 1 (some .int)] : List Cond) ++ (wsX120 ++ (vX12_isStreet ++ (vX12_layAll ++ vX12_lateOf))))
theorem iX12_worst_12 : ∀ w ∈ wsX120, w ∈ vX12_worst := fun _ h => List.mem_cons_of_mem _ (List.mem_append_right _ (List.mem_append_left _ h))
theorem gs_X12_worst : Gd vX12_worst := Gd.cons (by decide +kernel) (Gd.app (Gd.r (by decide +kernel)) (Gd.app gwX_12 (Gd.app gs_X12_isStreet (Gd.app gs_X12_layAll gs_X12_lateOf))))
theorem gg_X12_worst_X12_isStreet : GoodIn vX12_worst (wsV RX12 261 RX12 yX12_isStreet vX12_isStreet) := goodIn_app (goodIn_r _ [1, 2, 3, 4] (by decide +kernel) (by decide +kernel)) (fun w h => ⟨List.mem_cons_of_mem _ (List.mem_append_right _ (List.mem_append_right _ (List.mem_append_left _ h))), gs_X12_isStreet w h⟩)
theorem gg_X12_worst_X12_layAll : GoodIn vX12_worst (wsV RX12 246 RX12 yX12_layAll vX12_layAll) := goodIn_app (goodIn_r _ [5, 6, 7, 4] (by decide +kernel) (by decide +kernel)) (fun w h => ⟨List.mem_cons_of_mem _ (List.mem_append_right _ (List.mem_append_right _ (List.mem_append_right _ (List.mem_append_left _ h)))), gs_X12_layAll w h⟩)
theorem gg_X12_worst_X12_lateOf : GoodIn vX12_worst (wsV RX12 276 RX12 yX12_lateOf vX12_lateOf) := goodIn_app (goodIn_r _ [9, 10, 11, 4] (by decide +kernel) (by decide +kernel)) (fun w h => ⟨List.mem_cons_of_mem _ (List.mem_append_right _ (List.mem_append_right _ (List.mem_append_right _ (List.mem_append_right _ (h))))), gs_X12_lateOf w h⟩)
set_option maxHeartbeats 4000000 in
set_option maxRecDepth 100000 in
theorem s_X12_worst (l : Launch) (D : va_G) (cs : Nat → ClassId) (ad : Nat → Nat) (kS : kSt) (K : sK) (hKO : KO K) (hj : wJ ad 218) (g : Nat → va_E) (hW : WF (shp ad K) ad cs g) : sI l yX12_worst vX12_worst { frames := 3, cells := 0, slots := 0, locals := 65 } D cs ad kS [.ref (ad 197)] g (fun r g2 => WF (shp ad K) ad cs g2 ∧ (∀ j, j ≠ 197 ∧ j ≠ 204 ∧ j ≠ 205 → g2 j = g j)) := by
  refine Met.startS (cc := cX12_worst) (maxL := 5) (ret := (some .int)) RX12 rfl (by decide) rfl (Nat.le_of_ble_eq_true rfl) ?_
  intro p e s m below meth c ls X Z hP hl
  have hx := X.1
  have hb := X.2.1
  have hS : va_S (wA ad 218) s.heap s.heap [] := va_S.rf
  have hA : ∀ i, i < 218 → wA ad 218 (ad i) := fun i h => ⟨i, h, rfl⟩
  have hfr : ∀ j, j ≠ 197 ∧ j ≠ 204 ∧ j ≠ 205 → g j = g j := fun _ _ => rfl
  have hl : lv_has ls 5 [(0, .ref (ad 197))] := hl
  refine lv_aload_n hx hb dX12_worst_0 rfl (lv_at hl 0 rfl) ?_
  obtain ⟨fsc_4, hgc_4, hOc_4⟩ := hW.obj (i := 197) (by decide) (sh_197 ad K)
  refine s_calli (q := (RX12, TX12, 40)) (As := []) (rest := []) X Z (s_X12_isStreet l D cs ad kS K hKO hj g hW) (cwV 0 X.2.2.2.2.1 gg_X12_worst_X12_isStreet rfl rfl rfl (by decide +kernel) ⟨Nat.le_of_ble_eq_true rfl, Nat.le_of_ble_eq_true rfl⟩) (by decide) hgc_4 rfl hP hA hS.2.1 hS rfl hl.1 rfl (Nat.le_of_ble_eq_true rfl) dX12_worst_1 ⟨Nat.le_of_ble_eq_true rfl, Nat.le_of_ble_eq_true rfl⟩ (fun r_3 g_2 H locs hw_1 hP hS => ?_)
  obtain ⟨hw_1g, hw_1⟩ := hw_1
  rw [hw_1g] at hP
  refine lv_if_ne (tgt := 10) hx hb dX12_worst_4 (by decide) (fun hc_5 => ?_) (fun hc_5 => ?_)
  · have hhc_5 := n_ne (rfl : r_3.toInt = r_3.toInt) (by decide : (0 : Int32).toInt = 0) hc_5
    refine lv_aload_n hx hb dX12_worst_10 rfl (lv_at hl 0 rfl) ?_
    refine s_callv (q := (RX12, TX12, 40)) (As := []) (rest := []) X Z (s_X12_layAll l D cs ad kS K hKO hj g hW) (cwV 0 X.2.2.2.2.1 gg_X12_worst_X12_layAll rfl rfl rfl (by decide +kernel) ⟨Nat.le_of_ble_eq_true rfl, Nat.le_of_ble_eq_true rfl⟩) (by decide) hgc_4 rfl hP hA hS.2.1 hS rfl hl.1 rfl (Nat.le_of_ble_eq_true rfl) dX12_worst_11 ⟨Nat.le_of_ble_eq_true rfl, Nat.le_of_ble_eq_true rfl⟩ (fun g_7 H locs hw_6 hP hS => ?_)
    obtain ⟨hw_6W, hw_6f⟩ := hw_6
    have hfr_9 : ∀ j, j ≠ 197 ∧ j ≠ 204 ∧ j ≠ 205 → g_7 j = g j := fun j hj => (hw_6f j (by omega)).trans (hfr j hj)
    refine lv_iconst (v := (-1)) hx hb dX12_worst_14 (by decide) ?_
    refine lv_istore_n (lv' := [(1, .int (-1)), (0, .ref (ad 197))]) hx hb dX12_worst_15 rfl hl (by decide) rfl (fun ls hl => ?_)
    refine lv_iconst (v := 0) hx hb dX12_worst_16 (by decide) ?_
    refine lv_istore_n (lv' := [(2, .int 0), (1, .int (-1)), (0, .ref (ad 197))]) hx hb dX12_worst_17 rfl hl (by decide) rfl (fun ls hl => ?_)
    refine lv_iconst (v := 0) hx hb dX12_worst_18 (by decide) ?_
    refine lv_istore_n (lv' := [(3, .int 0), (2, .int 0), (1, .int (-1)), (0, .ref (ad 197))]) hx hb dX12_worst_19 rfl hl (by decide) rfl (fun ls hl => ?_)
    have HL20 : ∀ (n20 : Nat) (v20_3 : Int32) (v20_2 : Int32) (v20_1 : Int32) (G20 : Nat → va_E) (H : Heap) (locs : List Loc) (ls : Array Slot), (6 - v20_3.toInt).toNat < n20 → (0 ≤ v20_3.toInt ∧ v20_3.toInt ≤ 6) → (0 ≤ v20_2.toInt) → ((-1) ≤ v20_1.toInt ∧ v20_1.toInt ≤ 5) → WF (shp ad K) ad cs G20 → (∀ j, j ≠ 197 ∧ j ≠ 204 ∧ j ≠ 205 → G20 j = g j) → va_P D vwCl (wL ad G20 218) H → va_S (wA ad 218) s.heap H locs → lv_has ls 5 [(3, .int v20_3), (2, .int v20_2), (1, .int v20_1), (0, .ref (ad 197))] → W p l e ({ frames := 3, cells := 0, slots := 0, locals := 65 } : Room) s m ([.ref (ad 197)] : List Value).toArray below meth c H locs 0 0 (MQ below (qI D ad 218 (fun r g2 => WF (shp ad K) ad cs g2 ∧ (∀ j, j ≠ 197 ∧ j ≠ 204 ∧ j ≠ 205 → g2 j = g j))) ([.ref (ad 197)] : List Value).toArray s 0 0 (wA ad 218)) (F0 m 20 ls []) := by
      intro n20
      induction n20 with
      | zero =>
        intro v20_3 v20_2 v20_1 G20 H locs ls hm20 hv20_0 hv20_1 hv20_2 hW20 hfr20 hP hS hl
        exact absurd hm20 (Nat.not_lt_zero _)
      | succ n20 ih20 =>
        intro v20_3 v20_2 v20_1 G20 H locs ls hm20 hv20_0 hv20_1 hv20_2 hW20 hfr20 hP hS hl
        refine lv_iload_n hx hb dX12_worst_20 rfl (lv_at hl 0 rfl) ?_
        refine lv_aload_n hx hb dX12_worst_21 rfl (lv_at hl 3 rfl) ?_
        obtain ⟨fsc_10, hgc_10, hOc_10⟩ := hW20.obj (i := 197) (by decide) (sh_197 ad K)
        have hk_11 := hOc_10.ref 1 rfl
        refine q_get X iX12_worst_12 hP (by decide) hgc_10 rfl 1 (by decide) (List.mem_of_getElem? (i := 8) rfl) (v := .ref (ad 198)) hk_11 dX12_worst_22 ?_
        refine lv_bipush (v := 6) hx hb dX12_worst_25 (by decide) ?_
        obtain ⟨fc_12, hgc_12, hFc_12⟩ := hW20.arr (i := 198) (by decide) (sh_198 ad K)
        refine q_iald X hP (by decide) hgc_12 (by unfold vp_in; decide) dX12_worst_27 ?_
        refine lv_topi (fun z_13 ez_13 => ?_)
        have hqz_13 : wq (6) z_13.toInt := ez_13 ▸ hFc_12 _
        have hz_13 : 0 ≤ z_13.toInt ∧ z_13.toInt ≤ 6 := by unfold wq at hqz_13; omega
        clear hqz_13
        refine lv_icmp_ge (tgt := 61) hx hb dX12_worst_28 (by decide) (fun hc_14 => ?_) (fun hc_14 => ?_)
        · have hhc_14 := n_le (rfl : z_13.toInt = z_13.toInt) (rfl : v20_3.toInt = v20_3.toInt) hc_14
          refine lv_iload_n hx hb dX12_worst_61 rfl (lv_at hl 2 rfl) ?_
          exact q_iret X hP hS ⟨hW20, hfr20⟩ dX12_worst_62
        · have hhc_14 := n_nle (rfl : z_13.toInt = z_13.toInt) (rfl : v20_3.toInt = v20_3.toInt) hc_14
          refine lv_aload_n hx hb dX12_worst_31 rfl (lv_at hl 3 rfl) ?_
          refine lv_iload_n hx hb dX12_worst_32 rfl (lv_at hl 0 rfl) ?_
          refine s_calli (q := (RX12, TX12, 40)) (As := [.int v20_3]) (rest := []) X Z (s_X12_lateOf l D cs ad kS K hKO hj G20 hW20 v20_3 (by omega)) (cwV 1 X.2.2.2.2.1 gg_X12_worst_X12_lateOf rfl rfl rfl (by decide +kernel) ⟨Nat.le_of_ble_eq_true rfl, Nat.le_of_ble_eq_true rfl⟩) (by decide) hgc_10 rfl hP hA hS.2.1 hS rfl hl.1 rfl (Nat.le_of_ble_eq_true rfl) dX12_worst_33 ⟨Nat.le_of_ble_eq_true rfl, Nat.le_of_ble_eq_true rfl⟩ (fun r_17 g_16 H locs hw_15 hP hS => ?_)
          rw [hw_15] at hP
          refine va_mabs hx hb (X.2.2.2.1.trans hl.1.symm) X.2.2.2.2.2.1 (X.2.2.2.2.1 _ (List.mem_of_getElem? (i := 12) rfl)) (X.2.2.2.2.1 _ (List.mem_of_getElem? (i := 13) rfl)) (X.2.2.2.2.1 _ (List.mem_of_getElem? (i := 14) rfl)) (X.2.2.2.2.1 _ (List.mem_of_getElem? (i := 15) rfl)) (Nat.le_of_ble_eq_true rfl) (Nat.le_of_ble_eq_true rfl) (Nat.le_of_ble_eq_true rfl) (Nat.le_of_ble_eq_true rfl) dX12_worst_36 ?_
          refine lv_topi (fun z_18 ez_18 => ?_)
          refine lv_istore (lv' := [(4, .int z_18), (3, .int v20_3), (2, .int v20_2), (1, .int v20_1), (0, .ref (ad 197))]) hx hb dX12_worst_39 hl (by decide) rfl (fun ls hl => ?_)
          refine lv_iload hx hb dX12_worst_41 (lv_at hl 0 rfl) ?_
          refine lv_iload_n hx hb dX12_worst_43 rfl (lv_at hl 2 rfl) ?_
          have HJ55 : ∀ (v55_2 : Int32) (v55_1 : Int32) (G55 : Nat → va_E) (H : Heap) (locs : List Loc) (ls : Array Slot), (0 ≤ v55_2.toInt) → ((-1) ≤ v55_1.toInt ∧ v55_1.toInt ≤ 5) → WF (shp ad K) ad cs G55 → (∀ j, j ≠ 197 ∧ j ≠ 204 ∧ j ≠ 205 → G55 j = g j) → G55 197 = .inr (12, fsc_10) → G55 198 = .inl (cs 1, 118, .inl fc_12) → va_P D vwCl (wL ad G55 218) H → va_S (wA ad 218) s.heap H locs → lv_has ls 5 [(3, .int v20_3), (2, .int v55_2), (1, .int v55_1), (0, .ref (ad 197))] → W p l e ({ frames := 3, cells := 0, slots := 0, locals := 65 } : Room) s m ([.ref (ad 197)] : List Value).toArray below meth c H locs 0 0 (MQ below (qI D ad 218 (fun r g2 => WF (shp ad K) ad cs g2 ∧ (∀ j, j ≠ 197 ∧ j ≠ 204 ∧ j ≠ 205 → g2 j = g j))) ([.ref (ad 197)] : List Value).toArray s 0 0 (wA ad 218)) (F0 m 55 ls []) := by
            intro v55_2 v55_1 G55 H locs ls hv55_0 hv55_1 hW55 hfr55 hg55_0 hg55_1 hP hS hl
            obtain ⟨x_19, ex_19⟩ : ∃ y : Int32, y = v20_3 + 1 := ⟨_, rfl⟩
            have hx_19 : x_19.toInt = v20_3.toInt + 1 := n_add rfl (by decide : (1 : Int32).toInt = 1) ex_19 (by omega) (by omega)
            refine lv_iinc (v := x_19) (lv' := [(3, .int x_19), (2, .int v55_2), (1, .int v55_1), (0, .ref (ad 197))]) hx hb dX12_worst_55 hl (k := 0) rfl (by rw [ex_19]; rfl) (by decide) rfl (fun ls hl => ?_)
            refine lv_goto (tgt := 20) hx hb dX12_worst_58 (by decide) ?_
            exact ih20 x_19 v55_2 v55_1 G55 _ _ ls (by omega) (by omega) (by omega) (by omega) hW55 hfr55 hP hS (lv_sub hl [0, 1, 2, 3] rfl)
          refine lv_icmp_gt (tgt := 50) hx hb dX12_worst_44 (by decide) (fun hc_20 => ?_) (fun hc_20 => ?_)
          · have hhc_20 := n_lt (rfl : v20_2.toInt = v20_2.toInt) (rfl : z_18.toInt = z_18.toInt) hc_20
            have := n_hi v20_2
            have := n_hi z_18
            have := n_lo z_18
            refine lv_iload hx hb dX12_worst_50 (lv_at hl 0 rfl) ?_
            refine lv_istore_n (lv' := [(2, .int z_18), (4, .int z_18), (3, .int v20_3), (1, .int v20_1), (0, .ref (ad 197))]) hx hb dX12_worst_52 rfl hl (by decide) rfl (fun ls hl => ?_)
            refine lv_iload_n hx hb dX12_worst_53 rfl (lv_at hl 2 rfl) ?_
            refine lv_istore_n (lv' := [(1, .int v20_3), (2, .int z_18), (4, .int z_18), (3, .int v20_3), (0, .ref (ad 197))]) hx hb dX12_worst_54 rfl hl (by decide) rfl (fun ls hl => ?_)
            exact HJ55 z_18 v20_3 G20 _ _ ls (by omega) (by omega) hW20 hfr20 hgc_10 hgc_12 hP hS (lv_sub hl [3, 1, 0, 4] rfl)
          · have hhc_20 := n_nlt (rfl : v20_2.toInt = v20_2.toInt) (rfl : z_18.toInt = z_18.toInt) hc_20
            have := n_hi v20_2
            have := n_hi z_18
            have := n_lo z_18
            refine lv_goto (tgt := 55) hx hb dX12_worst_47 (by decide) ?_
            exact HJ55 v20_2 v20_1 G20 _ _ ls (by omega) (by omega) hW20 hfr20 hgc_10 hgc_12 hP hS (lv_sub hl [1, 2, 3, 4] rfl)
    have hiv20_3 : (0 : Int32).toInt = 0 := by decide
    have hiv20_2 : (0 : Int32).toInt = 0 := by decide
    have hiv20_1 : ((-1) : Int32).toInt = -1 := by decide
    exact HL20 _ 0 0 (-1) g_7 _ _ ls (Nat.lt_succ_self _) (by omega) (by omega) (by omega) hw_6W hfr_9 hP hS (lv_sub hl [0, 1, 2, 3] rfl)
  · have hhc_5 := n_eq (rfl : r_3.toInt = r_3.toInt) (by decide : (0 : Int32).toInt = 0) hc_5
    refine lv_bipush (v := (-2)) hx hb dX12_worst_7 (by decide) ?_
    exact q_iret X hP hS ⟨hW, hfr⟩ dX12_worst_9

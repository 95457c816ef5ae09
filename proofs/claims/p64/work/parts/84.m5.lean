theorem dX12_areThen_0 : decode cX12_areThen 0 = .ok (.aload_n 0, 1) := by decide +kernel
theorem dX12_areThen_1 : decode cX12_areThen 1 = .ok (.iload_n 1, 1) := by decide +kernel
theorem dX12_areThen_2 : decode cX12_areThen 2 = .ok (.i2l, 1) := by decide +kernel
theorem dX12_areThen_3 : decode cX12_areThen 3 = .ok (.invokevirtual 221, 3) := by decide +kernel
theorem dX12_areThen_6 : decode cX12_areThen 6 = .ok (.ifCond .eq 11, 3) := by decide +kernel
theorem dX12_areThen_9 : decode cX12_areThen 9 = .ok (.aload_n 0, 1) := by decide +kernel
theorem dX12_areThen_10 : decode cX12_areThen 10 = .ok (.iload_n 2, 1) := by decide +kernel
theorem dX12_areThen_11 : decode cX12_areThen 11 = .ok (.invokevirtual 205, 3) := by decide +kernel
theorem dX12_areThen_14 : decode cX12_areThen 14 = .ok (.ifCond .ne 5, 3) := by decide +kernel
theorem dX12_areThen_19 : decode cX12_areThen 19 = .ok (.aload_n 0, 1) := by decide +kernel
theorem dX12_areThen_20 : decode cX12_areThen 20 = .ok (.invokevirtual 246, 3) := by decide +kernel
theorem dX12_areThen_23 : decode cX12_areThen 23 = .ok (.iconst 1, 1) := by decide +kernel
theorem dX12_areThen_24 : decode cX12_areThen 24 = .ok (.ireturn, 1) := by decide +kernel
theorem dX12_areThen_17 : decode cX12_areThen 17 = .ok (.iconst 0, 1) := by decide +kernel
theorem dX12_areThen_18 : decode cX12_areThen 18 = .ok (.ireturn, 1) := by decide +kernel
noncomputable def vX12_areThen : List Cond := .code yX12_areThen cX12_areThen 3 (some .boolean) :: (([.methodLink RX12 221 yX12_isIcicle, .instanceMethod yX12_isIcicle, .selects RX12 yX12_isIcicle yX12_isIcicle, .initialized RX12, .methodLink RX12 205 yX12_isDay, .instanceMethod yX12_isDay, .selects RX12 yX12_isDay yX12_isDay, .methodLink RX12 246 yX12_layAll, .instanceMethod yX12_layAll, .selects RX12 yX12_layAll yX12_layAll] : List Cond) ++ (vX12_isIcicle ++ (vX12_isDay ++ vX12_layAll)))
theorem gs_X12_areThen : Gd vX12_areThen := Gd.cons (by decide +kernel) (Gd.app (Gd.r (by decide +kernel)) (Gd.app gs_X12_isIcicle (Gd.app gs_X12_isDay gs_X12_layAll)))
theorem gg_X12_areThen_X12_isIcicle : GoodIn vX12_areThen (wsV RX12 221 RX12 yX12_isIcicle vX12_isIcicle) := goodIn_app (goodIn_r _ [1, 2, 3, 4] (by decide +kernel) (by decide +kernel)) (fun w h => ⟨List.mem_cons_of_mem _ (List.mem_append_right _ (List.mem_append_left _ h)), gs_X12_isIcicle w h⟩)
theorem gg_X12_areThen_X12_isDay : GoodIn vX12_areThen (wsV RX12 205 RX12 yX12_isDay vX12_isDay) := goodIn_app (goodIn_r _ [5, 6, 7, 4] (by decide +kernel) (by decide +kernel)) (fun w h => ⟨List.mem_cons_of_mem _ (List.mem_append_right _ (List.mem_append_right _ (List.mem_append_left _ h))), gs_X12_isDay w h⟩)
theorem gg_X12_areThen_X12_layAll : GoodIn vX12_areThen (wsV RX12 246 RX12 yX12_layAll vX12_layAll) := goodIn_app (goodIn_r _ [8, 9, 10, 4] (by decide +kernel) (by decide +kernel)) (fun w h => ⟨List.mem_cons_of_mem _ (List.mem_append_right _ (List.mem_append_right _ (List.mem_append_right _ (h)))), gs_X12_layAll w h⟩)
set_option maxHeartbeats 4000000 in
set_option maxRecDepth 100000 in
theorem s_X12_areThen (l : Launch) (D : va_G) (cs : Nat → ClassId) (ad : Nat → Nat) (kS : kSt) (K : sK) (hKO : KO K) (hj : wJ ad 218) (g : Nat → va_E) (hW : WF (shp ad K) ad cs g) (ic : Int32) (dy : Int32) : sI l yX12_areThen vX12_areThen { frames := 3, cells := 0, slots := 0, locals := 65 } D cs ad kS [.ref (ad 197), .int ic, .int dy] g (fun r g2 => WF (shp ad K) ad cs g2 ∧ (∀ j, j ≠ 197 ∧ j ≠ 204 ∧ j ≠ 205 → g2 j = g j) ∧ (0 ≤ r.toInt ∧ r.toInt ≤ 1 ∧ (r.toInt ≠ 0 → 0 ≤ ic.toInt ∧ ic.toInt ≤ 7 ∧ 0 ≤ dy.toInt ∧ dy.toInt ≤ 13))) := by
  refine Met.startS (cc := cX12_areThen) (maxL := 3) (ret := (some .boolean)) RX12 rfl (by decide) rfl (Nat.le_of_ble_eq_true rfl) ?_
  intro p e s m below meth c ls X Z hP hl
  have hx := X.1
  have hb := X.2.1
  have hS : va_S (wA ad 218) s.heap s.heap [] := va_S.rf
  have hA : ∀ i, i < 218 → wA ad 218 (ad i) := fun i h => ⟨i, h, rfl⟩
  have hfr : ∀ j, j ≠ 197 ∧ j ≠ 204 ∧ j ≠ 205 → g j = g j := fun _ _ => rfl
  have hl : lv_has ls 3 [(0, .ref (ad 197)), (1, .int ic), (2, .int dy)] := hl
  refine lv_aload_n hx hb dX12_areThen_0 rfl (lv_at hl 0 rfl) ?_
  refine lv_iload_n hx hb dX12_areThen_1 rfl (lv_at hl 1 rfl) ?_
  refine lv_i2l hx hb dX12_areThen_2 rfl ?_
  refine lv_topl (fun z_1 ez_1 => ?_)
  have hz_1 : z_1.toInt = ic.toInt := ez_1 ▸ j_of rfl
  have := n_hi ic
  have := n_lo ic
  obtain ⟨fsc_5, hgc_5, hOc_5⟩ := hW.obj (i := 197) (by decide) (sh_197 ad K)
  refine s_calli (q := (RX12, TX12, 40)) (As := [.long z_1]) (rest := []) X Z (s_X12_isIcicle l D cs ad kS K hKO hj g hW z_1) (cwV 1 X.2.2.2.2.1 gg_X12_areThen_X12_isIcicle rfl rfl rfl (by decide +kernel) ⟨Nat.le_of_ble_eq_true rfl, Nat.le_of_ble_eq_true rfl⟩) (by decide) hgc_5 rfl hP hA hS.2.1 hS rfl hl.1 rfl (Nat.le_of_ble_eq_true rfl) dX12_areThen_3 ⟨Nat.le_of_ble_eq_true rfl, Nat.le_of_ble_eq_true rfl⟩ (fun r_4 g_3 H locs hw_2 hP hS => ?_)
  obtain ⟨hw_2g, hw_2⟩ := hw_2
  rw [hw_2g] at hP
  have HJ17 : ∀ (G17 : Nat → va_E) (H : Heap) (locs : List Loc) (ls : Array Slot), WF (shp ad K) ad cs G17 → (∀ j, j ≠ 197 ∧ j ≠ 204 ∧ j ≠ 205 → G17 j = g j) → G17 197 = .inr (12, fsc_5) → va_P D vwCl (wL ad G17 218) H → va_S (wA ad 218) s.heap H locs → lv_has ls 3 [] → W p l e ({ frames := 3, cells := 0, slots := 0, locals := 65 } : Room) s m ([.ref (ad 197), .int ic, .int dy] : List Value).toArray below meth c H locs 0 0 (MQ below (qI D ad 218 (fun r g2 => WF (shp ad K) ad cs g2 ∧ (∀ j, j ≠ 197 ∧ j ≠ 204 ∧ j ≠ 205 → g2 j = g j) ∧ (0 ≤ r.toInt ∧ r.toInt ≤ 1 ∧ (r.toInt ≠ 0 → 0 ≤ ic.toInt ∧ ic.toInt ≤ 7 ∧ 0 ≤ dy.toInt ∧ dy.toInt ≤ 13)))) ([.ref (ad 197), .int ic, .int dy] : List Value).toArray s 0 0 (wA ad 218)) (F0 m 17 ls []) := by
    intro G17 H locs ls hW17 hfr17 hg17_0 hP hS hl
    refine lv_iconst (v := 0) hx hb dX12_areThen_17 (by decide) ?_
    have hr0 : (0 : Int32).toInt = 0 := by decide
    exact q_zret X hP hS rfl ⟨hW17, hfr17, (by omega)⟩ dX12_areThen_18
  refine lv_if_eq (tgt := 17) hx hb dX12_areThen_6 (by decide) (fun hc_6 => ?_) (fun hc_6 => ?_)
  · have hhc_6 := n_eq (rfl : r_4.toInt = r_4.toInt) (by decide : (0 : Int32).toInt = 0) hc_6
    exact HJ17 g _ _ ls hW hfr hgc_5 hP hS (lv_sub hl [] rfl)
  · have hhc_6 := n_ne (rfl : r_4.toInt = r_4.toInt) (by decide : (0 : Int32).toInt = 0) hc_6
    refine lv_aload_n hx hb dX12_areThen_9 rfl (lv_at hl 0 rfl) ?_
    refine lv_iload_n hx hb dX12_areThen_10 rfl (lv_at hl 2 rfl) ?_
    refine s_calli (q := (RX12, TX12, 40)) (As := [.int dy]) (rest := []) X Z (s_X12_isDay l D cs ad kS K hKO hj g hW dy) (cwV 1 X.2.2.2.2.1 gg_X12_areThen_X12_isDay rfl rfl rfl (by decide +kernel) ⟨Nat.le_of_ble_eq_true rfl, Nat.le_of_ble_eq_true rfl⟩) (by decide) hgc_5 rfl hP hA hS.2.1 hS rfl hl.1 rfl (Nat.le_of_ble_eq_true rfl) dX12_areThen_11 ⟨Nat.le_of_ble_eq_true rfl, Nat.le_of_ble_eq_true rfl⟩ (fun r_9 g_8 H locs hw_7 hP hS => ?_)
    obtain ⟨hw_7g, hw_7⟩ := hw_7
    rw [hw_7g] at hP
    refine lv_if_ne (tgt := 19) hx hb dX12_areThen_14 (by decide) (fun hc_10 => ?_) (fun hc_10 => ?_)
    · have hhc_10 := n_ne (rfl : r_9.toInt = r_9.toInt) (by decide : (0 : Int32).toInt = 0) hc_10
      refine lv_aload_n hx hb dX12_areThen_19 rfl (lv_at hl 0 rfl) ?_
      refine s_callv (q := (RX12, TX12, 40)) (As := []) (rest := []) X Z (s_X12_layAll l D cs ad kS K hKO hj g hW) (cwV 0 X.2.2.2.2.1 gg_X12_areThen_X12_layAll rfl rfl rfl (by decide +kernel) ⟨Nat.le_of_ble_eq_true rfl, Nat.le_of_ble_eq_true rfl⟩) (by decide) hgc_5 rfl hP hA hS.2.1 hS rfl hl.1 rfl (Nat.le_of_ble_eq_true rfl) dX12_areThen_20 ⟨Nat.le_of_ble_eq_true rfl, Nat.le_of_ble_eq_true rfl⟩ (fun g_12 H locs hw_11 hP hS => ?_)
      obtain ⟨hw_11W, hw_11f⟩ := hw_11
      have hfr_14 : ∀ j, j ≠ 197 ∧ j ≠ 204 ∧ j ≠ 205 → g_12 j = g j := fun j hj => (hw_11f j (by omega)).trans (hfr j hj)
      refine lv_iconst (v := 1) hx hb dX12_areThen_23 (by decide) ?_
      have hr0 : (1 : Int32).toInt = 1 := by decide
      exact q_zret X hP hS rfl ⟨hw_11W, hfr_14, (by omega)⟩ dX12_areThen_24
    · have hhc_10 := n_eq (rfl : r_9.toInt = r_9.toInt) (by decide : (0 : Int32).toInt = 0) hc_10
      exact HJ17 g _ _ ls hW hfr hgc_5 hP hS (lv_sub hl [] rfl)

theorem dX12_size_0 : decode cX12_size 0 = .ok (.aload_n 0, 1) := by decide +kernel
theorem dX12_size_1 : decode cX12_size 1 = .ok (.iload_n 1, 1) := by decide +kernel
theorem dX12_size_2 : decode cX12_size 2 = .ok (.iload_n 2, 1) := by decide +kernel
theorem dX12_size_3 : decode cX12_size 3 = .ok (.invokevirtual 282, 3) := by decide +kernel
theorem dX12_size_6 : decode cX12_size 6 = .ok (.ifCond .ne 6, 3) := by decide +kernel
theorem dX12_size_9 : decode cX12_size 9 = .ok (.bipush (-2), 2) := by decide +kernel
theorem dX12_size_11 : decode cX12_size 11 = .ok (.ireturn, 1) := by decide +kernel
theorem dX12_size_12 : decode cX12_size 12 = .ok (.iconst 1, 1) := by decide +kernel
theorem dX12_size_13 : decode cX12_size 13 = .ok (.istore_n 3, 1) := by decide +kernel
theorem dX12_size_14 : decode cX12_size 14 = .ok (.iload_n 3, 1) := by decide +kernel
theorem dX12_size_15 : decode cX12_size 15 = .ok (.bipush 99, 2) := by decide +kernel
theorem dX12_size_17 : decode cX12_size 17 = .ok (.if_icmp .gt 26, 3) := by decide +kernel
theorem dX12_size_20 : decode cX12_size 20 = .ok (.aload_n 0, 1) := by decide +kernel
theorem dX12_size_21 : decode cX12_size 21 = .ok (.aload_n 0, 1) := by decide +kernel
theorem dX12_size_22 : decode cX12_size 22 = .ok (.iload_n 1, 1) := by decide +kernel
theorem dX12_size_23 : decode cX12_size 23 = .ok (.iconst 0, 1) := by decide +kernel
theorem dX12_size_24 : decode cX12_size 24 = .ok (.invokevirtual 225, 3) := by decide +kernel
theorem dX12_size_27 : decode cX12_size 27 = .ok (.iload_n 3, 1) := by decide +kernel
theorem dX12_size_28 : decode cX12_size 28 = .ok (.invokevirtual 237, 3) := by decide +kernel
theorem dX12_size_31 : decode cX12_size 31 = .ok (.iload_n 2, 1) := by decide +kernel
theorem dX12_size_32 : decode cX12_size 32 = .ok (.if_icmp .ne 5, 3) := by decide +kernel
theorem dX12_size_35 : decode cX12_size 35 = .ok (.iload_n 3, 1) := by decide +kernel
theorem dX12_size_36 : decode cX12_size 36 = .ok (.ireturn, 1) := by decide +kernel
theorem dX12_size_37 : decode cX12_size 37 = .ok (.iinc 3 1, 3) := by decide +kernel
theorem dX12_size_40 : decode cX12_size 40 = .ok (.goto (-26), 3) := by decide +kernel
theorem dX12_size_43 : decode cX12_size 43 = .ok (.iconst (-1), 1) := by decide +kernel
theorem dX12_size_44 : decode cX12_size 44 = .ok (.ireturn, 1) := by decide +kernel
noncomputable def vX12_size : List Cond := .code yX12_size cX12_size 4 (some .int) :: (([.methodLink RX12 282 yX12_areThen, .instanceMethod yX12_areThen, .selects RX12 yX12_areThen yX12_areThen, .initialized RX12, .methodLink RX12 225 yX12_of, .instanceMethod yX12_of, .selects RX12 yX12_of yX12_of, .methodLink RX12 237 yX12_fallsBy, .instanceMethod yX12_fallsBy, .selects RX12 yX12_fallsBy yX12_fallsBy] : List Cond) ++ (vX12_areThen ++ (vX12_of ++ vX12_fallsBy)))
theorem gs_X12_size : Gd vX12_size := Gd.cons (by decide +kernel) (Gd.app (Gd.r (by decide +kernel)) (Gd.app gs_X12_areThen (Gd.app gs_X12_of gs_X12_fallsBy)))
theorem gg_X12_size_X12_areThen : GoodIn vX12_size (wsV RX12 282 RX12 yX12_areThen vX12_areThen) := goodIn_app (goodIn_r _ [1, 2, 3, 4] (by decide +kernel) (by decide +kernel)) (fun w h => ⟨List.mem_cons_of_mem _ (List.mem_append_right _ (List.mem_append_left _ h)), gs_X12_areThen w h⟩)
theorem gg_X12_size_X12_of : GoodIn vX12_size (wsV RX12 225 RX12 yX12_of vX12_of) := goodIn_app (goodIn_r _ [5, 6, 7, 4] (by decide +kernel) (by decide +kernel)) (fun w h => ⟨List.mem_cons_of_mem _ (List.mem_append_right _ (List.mem_append_right _ (List.mem_append_left _ h))), gs_X12_of w h⟩)
theorem gg_X12_size_X12_fallsBy : GoodIn vX12_size (wsV RX12 237 RX12 yX12_fallsBy vX12_fallsBy) := goodIn_app (goodIn_r _ [8, 9, 10, 4] (by decide +kernel) (by decide +kernel)) (fun w h => ⟨List.mem_cons_of_mem _ (List.mem_append_right _ (List.mem_append_right _ (List.mem_append_right _ (h)))), gs_X12_fallsBy w h⟩)
set_option maxHeartbeats 4000000 in
set_option maxRecDepth 100000 in
theorem s_X12_size (l : Launch) (D : va_G) (cs : Nat → ClassId) (ad : Nat → Nat) (kS : kSt) (K : sK) (hKO : KO K) (hj : wJ ad 218) (g : Nat → va_E) (hW : WF (shp ad K) ad cs g) (ic : Int32) (dy : Int32) : sI l yX12_size vX12_size { frames := 4, cells := 0, slots := 0, locals := 87 } D cs ad kS [.ref (ad 197), .int ic, .int dy] g (fun r g2 => WF (shp ad K) ad cs g2 ∧ (∀ j, j ≠ 197 ∧ j ≠ 204 ∧ j ≠ 205 → g2 j = g j)) := by
  refine Met.startS (cc := cX12_size) (maxL := 4) (ret := (some .int)) RX12 rfl (by decide) rfl (Nat.le_of_ble_eq_true rfl) ?_
  intro p e s m below meth c ls X Z hP hl
  have hx := X.1
  have hb := X.2.1
  have hS : va_S (wA ad 218) s.heap s.heap [] := va_S.rf
  have hA : ∀ i, i < 218 → wA ad 218 (ad i) := fun i h => ⟨i, h, rfl⟩
  have hfr : ∀ j, j ≠ 197 ∧ j ≠ 204 ∧ j ≠ 205 → g j = g j := fun _ _ => rfl
  have hl : lv_has ls 4 [(0, .ref (ad 197)), (1, .int ic), (2, .int dy)] := hl
  refine lv_aload_n hx hb dX12_size_0 rfl (lv_at hl 0 rfl) ?_
  refine lv_iload_n hx hb dX12_size_1 rfl (lv_at hl 1 rfl) ?_
  refine lv_iload_n hx hb dX12_size_2 rfl (lv_at hl 2 rfl) ?_
  obtain ⟨fsc_4, hgc_4, hOc_4⟩ := hW.obj (i := 197) (by decide) (sh_197 ad K)
  refine s_calli (q := (RX12, TX12, 40)) (As := [.int ic, .int dy]) (rest := []) X Z (s_X12_areThen l D cs ad kS K hKO hj g hW ic dy) (cwV 2 X.2.2.2.2.1 gg_X12_size_X12_areThen rfl rfl rfl (by decide +kernel) ⟨Nat.le_of_ble_eq_true rfl, Nat.le_of_ble_eq_true rfl⟩) (by decide) hgc_4 rfl hP hA hS.2.1 hS rfl hl.1 rfl (Nat.le_of_ble_eq_true rfl) dX12_size_3 ⟨Nat.le_of_ble_eq_true rfl, Nat.le_of_ble_eq_true rfl⟩ (fun r_3 g_2 H locs hw_1 hP hS => ?_)
  obtain ⟨hw_1W, hw_1f, hw_1⟩ := hw_1
  have hfr_5 : ∀ j, j ≠ 197 ∧ j ≠ 204 ∧ j ≠ 205 → g_2 j = g j := fun j hj => (hw_1f j (by omega)).trans (hfr j hj)
  refine lv_if_ne (tgt := 12) hx hb dX12_size_6 (by decide) (fun hc_6 => ?_) (fun hc_6 => ?_)
  · have hhc_6 := n_ne (rfl : r_3.toInt = r_3.toInt) (by decide : (0 : Int32).toInt = 0) hc_6
    refine lv_iconst (v := 1) hx hb dX12_size_12 (by decide) ?_
    refine lv_istore_n (lv' := [(3, .int 1), (0, .ref (ad 197)), (1, .int ic), (2, .int dy)]) hx hb dX12_size_13 rfl hl (by decide) rfl (fun ls hl => ?_)
    have HL14 : ∀ (n14 : Nat) (v14_3 : Int32) (G14 : Nat → va_E) (H : Heap) (locs : List Loc) (ls : Array Slot), (100 - v14_3.toInt).toNat < n14 → (1 ≤ v14_3.toInt ∧ v14_3.toInt ≤ 100) → WF (shp ad K) ad cs G14 → (∀ j, j ≠ 197 ∧ j ≠ 204 ∧ j ≠ 205 → G14 j = g j) → va_P D vwCl (wL ad G14 218) H → va_S (wA ad 218) s.heap H locs → lv_has ls 4 [(3, .int v14_3), (0, .ref (ad 197)), (1, .int ic), (2, .int dy)] → W p l e ({ frames := 4, cells := 0, slots := 0, locals := 87 } : Room) s m ([.ref (ad 197), .int ic, .int dy] : List Value).toArray below meth c H locs 0 0 (MQ below (qI D ad 218 (fun r g2 => WF (shp ad K) ad cs g2 ∧ (∀ j, j ≠ 197 ∧ j ≠ 204 ∧ j ≠ 205 → g2 j = g j))) ([.ref (ad 197), .int ic, .int dy] : List Value).toArray s 0 0 (wA ad 218)) (F0 m 14 ls []) := by
      intro n14
      induction n14 with
      | zero =>
        intro v14_3 G14 H locs ls hm14 hv14_0 hW14 hfr14 hP hS hl
        exact absurd hm14 (Nat.not_lt_zero _)
      | succ n14 ih14 =>
        intro v14_3 G14 H locs ls hm14 hv14_0 hW14 hfr14 hP hS hl
        refine lv_iload_n hx hb dX12_size_14 rfl (lv_at hl 0 rfl) ?_
        refine lv_bipush (v := 99) hx hb dX12_size_15 (by decide) ?_
        refine lv_icmp_gt (tgt := 43) hx hb dX12_size_17 (by decide) (fun hc_7 => ?_) (fun hc_7 => ?_)
        · have hhc_7 := n_lt (by decide : (99 : Int32).toInt = 99) (rfl : v14_3.toInt = v14_3.toInt) hc_7
          refine lv_iconst (v := (-1)) hx hb dX12_size_43 (by decide) ?_
          exact q_iret X hP hS ⟨hW14, hfr14⟩ dX12_size_44
        · have hhc_7 := n_nlt (by decide : (99 : Int32).toInt = 99) (rfl : v14_3.toInt = v14_3.toInt) hc_7
          refine lv_aload_n hx hb dX12_size_20 rfl (lv_at hl 1 rfl) ?_
          refine lv_aload_n hx hb dX12_size_21 rfl (lv_at hl 1 rfl) ?_
          refine lv_iload_n hx hb dX12_size_22 rfl (lv_at hl 2 rfl) ?_
          refine lv_iconst (v := 0) hx hb dX12_size_23 (by decide) ?_
          have hqk_8 : (0 : Int32).toInt = 0 := by decide
          obtain ⟨fsc_12, hgc_12, hOc_12⟩ := hW14.obj (i := 197) (by decide) (sh_197 ad K)
          refine s_calli (q := (RX12, TX12, 40)) (As := [.int ic, .int 0]) (rest := [.ref (ad 197)]) X Z (s_X12_of l D cs ad kS K hKO hj G14 hW14 ic 0 (by omega) (by omega)) (cwV 2 X.2.2.2.2.1 gg_X12_size_X12_of rfl rfl rfl (by decide +kernel) ⟨Nat.le_of_ble_eq_true rfl, Nat.le_of_ble_eq_true rfl⟩) (by decide) hgc_12 rfl hP hA hS.2.1 hS rfl hl.1 rfl (Nat.le_of_ble_eq_true rfl) dX12_size_24 ⟨Nat.le_of_ble_eq_true rfl, Nat.le_of_ble_eq_true rfl⟩ (fun r_11 g_10 H locs hw_9 hP hS => ?_)
          obtain ⟨hw_9g, hw_9⟩ := hw_9
          rw [hw_9g] at hP
          have hqk_13 : (0 : Int32).toInt = 0 := by decide
          refine lv_iload_n hx hb dX12_size_27 rfl (lv_at hl 0 rfl) ?_
          refine s_calli (q := (RX12, TX12, 40)) (As := [.int r_11, .int v14_3]) (rest := []) X Z (s_X12_fallsBy l D cs ad kS K hKO hj G14 hW14 r_11 v14_3 (by omega)) (cwV 2 X.2.2.2.2.1 gg_X12_size_X12_fallsBy rfl rfl rfl (by decide +kernel) ⟨Nat.le_of_ble_eq_true rfl, Nat.le_of_ble_eq_true rfl⟩) (by decide) hgc_12 rfl hP hA hS.2.1 hS rfl hl.1 rfl (Nat.le_of_ble_eq_true rfl) dX12_size_28 ⟨Nat.le_of_ble_eq_true rfl, Nat.le_of_ble_eq_true rfl⟩ (fun r_16 g_15 H locs hw_14 hP hS => ?_)
          obtain ⟨hw_14g, hw_14⟩ := hw_14
          rw [hw_14g] at hP
          refine lv_iload_n hx hb dX12_size_31 rfl (lv_at hl 3 rfl) ?_
          refine lv_icmp_ne (tgt := 37) hx hb dX12_size_32 (by decide) (fun hc_17 => ?_) (fun hc_17 => ?_)
          · have hhc_17 := n_ne (rfl : r_16.toInt = r_16.toInt) (rfl : dy.toInt = dy.toInt) hc_17
            obtain ⟨x_18, ex_18⟩ : ∃ y : Int32, y = v14_3 + 1 := ⟨_, rfl⟩
            have hx_18 : x_18.toInt = v14_3.toInt + 1 := n_add rfl (by decide : (1 : Int32).toInt = 1) ex_18 (by omega) (by omega)
            refine lv_iinc (v := x_18) (lv' := [(3, .int x_18), (0, .ref (ad 197)), (1, .int ic), (2, .int dy)]) hx hb dX12_size_37 hl (k := 0) rfl (by rw [ex_18]; rfl) (by decide) rfl (fun ls hl => ?_)
            refine lv_goto (tgt := 14) hx hb dX12_size_40 (by decide) ?_
            exact ih14 x_18 G14 _ _ ls (by omega) (by omega) hW14 hfr14 hP hS (lv_sub hl [0, 1, 2, 3] rfl)
          · have hhc_17 := n_eq (rfl : r_16.toInt = r_16.toInt) (rfl : dy.toInt = dy.toInt) hc_17
            refine lv_iload_n hx hb dX12_size_35 rfl (lv_at hl 0 rfl) ?_
            exact q_iret X hP hS ⟨hW14, hfr14⟩ dX12_size_36
    have hiv14_3 : (1 : Int32).toInt = 1 := by decide
    exact HL14 _ 1 g_2 _ _ ls (Nat.lt_succ_self _) (by omega) hw_1W hfr_5 hP hS (lv_sub hl [0, 1, 2, 3] rfl)
  · have hhc_6 := n_eq (rfl : r_3.toInt = r_3.toInt) (by decide : (0 : Int32).toInt = 0) hc_6
    refine lv_bipush (v := (-2)) hx hb dX12_size_9 (by decide) ?_
    exact q_iret X hP hS ⟨hw_1W, hfr_5⟩ dX12_size_11

theorem dX12_sizes_0 : decode cX12_sizes 0 = .ok (.aload_n 0, 1) := by decide +kernel
theorem dX12_sizes_1 : decode cX12_sizes 1 = .ok (.iload_n 1, 1) := by decide +kernel
theorem dX12_sizes_2 : decode cX12_sizes 2 = .ok (.iload_n 2, 1) := by decide +kernel
theorem dX12_sizes_3 : decode cX12_sizes 3 = .ok (.invokevirtual 282, 3) := by decide +kernel
theorem dX12_sizes_6 : decode cX12_sizes 6 = .ok (.ifCond .ne 6, 3) := by decide +kernel
theorem dX12_sizes_9 : decode cX12_sizes 9 = .ok (.bipush (-2), 2) := by decide +kernel
theorem dX12_sizes_11 : decode cX12_sizes 11 = .ok (.ireturn, 1) := by decide +kernel
theorem dX12_sizes_12 : decode cX12_sizes 12 = .ok (.iconst 0, 1) := by decide +kernel
theorem dX12_sizes_13 : decode cX12_sizes 13 = .ok (.istore_n 3, 1) := by decide +kernel
theorem dX12_sizes_14 : decode cX12_sizes 14 = .ok (.iconst 1, 1) := by decide +kernel
theorem dX12_sizes_15 : decode cX12_sizes 15 = .ok (.istore 4, 2) := by decide +kernel
theorem dX12_sizes_17 : decode cX12_sizes 17 = .ok (.iload 4, 2) := by decide +kernel
theorem dX12_sizes_19 : decode cX12_sizes 19 = .ok (.bipush 99, 2) := by decide +kernel
theorem dX12_sizes_21 : decode cX12_sizes 21 = .ok (.if_icmp .gt 33, 3) := by decide +kernel
theorem dX12_sizes_24 : decode cX12_sizes 24 = .ok (.iload_n 3, 1) := by decide +kernel
theorem dX12_sizes_25 : decode cX12_sizes 25 = .ok (.aload_n 0, 1) := by decide +kernel
theorem dX12_sizes_26 : decode cX12_sizes 26 = .ok (.aload_n 0, 1) := by decide +kernel
theorem dX12_sizes_27 : decode cX12_sizes 27 = .ok (.iload_n 1, 1) := by decide +kernel
theorem dX12_sizes_28 : decode cX12_sizes 28 = .ok (.iconst 0, 1) := by decide +kernel
theorem dX12_sizes_29 : decode cX12_sizes 29 = .ok (.invokevirtual 225, 3) := by decide +kernel
theorem dX12_sizes_32 : decode cX12_sizes 32 = .ok (.iload 4, 2) := by decide +kernel
theorem dX12_sizes_34 : decode cX12_sizes 34 = .ok (.invokevirtual 237, 3) := by decide +kernel
theorem dX12_sizes_37 : decode cX12_sizes 37 = .ok (.iload_n 2, 1) := by decide +kernel
theorem dX12_sizes_38 : decode cX12_sizes 38 = .ok (.if_icmp .ne 7, 3) := by decide +kernel
theorem dX12_sizes_41 : decode cX12_sizes 41 = .ok (.iconst 1, 1) := by decide +kernel
theorem dX12_sizes_42 : decode cX12_sizes 42 = .ok (.goto 4, 3) := by decide +kernel
theorem dX12_sizes_45 : decode cX12_sizes 45 = .ok (.iconst 0, 1) := by decide +kernel
theorem dX12_sizes_46 : decode cX12_sizes 46 = .ok (.iadd, 1) := by decide +kernel
theorem dX12_sizes_47 : decode cX12_sizes 47 = .ok (.istore_n 3, 1) := by decide +kernel
theorem dX12_sizes_48 : decode cX12_sizes 48 = .ok (.iinc 4 1, 3) := by decide +kernel
theorem dX12_sizes_51 : decode cX12_sizes 51 = .ok (.goto (-34), 3) := by decide +kernel
theorem dX12_sizes_54 : decode cX12_sizes 54 = .ok (.iload_n 3, 1) := by decide +kernel
theorem dX12_sizes_55 : decode cX12_sizes 55 = .ok (.ireturn, 1) := by decide +kernel
noncomputable def vX12_sizes : List Cond := .code yX12_sizes cX12_sizes 5 (some .int) :: (([.methodLink RX12 282 yX12_areThen, .instanceMethod yX12_areThen, .selects RX12 yX12_areThen yX12_areThen, .initialized RX12, .methodLink RX12 225 yX12_of, .instanceMethod yX12_of, .selects RX12 yX12_of yX12_of, .methodLink RX12 237 yX12_fallsBy, .instanceMethod yX12_fallsBy, .selects RX12 yX12_fallsBy yX12_fallsBy] : List Cond) ++ (vX12_areThen ++ (vX12_of ++ vX12_fallsBy)))
theorem gs_X12_sizes : Gd vX12_sizes := Gd.cons (by decide +kernel) (Gd.app (Gd.r (by decide +kernel)) (Gd.app gs_X12_areThen (Gd.app gs_X12_of gs_X12_fallsBy)))
theorem gg_X12_sizes_X12_areThen : GoodIn vX12_sizes (wsV RX12 282 RX12 yX12_areThen vX12_areThen) := goodIn_app (goodIn_r _ [1, 2, 3, 4] (by decide +kernel) (by decide +kernel)) (fun w h => ⟨List.mem_cons_of_mem _ (List.mem_append_right _ (List.mem_append_left _ h)), gs_X12_areThen w h⟩)
theorem gg_X12_sizes_X12_of : GoodIn vX12_sizes (wsV RX12 225 RX12 yX12_of vX12_of) := goodIn_app (goodIn_r _ [5, 6, 7, 4] (by decide +kernel) (by decide +kernel)) (fun w h => ⟨List.mem_cons_of_mem _ (List.mem_append_right _ (List.mem_append_right _ (List.mem_append_left _ h))), gs_X12_of w h⟩)
theorem gg_X12_sizes_X12_fallsBy : GoodIn vX12_sizes (wsV RX12 237 RX12 yX12_fallsBy vX12_fallsBy) := goodIn_app (goodIn_r _ [8, 9, 10, 4] (by decide +kernel) (by decide +kernel)) (fun w h => ⟨List.mem_cons_of_mem _ (List.mem_append_right _ (List.mem_append_right _ (List.mem_append_right _ (h)))), gs_X12_fallsBy w h⟩)
set_option maxHeartbeats 4000000 in
set_option maxRecDepth 100000 in
theorem s_X12_sizes (l : Launch) (D : va_G) (cs : Nat → ClassId) (ad : Nat → Nat) (kS : kSt) (K : sK) (hKO : KO K) (hj : wJ ad 218) (g : Nat → va_E) (hW : WF (shp ad K) ad cs g) (ic : Int32) (dy : Int32) : sI l yX12_sizes vX12_sizes { frames := 4, cells := 0, slots := 0, locals := 87 } D cs ad kS [.ref (ad 197), .int ic, .int dy] g (fun r g2 => WF (shp ad K) ad cs g2 ∧ (∀ j, j ≠ 197 ∧ j ≠ 204 ∧ j ≠ 205 → g2 j = g j)) := by
  refine Met.startS (cc := cX12_sizes) (maxL := 5) (ret := (some .int)) RX12 rfl (by decide) rfl (Nat.le_of_ble_eq_true rfl) ?_
  intro p e s m below meth c ls X Z hP hl
  have hx := X.1
  have hb := X.2.1
  have hS : va_S (wA ad 218) s.heap s.heap [] := va_S.rf
  have hA : ∀ i, i < 218 → wA ad 218 (ad i) := fun i h => ⟨i, h, rfl⟩
  have hfr : ∀ j, j ≠ 197 ∧ j ≠ 204 ∧ j ≠ 205 → g j = g j := fun _ _ => rfl
  have hl : lv_has ls 5 [(0, .ref (ad 197)), (1, .int ic), (2, .int dy)] := hl
  refine lv_aload_n hx hb dX12_sizes_0 rfl (lv_at hl 0 rfl) ?_
  refine lv_iload_n hx hb dX12_sizes_1 rfl (lv_at hl 1 rfl) ?_
  refine lv_iload_n hx hb dX12_sizes_2 rfl (lv_at hl 2 rfl) ?_
  obtain ⟨fsc_4, hgc_4, hOc_4⟩ := hW.obj (i := 197) (by decide) (sh_197 ad K)
  refine s_calli (q := (RX12, TX12, 40)) (As := [.int ic, .int dy]) (rest := []) X Z (s_X12_areThen l D cs ad kS K hKO hj g hW ic dy) (cwV 2 X.2.2.2.2.1 gg_X12_sizes_X12_areThen rfl rfl rfl (by decide +kernel) ⟨Nat.le_of_ble_eq_true rfl, Nat.le_of_ble_eq_true rfl⟩) (by decide) hgc_4 rfl hP hA hS.2.1 hS rfl hl.1 rfl (Nat.le_of_ble_eq_true rfl) dX12_sizes_3 ⟨Nat.le_of_ble_eq_true rfl, Nat.le_of_ble_eq_true rfl⟩ (fun r_3 g_2 H locs hw_1 hP hS => ?_)
  obtain ⟨hw_1W, hw_1f, hw_1⟩ := hw_1
  have hfr_5 : ∀ j, j ≠ 197 ∧ j ≠ 204 ∧ j ≠ 205 → g_2 j = g j := fun j hj => (hw_1f j (by omega)).trans (hfr j hj)
  refine lv_if_ne (tgt := 12) hx hb dX12_sizes_6 (by decide) (fun hc_6 => ?_) (fun hc_6 => ?_)
  · have hhc_6 := n_ne (rfl : r_3.toInt = r_3.toInt) (by decide : (0 : Int32).toInt = 0) hc_6
    refine lv_iconst (v := 0) hx hb dX12_sizes_12 (by decide) ?_
    refine lv_istore_n (lv' := [(3, .int 0), (0, .ref (ad 197)), (1, .int ic), (2, .int dy)]) hx hb dX12_sizes_13 rfl hl (by decide) rfl (fun ls hl => ?_)
    refine lv_iconst (v := 1) hx hb dX12_sizes_14 (by decide) ?_
    refine lv_istore (lv' := [(4, .int 1), (3, .int 0), (0, .ref (ad 197)), (1, .int ic), (2, .int dy)]) hx hb dX12_sizes_15 hl (by decide) rfl (fun ls hl => ?_)
    have HL17 : ∀ (n17 : Nat) (v17_4 : Int32) (v17_3 : Int32) (G17 : Nat → va_E) (H : Heap) (locs : List Loc) (ls : Array Slot), (100 - v17_4.toInt).toNat < n17 → (1 ≤ v17_4.toInt ∧ v17_4.toInt ≤ 100) → WF (shp ad K) ad cs G17 → (∀ j, j ≠ 197 ∧ j ≠ 204 ∧ j ≠ 205 → G17 j = g j) → va_P D vwCl (wL ad G17 218) H → va_S (wA ad 218) s.heap H locs → lv_has ls 5 [(4, .int v17_4), (3, .int v17_3), (0, .ref (ad 197)), (1, .int ic), (2, .int dy)] → W p l e ({ frames := 4, cells := 0, slots := 0, locals := 87 } : Room) s m ([.ref (ad 197), .int ic, .int dy] : List Value).toArray below meth c H locs 0 0 (MQ below (qI D ad 218 (fun r g2 => WF (shp ad K) ad cs g2 ∧ (∀ j, j ≠ 197 ∧ j ≠ 204 ∧ j ≠ 205 → g2 j = g j))) ([.ref (ad 197), .int ic, .int dy] : List Value).toArray s 0 0 (wA ad 218)) (F0 m 17 ls []) := by
      intro n17
      induction n17 with
      | zero =>
        intro v17_4 v17_3 G17 H locs ls hm17 hv17_0 hW17 hfr17 hP hS hl
        exact absurd hm17 (Nat.not_lt_zero _)
      | succ n17 ih17 =>
        intro v17_4 v17_3 G17 H locs ls hm17 hv17_0 hW17 hfr17 hP hS hl
        refine lv_iload hx hb dX12_sizes_17 (lv_at hl 0 rfl) ?_
        refine lv_bipush (v := 99) hx hb dX12_sizes_19 (by decide) ?_
        refine lv_icmp_gt (tgt := 54) hx hb dX12_sizes_21 (by decide) (fun hc_7 => ?_) (fun hc_7 => ?_)
        · have hhc_7 := n_lt (by decide : (99 : Int32).toInt = 99) (rfl : v17_4.toInt = v17_4.toInt) hc_7
          refine lv_iload_n hx hb dX12_sizes_54 rfl (lv_at hl 1 rfl) ?_
          exact q_iret X hP hS ⟨hW17, hfr17⟩ dX12_sizes_55
        · have hhc_7 := n_nlt (by decide : (99 : Int32).toInt = 99) (rfl : v17_4.toInt = v17_4.toInt) hc_7
          refine lv_iload_n hx hb dX12_sizes_24 rfl (lv_at hl 1 rfl) ?_
          refine lv_aload_n hx hb dX12_sizes_25 rfl (lv_at hl 2 rfl) ?_
          refine lv_aload_n hx hb dX12_sizes_26 rfl (lv_at hl 2 rfl) ?_
          refine lv_iload_n hx hb dX12_sizes_27 rfl (lv_at hl 3 rfl) ?_
          refine lv_iconst (v := 0) hx hb dX12_sizes_28 (by decide) ?_
          have hqk_8 : (0 : Int32).toInt = 0 := by decide
          obtain ⟨fsc_12, hgc_12, hOc_12⟩ := hW17.obj (i := 197) (by decide) (sh_197 ad K)
          refine s_calli (q := (RX12, TX12, 40)) (As := [.int ic, .int 0]) (rest := [.ref (ad 197), .int v17_3]) X Z (s_X12_of l D cs ad kS K hKO hj G17 hW17 ic 0 (by omega) (by omega)) (cwV 2 X.2.2.2.2.1 gg_X12_sizes_X12_of rfl rfl rfl (by decide +kernel) ⟨Nat.le_of_ble_eq_true rfl, Nat.le_of_ble_eq_true rfl⟩) (by decide) hgc_12 rfl hP hA hS.2.1 hS rfl hl.1 rfl (Nat.le_of_ble_eq_true rfl) dX12_sizes_29 ⟨Nat.le_of_ble_eq_true rfl, Nat.le_of_ble_eq_true rfl⟩ (fun r_11 g_10 H locs hw_9 hP hS => ?_)
          obtain ⟨hw_9g, hw_9⟩ := hw_9
          rw [hw_9g] at hP
          have hqk_13 : (0 : Int32).toInt = 0 := by decide
          refine lv_iload hx hb dX12_sizes_32 (lv_at hl 0 rfl) ?_
          refine s_calli (q := (RX12, TX12, 40)) (As := [.int r_11, .int v17_4]) (rest := [.int v17_3]) X Z (s_X12_fallsBy l D cs ad kS K hKO hj G17 hW17 r_11 v17_4 (by omega)) (cwV 2 X.2.2.2.2.1 gg_X12_sizes_X12_fallsBy rfl rfl rfl (by decide +kernel) ⟨Nat.le_of_ble_eq_true rfl, Nat.le_of_ble_eq_true rfl⟩) (by decide) hgc_12 rfl hP hA hS.2.1 hS rfl hl.1 rfl (Nat.le_of_ble_eq_true rfl) dX12_sizes_34 ⟨Nat.le_of_ble_eq_true rfl, Nat.le_of_ble_eq_true rfl⟩ (fun r_16 g_15 H locs hw_14 hP hS => ?_)
          obtain ⟨hw_14g, hw_14⟩ := hw_14
          rw [hw_14g] at hP
          refine lv_iload_n hx hb dX12_sizes_37 rfl (lv_at hl 4 rfl) ?_
          refine lv_icmp_ne (tgt := 45) hx hb dX12_sizes_38 (by decide) (fun hc_17 => ?_) (fun hc_17 => ?_)
          · have hhc_17 := n_ne (rfl : r_16.toInt = r_16.toInt) (rfl : dy.toInt = dy.toInt) hc_17
            refine lv_iconst (v := 0) hx hb dX12_sizes_45 (by decide) ?_
            refine lv_iadd hx hb dX12_sizes_46 ?_
            refine lv_topi (fun z_18 ez_18 => ?_)
            have := n_hi v17_3
            have := n_lo v17_3
            have hz_18 : z_18.toInt = v17_3.toInt + 0 := n_add (rfl : v17_3.toInt = v17_3.toInt) (by decide : (0 : Int32).toInt = 0) ez_18 (by omega) (by omega)
            refine lv_istore_n (lv' := [(3, .int z_18), (4, .int v17_4), (0, .ref (ad 197)), (1, .int ic), (2, .int dy)]) hx hb dX12_sizes_47 rfl hl (by decide) rfl (fun ls hl => ?_)
            obtain ⟨x_19, ex_19⟩ : ∃ y : Int32, y = v17_4 + 1 := ⟨_, rfl⟩
            have hx_19 : x_19.toInt = v17_4.toInt + 1 := n_add rfl (by decide : (1 : Int32).toInt = 1) ex_19 (by omega) (by omega)
            refine lv_iinc (v := x_19) (lv' := [(4, .int x_19), (3, .int z_18), (0, .ref (ad 197)), (1, .int ic), (2, .int dy)]) hx hb dX12_sizes_48 hl (k := 1) rfl (by rw [ex_19]; rfl) (by decide) rfl (fun ls hl => ?_)
            refine lv_goto (tgt := 17) hx hb dX12_sizes_51 (by decide) ?_
            exact ih17 x_19 z_18 G17 _ _ ls (by omega) (by omega) hW17 hfr17 hP hS (lv_sub hl [0, 1, 2, 3, 4] rfl)
          · have hhc_17 := n_eq (rfl : r_16.toInt = r_16.toInt) (rfl : dy.toInt = dy.toInt) hc_17
            refine lv_iconst (v := 1) hx hb dX12_sizes_41 (by decide) ?_
            refine lv_goto (tgt := 46) hx hb dX12_sizes_42 (by decide) ?_
            refine lv_iadd hx hb dX12_sizes_46 ?_
            refine lv_topi (fun z_20 ez_20 => ?_)
            refine lv_istore_n (lv' := [(3, .int z_20), (4, .int v17_4), (0, .ref (ad 197)), (1, .int ic), (2, .int dy)]) hx hb dX12_sizes_47 rfl hl (by decide) rfl (fun ls hl => ?_)
            obtain ⟨x_21, ex_21⟩ : ∃ y : Int32, y = v17_4 + 1 := ⟨_, rfl⟩
            have hx_21 : x_21.toInt = v17_4.toInt + 1 := n_add rfl (by decide : (1 : Int32).toInt = 1) ex_21 (by omega) (by omega)
            refine lv_iinc (v := x_21) (lv' := [(4, .int x_21), (3, .int z_20), (0, .ref (ad 197)), (1, .int ic), (2, .int dy)]) hx hb dX12_sizes_48 hl (k := 1) rfl (by rw [ex_21]; rfl) (by decide) rfl (fun ls hl => ?_)
            refine lv_goto (tgt := 17) hx hb dX12_sizes_51 (by decide) ?_
            exact ih17 x_21 z_20 G17 _ _ ls (by omega) (by omega) hW17 hfr17 hP hS (lv_sub hl [0, 1, 2, 3, 4] rfl)
    have hiv17_4 : (1 : Int32).toInt = 1 := by decide
    have hiv17_3 : (0 : Int32).toInt = 0 := by decide
    exact HL17 _ 1 0 g_2 _ _ ls (Nat.lt_succ_self _) (by omega) hw_1W hfr_5 hP hS (lv_sub hl [0, 1, 2, 3, 4] rfl)
  · have hhc_6 := n_eq (rfl : r_3.toInt = r_3.toInt) (by decide : (0 : Int32).toInt = 0) hc_6
    refine lv_bipush (v := (-2)) hx hb dX12_sizes_9 (by decide) ?_
    exact q_iret X hP hS ⟨hw_1W, hfr_5⟩ dX12_sizes_11

theorem dX12_place_0 : decode cX12_place 0 = .ok (.aload_n 0, 1) := by decide +kernel
theorem dX12_place_1 : decode cX12_place 1 = .ok (.iload_n 1, 1) := by decide +kernel
theorem dX12_place_2 : decode cX12_place 2 = .ok (.iload_n 2, 1) := by decide +kernel
theorem dX12_place_3 : decode cX12_place 3 = .ok (.invokevirtual 282, 3) := by decide +kernel
theorem dX12_place_6 : decode cX12_place 6 = .ok (.ifCond .ne 6, 3) := by decide +kernel
theorem dX12_place_9 : decode cX12_place 9 = .ok (.bipush (-2), 2) := by decide +kernel
theorem dX12_place_11 : decode cX12_place 11 = .ok (.ireturn, 1) := by decide +kernel
theorem dX12_place_12 : decode cX12_place 12 = .ok (.iconst (-1), 1) := by decide +kernel
theorem dX12_place_13 : decode cX12_place 13 = .ok (.istore_n 3, 1) := by decide +kernel
theorem dX12_place_14 : decode cX12_place 14 = .ok (.ldc_w 285, 3) := by decide +kernel
theorem dX12_place_17 : decode cX12_place 17 = .ok (.istore 4, 2) := by decide +kernel
theorem dX12_place_19 : decode cX12_place 19 = .ok (.iconst 0, 1) := by decide +kernel
theorem dX12_place_20 : decode cX12_place 20 = .ok (.istore 5, 2) := by decide +kernel
theorem dX12_place_22 : decode cX12_place 22 = .ok (.iload 5, 2) := by decide +kernel
theorem dX12_place_24 : decode cX12_place 24 = .ok (.aload_n 0, 1) := by decide +kernel
theorem dX12_place_25 : decode cX12_place 25 = .ok (.getfield 9, 3) := by decide +kernel
theorem dX12_place_28 : decode cX12_place 28 = .ok (.iconst 4, 1) := by decide +kernel
theorem dX12_place_29 : decode cX12_place 29 = .ok (.iaload, 1) := by decide +kernel
theorem dX12_place_30 : decode cX12_place 30 = .ok (.if_icmp .ge 56, 3) := by decide +kernel
theorem dX12_place_33 : decode cX12_place 33 = .ok (.aload_n 0, 1) := by decide +kernel
theorem dX12_place_34 : decode cX12_place 34 = .ok (.iload 5, 2) := by decide +kernel
theorem dX12_place_36 : decode cX12_place 36 = .ok (.aload_n 0, 1) := by decide +kernel
theorem dX12_place_37 : decode cX12_place 37 = .ok (.iload_n 1, 1) := by decide +kernel
theorem dX12_place_38 : decode cX12_place 38 = .ok (.iconst 1, 1) := by decide +kernel
theorem dX12_place_39 : decode cX12_place 39 = .ok (.invokevirtual 225, 3) := by decide +kernel
theorem dX12_place_42 : decode cX12_place 42 = .ok (.invokevirtual 237, 3) := by decide +kernel
theorem dX12_place_45 : decode cX12_place 45 = .ok (.istore 6, 2) := by decide +kernel
theorem dX12_place_47 : decode cX12_place 47 = .ok (.iload 6, 2) := by decide +kernel
theorem dX12_place_49 : decode cX12_place 49 = .ok (.iconst (-1), 1) := by decide +kernel
theorem dX12_place_50 : decode cX12_place 50 = .ok (.if_icmp .eq 30, 3) := by decide +kernel
theorem dX12_place_53 : decode cX12_place 53 = .ok (.iload 6, 2) := by decide +kernel
theorem dX12_place_55 : decode cX12_place 55 = .ok (.iload_n 2, 1) := by decide +kernel
theorem dX12_place_56 : decode cX12_place 56 = .ok (.isub, 1) := by decide +kernel
theorem dX12_place_57 : decode cX12_place 57 = .ok (.invokestatic 273, 3) := by decide +kernel
theorem dX12_place_60 : decode cX12_place 60 = .ok (.iload 4, 2) := by decide +kernel
theorem dX12_place_62 : decode cX12_place 62 = .ok (.if_icmp .lt 6, 3) := by decide +kernel
theorem dX12_place_68 : decode cX12_place 68 = .ok (.iload 6, 2) := by decide +kernel
theorem dX12_place_70 : decode cX12_place 70 = .ok (.iload_n 2, 1) := by decide +kernel
theorem dX12_place_71 : decode cX12_place 71 = .ok (.isub, 1) := by decide +kernel
theorem dX12_place_72 : decode cX12_place 72 = .ok (.invokestatic 273, 3) := by decide +kernel
theorem dX12_place_75 : decode cX12_place 75 = .ok (.istore 4, 2) := by decide +kernel
theorem dX12_place_77 : decode cX12_place 77 = .ok (.iload 5, 2) := by decide +kernel
theorem dX12_place_79 : decode cX12_place 79 = .ok (.istore_n 3, 1) := by decide +kernel
theorem dX12_place_80 : decode cX12_place 80 = .ok (.iinc 5 1, 3) := by decide +kernel
theorem dX12_place_83 : decode cX12_place 83 = .ok (.goto (-61), 3) := by decide +kernel
theorem dX12_place_65 : decode cX12_place 65 = .ok (.goto 15, 3) := by decide +kernel
theorem dX12_place_86 : decode cX12_place 86 = .ok (.iload_n 3, 1) := by decide +kernel
theorem dX12_place_87 : decode cX12_place 87 = .ok (.ireturn, 1) := by decide +kernel
noncomputable def vX12_place : List Cond := .code yX12_place cX12_place 7 (some .int) :: (([.methodLink RX12 282 yX12_areThen, .instanceMethod yX12_areThen, .selects RX12 yX12_areThen yX12_areThen, .initialized RX12, .constant RX12 285 (1000000000), .fieldLink RX12 9 "IcicleClockModel" "world" "[I", .methodLink RX12 225 yX12_of, .instanceMethod yX12_of, .selects RX12 yX12_of yX12_of, .methodLink RX12 237 yX12_fallsBy, .instanceMethod yX12_fallsBy, .selects RX12 yX12_fallsBy yX12_fallsBy, .methodLink RX12 273 Lib.Math.abs.name, .static Lib.Math.abs.name, .initialized "java/lang/Math", .code Lib.Math.abs.name Lib.Math.abs.code 1 (some .int)] : List Cond) ++ (wsX120 ++ (vX12_areThen ++ (vX12_of ++ vX12_fallsBy))))
theorem iX12_place_12 : ∀ w ∈ wsX120, w ∈ vX12_place := fun _ h => List.mem_cons_of_mem _ (List.mem_append_right _ (List.mem_append_left _ h))
theorem gs_X12_place : Gd vX12_place := Gd.cons (by decide +kernel) (Gd.app (Gd.r (by decide +kernel)) (Gd.app gwX_12 (Gd.app gs_X12_areThen (Gd.app gs_X12_of gs_X12_fallsBy))))
theorem gg_X12_place_X12_areThen : GoodIn vX12_place (wsV RX12 282 RX12 yX12_areThen vX12_areThen) := goodIn_app (goodIn_r _ [1, 2, 3, 4] (by decide +kernel) (by decide +kernel)) (fun w h => ⟨List.mem_cons_of_mem _ (List.mem_append_right _ (List.mem_append_right _ (List.mem_append_left _ h))), gs_X12_areThen w h⟩)
theorem gg_X12_place_X12_of : GoodIn vX12_place (wsV RX12 225 RX12 yX12_of vX12_of) := goodIn_app (goodIn_r _ [7, 8, 9, 4] (by decide +kernel) (by decide +kernel)) (fun w h => ⟨List.mem_cons_of_mem _ (List.mem_append_right _ (List.mem_append_right _ (List.mem_append_right _ (List.mem_append_left _ h)))), gs_X12_of w h⟩)
theorem gg_X12_place_X12_fallsBy : GoodIn vX12_place (wsV RX12 237 RX12 yX12_fallsBy vX12_fallsBy) := goodIn_app (goodIn_r _ [10, 11, 12, 4] (by decide +kernel) (by decide +kernel)) (fun w h => ⟨List.mem_cons_of_mem _ (List.mem_append_right _ (List.mem_append_right _ (List.mem_append_right _ (List.mem_append_right _ (h))))), gs_X12_fallsBy w h⟩)
set_option maxHeartbeats 4000000 in
set_option maxRecDepth 100000 in
theorem s_X12_place (l : Launch) (D : va_G) (cs : Nat → ClassId) (ad : Nat → Nat) (kS : kSt) (K : sK) (hKO : KO K) (hj : wJ ad 218) (g : Nat → va_E) (hW : WF (shp ad K) ad cs g) (ic : Int32) (dy : Int32) : sI l yX12_place vX12_place { frames := 4, cells := 0, slots := 0, locals := 87 } D cs ad kS [.ref (ad 197), .int ic, .int dy] g (fun r g2 => WF (shp ad K) ad cs g2 ∧ (∀ j, j ≠ 197 ∧ j ≠ 204 ∧ j ≠ 205 → g2 j = g j)) := by
  refine Met.startS (cc := cX12_place) (maxL := 7) (ret := (some .int)) RX12 rfl (by decide) rfl (Nat.le_of_ble_eq_true rfl) ?_
  intro p e s m below meth c ls X Z hP hl
  have hx := X.1
  have hb := X.2.1
  have hS : va_S (wA ad 218) s.heap s.heap [] := va_S.rf
  have hA : ∀ i, i < 218 → wA ad 218 (ad i) := fun i h => ⟨i, h, rfl⟩
  have hfr : ∀ j, j ≠ 197 ∧ j ≠ 204 ∧ j ≠ 205 → g j = g j := fun _ _ => rfl
  have hl : lv_has ls 7 [(0, .ref (ad 197)), (1, .int ic), (2, .int dy)] := hl
  refine lv_aload_n hx hb dX12_place_0 rfl (lv_at hl 0 rfl) ?_
  refine lv_iload_n hx hb dX12_place_1 rfl (lv_at hl 1 rfl) ?_
  refine lv_iload_n hx hb dX12_place_2 rfl (lv_at hl 2 rfl) ?_
  obtain ⟨fsc_4, hgc_4, hOc_4⟩ := hW.obj (i := 197) (by decide) (sh_197 ad K)
  refine s_calli (q := (RX12, TX12, 40)) (As := [.int ic, .int dy]) (rest := []) X Z (s_X12_areThen l D cs ad kS K hKO hj g hW ic dy) (cwV 2 X.2.2.2.2.1 gg_X12_place_X12_areThen rfl rfl rfl (by decide +kernel) ⟨Nat.le_of_ble_eq_true rfl, Nat.le_of_ble_eq_true rfl⟩) (by decide) hgc_4 rfl hP hA hS.2.1 hS rfl hl.1 rfl (Nat.le_of_ble_eq_true rfl) dX12_place_3 ⟨Nat.le_of_ble_eq_true rfl, Nat.le_of_ble_eq_true rfl⟩ (fun r_3 g_2 H locs hw_1 hP hS => ?_)
  obtain ⟨hw_1W, hw_1f, hw_1⟩ := hw_1
  have hfr_5 : ∀ j, j ≠ 197 ∧ j ≠ 204 ∧ j ≠ 205 → g_2 j = g j := fun j hj => (hw_1f j (by omega)).trans (hfr j hj)
  refine lv_if_ne (tgt := 12) hx hb dX12_place_6 (by decide) (fun hc_6 => ?_) (fun hc_6 => ?_)
  · have hhc_6 := n_ne (rfl : r_3.toInt = r_3.toInt) (by decide : (0 : Int32).toInt = 0) hc_6
    refine lv_iconst (v := (-1)) hx hb dX12_place_12 (by decide) ?_
    refine lv_istore_n (lv' := [(3, .int (-1)), (0, .ref (ad 197)), (1, .int ic), (2, .int dy)]) hx hb dX12_place_13 rfl hl (by decide) rfl (fun ls hl => ?_)
    refine lv_ldcw (v := 1000000000) hx hb X.2.2.2.2.2.1 (X.2.2.2.2.1 _ (List.mem_of_getElem? (i := 5) rfl)) dX12_place_14 ?_
    refine lv_istore (lv' := [(4, .int 1000000000), (3, .int (-1)), (0, .ref (ad 197)), (1, .int ic), (2, .int dy)]) hx hb dX12_place_17 hl (by decide) rfl (fun ls hl => ?_)
    refine lv_iconst (v := 0) hx hb dX12_place_19 (by decide) ?_
    refine lv_istore (lv' := [(5, .int 0), (4, .int 1000000000), (3, .int (-1)), (0, .ref (ad 197)), (1, .int ic), (2, .int dy)]) hx hb dX12_place_20 hl (by decide) rfl (fun ls hl => ?_)
    have HL22 : ∀ (n22 : Nat) (v22_5 : Int32) (v22_4 : Int32) (v22_3 : Int32) (G22 : Nat → va_E) (H : Heap) (locs : List Loc) (ls : Array Slot), (5 - v22_5.toInt).toNat < n22 → (0 ≤ v22_5.toInt ∧ v22_5.toInt ≤ 5) → (0 ≤ v22_4.toInt ∧ v22_4.toInt ≤ 1000000000) → ((-1) ≤ v22_3.toInt ∧ v22_3.toInt ≤ 4) → WF (shp ad K) ad cs G22 → (∀ j, j ≠ 197 ∧ j ≠ 204 ∧ j ≠ 205 → G22 j = g j) → va_P D vwCl (wL ad G22 218) H → va_S (wA ad 218) s.heap H locs → lv_has ls 7 [(5, .int v22_5), (4, .int v22_4), (3, .int v22_3), (0, .ref (ad 197)), (1, .int ic), (2, .int dy)] → W p l e ({ frames := 4, cells := 0, slots := 0, locals := 87 } : Room) s m ([.ref (ad 197), .int ic, .int dy] : List Value).toArray below meth c H locs 0 0 (MQ below (qI D ad 218 (fun r g2 => WF (shp ad K) ad cs g2 ∧ (∀ j, j ≠ 197 ∧ j ≠ 204 ∧ j ≠ 205 → g2 j = g j))) ([.ref (ad 197), .int ic, .int dy] : List Value).toArray s 0 0 (wA ad 218)) (F0 m 22 ls []) := by
      intro n22
      induction n22 with
      | zero =>
        intro v22_5 v22_4 v22_3 G22 H locs ls hm22 hv22_0 hv22_1 hv22_2 hW22 hfr22 hP hS hl
        exact absurd hm22 (Nat.not_lt_zero _)
      | succ n22 ih22 =>
        intro v22_5 v22_4 v22_3 G22 H locs ls hm22 hv22_0 hv22_1 hv22_2 hW22 hfr22 hP hS hl
        refine lv_iload hx hb dX12_place_22 (lv_at hl 0 rfl) ?_
        refine lv_aload_n hx hb dX12_place_24 rfl (lv_at hl 3 rfl) ?_
        obtain ⟨fsc_7, hgc_7, hOc_7⟩ := hW22.obj (i := 197) (by decide) (sh_197 ad K)
        have hk_8 := hOc_7.ref 1 rfl
        refine q_get X iX12_place_12 hP (by decide) hgc_7 rfl 1 (by decide) (List.mem_of_getElem? (i := 6) rfl) (v := .ref (ad 198)) hk_8 dX12_place_25 ?_
        refine lv_iconst (v := 4) hx hb dX12_place_28 (by decide) ?_
        obtain ⟨fc_9, hgc_9, hFc_9⟩ := hW22.arr (i := 198) (by decide) (sh_198 ad K)
        refine q_iald X hP (by decide) hgc_9 (by unfold vp_in; decide) dX12_place_29 ?_
        refine lv_topi (fun z_10 ez_10 => ?_)
        have hqz_10 : wq (4) z_10.toInt := ez_10 ▸ hFc_9 _
        have hz_10 : 0 ≤ z_10.toInt ∧ z_10.toInt ≤ 5 := by unfold wq at hqz_10; omega
        clear hqz_10
        refine lv_icmp_ge (tgt := 86) hx hb dX12_place_30 (by decide) (fun hc_11 => ?_) (fun hc_11 => ?_)
        · have hhc_11 := n_le (rfl : z_10.toInt = z_10.toInt) (rfl : v22_5.toInt = v22_5.toInt) hc_11
          refine lv_iload_n hx hb dX12_place_86 rfl (lv_at hl 2 rfl) ?_
          exact q_iret X hP hS ⟨hW22, hfr22⟩ dX12_place_87
        · have hhc_11 := n_nle (rfl : z_10.toInt = z_10.toInt) (rfl : v22_5.toInt = v22_5.toInt) hc_11
          refine lv_aload_n hx hb dX12_place_33 rfl (lv_at hl 3 rfl) ?_
          refine lv_iload hx hb dX12_place_34 (lv_at hl 0 rfl) ?_
          refine lv_aload_n hx hb dX12_place_36 rfl (lv_at hl 3 rfl) ?_
          refine lv_iload_n hx hb dX12_place_37 rfl (lv_at hl 4 rfl) ?_
          refine lv_iconst (v := 1) hx hb dX12_place_38 (by decide) ?_
          have hqk_12 : (1 : Int32).toInt = 1 := by decide
          refine s_calli (q := (RX12, TX12, 40)) (As := [.int ic, .int 1]) (rest := [.int v22_5, .ref (ad 197)]) X Z (s_X12_of l D cs ad kS K hKO hj G22 hW22 ic 1 (by omega) (by omega)) (cwV 2 X.2.2.2.2.1 gg_X12_place_X12_of rfl rfl rfl (by decide +kernel) ⟨Nat.le_of_ble_eq_true rfl, Nat.le_of_ble_eq_true rfl⟩) (by decide) hgc_7 rfl hP hA hS.2.1 hS rfl hl.1 rfl (Nat.le_of_ble_eq_true rfl) dX12_place_39 ⟨Nat.le_of_ble_eq_true rfl, Nat.le_of_ble_eq_true rfl⟩ (fun r_15 g_14 H locs hw_13 hP hS => ?_)
          obtain ⟨hw_13g, hw_13⟩ := hw_13
          rw [hw_13g] at hP
          have hqk_16 : (1 : Int32).toInt = 1 := by decide
          refine s_calli (q := (RX12, TX12, 40)) (As := [.int v22_5, .int r_15]) (rest := []) X Z (s_X12_fallsBy l D cs ad kS K hKO hj G22 hW22 v22_5 r_15 (by omega)) (cwV 2 X.2.2.2.2.1 gg_X12_place_X12_fallsBy rfl rfl rfl (by decide +kernel) ⟨Nat.le_of_ble_eq_true rfl, Nat.le_of_ble_eq_true rfl⟩) (by decide) hgc_7 rfl hP hA hS.2.1 hS rfl hl.1 rfl (Nat.le_of_ble_eq_true rfl) dX12_place_42 ⟨Nat.le_of_ble_eq_true rfl, Nat.le_of_ble_eq_true rfl⟩ (fun r_19 g_18 H locs hw_17 hP hS => ?_)
          obtain ⟨hw_17g, hw_17⟩ := hw_17
          rw [hw_17g] at hP
          refine lv_istore (lv' := [(6, .int r_19), (5, .int v22_5), (4, .int v22_4), (3, .int v22_3), (0, .ref (ad 197)), (1, .int ic), (2, .int dy)]) hx hb dX12_place_45 hl (by decide) rfl (fun ls hl => ?_)
          refine lv_iload hx hb dX12_place_47 (lv_at hl 0 rfl) ?_
          refine lv_iconst (v := (-1)) hx hb dX12_place_49 (by decide) ?_
          have HJ80 : ∀ (v80_4 : Int32) (v80_3 : Int32) (G80 : Nat → va_E) (H : Heap) (locs : List Loc) (ls : Array Slot), (0 ≤ v80_4.toInt ∧ v80_4.toInt ≤ 1000000000) → ((-1) ≤ v80_3.toInt ∧ v80_3.toInt ≤ 4) → WF (shp ad K) ad cs G80 → (∀ j, j ≠ 197 ∧ j ≠ 204 ∧ j ≠ 205 → G80 j = g j) → G80 197 = .inr (12, fsc_7) → G80 198 = .inl (cs 1, 118, .inl fc_9) → va_P D vwCl (wL ad G80 218) H → va_S (wA ad 218) s.heap H locs → lv_has ls 7 [(5, .int v22_5), (4, .int v80_4), (3, .int v80_3), (0, .ref (ad 197)), (1, .int ic), (2, .int dy)] → W p l e ({ frames := 4, cells := 0, slots := 0, locals := 87 } : Room) s m ([.ref (ad 197), .int ic, .int dy] : List Value).toArray below meth c H locs 0 0 (MQ below (qI D ad 218 (fun r g2 => WF (shp ad K) ad cs g2 ∧ (∀ j, j ≠ 197 ∧ j ≠ 204 ∧ j ≠ 205 → g2 j = g j))) ([.ref (ad 197), .int ic, .int dy] : List Value).toArray s 0 0 (wA ad 218)) (F0 m 80 ls []) := by
            intro v80_4 v80_3 G80 H locs ls hv80_0 hv80_1 hW80 hfr80 hg80_0 hg80_1 hP hS hl
            obtain ⟨x_20, ex_20⟩ : ∃ y : Int32, y = v22_5 + 1 := ⟨_, rfl⟩
            have hx_20 : x_20.toInt = v22_5.toInt + 1 := n_add rfl (by decide : (1 : Int32).toInt = 1) ex_20 (by omega) (by omega)
            refine lv_iinc (v := x_20) (lv' := [(5, .int x_20), (4, .int v80_4), (3, .int v80_3), (0, .ref (ad 197)), (1, .int ic), (2, .int dy)]) hx hb dX12_place_80 hl (k := 0) rfl (by rw [ex_20]; rfl) (by decide) rfl (fun ls hl => ?_)
            refine lv_goto (tgt := 22) hx hb dX12_place_83 (by decide) ?_
            exact ih22 x_20 v80_4 v80_3 G80 _ _ ls (by omega) (by omega) (by omega) (by omega) hW80 hfr80 hP hS (lv_sub hl [0, 1, 2, 3, 4, 5] rfl)
          refine lv_icmp_eq (tgt := 80) hx hb dX12_place_50 (by decide) (fun hc_21 => ?_) (fun hc_21 => ?_)
          · have hhc_21 := n_eq (rfl : r_19.toInt = r_19.toInt) (by decide : (-1 : Int32).toInt = -1) hc_21
            exact HJ80 v22_4 v22_3 G22 _ _ ls (by omega) (by omega) hW22 hfr22 hgc_7 hgc_9 hP hS (lv_sub hl [1, 2, 3, 4, 5, 6] rfl)
          · have hhc_21 := n_ne (rfl : r_19.toInt = r_19.toInt) (by decide : (-1 : Int32).toInt = -1) hc_21
            refine lv_iload hx hb dX12_place_53 (lv_at hl 0 rfl) ?_
            refine lv_iload_n hx hb dX12_place_55 rfl (lv_at hl 6 rfl) ?_
            refine lv_isub hx hb dX12_place_56 ?_
            refine lv_topi (fun z_22 ez_22 => ?_)
            have hz_22 : z_22.toInt = r_19.toInt - dy.toInt := n_sub (rfl : r_19.toInt = r_19.toInt) (rfl : dy.toInt = dy.toInt) ez_22 (by omega) (by omega)
            refine va_mabs hx hb (X.2.2.2.1.trans hl.1.symm) X.2.2.2.2.2.1 (X.2.2.2.2.1 _ (List.mem_of_getElem? (i := 13) rfl)) (X.2.2.2.2.1 _ (List.mem_of_getElem? (i := 14) rfl)) (X.2.2.2.2.1 _ (List.mem_of_getElem? (i := 15) rfl)) (X.2.2.2.2.1 _ (List.mem_of_getElem? (i := 16) rfl)) (Nat.le_of_ble_eq_true rfl) (Nat.le_of_ble_eq_true rfl) (Nat.le_of_ble_eq_true rfl) (Nat.le_of_ble_eq_true rfl) dX12_place_57 ?_
            refine lv_topi (fun z_23 ez_23 => ?_)
            have hz_23 := n_abs (rfl : z_22.toInt = z_22.toInt) ez_23 (by omega)
            refine lv_iload hx hb dX12_place_60 (lv_at hl 2 rfl) ?_
            refine lv_icmp_lt (tgt := 68) hx hb dX12_place_62 (by decide) (fun hc_24 => ?_) (fun hc_24 => ?_)
            · have hhc_24 := n_lt (rfl : z_23.toInt = z_23.toInt) (rfl : v22_4.toInt = v22_4.toInt) hc_24
              refine lv_iload hx hb dX12_place_68 (lv_at hl 0 rfl) ?_
              refine lv_iload_n hx hb dX12_place_70 rfl (lv_at hl 6 rfl) ?_
              refine lv_isub hx hb dX12_place_71 ?_
              refine lv_topi (fun z_25 ez_25 => ?_)
              have hz_25 : z_25.toInt = r_19.toInt - dy.toInt := n_sub (rfl : r_19.toInt = r_19.toInt) (rfl : dy.toInt = dy.toInt) ez_25 (by omega) (by omega)
              refine va_mabs hx hb (X.2.2.2.1.trans hl.1.symm) X.2.2.2.2.2.1 (X.2.2.2.2.1 _ (List.mem_of_getElem? (i := 13) rfl)) (X.2.2.2.2.1 _ (List.mem_of_getElem? (i := 14) rfl)) (X.2.2.2.2.1 _ (List.mem_of_getElem? (i := 15) rfl)) (X.2.2.2.2.1 _ (List.mem_of_getElem? (i := 16) rfl)) (Nat.le_of_ble_eq_true rfl) (Nat.le_of_ble_eq_true rfl) (Nat.le_of_ble_eq_true rfl) (Nat.le_of_ble_eq_true rfl) dX12_place_72 ?_
              refine lv_topi (fun z_26 ez_26 => ?_)
              have hz_26 := n_abs (rfl : z_25.toInt = z_25.toInt) ez_26 (by omega)
              refine lv_istore (lv' := [(4, .int z_26), (6, .int r_19), (5, .int v22_5), (3, .int v22_3), (0, .ref (ad 197)), (1, .int ic), (2, .int dy)]) hx hb dX12_place_75 hl (by decide) rfl (fun ls hl => ?_)
              refine lv_iload hx hb dX12_place_77 (lv_at hl 2 rfl) ?_
              refine lv_istore_n (lv' := [(3, .int v22_5), (4, .int z_26), (6, .int r_19), (5, .int v22_5), (0, .ref (ad 197)), (1, .int ic), (2, .int dy)]) hx hb dX12_place_79 rfl hl (by decide) rfl (fun ls hl => ?_)
              exact HJ80 z_26 v22_5 G22 _ _ ls (by omega) (by omega) hW22 hfr22 hgc_7 hgc_9 hP hS (lv_sub hl [3, 1, 0, 4, 5, 6] rfl)
            · have hhc_24 := n_nlt (rfl : z_23.toInt = z_23.toInt) (rfl : v22_4.toInt = v22_4.toInt) hc_24
              refine lv_goto (tgt := 80) hx hb dX12_place_65 (by decide) ?_
              exact HJ80 v22_4 v22_3 G22 _ _ ls (by omega) (by omega) hW22 hfr22 hgc_7 hgc_9 hP hS (lv_sub hl [1, 2, 3, 4, 5, 6] rfl)
    have hiv22_5 : (0 : Int32).toInt = 0 := by decide
    have hiv22_4 : (1000000000 : Int32).toInt = 1000000000 := by decide
    have hiv22_3 : ((-1) : Int32).toInt = -1 := by decide
    exact HL22 _ 0 1000000000 (-1) g_2 _ _ ls (Nat.lt_succ_self _) (by omega) (by omega) (by omega) hw_1W hfr_5 hP hS (lv_sub hl [0, 1, 2, 3, 4, 5] rfl)
  · have hhc_6 := n_eq (rfl : r_3.toInt = r_3.toInt) (by decide : (0 : Int32).toInt = 0) hc_6
    refine lv_bipush (v := (-2)) hx hb dX12_place_9 (by decide) ?_
    exact q_iret X hP hS ⟨hw_1W, hfr_5⟩ dX12_place_11

theorem dX12_doors_0 : decode cX12_doors 0 = .ok (.aload_n 0, 1) := by decide +kernel
theorem dX12_doors_1 : decode cX12_doors 1 = .ok (.iload_n 1, 1) := by decide +kernel
theorem dX12_doors_2 : decode cX12_doors 2 = .ok (.iload_n 2, 1) := by decide +kernel
theorem dX12_doors_3 : decode cX12_doors 3 = .ok (.invokevirtual 282, 3) := by decide +kernel
theorem dX12_doors_6 : decode cX12_doors 6 = .ok (.ifCond .ne 6, 3) := by decide +kernel
theorem dX12_doors_9 : decode cX12_doors 9 = .ok (.bipush (-2), 2) := by decide +kernel
theorem dX12_doors_11 : decode cX12_doors 11 = .ok (.ireturn, 1) := by decide +kernel
theorem dX12_doors_12 : decode cX12_doors 12 = .ok (.iconst 0, 1) := by decide +kernel
theorem dX12_doors_13 : decode cX12_doors 13 = .ok (.istore_n 3, 1) := by decide +kernel
theorem dX12_doors_14 : decode cX12_doors 14 = .ok (.iload_n 3, 1) := by decide +kernel
theorem dX12_doors_15 : decode cX12_doors 15 = .ok (.bipush 20, 2) := by decide +kernel
theorem dX12_doors_17 : decode cX12_doors 17 = .ok (.if_icmp .gt 66, 3) := by decide +kernel
theorem dX12_doors_20 : decode cX12_doors 20 = .ok (.aload_n 0, 1) := by decide +kernel
theorem dX12_doors_21 : decode cX12_doors 21 = .ok (.aload_n 0, 1) := by decide +kernel
theorem dX12_doors_22 : decode cX12_doors 22 = .ok (.iload_n 1, 1) := by decide +kernel
theorem dX12_doors_23 : decode cX12_doors 23 = .ok (.iconst 0, 1) := by decide +kernel
theorem dX12_doors_24 : decode cX12_doors 24 = .ok (.invokevirtual 225, 3) := by decide +kernel
theorem dX12_doors_27 : decode cX12_doors 27 = .ok (.aload_n 0, 1) := by decide +kernel
theorem dX12_doors_28 : decode cX12_doors 28 = .ok (.iload_n 1, 1) := by decide +kernel
theorem dX12_doors_29 : decode cX12_doors 29 = .ok (.iconst 1, 1) := by decide +kernel
theorem dX12_doors_30 : decode cX12_doors 30 = .ok (.invokevirtual 225, 3) := by decide +kernel
theorem dX12_doors_33 : decode cX12_doors 33 = .ok (.invokevirtual 237, 3) := by decide +kernel
theorem dX12_doors_36 : decode cX12_doors 36 = .ok (.istore 4, 2) := by decide +kernel
theorem dX12_doors_38 : decode cX12_doors 38 = .ok (.iload 4, 2) := by decide +kernel
theorem dX12_doors_40 : decode cX12_doors 40 = .ok (.iconst (-1), 1) := by decide +kernel
theorem dX12_doors_41 : decode cX12_doors 41 = .ok (.if_icmp .eq 11, 3) := by decide +kernel
theorem dX12_doors_44 : decode cX12_doors 44 = .ok (.iload 4, 2) := by decide +kernel
theorem dX12_doors_46 : decode cX12_doors 46 = .ok (.iload_n 2, 1) := by decide +kernel
theorem dX12_doors_47 : decode cX12_doors 47 = .ok (.if_icmp .gt 5, 3) := by decide +kernel
theorem dX12_doors_50 : decode cX12_doors 50 = .ok (.iload_n 3, 1) := by decide +kernel
theorem dX12_doors_51 : decode cX12_doors 51 = .ok (.ireturn, 1) := by decide +kernel
theorem dX12_doors_52 : decode cX12_doors 52 = .ok (.aload_n 0, 1) := by decide +kernel
theorem dX12_doors_53 : decode cX12_doors 53 = .ok (.getfield 34, 3) := by decide +kernel
theorem dX12_doors_56 : decode cX12_doors 56 = .ok (.bipush 14, 2) := by decide +kernel
theorem dX12_doors_58 : decode cX12_doors 58 = .ok (.aload_n 0, 1) := by decide +kernel
theorem dX12_doors_59 : decode cX12_doors 59 = .ok (.iload_n 1, 1) := by decide +kernel
theorem dX12_doors_60 : decode cX12_doors 60 = .ok (.iconst 0, 1) := by decide +kernel
theorem dX12_doors_61 : decode cX12_doors 61 = .ok (.invokevirtual 225, 3) := by decide +kernel
theorem dX12_doors_64 : decode cX12_doors 64 = .ok (.imul, 1) := by decide +kernel
theorem dX12_doors_65 : decode cX12_doors 65 = .ok (.iload_n 2, 1) := by decide +kernel
theorem dX12_doors_66 : decode cX12_doors 66 = .ok (.iadd, 1) := by decide +kernel
theorem dX12_doors_67 : decode cX12_doors 67 = .ok (.dup2, 1) := by decide +kernel
theorem dX12_doors_68 : decode cX12_doors 68 = .ok (.iaload, 1) := by decide +kernel
theorem dX12_doors_69 : decode cX12_doors 69 = .ok (.aload_n 0, 1) := by decide +kernel
theorem dX12_doors_70 : decode cX12_doors 70 = .ok (.getfield 9, 3) := by decide +kernel
theorem dX12_doors_73 : decode cX12_doors 73 = .ok (.iconst 0, 1) := by decide +kernel
theorem dX12_doors_74 : decode cX12_doors 74 = .ok (.iaload, 1) := by decide +kernel
theorem dX12_doors_75 : decode cX12_doors 75 = .ok (.iadd, 1) := by decide +kernel
theorem dX12_doors_76 : decode cX12_doors 76 = .ok (.iastore, 1) := by decide +kernel
theorem dX12_doors_77 : decode cX12_doors 77 = .ok (.iinc 3 1, 3) := by decide +kernel
theorem dX12_doors_80 : decode cX12_doors 80 = .ok (.goto (-66), 3) := by decide +kernel
theorem dX12_doors_83 : decode cX12_doors 83 = .ok (.iconst (-1), 1) := by decide +kernel
theorem dX12_doors_84 : decode cX12_doors 84 = .ok (.ireturn, 1) := by decide +kernel
noncomputable def vX12_doors : List Cond := .code yX12_doors cX12_doors 5 (some .int) :: (([.methodLink RX12 282 yX12_areThen, .instanceMethod yX12_areThen, .selects RX12 yX12_areThen yX12_areThen, .initialized RX12, .methodLink RX12 225 yX12_of, .instanceMethod yX12_of, .selects RX12 yX12_of yX12_of, .methodLink RX12 237 yX12_fallsBy, .instanceMethod yX12_fallsBy, .selects RX12 yX12_fallsBy yX12_fallsBy, .fieldLink RX12 34 "IcicleClockModel" "off" "[I", .fieldLink RX12 9 "IcicleClockModel" "world" "[I"] : List Cond) ++ (wsX120 ++ (vX12_areThen ++ (vX12_of ++ vX12_fallsBy))))
theorem iX12_doors_12 : ∀ w ∈ wsX120, w ∈ vX12_doors := fun _ h => List.mem_cons_of_mem _ (List.mem_append_right _ (List.mem_append_left _ h))
theorem gs_X12_doors : Gd vX12_doors := Gd.cons (by decide +kernel) (Gd.app (Gd.r (by decide +kernel)) (Gd.app gwX_12 (Gd.app gs_X12_areThen (Gd.app gs_X12_of gs_X12_fallsBy))))
theorem gg_X12_doors_X12_areThen : GoodIn vX12_doors (wsV RX12 282 RX12 yX12_areThen vX12_areThen) := goodIn_app (goodIn_r _ [1, 2, 3, 4] (by decide +kernel) (by decide +kernel)) (fun w h => ⟨List.mem_cons_of_mem _ (List.mem_append_right _ (List.mem_append_right _ (List.mem_append_left _ h))), gs_X12_areThen w h⟩)
theorem gg_X12_doors_X12_of : GoodIn vX12_doors (wsV RX12 225 RX12 yX12_of vX12_of) := goodIn_app (goodIn_r _ [5, 6, 7, 4] (by decide +kernel) (by decide +kernel)) (fun w h => ⟨List.mem_cons_of_mem _ (List.mem_append_right _ (List.mem_append_right _ (List.mem_append_right _ (List.mem_append_left _ h)))), gs_X12_of w h⟩)
theorem gg_X12_doors_X12_fallsBy : GoodIn vX12_doors (wsV RX12 237 RX12 yX12_fallsBy vX12_fallsBy) := goodIn_app (goodIn_r _ [8, 9, 10, 4] (by decide +kernel) (by decide +kernel)) (fun w h => ⟨List.mem_cons_of_mem _ (List.mem_append_right _ (List.mem_append_right _ (List.mem_append_right _ (List.mem_append_right _ (h))))), gs_X12_fallsBy w h⟩)
set_option maxHeartbeats 4000000 in
set_option maxRecDepth 100000 in
theorem s_X12_doors (l : Launch) (D : va_G) (cs : Nat → ClassId) (ad : Nat → Nat) (kS : kSt) (K : sK) (hKO : KO K) (hj : wJ ad 218) (g : Nat → va_E) (hW : WF (shp ad K) ad cs g) (ic : Int32) (dy : Int32) : sI l yX12_doors vX12_doors { frames := 4, cells := 0, slots := 0, locals := 87 } D cs ad kS [.ref (ad 197), .int ic, .int dy] g (fun r g2 => WF (shp ad K) ad cs g2 ∧ (∀ j, j ≠ 197 ∧ j ≠ 204 ∧ j ≠ 205 → g2 j = g j)) := by
  refine Met.startS (cc := cX12_doors) (maxL := 5) (ret := (some .int)) RX12 rfl (by decide) rfl (Nat.le_of_ble_eq_true rfl) ?_
  intro p e s m below meth c ls X Z hP hl
  have hx := X.1
  have hb := X.2.1
  have hS : va_S (wA ad 218) s.heap s.heap [] := va_S.rf
  have hA : ∀ i, i < 218 → wA ad 218 (ad i) := fun i h => ⟨i, h, rfl⟩
  have hfr : ∀ j, j ≠ 197 ∧ j ≠ 204 ∧ j ≠ 205 → g j = g j := fun _ _ => rfl
  have hl : lv_has ls 5 [(0, .ref (ad 197)), (1, .int ic), (2, .int dy)] := hl
  refine lv_aload_n hx hb dX12_doors_0 rfl (lv_at hl 0 rfl) ?_
  refine lv_iload_n hx hb dX12_doors_1 rfl (lv_at hl 1 rfl) ?_
  refine lv_iload_n hx hb dX12_doors_2 rfl (lv_at hl 2 rfl) ?_
  obtain ⟨fsc_4, hgc_4, hOc_4⟩ := hW.obj (i := 197) (by decide) (sh_197 ad K)
  refine s_calli (q := (RX12, TX12, 40)) (As := [.int ic, .int dy]) (rest := []) X Z (s_X12_areThen l D cs ad kS K hKO hj g hW ic dy) (cwV 2 X.2.2.2.2.1 gg_X12_doors_X12_areThen rfl rfl rfl (by decide +kernel) ⟨Nat.le_of_ble_eq_true rfl, Nat.le_of_ble_eq_true rfl⟩) (by decide) hgc_4 rfl hP hA hS.2.1 hS rfl hl.1 rfl (Nat.le_of_ble_eq_true rfl) dX12_doors_3 ⟨Nat.le_of_ble_eq_true rfl, Nat.le_of_ble_eq_true rfl⟩ (fun r_3 g_2 H locs hw_1 hP hS => ?_)
  obtain ⟨hw_1W, hw_1f, hw_1⟩ := hw_1
  have hfr_5 : ∀ j, j ≠ 197 ∧ j ≠ 204 ∧ j ≠ 205 → g_2 j = g j := fun j hj => (hw_1f j (by omega)).trans (hfr j hj)
  refine lv_if_ne (tgt := 12) hx hb dX12_doors_6 (by decide) (fun hc_6 => ?_) (fun hc_6 => ?_)
  · have hhc_6 := n_ne (rfl : r_3.toInt = r_3.toInt) (by decide : (0 : Int32).toInt = 0) hc_6
    refine lv_iconst (v := 0) hx hb dX12_doors_12 (by decide) ?_
    refine lv_istore_n (lv' := [(3, .int 0), (0, .ref (ad 197)), (1, .int ic), (2, .int dy)]) hx hb dX12_doors_13 rfl hl (by decide) rfl (fun ls hl => ?_)
    have HL14 : ∀ (n14 : Nat) (v14_3 : Int32) (G14 : Nat → va_E) (H : Heap) (locs : List Loc) (ls : Array Slot), (21 - v14_3.toInt).toNat < n14 → (0 ≤ v14_3.toInt ∧ v14_3.toInt ≤ 21) → WF (shp ad K) ad cs G14 → (∀ j, j ≠ 197 ∧ j ≠ 204 ∧ j ≠ 205 → G14 j = g j) → va_P D vwCl (wL ad G14 218) H → va_S (wA ad 218) s.heap H locs → lv_has ls 5 [(3, .int v14_3), (0, .ref (ad 197)), (1, .int ic), (2, .int dy)] → W p l e ({ frames := 4, cells := 0, slots := 0, locals := 87 } : Room) s m ([.ref (ad 197), .int ic, .int dy] : List Value).toArray below meth c H locs 0 0 (MQ below (qI D ad 218 (fun r g2 => WF (shp ad K) ad cs g2 ∧ (∀ j, j ≠ 197 ∧ j ≠ 204 ∧ j ≠ 205 → g2 j = g j))) ([.ref (ad 197), .int ic, .int dy] : List Value).toArray s 0 0 (wA ad 218)) (F0 m 14 ls []) := by
      intro n14
      induction n14 with
      | zero =>
        intro v14_3 G14 H locs ls hm14 hv14_0 hW14 hfr14 hP hS hl
        exact absurd hm14 (Nat.not_lt_zero _)
      | succ n14 ih14 =>
        intro v14_3 G14 H locs ls hm14 hv14_0 hW14 hfr14 hP hS hl
        refine lv_iload_n hx hb dX12_doors_14 rfl (lv_at hl 0 rfl) ?_
        refine lv_bipush (v := 20) hx hb dX12_doors_15 (by decide) ?_
        refine lv_icmp_gt (tgt := 83) hx hb dX12_doors_17 (by decide) (fun hc_7 => ?_) (fun hc_7 => ?_)
        · have hhc_7 := n_lt (by decide : (20 : Int32).toInt = 20) (rfl : v14_3.toInt = v14_3.toInt) hc_7
          refine lv_iconst (v := (-1)) hx hb dX12_doors_83 (by decide) ?_
          exact q_iret X hP hS ⟨hW14, hfr14⟩ dX12_doors_84
        · have hhc_7 := n_nlt (by decide : (20 : Int32).toInt = 20) (rfl : v14_3.toInt = v14_3.toInt) hc_7
          refine lv_aload_n hx hb dX12_doors_20 rfl (lv_at hl 1 rfl) ?_
          refine lv_aload_n hx hb dX12_doors_21 rfl (lv_at hl 1 rfl) ?_
          refine lv_iload_n hx hb dX12_doors_22 rfl (lv_at hl 2 rfl) ?_
          refine lv_iconst (v := 0) hx hb dX12_doors_23 (by decide) ?_
          have hqk_8 : (0 : Int32).toInt = 0 := by decide
          obtain ⟨fsc_12, hgc_12, hOc_12⟩ := hW14.obj (i := 197) (by decide) (sh_197 ad K)
          refine s_calli (q := (RX12, TX12, 40)) (As := [.int ic, .int 0]) (rest := [.ref (ad 197)]) X Z (s_X12_of l D cs ad kS K hKO hj G14 hW14 ic 0 (by omega) (by omega)) (cwV 2 X.2.2.2.2.1 gg_X12_doors_X12_of rfl rfl rfl (by decide +kernel) ⟨Nat.le_of_ble_eq_true rfl, Nat.le_of_ble_eq_true rfl⟩) (by decide) hgc_12 rfl hP hA hS.2.1 hS rfl hl.1 rfl (Nat.le_of_ble_eq_true rfl) dX12_doors_24 ⟨Nat.le_of_ble_eq_true rfl, Nat.le_of_ble_eq_true rfl⟩ (fun r_11 g_10 H locs hw_9 hP hS => ?_)
          obtain ⟨hw_9g, hw_9⟩ := hw_9
          rw [hw_9g] at hP
          have hqk_13 : (0 : Int32).toInt = 0 := by decide
          refine lv_aload_n hx hb dX12_doors_27 rfl (lv_at hl 1 rfl) ?_
          refine lv_iload_n hx hb dX12_doors_28 rfl (lv_at hl 2 rfl) ?_
          refine lv_iconst (v := 1) hx hb dX12_doors_29 (by decide) ?_
          have hqk_14 : (1 : Int32).toInt = 1 := by decide
          refine s_calli (q := (RX12, TX12, 40)) (As := [.int ic, .int 1]) (rest := [.int r_11, .ref (ad 197)]) X Z (s_X12_of l D cs ad kS K hKO hj G14 hW14 ic 1 (by omega) (by omega)) (cwV 2 X.2.2.2.2.1 gg_X12_doors_X12_of rfl rfl rfl (by decide +kernel) ⟨Nat.le_of_ble_eq_true rfl, Nat.le_of_ble_eq_true rfl⟩) (by decide) hgc_12 rfl hP hA hS.2.1 hS rfl hl.1 rfl (Nat.le_of_ble_eq_true rfl) dX12_doors_30 ⟨Nat.le_of_ble_eq_true rfl, Nat.le_of_ble_eq_true rfl⟩ (fun r_17 g_16 H locs hw_15 hP hS => ?_)
          obtain ⟨hw_15g, hw_15⟩ := hw_15
          rw [hw_15g] at hP
          have hqk_18 : (1 : Int32).toInt = 1 := by decide
          refine s_calli (q := (RX12, TX12, 40)) (As := [.int r_11, .int r_17]) (rest := []) X Z (s_X12_fallsBy l D cs ad kS K hKO hj G14 hW14 r_11 r_17 (by omega)) (cwV 2 X.2.2.2.2.1 gg_X12_doors_X12_fallsBy rfl rfl rfl (by decide +kernel) ⟨Nat.le_of_ble_eq_true rfl, Nat.le_of_ble_eq_true rfl⟩) (by decide) hgc_12 rfl hP hA hS.2.1 hS rfl hl.1 rfl (Nat.le_of_ble_eq_true rfl) dX12_doors_33 ⟨Nat.le_of_ble_eq_true rfl, Nat.le_of_ble_eq_true rfl⟩ (fun r_21 g_20 H locs hw_19 hP hS => ?_)
          obtain ⟨hw_19g, hw_19⟩ := hw_19
          rw [hw_19g] at hP
          refine lv_istore (lv' := [(4, .int r_21), (3, .int v14_3), (0, .ref (ad 197)), (1, .int ic), (2, .int dy)]) hx hb dX12_doors_36 hl (by decide) rfl (fun ls hl => ?_)
          refine lv_iload hx hb dX12_doors_38 (lv_at hl 0 rfl) ?_
          refine lv_iconst (v := (-1)) hx hb dX12_doors_40 (by decide) ?_
          have HJ52 : ∀ (G52 : Nat → va_E) (H : Heap) (locs : List Loc) (ls : Array Slot), WF (shp ad K) ad cs G52 → (∀ j, j ≠ 197 ∧ j ≠ 204 ∧ j ≠ 205 → G52 j = g j) → G52 197 = .inr (12, fsc_12) → va_P D vwCl (wL ad G52 218) H → va_S (wA ad 218) s.heap H locs → lv_has ls 5 [(3, .int v14_3), (0, .ref (ad 197)), (1, .int ic), (2, .int dy)] → W p l e ({ frames := 4, cells := 0, slots := 0, locals := 87 } : Room) s m ([.ref (ad 197), .int ic, .int dy] : List Value).toArray below meth c H locs 0 0 (MQ below (qI D ad 218 (fun r g2 => WF (shp ad K) ad cs g2 ∧ (∀ j, j ≠ 197 ∧ j ≠ 204 ∧ j ≠ 205 → g2 j = g j))) ([.ref (ad 197), .int ic, .int dy] : List Value).toArray s 0 0 (wA ad 218)) (F0 m 52 ls []) := by
            intro G52 H locs ls hW52 hfr52 hg52_0 hP hS hl
            refine lv_aload_n hx hb dX12_doors_52 rfl (lv_at hl 1 rfl) ?_
            have hk_22 := hOc_12.ref 15 rfl
            refine q_get X iX12_doors_12 hP (by decide) hg52_0 rfl 15 (by decide) (List.mem_of_getElem? (i := 11) rfl) (v := .ref (ad 204)) hk_22 dX12_doors_53 ?_
            refine lv_bipush (v := 14) hx hb dX12_doors_56 (by decide) ?_
            refine lv_aload_n hx hb dX12_doors_58 rfl (lv_at hl 1 rfl) ?_
            refine lv_iload_n hx hb dX12_doors_59 rfl (lv_at hl 2 rfl) ?_
            refine lv_iconst (v := 0) hx hb dX12_doors_60 (by decide) ?_
            have hqk_23 : (0 : Int32).toInt = 0 := by decide
            refine s_calli (q := (RX12, TX12, 40)) (As := [.int ic, .int 0]) (rest := [.int 14, .ref (ad 204)]) X Z (s_X12_of l D cs ad kS K hKO hj G52 hW52 ic 0 (by omega) (by omega)) (cwV 2 X.2.2.2.2.1 gg_X12_doors_X12_of rfl rfl rfl (by decide +kernel) ⟨Nat.le_of_ble_eq_true rfl, Nat.le_of_ble_eq_true rfl⟩) (by decide) hg52_0 rfl hP hA hS.2.1 hS rfl hl.1 rfl (Nat.le_of_ble_eq_true rfl) dX12_doors_61 ⟨Nat.le_of_ble_eq_true rfl, Nat.le_of_ble_eq_true rfl⟩ (fun r_26 g_25 H locs hw_24 hP hS => ?_)
            obtain ⟨hw_24g, hw_24⟩ := hw_24
            rw [hw_24g] at hP
            have hqk_27 : (0 : Int32).toInt = 0 := by decide
            refine lv_imul hx hb dX12_doors_64 ?_
            refine lv_topi (fun z_28 ez_28 => ?_)
            have hz_28 : z_28.toInt = 14 * r_26.toInt := n_mul (by decide : (14 : Int32).toInt = 14) (rfl : r_26.toInt = r_26.toInt) ez_28 (by omega) (by omega)
            refine lv_iload_n hx hb dX12_doors_65 rfl (lv_at hl 3 rfl) ?_
            refine lv_iadd hx hb dX12_doors_66 ?_
            refine lv_topi (fun z_29 ez_29 => ?_)
            have hz_29 : z_29.toInt = z_28.toInt + dy.toInt := n_add (rfl : z_28.toInt = z_28.toInt) (rfl : dy.toInt = dy.toInt) ez_29 (by omega) (by omega)
            refine lv_dup2_11 hx hb dX12_doors_67 rfl rfl ?_
            obtain ⟨fc_30, hgc_30, hFc_30⟩ := hW52.arr (i := 204) (by decide) (sh_204 ad K)
            refine q_iald X hP (by decide) hgc_30 (n_in (rfl : z_29.toInt = z_29.toInt) (by omega) (by omega)) dX12_doors_68 ?_
            refine lv_topi (fun z_31 ez_31 => ?_)
            refine lv_aload_n hx hb dX12_doors_69 rfl (lv_at hl 1 rfl) ?_
            have hk_32 := hOc_12.ref 1 rfl
            refine q_get X iX12_doors_12 hP (by decide) hg52_0 rfl 1 (by decide) (List.mem_of_getElem? (i := 12) rfl) (v := .ref (ad 198)) hk_32 dX12_doors_70 ?_
            refine lv_iconst (v := 0) hx hb dX12_doors_73 (by decide) ?_
            obtain ⟨fc_33, hgc_33, hFc_33⟩ := hW52.arr (i := 198) (by decide) (sh_198 ad K)
            refine q_iald X hP (by decide) hgc_33 (by unfold vp_in; decide) dX12_doors_74 ?_
            refine lv_topi (fun z_34 ez_34 => ?_)
            have hqz_34 : wq (0) z_34.toInt := ez_34 ▸ hFc_33 _
            clear hqz_34
            refine lv_iadd hx hb dX12_doors_75 ?_
            refine lv_topi (fun z_35 ez_35 => ?_)
            refine s_iast X hP hj hA hS (by decide) hgc_30 (n_in (rfl : z_29.toInt = z_29.toInt) (by omega) (by omega)) dX12_doors_76 hW52 (sh_204 ad K) (hFc_30.put trivial) (fun fc_36 gc_36 H locs ec_36 hFc_36 hgc_36 hfc_36 hWc_36 hP hS => ?_)
            have hg_38 := (hfc_36 197 (by decide)).trans hg52_0
            have hg_39 := (hfc_36 198 (by decide)).trans hgc_33
            have hfr_37 : ∀ j, j ≠ 197 ∧ j ≠ 204 ∧ j ≠ 205 → gc_36 j = g j := fun j hj => (hfc_36 j (by omega)).trans (hfr52 j hj)
            obtain ⟨x_40, ex_40⟩ : ∃ y : Int32, y = v14_3 + 1 := ⟨_, rfl⟩
            have hx_40 : x_40.toInt = v14_3.toInt + 1 := n_add rfl (by decide : (1 : Int32).toInt = 1) ex_40 (by omega) (by omega)
            refine lv_iinc (v := x_40) (lv' := [(3, .int x_40), (0, .ref (ad 197)), (1, .int ic), (2, .int dy)]) hx hb dX12_doors_77 hl (k := 0) rfl (by rw [ex_40]; rfl) (by decide) rfl (fun ls hl => ?_)
            refine lv_goto (tgt := 14) hx hb dX12_doors_80 (by decide) ?_
            exact ih14 x_40 gc_36 _ _ ls (by omega) (by omega) hWc_36 hfr_37 hP hS (lv_sub hl [0, 1, 2, 3] rfl)
          refine lv_icmp_eq (tgt := 52) hx hb dX12_doors_41 (by decide) (fun hc_41 => ?_) (fun hc_41 => ?_)
          · have hhc_41 := n_eq (rfl : r_21.toInt = r_21.toInt) (by decide : (-1 : Int32).toInt = -1) hc_41
            exact HJ52 G14 _ _ ls hW14 hfr14 hgc_12 hP hS (lv_sub hl [1, 2, 3, 4] rfl)
          · have hhc_41 := n_ne (rfl : r_21.toInt = r_21.toInt) (by decide : (-1 : Int32).toInt = -1) hc_41
            refine lv_iload hx hb dX12_doors_44 (lv_at hl 0 rfl) ?_
            refine lv_iload_n hx hb dX12_doors_46 rfl (lv_at hl 4 rfl) ?_
            refine lv_icmp_gt (tgt := 52) hx hb dX12_doors_47 (by decide) (fun hc_42 => ?_) (fun hc_42 => ?_)
            · have hhc_42 := n_lt (rfl : dy.toInt = dy.toInt) (rfl : r_21.toInt = r_21.toInt) hc_42
              exact HJ52 G14 _ _ ls hW14 hfr14 hgc_12 hP hS (lv_sub hl [1, 2, 3, 4] rfl)
            · have hhc_42 := n_nlt (rfl : dy.toInt = dy.toInt) (rfl : r_21.toInt = r_21.toInt) hc_42
              refine lv_iload_n hx hb dX12_doors_50 rfl (lv_at hl 1 rfl) ?_
              exact q_iret X hP hS ⟨hW14, hfr14⟩ dX12_doors_51
    have hiv14_3 : (0 : Int32).toInt = 0 := by decide
    exact HL14 _ 0 g_2 _ _ ls (Nat.lt_succ_self _) (by omega) hw_1W hfr_5 hP hS (lv_sub hl [0, 1, 2, 3] rfl)
  · have hhc_6 := n_eq (rfl : r_3.toInt = r_3.toInt) (by decide : (0 : Int32).toInt = 0) hc_6
    refine lv_bipush (v := (-2)) hx hb dX12_doors_9 (by decide) ?_
    exact q_iret X hP hS ⟨hw_1W, hfr_5⟩ dX12_doors_11

theorem dX12_bestOf_0 : decode cX12_bestOf 0 = .ok (.aload_n 0, 1) := by decide +kernel
theorem dX12_bestOf_1 : decode cX12_bestOf 1 = .ok (.invokevirtual 246, 3) := by decide +kernel
theorem dX12_bestOf_4 : decode cX12_bestOf 4 = .ok (.iconst (-1), 1) := by decide +kernel
theorem dX12_bestOf_5 : decode cX12_bestOf 5 = .ok (.istore_n 2, 1) := by decide +kernel
theorem dX12_bestOf_6 : decode cX12_bestOf 6 = .ok (.aload_n 0, 1) := by decide +kernel
theorem dX12_bestOf_7 : decode cX12_bestOf 7 = .ok (.ldc_w 285, 3) := by decide +kernel
theorem dX12_bestOf_10 : decode cX12_bestOf 10 = .ok (.putfield 286, 3) := by decide +kernel
theorem dX12_bestOf_13 : decode cX12_bestOf 13 = .ok (.iconst 1, 1) := by decide +kernel
theorem dX12_bestOf_14 : decode cX12_bestOf 14 = .ok (.istore_n 3, 1) := by decide +kernel
theorem dX12_bestOf_15 : decode cX12_bestOf 15 = .ok (.iload_n 3, 1) := by decide +kernel
theorem dX12_bestOf_16 : decode cX12_bestOf 16 = .ok (.bipush 99, 2) := by decide +kernel
theorem dX12_bestOf_18 : decode cX12_bestOf 18 = .ok (.if_icmp .gt 52, 3) := by decide +kernel
theorem dX12_bestOf_21 : decode cX12_bestOf 21 = .ok (.aload_n 0, 1) := by decide +kernel
theorem dX12_bestOf_22 : decode cX12_bestOf 22 = .ok (.getfield 37, 3) := by decide +kernel
theorem dX12_bestOf_25 : decode cX12_bestOf 25 = .ok (.iload_n 1, 1) := by decide +kernel
theorem dX12_bestOf_26 : decode cX12_bestOf 26 = .ok (.aload_n 0, 1) := by decide +kernel
theorem dX12_bestOf_27 : decode cX12_bestOf 27 = .ok (.aload_n 0, 1) := by decide +kernel
theorem dX12_bestOf_28 : decode cX12_bestOf 28 = .ok (.iload_n 1, 1) := by decide +kernel
theorem dX12_bestOf_29 : decode cX12_bestOf 29 = .ok (.iconst 0, 1) := by decide +kernel
theorem dX12_bestOf_30 : decode cX12_bestOf 30 = .ok (.invokevirtual 225, 3) := by decide +kernel
theorem dX12_bestOf_33 : decode cX12_bestOf 33 = .ok (.iload_n 3, 1) := by decide +kernel
theorem dX12_bestOf_34 : decode cX12_bestOf 34 = .ok (.invokevirtual 237, 3) := by decide +kernel
theorem dX12_bestOf_37 : decode cX12_bestOf 37 = .ok (.iastore, 1) := by decide +kernel
theorem dX12_bestOf_38 : decode cX12_bestOf 38 = .ok (.aload_n 0, 1) := by decide +kernel
theorem dX12_bestOf_39 : decode cX12_bestOf 39 = .ok (.invokevirtual 279, 3) := by decide +kernel
theorem dX12_bestOf_42 : decode cX12_bestOf 42 = .ok (.istore 4, 2) := by decide +kernel
theorem dX12_bestOf_44 : decode cX12_bestOf 44 = .ok (.iload 4, 2) := by decide +kernel
theorem dX12_bestOf_46 : decode cX12_bestOf 46 = .ok (.aload_n 0, 1) := by decide +kernel
theorem dX12_bestOf_47 : decode cX12_bestOf 47 = .ok (.getfield 286, 3) := by decide +kernel
theorem dX12_bestOf_50 : decode cX12_bestOf 50 = .ok (.if_icmp .lt 6, 3) := by decide +kernel
theorem dX12_bestOf_53 : decode cX12_bestOf 53 = .ok (.goto 11, 3) := by decide +kernel
theorem dX12_bestOf_56 : decode cX12_bestOf 56 = .ok (.aload_n 0, 1) := by decide +kernel
theorem dX12_bestOf_57 : decode cX12_bestOf 57 = .ok (.iload 4, 2) := by decide +kernel
theorem dX12_bestOf_59 : decode cX12_bestOf 59 = .ok (.putfield 286, 3) := by decide +kernel
theorem dX12_bestOf_62 : decode cX12_bestOf 62 = .ok (.iload_n 3, 1) := by decide +kernel
theorem dX12_bestOf_63 : decode cX12_bestOf 63 = .ok (.istore_n 2, 1) := by decide +kernel
theorem dX12_bestOf_64 : decode cX12_bestOf 64 = .ok (.iinc 3 1, 3) := by decide +kernel
theorem dX12_bestOf_67 : decode cX12_bestOf 67 = .ok (.goto (-52), 3) := by decide +kernel
theorem dX12_bestOf_70 : decode cX12_bestOf 70 = .ok (.iload_n 2, 1) := by decide +kernel
theorem dX12_bestOf_71 : decode cX12_bestOf 71 = .ok (.ireturn, 1) := by decide +kernel
noncomputable def vX12_bestOf : List Cond := .code yX12_bestOf cX12_bestOf 5 (some .int) :: (([.methodLink RX12 246 yX12_layAll, .instanceMethod yX12_layAll, .selects RX12 yX12_layAll yX12_layAll, .initialized RX12, .constant RX12 285 (1000000000), .fieldLink RX12 286 "IcicleClockModel" "leastOff" "I", .fieldLink RX12 37 "IcicleClockModel" "fell" "[I", .methodLink RX12 225 yX12_of, .instanceMethod yX12_of, .selects RX12 yX12_of yX12_of, .methodLink RX12 237 yX12_fallsBy, .instanceMethod yX12_fallsBy, .selects RX12 yX12_fallsBy yX12_fallsBy, .methodLink RX12 279 yX12_offAll, .instanceMethod yX12_offAll, .selects RX12 yX12_offAll yX12_offAll] : List Cond) ++ (wsX120 ++ (vX12_layAll ++ (vX12_of ++ (vX12_fallsBy ++ vX12_offAll)))))
theorem iX12_bestOf_12 : ∀ w ∈ wsX120, w ∈ vX12_bestOf := fun _ h => List.mem_cons_of_mem _ (List.mem_append_right _ (List.mem_append_left _ h))
theorem gs_X12_bestOf : Gd vX12_bestOf := Gd.cons (by decide +kernel) (Gd.app (Gd.r (by decide +kernel)) (Gd.app gwX_12 (Gd.app gs_X12_layAll (Gd.app gs_X12_of (Gd.app gs_X12_fallsBy gs_X12_offAll)))))
theorem gg_X12_bestOf_X12_layAll : GoodIn vX12_bestOf (wsV RX12 246 RX12 yX12_layAll vX12_layAll) := goodIn_app (goodIn_r _ [1, 2, 3, 4] (by decide +kernel) (by decide +kernel)) (fun w h => ⟨List.mem_cons_of_mem _ (List.mem_append_right _ (List.mem_append_right _ (List.mem_append_left _ h))), gs_X12_layAll w h⟩)
theorem gg_X12_bestOf_X12_of : GoodIn vX12_bestOf (wsV RX12 225 RX12 yX12_of vX12_of) := goodIn_app (goodIn_r _ [8, 9, 10, 4] (by decide +kernel) (by decide +kernel)) (fun w h => ⟨List.mem_cons_of_mem _ (List.mem_append_right _ (List.mem_append_right _ (List.mem_append_right _ (List.mem_append_left _ h)))), gs_X12_of w h⟩)
theorem gg_X12_bestOf_X12_fallsBy : GoodIn vX12_bestOf (wsV RX12 237 RX12 yX12_fallsBy vX12_fallsBy) := goodIn_app (goodIn_r _ [11, 12, 13, 4] (by decide +kernel) (by decide +kernel)) (fun w h => ⟨List.mem_cons_of_mem _ (List.mem_append_right _ (List.mem_append_right _ (List.mem_append_right _ (List.mem_append_right _ (List.mem_append_left _ h))))), gs_X12_fallsBy w h⟩)
theorem gg_X12_bestOf_X12_offAll : GoodIn vX12_bestOf (wsV RX12 279 RX12 yX12_offAll vX12_offAll) := goodIn_app (goodIn_r _ [14, 15, 16, 4] (by decide +kernel) (by decide +kernel)) (fun w h => ⟨List.mem_cons_of_mem _ (List.mem_append_right _ (List.mem_append_right _ (List.mem_append_right _ (List.mem_append_right _ (List.mem_append_right _ (h)))))), gs_X12_offAll w h⟩)
set_option maxHeartbeats 4000000 in
set_option maxRecDepth 100000 in
theorem s_X12_bestOf (l : Launch) (D : va_G) (cs : Nat → ClassId) (ad : Nat → Nat) (kS : kSt) (K : sK) (hKO : KO K) (hj : wJ ad 218) (g : Nat → va_E) (hW : WF (shp ad K) ad cs g) (ic : Int32) (hp0 : 0 ≤ ic.toInt ∧ ic.toInt ≤ 7) : sI l yX12_bestOf vX12_bestOf { frames := 3, cells := 0, slots := 0, locals := 66 } D cs ad kS [.ref (ad 197), .int ic] g (fun r g2 => WF (shp ad K) ad cs g2 ∧ (∀ j, j ≠ 197 ∧ j ≠ 204 ∧ j ≠ 205 → g2 j = g j)) := by
  refine Met.startS (cc := cX12_bestOf) (maxL := 5) (ret := (some .int)) RX12 rfl (by decide) rfl (Nat.le_of_ble_eq_true rfl) ?_
  intro p e s m below meth c ls X Z hP hl
  have hx := X.1
  have hb := X.2.1
  have hS : va_S (wA ad 218) s.heap s.heap [] := va_S.rf
  have hA : ∀ i, i < 218 → wA ad 218 (ad i) := fun i h => ⟨i, h, rfl⟩
  have hfr : ∀ j, j ≠ 197 ∧ j ≠ 204 ∧ j ≠ 205 → g j = g j := fun _ _ => rfl
  have hl : lv_has ls 5 [(0, .ref (ad 197)), (1, .int ic)] := hl
  refine lv_aload_n hx hb dX12_bestOf_0 rfl (lv_at hl 0 rfl) ?_
  obtain ⟨fsc_4, hgc_4, hOc_4⟩ := hW.obj (i := 197) (by decide) (sh_197 ad K)
  refine s_callv (q := (RX12, TX12, 40)) (As := []) (rest := []) X Z (s_X12_layAll l D cs ad kS K hKO hj g hW) (cwV 0 X.2.2.2.2.1 gg_X12_bestOf_X12_layAll rfl rfl rfl (by decide +kernel) ⟨Nat.le_of_ble_eq_true rfl, Nat.le_of_ble_eq_true rfl⟩) (by decide) hgc_4 rfl hP hA hS.2.1 hS rfl hl.1 rfl (Nat.le_of_ble_eq_true rfl) dX12_bestOf_1 ⟨Nat.le_of_ble_eq_true rfl, Nat.le_of_ble_eq_true rfl⟩ (fun g_2 H locs hw_1 hP hS => ?_)
  obtain ⟨hw_1W, hw_1f⟩ := hw_1
  have hfr_5 : ∀ j, j ≠ 197 ∧ j ≠ 204 ∧ j ≠ 205 → g_2 j = g j := fun j hj => (hw_1f j (by omega)).trans (hfr j hj)
  refine lv_iconst (v := (-1)) hx hb dX12_bestOf_4 (by decide) ?_
  refine lv_istore_n (lv' := [(2, .int (-1)), (0, .ref (ad 197)), (1, .int ic)]) hx hb dX12_bestOf_5 rfl hl (by decide) rfl (fun ls hl => ?_)
  refine lv_aload_n hx hb dX12_bestOf_6 rfl (lv_at hl 1 rfl) ?_
  refine lv_ldcw (v := 1000000000) hx hb X.2.2.2.2.2.1 (X.2.2.2.2.1 _ (List.mem_of_getElem? (i := 5) rfl)) dX12_bestOf_7 ?_
  obtain ⟨fsc_6, hgc_6, hOc_6⟩ := hw_1W.obj (i := 197) (by decide) (sh_197 ad K)
  refine s_put X iX12_bestOf_12 tyX12 tyX12_ok nmX12 hP hj hA hS (by decide) hgc_6 rfl 18 (by decide) (List.mem_of_getElem? (i := 6) rfl) rfl (ty := .int) (v := .int 1000000000) (by decide +kernel) rfl rfl dX12_bestOf_10 hw_1W (sh_197 ad K) hOc_6 rfl ⟨1000000000, rfl, n_lo _, n_hi _⟩ (fun fsc_7 gc_7 H locs hOc_7 hkc_7 hnc_7 hgc_7 hfc_7 hWc_7 hP hS => ?_)
  have hfr_8 : ∀ j, j ≠ 197 ∧ j ≠ 204 ∧ j ≠ 205 → gc_7 j = g j := fun j hj => (hfc_7 j (by omega)).trans (hfr_5 j hj)
  refine lv_iconst (v := 1) hx hb dX12_bestOf_13 (by decide) ?_
  refine lv_istore_n (lv' := [(3, .int 1), (2, .int (-1)), (0, .ref (ad 197)), (1, .int ic)]) hx hb dX12_bestOf_14 rfl hl (by decide) rfl (fun ls hl => ?_)
  have HL15 : ∀ (n15 : Nat) (v15_3 : Int32) (v15_2 : Int32) (G15 : Nat → va_E) (H : Heap) (locs : List Loc) (ls : Array Slot), (100 - v15_3.toInt).toNat < n15 → (1 ≤ v15_3.toInt ∧ v15_3.toInt ≤ 100) → ((-1) ≤ v15_2.toInt ∧ v15_2.toInt ≤ 99) → WF (shp ad K) ad cs G15 → (∀ j, j ≠ 197 ∧ j ≠ 204 ∧ j ≠ 205 → G15 j = g j) → va_P D vwCl (wL ad G15 218) H → va_S (wA ad 218) s.heap H locs → lv_has ls 5 [(3, .int v15_3), (2, .int v15_2), (0, .ref (ad 197)), (1, .int ic)] → W p l e ({ frames := 3, cells := 0, slots := 0, locals := 66 } : Room) s m ([.ref (ad 197), .int ic] : List Value).toArray below meth c H locs 0 0 (MQ below (qI D ad 218 (fun r g2 => WF (shp ad K) ad cs g2 ∧ (∀ j, j ≠ 197 ∧ j ≠ 204 ∧ j ≠ 205 → g2 j = g j))) ([.ref (ad 197), .int ic] : List Value).toArray s 0 0 (wA ad 218)) (F0 m 15 ls []) := by
    intro n15
    induction n15 with
    | zero =>
      intro v15_3 v15_2 G15 H locs ls hm15 hv15_0 hv15_1 hW15 hfr15 hP hS hl
      exact absurd hm15 (Nat.not_lt_zero _)
    | succ n15 ih15 =>
      intro v15_3 v15_2 G15 H locs ls hm15 hv15_0 hv15_1 hW15 hfr15 hP hS hl
      refine lv_iload_n hx hb dX12_bestOf_15 rfl (lv_at hl 0 rfl) ?_
      refine lv_bipush (v := 99) hx hb dX12_bestOf_16 (by decide) ?_
      refine lv_icmp_gt (tgt := 70) hx hb dX12_bestOf_18 (by decide) (fun hc_9 => ?_) (fun hc_9 => ?_)
      · have hhc_9 := n_lt (by decide : (99 : Int32).toInt = 99) (rfl : v15_3.toInt = v15_3.toInt) hc_9
        refine lv_iload_n hx hb dX12_bestOf_70 rfl (lv_at hl 1 rfl) ?_
        exact q_iret X hP hS ⟨hW15, hfr15⟩ dX12_bestOf_71
      · have hhc_9 := n_nlt (by decide : (99 : Int32).toInt = 99) (rfl : v15_3.toInt = v15_3.toInt) hc_9
        refine lv_aload_n hx hb dX12_bestOf_21 rfl (lv_at hl 2 rfl) ?_
        obtain ⟨fsc_10, hgc_10, hOc_10⟩ := hW15.obj (i := 197) (by decide) (sh_197 ad K)
        have hk_11 := hOc_10.ref 16 rfl
        refine q_get X iX12_bestOf_12 hP (by decide) hgc_10 rfl 16 (by decide) (List.mem_of_getElem? (i := 7) rfl) (v := .ref (ad 205)) hk_11 dX12_bestOf_22 ?_
        refine lv_iload_n hx hb dX12_bestOf_25 rfl (lv_at hl 3 rfl) ?_
        refine lv_aload_n hx hb dX12_bestOf_26 rfl (lv_at hl 2 rfl) ?_
        refine lv_aload_n hx hb dX12_bestOf_27 rfl (lv_at hl 2 rfl) ?_
        refine lv_iload_n hx hb dX12_bestOf_28 rfl (lv_at hl 3 rfl) ?_
        refine lv_iconst (v := 0) hx hb dX12_bestOf_29 (by decide) ?_
        have hqk_12 : (0 : Int32).toInt = 0 := by decide
        refine s_calli (q := (RX12, TX12, 40)) (As := [.int ic, .int 0]) (rest := [.ref (ad 197), .int ic, .ref (ad 205)]) X Z (s_X12_of l D cs ad kS K hKO hj G15 hW15 ic 0 (by omega) (by omega)) (cwV 2 X.2.2.2.2.1 gg_X12_bestOf_X12_of rfl rfl rfl (by decide +kernel) ⟨Nat.le_of_ble_eq_true rfl, Nat.le_of_ble_eq_true rfl⟩) (by decide) hgc_10 rfl hP hA hS.2.1 hS rfl hl.1 rfl (Nat.le_of_ble_eq_true rfl) dX12_bestOf_30 ⟨Nat.le_of_ble_eq_true rfl, Nat.le_of_ble_eq_true rfl⟩ (fun r_15 g_14 H locs hw_13 hP hS => ?_)
        obtain ⟨hw_13g, hw_13⟩ := hw_13
        rw [hw_13g] at hP
        have hqk_16 : (0 : Int32).toInt = 0 := by decide
        refine lv_iload_n hx hb dX12_bestOf_33 rfl (lv_at hl 0 rfl) ?_
        refine s_calli (q := (RX12, TX12, 40)) (As := [.int r_15, .int v15_3]) (rest := [.int ic, .ref (ad 205)]) X Z (s_X12_fallsBy l D cs ad kS K hKO hj G15 hW15 r_15 v15_3 (by omega)) (cwV 2 X.2.2.2.2.1 gg_X12_bestOf_X12_fallsBy rfl rfl rfl (by decide +kernel) ⟨Nat.le_of_ble_eq_true rfl, Nat.le_of_ble_eq_true rfl⟩) (by decide) hgc_10 rfl hP hA hS.2.1 hS rfl hl.1 rfl (Nat.le_of_ble_eq_true rfl) dX12_bestOf_34 ⟨Nat.le_of_ble_eq_true rfl, Nat.le_of_ble_eq_true rfl⟩ (fun r_19 g_18 H locs hw_17 hP hS => ?_)
        obtain ⟨hw_17g, hw_17⟩ := hw_17
        rw [hw_17g] at hP
        obtain ⟨fc_20, hgc_20, hFc_20⟩ := hW15.arr (i := 205) (by decide) (sh_205 ad K)
        refine s_iast X hP hj hA hS (by decide) hgc_20 (n_in (rfl : ic.toInt = ic.toInt) (by omega) (by omega)) dX12_bestOf_37 hW15 (sh_205 ad K) (hFc_20.put ⟨by omega, by omega⟩) (fun fc_21 gc_21 H locs ec_21 hFc_21 hgc_21 hfc_21 hWc_21 hP hS => ?_)
        have hg_23 := (hfc_21 197 (by decide)).trans hgc_10
        have hfr_22 : ∀ j, j ≠ 197 ∧ j ≠ 204 ∧ j ≠ 205 → gc_21 j = g j := fun j hj => (hfc_21 j (by omega)).trans (hfr15 j hj)
        refine lv_aload_n hx hb dX12_bestOf_38 rfl (lv_at hl 2 rfl) ?_
        refine s_calli (q := (RX12, TX12, 40)) (As := []) (rest := []) X Z (s_X12_offAll l D cs ad kS K hKO hj gc_21 hWc_21) (cwV 0 X.2.2.2.2.1 gg_X12_bestOf_X12_offAll rfl rfl rfl (by decide +kernel) ⟨Nat.le_of_ble_eq_true rfl, Nat.le_of_ble_eq_true rfl⟩) (by decide) hg_23 rfl hP hA hS.2.1 hS rfl hl.1 rfl (Nat.le_of_ble_eq_true rfl) dX12_bestOf_39 ⟨Nat.le_of_ble_eq_true rfl, Nat.le_of_ble_eq_true rfl⟩ (fun r_26 g_25 H locs hw_24 hP hS => ?_)
        rw [hw_24] at hP
        refine lv_istore (lv' := [(4, .int r_26), (3, .int v15_3), (2, .int v15_2), (0, .ref (ad 197)), (1, .int ic)]) hx hb dX12_bestOf_42 hl (by decide) rfl (fun ls hl => ?_)
        refine lv_iload hx hb dX12_bestOf_44 (lv_at hl 0 rfl) ?_
        refine lv_aload_n hx hb dX12_bestOf_46 rfl (lv_at hl 3 rfl) ?_
        obtain ⟨x_28, hk_27, -⟩ := hOc_10.int 18 rfl
        refine q_get X iX12_bestOf_12 hP (by decide) hg_23 rfl 18 (by decide) (List.mem_of_getElem? (i := 6) rfl) (v := .int x_28) hk_27 dX12_bestOf_47 ?_
        have HJ64 : ∀ (v64_2 : Int32) (G64 : Nat → va_E) (H : Heap) (locs : List Loc) (ls : Array Slot), ((-1) ≤ v64_2.toInt ∧ v64_2.toInt ≤ 99) → WF (shp ad K) ad cs G64 → (∀ j, j ≠ 197 ∧ j ≠ 204 ∧ j ≠ 205 → G64 j = g j) → G64 205 = .inl (cs 1, 8, .inl fc_21) → va_P D vwCl (wL ad G64 218) H → va_S (wA ad 218) s.heap H locs → lv_has ls 5 [(3, .int v15_3), (2, .int v64_2), (0, .ref (ad 197)), (1, .int ic)] → W p l e ({ frames := 3, cells := 0, slots := 0, locals := 66 } : Room) s m ([.ref (ad 197), .int ic] : List Value).toArray below meth c H locs 0 0 (MQ below (qI D ad 218 (fun r g2 => WF (shp ad K) ad cs g2 ∧ (∀ j, j ≠ 197 ∧ j ≠ 204 ∧ j ≠ 205 → g2 j = g j))) ([.ref (ad 197), .int ic] : List Value).toArray s 0 0 (wA ad 218)) (F0 m 64 ls []) := by
          intro v64_2 G64 H locs ls hv64_0 hW64 hfr64 hg64_0 hP hS hl
          obtain ⟨x_29, ex_29⟩ : ∃ y : Int32, y = v15_3 + 1 := ⟨_, rfl⟩
          have hx_29 : x_29.toInt = v15_3.toInt + 1 := n_add rfl (by decide : (1 : Int32).toInt = 1) ex_29 (by omega) (by omega)
          refine lv_iinc (v := x_29) (lv' := [(3, .int x_29), (2, .int v64_2), (0, .ref (ad 197)), (1, .int ic)]) hx hb dX12_bestOf_64 hl (k := 0) rfl (by rw [ex_29]; rfl) (by decide) rfl (fun ls hl => ?_)
          refine lv_goto (tgt := 15) hx hb dX12_bestOf_67 (by decide) ?_
          exact ih15 x_29 v64_2 G64 _ _ ls (by omega) (by omega) (by omega) hW64 hfr64 hP hS (lv_sub hl [0, 1, 2, 3] rfl)
        refine lv_icmp_lt (tgt := 56) hx hb dX12_bestOf_50 (by decide) (fun hc_30 => ?_) (fun hc_30 => ?_)
        · have hhc_30 := n_lt (rfl : r_26.toInt = r_26.toInt) (rfl : x_28.toInt = x_28.toInt) hc_30
          have := n_hi x_28
          have := n_lo x_28
          have := n_hi r_26
          have := n_lo r_26
          refine lv_aload_n hx hb dX12_bestOf_56 rfl (lv_at hl 3 rfl) ?_
          refine lv_iload hx hb dX12_bestOf_57 (lv_at hl 0 rfl) ?_
          refine s_put X iX12_bestOf_12 tyX12 tyX12_ok nmX12 hP hj hA hS (by decide) hg_23 rfl 18 (by decide) (List.mem_of_getElem? (i := 6) rfl) rfl (ty := .int) (v := .int r_26) (by decide +kernel) rfl rfl dX12_bestOf_59 hWc_21 (sh_197 ad K) hOc_10 rfl ⟨r_26, rfl, n_lo _, n_hi _⟩ (fun fsc_31 gc_31 H locs hOc_31 hkc_31 hnc_31 hgc_31 hfc_31 hWc_31 hP hS => ?_)
          have hk_32 := (hnc_31 16 (by decide)).trans hk_11
          have hg_34 := (hfc_31 205 (by decide)).trans hgc_21
          have hfr_33 : ∀ j, j ≠ 197 ∧ j ≠ 204 ∧ j ≠ 205 → gc_31 j = g j := fun j hj => (hfc_31 j (by omega)).trans (hfr_22 j hj)
          refine lv_iload_n hx hb dX12_bestOf_62 rfl (lv_at hl 1 rfl) ?_
          refine lv_istore_n (lv' := [(2, .int v15_3), (4, .int r_26), (3, .int v15_3), (0, .ref (ad 197)), (1, .int ic)]) hx hb dX12_bestOf_63 rfl hl (by decide) rfl (fun ls hl => ?_)
          exact HJ64 v15_3 gc_31 _ _ ls (by omega) hWc_31 hfr_33 hg_34 hP hS (lv_sub hl [2, 0, 3, 4] rfl)
        · have hhc_30 := n_nlt (rfl : r_26.toInt = r_26.toInt) (rfl : x_28.toInt = x_28.toInt) hc_30
          have := n_hi x_28
          have := n_lo x_28
          have := n_hi r_26
          have := n_lo r_26
          refine lv_goto (tgt := 64) hx hb dX12_bestOf_53 (by decide) ?_
          exact HJ64 v15_2 gc_21 _ _ ls (by omega) hWc_21 hfr_22 hgc_21 hP hS (lv_sub hl [1, 2, 3, 4] rfl)
  have hiv15_3 : (1 : Int32).toInt = 1 := by decide
  have hiv15_2 : ((-1) : Int32).toInt = -1 := by decide
  exact HL15 _ 1 (-1) gc_7 _ _ ls (Nat.lt_succ_self _) (by omega) (by omega) hWc_7 hfr_8 hP hS (lv_sub hl [0, 1, 2, 3] rfl)

theorem dX12_best_0 : decode cX12_best 0 = .ok (.aload_n 0, 1) := by decide +kernel
theorem dX12_best_1 : decode cX12_best 1 = .ok (.iload_n 1, 1) := by decide +kernel
theorem dX12_best_2 : decode cX12_best 2 = .ok (.i2l, 1) := by decide +kernel
theorem dX12_best_3 : decode cX12_best 3 = .ok (.invokevirtual 221, 3) := by decide +kernel
theorem dX12_best_6 : decode cX12_best 6 = .ok (.ifCond .eq 11, 3) := by decide +kernel
theorem dX12_best_9 : decode cX12_best 9 = .ok (.aload_n 0, 1) := by decide +kernel
theorem dX12_best_10 : decode cX12_best 10 = .ok (.iload_n 1, 1) := by decide +kernel
theorem dX12_best_11 : decode cX12_best 11 = .ok (.invokevirtual 289, 3) := by decide +kernel
theorem dX12_best_14 : decode cX12_best 14 = .ok (.goto 5, 3) := by decide +kernel
theorem dX12_best_17 : decode cX12_best 17 = .ok (.bipush (-2), 2) := by decide +kernel
theorem dX12_best_19 : decode cX12_best 19 = .ok (.ireturn, 1) := by decide +kernel
noncomputable def vX12_best : List Cond := .code yX12_best cX12_best 2 (some .int) :: (([.methodLink RX12 221 yX12_isIcicle, .instanceMethod yX12_isIcicle, .selects RX12 yX12_isIcicle yX12_isIcicle, .initialized RX12, .methodLink RX12 289 yX12_bestOf, .instanceMethod yX12_bestOf, .selects RX12 yX12_bestOf yX12_bestOf] : List Cond) ++ (vX12_isIcicle ++ vX12_bestOf))
theorem gs_X12_best : Gd vX12_best := Gd.cons (by decide +kernel) (Gd.app (Gd.r (by decide +kernel)) (Gd.app gs_X12_isIcicle gs_X12_bestOf))
theorem gg_X12_best_X12_isIcicle : GoodIn vX12_best (wsV RX12 221 RX12 yX12_isIcicle vX12_isIcicle) := goodIn_app (goodIn_r _ [1, 2, 3, 4] (by decide +kernel) (by decide +kernel)) (fun w h => ⟨List.mem_cons_of_mem _ (List.mem_append_right _ (List.mem_append_left _ h)), gs_X12_isIcicle w h⟩)
theorem gg_X12_best_X12_bestOf : GoodIn vX12_best (wsV RX12 289 RX12 yX12_bestOf vX12_bestOf) := goodIn_app (goodIn_r _ [5, 6, 7, 4] (by decide +kernel) (by decide +kernel)) (fun w h => ⟨List.mem_cons_of_mem _ (List.mem_append_right _ (List.mem_append_right _ (h))), gs_X12_bestOf w h⟩)
set_option maxHeartbeats 4000000 in
set_option maxRecDepth 100000 in
theorem s_X12_best (l : Launch) (D : va_G) (cs : Nat → ClassId) (ad : Nat → Nat) (kS : kSt) (K : sK) (hKO : KO K) (hj : wJ ad 218) (g : Nat → va_E) (hW : WF (shp ad K) ad cs g) (ic : Int32) : sI l yX12_best vX12_best { frames := 4, cells := 0, slots := 0, locals := 90 } D cs ad kS [.ref (ad 197), .int ic] g (fun r g2 => WF (shp ad K) ad cs g2 ∧ (∀ j, j ≠ 197 ∧ j ≠ 204 ∧ j ≠ 205 → g2 j = g j)) := by
  refine Met.startS (cc := cX12_best) (maxL := 2) (ret := (some .int)) RX12 rfl (by decide) rfl (Nat.le_of_ble_eq_true rfl) ?_
  intro p e s m below meth c ls X Z hP hl
  have hx := X.1
  have hb := X.2.1
  have hS : va_S (wA ad 218) s.heap s.heap [] := va_S.rf
  have hA : ∀ i, i < 218 → wA ad 218 (ad i) := fun i h => ⟨i, h, rfl⟩
  have hfr : ∀ j, j ≠ 197 ∧ j ≠ 204 ∧ j ≠ 205 → g j = g j := fun _ _ => rfl
  have hl : lv_has ls 2 [(0, .ref (ad 197)), (1, .int ic)] := hl
  refine lv_aload_n hx hb dX12_best_0 rfl (lv_at hl 0 rfl) ?_
  refine lv_iload_n hx hb dX12_best_1 rfl (lv_at hl 1 rfl) ?_
  refine lv_i2l hx hb dX12_best_2 rfl ?_
  refine lv_topl (fun z_1 ez_1 => ?_)
  have hz_1 : z_1.toInt = ic.toInt := ez_1 ▸ j_of rfl
  have := n_hi ic
  have := n_lo ic
  obtain ⟨fsc_5, hgc_5, hOc_5⟩ := hW.obj (i := 197) (by decide) (sh_197 ad K)
  refine s_calli (q := (RX12, TX12, 40)) (As := [.long z_1]) (rest := []) X Z (s_X12_isIcicle l D cs ad kS K hKO hj g hW z_1) (cwV 1 X.2.2.2.2.1 gg_X12_best_X12_isIcicle rfl rfl rfl (by decide +kernel) ⟨Nat.le_of_ble_eq_true rfl, Nat.le_of_ble_eq_true rfl⟩) (by decide) hgc_5 rfl hP hA hS.2.1 hS rfl hl.1 rfl (Nat.le_of_ble_eq_true rfl) dX12_best_3 ⟨Nat.le_of_ble_eq_true rfl, Nat.le_of_ble_eq_true rfl⟩ (fun r_4 g_3 H locs hw_2 hP hS => ?_)
  obtain ⟨hw_2g, hw_2⟩ := hw_2
  rw [hw_2g] at hP
  refine lv_if_eq (tgt := 17) hx hb dX12_best_6 (by decide) (fun hc_6 => ?_) (fun hc_6 => ?_)
  · have hhc_6 := n_eq (rfl : r_4.toInt = r_4.toInt) (by decide : (0 : Int32).toInt = 0) hc_6
    refine lv_bipush (v := (-2)) hx hb dX12_best_17 (by decide) ?_
    exact q_iret X hP hS ⟨hW, hfr⟩ dX12_best_19
  · have hhc_6 := n_ne (rfl : r_4.toInt = r_4.toInt) (by decide : (0 : Int32).toInt = 0) hc_6
    refine lv_aload_n hx hb dX12_best_9 rfl (lv_at hl 0 rfl) ?_
    refine lv_iload_n hx hb dX12_best_10 rfl (lv_at hl 1 rfl) ?_
    refine s_calli (q := (RX12, TX12, 40)) (As := [.int ic]) (rest := []) X Z (s_X12_bestOf l D cs ad kS K hKO hj g hW ic (by omega)) (cwV 1 X.2.2.2.2.1 gg_X12_best_X12_bestOf rfl rfl rfl (by decide +kernel) ⟨Nat.le_of_ble_eq_true rfl, Nat.le_of_ble_eq_true rfl⟩) (by decide) hgc_5 rfl hP hA hS.2.1 hS rfl hl.1 rfl (Nat.le_of_ble_eq_true rfl) dX12_best_11 ⟨Nat.le_of_ble_eq_true rfl, Nat.le_of_ble_eq_true rfl⟩ (fun r_9 g_8 H locs hw_7 hP hS => ?_)
    obtain ⟨hw_7W, hw_7f⟩ := hw_7
    have hfr_10 : ∀ j, j ≠ 197 ∧ j ≠ 204 ∧ j ≠ 205 → g_8 j = g j := fun j hj => (hw_7f j (by omega)).trans (hfr j hj)
    refine lv_goto (tgt := 19) hx hb dX12_best_14 (by decide) ?_
    exact q_iret X hP hS ⟨hw_7W, hfr_10⟩ dX12_best_19

theorem dX12_offs_0 : decode cX12_offs 0 = .ok (.aload_n 0, 1) := by decide +kernel
theorem dX12_offs_1 : decode cX12_offs 1 = .ok (.iload_n 1, 1) := by decide +kernel
theorem dX12_offs_2 : decode cX12_offs 2 = .ok (.i2l, 1) := by decide +kernel
theorem dX12_offs_3 : decode cX12_offs 3 = .ok (.invokevirtual 221, 3) := by decide +kernel
theorem dX12_offs_6 : decode cX12_offs 6 = .ok (.ifCond .ne 6, 3) := by decide +kernel
theorem dX12_offs_9 : decode cX12_offs 9 = .ok (.bipush (-2), 2) := by decide +kernel
theorem dX12_offs_11 : decode cX12_offs 11 = .ok (.ireturn, 1) := by decide +kernel
theorem dX12_offs_12 : decode cX12_offs 12 = .ok (.aload_n 0, 1) := by decide +kernel
theorem dX12_offs_13 : decode cX12_offs 13 = .ok (.iload_n 1, 1) := by decide +kernel
theorem dX12_offs_14 : decode cX12_offs 14 = .ok (.invokevirtual 289, 3) := by decide +kernel
theorem dX12_offs_17 : decode cX12_offs 17 = .ok (.pop, 1) := by decide +kernel
theorem dX12_offs_18 : decode cX12_offs 18 = .ok (.aload_n 0, 1) := by decide +kernel
theorem dX12_offs_19 : decode cX12_offs 19 = .ok (.getfield 286, 3) := by decide +kernel
theorem dX12_offs_22 : decode cX12_offs 22 = .ok (.ireturn, 1) := by decide +kernel
noncomputable def vX12_offs : List Cond := .code yX12_offs cX12_offs 2 (some .int) :: (([.methodLink RX12 221 yX12_isIcicle, .instanceMethod yX12_isIcicle, .selects RX12 yX12_isIcicle yX12_isIcicle, .initialized RX12, .methodLink RX12 289 yX12_bestOf, .instanceMethod yX12_bestOf, .selects RX12 yX12_bestOf yX12_bestOf, .fieldLink RX12 286 "IcicleClockModel" "leastOff" "I"] : List Cond) ++ (wsX120 ++ (vX12_isIcicle ++ vX12_bestOf)))
theorem iX12_offs_12 : ∀ w ∈ wsX120, w ∈ vX12_offs := fun _ h => List.mem_cons_of_mem _ (List.mem_append_right _ (List.mem_append_left _ h))
theorem gs_X12_offs : Gd vX12_offs := Gd.cons (by decide +kernel) (Gd.app (Gd.r (by decide +kernel)) (Gd.app gwX_12 (Gd.app gs_X12_isIcicle gs_X12_bestOf)))
theorem gg_X12_offs_X12_isIcicle : GoodIn vX12_offs (wsV RX12 221 RX12 yX12_isIcicle vX12_isIcicle) := goodIn_app (goodIn_r _ [1, 2, 3, 4] (by decide +kernel) (by decide +kernel)) (fun w h => ⟨List.mem_cons_of_mem _ (List.mem_append_right _ (List.mem_append_right _ (List.mem_append_left _ h))), gs_X12_isIcicle w h⟩)
theorem gg_X12_offs_X12_bestOf : GoodIn vX12_offs (wsV RX12 289 RX12 yX12_bestOf vX12_bestOf) := goodIn_app (goodIn_r _ [5, 6, 7, 4] (by decide +kernel) (by decide +kernel)) (fun w h => ⟨List.mem_cons_of_mem _ (List.mem_append_right _ (List.mem_append_right _ (List.mem_append_right _ (h)))), gs_X12_bestOf w h⟩)
set_option maxHeartbeats 4000000 in
set_option maxRecDepth 100000 in
theorem s_X12_offs (l : Launch) (D : va_G) (cs : Nat → ClassId) (ad : Nat → Nat) (kS : kSt) (K : sK) (hKO : KO K) (hj : wJ ad 218) (g : Nat → va_E) (hW : WF (shp ad K) ad cs g) (ic : Int32) : sI l yX12_offs vX12_offs { frames := 4, cells := 0, slots := 0, locals := 90 } D cs ad kS [.ref (ad 197), .int ic] g (fun r g2 => WF (shp ad K) ad cs g2 ∧ (∀ j, j ≠ 197 ∧ j ≠ 204 ∧ j ≠ 205 → g2 j = g j)) := by
  refine Met.startS (cc := cX12_offs) (maxL := 2) (ret := (some .int)) RX12 rfl (by decide) rfl (Nat.le_of_ble_eq_true rfl) ?_
  intro p e s m below meth c ls X Z hP hl
  have hx := X.1
  have hb := X.2.1
  have hS : va_S (wA ad 218) s.heap s.heap [] := va_S.rf
  have hA : ∀ i, i < 218 → wA ad 218 (ad i) := fun i h => ⟨i, h, rfl⟩
  have hfr : ∀ j, j ≠ 197 ∧ j ≠ 204 ∧ j ≠ 205 → g j = g j := fun _ _ => rfl
  have hl : lv_has ls 2 [(0, .ref (ad 197)), (1, .int ic)] := hl
  refine lv_aload_n hx hb dX12_offs_0 rfl (lv_at hl 0 rfl) ?_
  refine lv_iload_n hx hb dX12_offs_1 rfl (lv_at hl 1 rfl) ?_
  refine lv_i2l hx hb dX12_offs_2 rfl ?_
  refine lv_topl (fun z_1 ez_1 => ?_)
  have hz_1 : z_1.toInt = ic.toInt := ez_1 ▸ j_of rfl
  have := n_hi ic
  have := n_lo ic
  obtain ⟨fsc_5, hgc_5, hOc_5⟩ := hW.obj (i := 197) (by decide) (sh_197 ad K)
  refine s_calli (q := (RX12, TX12, 40)) (As := [.long z_1]) (rest := []) X Z (s_X12_isIcicle l D cs ad kS K hKO hj g hW z_1) (cwV 1 X.2.2.2.2.1 gg_X12_offs_X12_isIcicle rfl rfl rfl (by decide +kernel) ⟨Nat.le_of_ble_eq_true rfl, Nat.le_of_ble_eq_true rfl⟩) (by decide) hgc_5 rfl hP hA hS.2.1 hS rfl hl.1 rfl (Nat.le_of_ble_eq_true rfl) dX12_offs_3 ⟨Nat.le_of_ble_eq_true rfl, Nat.le_of_ble_eq_true rfl⟩ (fun r_4 g_3 H locs hw_2 hP hS => ?_)
  obtain ⟨hw_2g, hw_2⟩ := hw_2
  rw [hw_2g] at hP
  refine lv_if_ne (tgt := 12) hx hb dX12_offs_6 (by decide) (fun hc_6 => ?_) (fun hc_6 => ?_)
  · have hhc_6 := n_ne (rfl : r_4.toInt = r_4.toInt) (by decide : (0 : Int32).toInt = 0) hc_6
    refine lv_aload_n hx hb dX12_offs_12 rfl (lv_at hl 0 rfl) ?_
    refine lv_iload_n hx hb dX12_offs_13 rfl (lv_at hl 1 rfl) ?_
    refine s_calli (q := (RX12, TX12, 40)) (As := [.int ic]) (rest := []) X Z (s_X12_bestOf l D cs ad kS K hKO hj g hW ic (by omega)) (cwV 1 X.2.2.2.2.1 gg_X12_offs_X12_bestOf rfl rfl rfl (by decide +kernel) ⟨Nat.le_of_ble_eq_true rfl, Nat.le_of_ble_eq_true rfl⟩) (by decide) hgc_5 rfl hP hA hS.2.1 hS rfl hl.1 rfl (Nat.le_of_ble_eq_true rfl) dX12_offs_14 ⟨Nat.le_of_ble_eq_true rfl, Nat.le_of_ble_eq_true rfl⟩ (fun r_9 g_8 H locs hw_7 hP hS => ?_)
    obtain ⟨hw_7W, hw_7f⟩ := hw_7
    have hfr_10 : ∀ j, j ≠ 197 ∧ j ≠ 204 ∧ j ≠ 205 → g_8 j = g j := fun j hj => (hw_7f j (by omega)).trans (hfr j hj)
    refine lv_pop hx hb dX12_offs_17 rfl ?_
    refine lv_aload_n hx hb dX12_offs_18 rfl (lv_at hl 0 rfl) ?_
    obtain ⟨fsc_11, hgc_11, hOc_11⟩ := hw_7W.obj (i := 197) (by decide) (sh_197 ad K)
    obtain ⟨x_13, hk_12, -⟩ := hOc_11.int 18 rfl
    refine q_get X iX12_offs_12 hP (by decide) hgc_11 rfl 18 (by decide) (List.mem_of_getElem? (i := 8) rfl) (v := .int x_13) hk_12 dX12_offs_19 ?_
    exact q_iret X hP hS ⟨hw_7W, hfr_10⟩ dX12_offs_22
  · have hhc_6 := n_eq (rfl : r_4.toInt = r_4.toInt) (by decide : (0 : Int32).toInt = 0) hc_6
    refine lv_bipush (v := (-2)) hx hb dX12_offs_9 (by decide) ?_
    exact q_iret X hP hS ⟨hW, hfr⟩ dX12_offs_11

theorem dX12_tells_0 : decode cX12_tells 0 = .ok (.aload_n 0, 1) := by decide +kernel
theorem dX12_tells_1 : decode cX12_tells 1 = .ok (.invokevirtual 261, 3) := by decide +kernel
theorem dX12_tells_4 : decode cX12_tells 4 = .ok (.ifCond .eq 15, 3) := by decide +kernel
theorem dX12_tells_7 : decode cX12_tells 7 = .ok (.iload_n 1, 1) := by decide +kernel
theorem dX12_tells_8 : decode cX12_tells 8 = .ok (.i2l, 1) := by decide +kernel
theorem dX12_tells_9 : decode cX12_tells 9 = .ok (.lconst 0, 1) := by decide +kernel
theorem dX12_tells_10 : decode cX12_tells 10 = .ok (.ldc2_w 292, 3) := by decide +kernel
theorem dX12_tells_13 : decode cX12_tells 13 = .ok (.invokestatic 82, 3) := by decide +kernel
theorem dX12_tells_16 : decode cX12_tells 16 = .ok (.ifCond .ne 6, 3) := by decide +kernel
theorem dX12_tells_22 : decode cX12_tells 22 = .ok (.aload_n 0, 1) := by decide +kernel
theorem dX12_tells_23 : decode cX12_tells 23 = .ok (.invokevirtual 246, 3) := by decide +kernel
theorem dX12_tells_26 : decode cX12_tells 26 = .ok (.iconst 0, 1) := by decide +kernel
theorem dX12_tells_27 : decode cX12_tells 27 = .ok (.istore_n 2, 1) := by decide +kernel
theorem dX12_tells_28 : decode cX12_tells 28 = .ok (.iconst 0, 1) := by decide +kernel
theorem dX12_tells_29 : decode cX12_tells 29 = .ok (.istore_n 3, 1) := by decide +kernel
theorem dX12_tells_30 : decode cX12_tells 30 = .ok (.iload_n 3, 1) := by decide +kernel
theorem dX12_tells_31 : decode cX12_tells 31 = .ok (.aload_n 0, 1) := by decide +kernel
theorem dX12_tells_32 : decode cX12_tells 32 = .ok (.getfield 231, 3) := by decide +kernel
theorem dX12_tells_35 : decode cX12_tells 35 = .ok (.if_icmp .ge 29, 3) := by decide +kernel
theorem dX12_tells_38 : decode cX12_tells 38 = .ok (.iload_n 2, 1) := by decide +kernel
theorem dX12_tells_39 : decode cX12_tells 39 = .ok (.aload_n 0, 1) := by decide +kernel
theorem dX12_tells_40 : decode cX12_tells 40 = .ok (.iconst (-1), 1) := by decide +kernel
theorem dX12_tells_41 : decode cX12_tells 41 = .ok (.iload_n 3, 1) := by decide +kernel
theorem dX12_tells_42 : decode cX12_tells 42 = .ok (.invokevirtual 267, 3) := by decide +kernel
theorem dX12_tells_45 : decode cX12_tells 45 = .ok (.iload_n 1, 1) := by decide +kernel
theorem dX12_tells_46 : decode cX12_tells 46 = .ok (.if_icmp .ne 9, 3) := by decide +kernel
theorem dX12_tells_49 : decode cX12_tells 49 = .ok (.iconst 1, 1) := by decide +kernel
theorem dX12_tells_50 : decode cX12_tells 50 = .ok (.iload_n 3, 1) := by decide +kernel
theorem dX12_tells_51 : decode cX12_tells 51 = .ok (.ishl, 1) := by decide +kernel
theorem dX12_tells_52 : decode cX12_tells 52 = .ok (.goto 4, 3) := by decide +kernel
theorem dX12_tells_55 : decode cX12_tells 55 = .ok (.iconst 0, 1) := by decide +kernel
theorem dX12_tells_56 : decode cX12_tells 56 = .ok (.ior, 1) := by decide +kernel
theorem dX12_tells_57 : decode cX12_tells 57 = .ok (.istore_n 2, 1) := by decide +kernel
theorem dX12_tells_58 : decode cX12_tells 58 = .ok (.iinc 3 1, 3) := by decide +kernel
theorem dX12_tells_61 : decode cX12_tells 61 = .ok (.goto (-31), 3) := by decide +kernel
theorem dX12_tells_64 : decode cX12_tells 64 = .ok (.iload_n 2, 1) := by decide +kernel
theorem dX12_tells_65 : decode cX12_tells 65 = .ok (.ireturn, 1) := by decide +kernel
theorem dX12_tells_19 : decode cX12_tells 19 = .ok (.bipush (-2), 2) := by decide +kernel
theorem dX12_tells_21 : decode cX12_tells 21 = .ok (.ireturn, 1) := by decide +kernel
noncomputable def vX12_tells : List Cond := .code yX12_tells cX12_tells 4 (some .int) :: (([.methodLink RX12 261 yX12_isStreet, .instanceMethod yX12_isStreet, .selects RX12 yX12_isStreet yX12_isStreet, .initialized RX12, .constantLong RX12 292 (23), .methodLink RX12 82 yX12_in, .static yX12_in, .methodLink RX12 246 yX12_layAll, .instanceMethod yX12_layAll, .selects RX12 yX12_layAll yX12_layAll, .fieldLink RX12 231 "IcicleClockModel" "days" "I", .methodLink RX12 267 yX12_timeOf, .instanceMethod yX12_timeOf, .selects RX12 yX12_timeOf yX12_timeOf] : List Cond) ++ (wsX120 ++ (vX12_isStreet ++ (vX12_in ++ (vX12_layAll ++ vX12_timeOf)))))
theorem iX12_tells_12 : ∀ w ∈ wsX120, w ∈ vX12_tells := fun _ h => List.mem_cons_of_mem _ (List.mem_append_right _ (List.mem_append_left _ h))
theorem gs_X12_tells : Gd vX12_tells := Gd.cons (by decide +kernel) (Gd.app (Gd.r (by decide +kernel)) (Gd.app gwX_12 (Gd.app gs_X12_isStreet (Gd.app gs_X12_in (Gd.app gs_X12_layAll gs_X12_timeOf)))))
theorem gg_X12_tells_X12_isStreet : GoodIn vX12_tells (wsV RX12 261 RX12 yX12_isStreet vX12_isStreet) := goodIn_app (goodIn_r _ [1, 2, 3, 4] (by decide +kernel) (by decide +kernel)) (fun w h => ⟨List.mem_cons_of_mem _ (List.mem_append_right _ (List.mem_append_right _ (List.mem_append_left _ h))), gs_X12_isStreet w h⟩)
theorem gg_X12_tells_X12_in : GoodIn vX12_tells (wsS RX12 82 yX12_in vX12_in) := goodIn_app (goodIn_r _ [6, 7, 4] (by decide +kernel) (by decide +kernel)) (fun w h => ⟨List.mem_cons_of_mem _ (List.mem_append_right _ (List.mem_append_right _ (List.mem_append_right _ (List.mem_append_left _ h)))), gs_X12_in w h⟩)
theorem gg_X12_tells_X12_layAll : GoodIn vX12_tells (wsV RX12 246 RX12 yX12_layAll vX12_layAll) := goodIn_app (goodIn_r _ [8, 9, 10, 4] (by decide +kernel) (by decide +kernel)) (fun w h => ⟨List.mem_cons_of_mem _ (List.mem_append_right _ (List.mem_append_right _ (List.mem_append_right _ (List.mem_append_right _ (List.mem_append_left _ h))))), gs_X12_layAll w h⟩)
theorem gg_X12_tells_X12_timeOf : GoodIn vX12_tells (wsV RX12 267 RX12 yX12_timeOf vX12_timeOf) := goodIn_app (goodIn_r _ [12, 13, 14, 4] (by decide +kernel) (by decide +kernel)) (fun w h => ⟨List.mem_cons_of_mem _ (List.mem_append_right _ (List.mem_append_right _ (List.mem_append_right _ (List.mem_append_right _ (List.mem_append_right _ (h)))))), gs_X12_timeOf w h⟩)
set_option maxHeartbeats 4000000 in
set_option maxRecDepth 100000 in
theorem s_X12_tells (l : Launch) (D : va_G) (cs : Nat → ClassId) (ad : Nat → Nat) (kS : kSt) (K : sK) (hKO : KO K) (hj : wJ ad 218) (g : Nat → va_E) (hW : WF (shp ad K) ad cs g) (hr : Int32) : sI l yX12_tells vX12_tells { frames := 3, cells := 0, slots := 0, locals := 65 } D cs ad kS [.ref (ad 197), .int hr] g (fun r g2 => WF (shp ad K) ad cs g2 ∧ (∀ j, j ≠ 197 ∧ j ≠ 204 ∧ j ≠ 205 → g2 j = g j)) := by
  refine Met.startS (cc := cX12_tells) (maxL := 4) (ret := (some .int)) RX12 rfl (by decide) rfl (Nat.le_of_ble_eq_true rfl) ?_
  intro p e s m below meth c ls X Z hP hl
  have hx := X.1
  have hb := X.2.1
  have hS : va_S (wA ad 218) s.heap s.heap [] := va_S.rf
  have hA : ∀ i, i < 218 → wA ad 218 (ad i) := fun i h => ⟨i, h, rfl⟩
  have hfr : ∀ j, j ≠ 197 ∧ j ≠ 204 ∧ j ≠ 205 → g j = g j := fun _ _ => rfl
  have hl : lv_has ls 4 [(0, .ref (ad 197)), (1, .int hr)] := hl
  refine lv_aload_n hx hb dX12_tells_0 rfl (lv_at hl 0 rfl) ?_
  obtain ⟨fsc_4, hgc_4, hOc_4⟩ := hW.obj (i := 197) (by decide) (sh_197 ad K)
  refine s_calli (q := (RX12, TX12, 40)) (As := []) (rest := []) X Z (s_X12_isStreet l D cs ad kS K hKO hj g hW) (cwV 0 X.2.2.2.2.1 gg_X12_tells_X12_isStreet rfl rfl rfl (by decide +kernel) ⟨Nat.le_of_ble_eq_true rfl, Nat.le_of_ble_eq_true rfl⟩) (by decide) hgc_4 rfl hP hA hS.2.1 hS rfl hl.1 rfl (Nat.le_of_ble_eq_true rfl) dX12_tells_1 ⟨Nat.le_of_ble_eq_true rfl, Nat.le_of_ble_eq_true rfl⟩ (fun r_3 g_2 H locs hw_1 hP hS => ?_)
  obtain ⟨hw_1g, hw_1⟩ := hw_1
  rw [hw_1g] at hP
  have HJ19 : ∀ (G19 : Nat → va_E) (H : Heap) (locs : List Loc) (ls : Array Slot), WF (shp ad K) ad cs G19 → (∀ j, j ≠ 197 ∧ j ≠ 204 ∧ j ≠ 205 → G19 j = g j) → G19 197 = .inr (12, fsc_4) → va_P D vwCl (wL ad G19 218) H → va_S (wA ad 218) s.heap H locs → lv_has ls 4 [] → W p l e ({ frames := 3, cells := 0, slots := 0, locals := 65 } : Room) s m ([.ref (ad 197), .int hr] : List Value).toArray below meth c H locs 0 0 (MQ below (qI D ad 218 (fun r g2 => WF (shp ad K) ad cs g2 ∧ (∀ j, j ≠ 197 ∧ j ≠ 204 ∧ j ≠ 205 → g2 j = g j))) ([.ref (ad 197), .int hr] : List Value).toArray s 0 0 (wA ad 218)) (F0 m 19 ls []) := by
    intro G19 H locs ls hW19 hfr19 hg19_0 hP hS hl
    refine lv_bipush (v := (-2)) hx hb dX12_tells_19 (by decide) ?_
    exact q_iret X hP hS ⟨hW19, hfr19⟩ dX12_tells_21
  refine lv_if_eq (tgt := 19) hx hb dX12_tells_4 (by decide) (fun hc_5 => ?_) (fun hc_5 => ?_)
  · have hhc_5 := n_eq (rfl : r_3.toInt = r_3.toInt) (by decide : (0 : Int32).toInt = 0) hc_5
    exact HJ19 g _ _ ls hW hfr hgc_4 hP hS (lv_sub hl [] rfl)
  · have hhc_5 := n_ne (rfl : r_3.toInt = r_3.toInt) (by decide : (0 : Int32).toInt = 0) hc_5
    refine lv_iload_n hx hb dX12_tells_7 rfl (lv_at hl 1 rfl) ?_
    refine lv_i2l hx hb dX12_tells_8 rfl ?_
    refine lv_topl (fun z_6 ez_6 => ?_)
    have hz_6 : z_6.toInt = hr.toInt := ez_6 ▸ j_of rfl
    have := n_hi hr
    have := n_lo hr
    refine lv_lconst (v := 0) hx hb dX12_tells_9 (by decide) ?_
    refine lv_ldc2 (v := 23) hx hb X.2.2.2.2.2.1 (X.2.2.2.2.1 _ (List.mem_of_getElem? (i := 5) rfl)) dX12_tells_10 ?_
    refine s_callSi (As := [.long z_6, .long 0, .long 23]) (rest := []) X Z (s_X12_in l D cs ad kS K hKO hj g hW z_6 0 23) (cwS 3 X.2.2.2.2.1 gg_X12_tells_X12_in rfl rfl rfl (by decide +kernel) ⟨Nat.le_of_ble_eq_true rfl, Nat.le_of_ble_eq_true rfl⟩) hP hA hS.2.1 hS rfl hl.1 rfl (Nat.le_of_ble_eq_true rfl) dX12_tells_13 ⟨Nat.le_of_ble_eq_true rfl, Nat.le_of_ble_eq_true rfl⟩ (fun r_9 g_8 H locs hw_7 hP hS => ?_)
    obtain ⟨hw_7g, hw_7⟩ := hw_7
    rw [hw_7g] at hP
    have hqk_10 : (0 : Int64).toInt = 0 := by decide
    have hqk_11 : (23 : Int64).toInt = 23 := by decide
    refine lv_if_ne (tgt := 22) hx hb dX12_tells_16 (by decide) (fun hc_12 => ?_) (fun hc_12 => ?_)
    · have hhc_12 := n_ne (rfl : r_9.toInt = r_9.toInt) (by decide : (0 : Int32).toInt = 0) hc_12
      refine lv_aload_n hx hb dX12_tells_22 rfl (lv_at hl 0 rfl) ?_
      refine s_callv (q := (RX12, TX12, 40)) (As := []) (rest := []) X Z (s_X12_layAll l D cs ad kS K hKO hj g hW) (cwV 0 X.2.2.2.2.1 gg_X12_tells_X12_layAll rfl rfl rfl (by decide +kernel) ⟨Nat.le_of_ble_eq_true rfl, Nat.le_of_ble_eq_true rfl⟩) (by decide) hgc_4 rfl hP hA hS.2.1 hS rfl hl.1 rfl (Nat.le_of_ble_eq_true rfl) dX12_tells_23 ⟨Nat.le_of_ble_eq_true rfl, Nat.le_of_ble_eq_true rfl⟩ (fun g_14 H locs hw_13 hP hS => ?_)
      obtain ⟨hw_13W, hw_13f⟩ := hw_13
      have hfr_16 : ∀ j, j ≠ 197 ∧ j ≠ 204 ∧ j ≠ 205 → g_14 j = g j := fun j hj => (hw_13f j (by omega)).trans (hfr j hj)
      refine lv_iconst (v := 0) hx hb dX12_tells_26 (by decide) ?_
      refine lv_istore_n (lv' := [(2, .int 0), (0, .ref (ad 197)), (1, .int hr)]) hx hb dX12_tells_27 rfl hl (by decide) rfl (fun ls hl => ?_)
      refine lv_iconst (v := 0) hx hb dX12_tells_28 (by decide) ?_
      refine lv_istore_n (lv' := [(3, .int 0), (2, .int 0), (0, .ref (ad 197)), (1, .int hr)]) hx hb dX12_tells_29 rfl hl (by decide) rfl (fun ls hl => ?_)
      have HL30 : ∀ (n30 : Nat) (v30_3 : Int32) (v30_2 : Int32) (G30 : Nat → va_E) (H : Heap) (locs : List Loc) (ls : Array Slot), (14 - v30_3.toInt).toNat < n30 → (0 ≤ v30_3.toInt ∧ v30_3.toInt ≤ 14) → WF (shp ad K) ad cs G30 → (∀ j, j ≠ 197 ∧ j ≠ 204 ∧ j ≠ 205 → G30 j = g j) → va_P D vwCl (wL ad G30 218) H → va_S (wA ad 218) s.heap H locs → lv_has ls 4 [(3, .int v30_3), (2, .int v30_2), (0, .ref (ad 197)), (1, .int hr)] → W p l e ({ frames := 3, cells := 0, slots := 0, locals := 65 } : Room) s m ([.ref (ad 197), .int hr] : List Value).toArray below meth c H locs 0 0 (MQ below (qI D ad 218 (fun r g2 => WF (shp ad K) ad cs g2 ∧ (∀ j, j ≠ 197 ∧ j ≠ 204 ∧ j ≠ 205 → g2 j = g j))) ([.ref (ad 197), .int hr] : List Value).toArray s 0 0 (wA ad 218)) (F0 m 30 ls []) := by
        intro n30
        induction n30 with
        | zero =>
          intro v30_3 v30_2 G30 H locs ls hm30 hv30_0 hW30 hfr30 hP hS hl
          exact absurd hm30 (Nat.not_lt_zero _)
        | succ n30 ih30 =>
          intro v30_3 v30_2 G30 H locs ls hm30 hv30_0 hW30 hfr30 hP hS hl
          refine lv_iload_n hx hb dX12_tells_30 rfl (lv_at hl 0 rfl) ?_
          refine lv_aload_n hx hb dX12_tells_31 rfl (lv_at hl 2 rfl) ?_
          obtain ⟨fsc_17, hgc_17, hOc_17⟩ := hW30.obj (i := 197) (by decide) (sh_197 ad K)
          obtain ⟨x_19, hk_18, hlx_19, hhx_19⟩ := hOc_17.int 17 rfl
          refine q_get X iX12_tells_12 hP (by decide) hgc_17 rfl 17 (by decide) (List.mem_of_getElem? (i := 11) rfl) (v := .int x_19) hk_18 dX12_tells_32 ?_
          refine lv_icmp_ge (tgt := 64) hx hb dX12_tells_35 (by decide) (fun hc_20 => ?_) (fun hc_20 => ?_)
          · have hhc_20 := n_le (rfl : x_19.toInt = x_19.toInt) (rfl : v30_3.toInt = v30_3.toInt) hc_20
            refine lv_iload_n hx hb dX12_tells_64 rfl (lv_at hl 1 rfl) ?_
            exact q_iret X hP hS ⟨hW30, hfr30⟩ dX12_tells_65
          · have hhc_20 := n_nle (rfl : x_19.toInt = x_19.toInt) (rfl : v30_3.toInt = v30_3.toInt) hc_20
            refine lv_iload_n hx hb dX12_tells_38 rfl (lv_at hl 1 rfl) ?_
            refine lv_aload_n hx hb dX12_tells_39 rfl (lv_at hl 2 rfl) ?_
            refine lv_iconst (v := (-1)) hx hb dX12_tells_40 (by decide) ?_
            refine lv_iload_n hx hb dX12_tells_41 rfl (lv_at hl 0 rfl) ?_
            refine s_calli (q := (RX12, TX12, 40)) (As := [.int (-1), .int v30_3]) (rest := [.int v30_2]) X Z (s_X12_timeOf l D cs ad kS K hKO hj G30 hW30 (-1) v30_3) (cwV 2 X.2.2.2.2.1 gg_X12_tells_X12_timeOf rfl rfl rfl (by decide +kernel) ⟨Nat.le_of_ble_eq_true rfl, Nat.le_of_ble_eq_true rfl⟩) (by decide) hgc_17 rfl hP hA hS.2.1 hS rfl hl.1 rfl (Nat.le_of_ble_eq_true rfl) dX12_tells_42 ⟨Nat.le_of_ble_eq_true rfl, Nat.le_of_ble_eq_true rfl⟩ (fun r_23 g_22 H locs hw_21 hP hS => ?_)
            rw [hw_21] at hP
            refine lv_iload_n hx hb dX12_tells_45 rfl (lv_at hl 3 rfl) ?_
            refine lv_icmp_ne (tgt := 55) hx hb dX12_tells_46 (by decide) (fun hc_24 => ?_) (fun hc_24 => ?_)
            · have hhc_24 := n_ne (rfl : r_23.toInt = r_23.toInt) (rfl : hr.toInt = hr.toInt) hc_24
              refine lv_iconst (v := 0) hx hb dX12_tells_55 (by decide) ?_
              refine lv_ior hx hb dX12_tells_56 ?_
              refine lv_topi (fun z_25 ez_25 => ?_)
              refine lv_istore_n (lv' := [(2, .int z_25), (3, .int v30_3), (0, .ref (ad 197)), (1, .int hr)]) hx hb dX12_tells_57 rfl hl (by decide) rfl (fun ls hl => ?_)
              obtain ⟨x_26, ex_26⟩ : ∃ y : Int32, y = v30_3 + 1 := ⟨_, rfl⟩
              have hx_26 : x_26.toInt = v30_3.toInt + 1 := n_add rfl (by decide : (1 : Int32).toInt = 1) ex_26 (by omega) (by omega)
              refine lv_iinc (v := x_26) (lv' := [(3, .int x_26), (2, .int z_25), (0, .ref (ad 197)), (1, .int hr)]) hx hb dX12_tells_58 hl (k := 1) rfl (by rw [ex_26]; rfl) (by decide) rfl (fun ls hl => ?_)
              refine lv_goto (tgt := 30) hx hb dX12_tells_61 (by decide) ?_
              exact ih30 x_26 z_25 G30 _ _ ls (by omega) (by omega) hW30 hfr30 hP hS (lv_sub hl [0, 1, 2, 3] rfl)
            · have hhc_24 := n_eq (rfl : r_23.toInt = r_23.toInt) (rfl : hr.toInt = hr.toInt) hc_24
              refine lv_iconst (v := 1) hx hb dX12_tells_49 (by decide) ?_
              refine lv_iload_n hx hb dX12_tells_50 rfl (lv_at hl 0 rfl) ?_
              refine lv_ishl hx hb dX12_tells_51 ?_
              refine lv_topi (fun z_27 ez_27 => ?_)
              refine lv_goto (tgt := 56) hx hb dX12_tells_52 (by decide) ?_
              refine lv_ior hx hb dX12_tells_56 ?_
              refine lv_topi (fun z_28 ez_28 => ?_)
              refine lv_istore_n (lv' := [(2, .int z_28), (3, .int v30_3), (0, .ref (ad 197)), (1, .int hr)]) hx hb dX12_tells_57 rfl hl (by decide) rfl (fun ls hl => ?_)
              obtain ⟨x_29, ex_29⟩ : ∃ y : Int32, y = v30_3 + 1 := ⟨_, rfl⟩
              have hx_29 : x_29.toInt = v30_3.toInt + 1 := n_add rfl (by decide : (1 : Int32).toInt = 1) ex_29 (by omega) (by omega)
              refine lv_iinc (v := x_29) (lv' := [(3, .int x_29), (2, .int z_28), (0, .ref (ad 197)), (1, .int hr)]) hx hb dX12_tells_58 hl (k := 1) rfl (by rw [ex_29]; rfl) (by decide) rfl (fun ls hl => ?_)
              refine lv_goto (tgt := 30) hx hb dX12_tells_61 (by decide) ?_
              exact ih30 x_29 z_28 G30 _ _ ls (by omega) (by omega) hW30 hfr30 hP hS (lv_sub hl [0, 1, 2, 3] rfl)
      have hiv30_3 : (0 : Int32).toInt = 0 := by decide
      have hiv30_2 : (0 : Int32).toInt = 0 := by decide
      exact HL30 _ 0 0 g_14 _ _ ls (Nat.lt_succ_self _) (by omega) hw_13W hfr_16 hP hS (lv_sub hl [0, 1, 2, 3] rfl)
    · have hhc_12 := n_eq (rfl : r_9.toInt = r_9.toInt) (by decide : (0 : Int32).toInt = 0) hc_12
      exact HJ19 g _ _ ls hW hfr hgc_4 hP hS (lv_sub hl [] rfl)

theorem dX12_dropsAt_0 : decode cX12_dropsAt 0 = .ok (.iconst 0, 1) := by decide +kernel
theorem dX12_dropsAt_1 : decode cX12_dropsAt 1 = .ok (.istore_n 3, 1) := by decide +kernel
theorem dX12_dropsAt_2 : decode cX12_dropsAt 2 = .ok (.iconst 0, 1) := by decide +kernel
theorem dX12_dropsAt_3 : decode cX12_dropsAt 3 = .ok (.istore 4, 2) := by decide +kernel
theorem dX12_dropsAt_5 : decode cX12_dropsAt 5 = .ok (.iload 4, 2) := by decide +kernel
theorem dX12_dropsAt_7 : decode cX12_dropsAt 7 = .ok (.aload_n 0, 1) := by decide +kernel
theorem dX12_dropsAt_8 : decode cX12_dropsAt 8 = .ok (.getfield 9, 3) := by decide +kernel
theorem dX12_dropsAt_11 : decode cX12_dropsAt 11 = .ok (.iconst 5, 1) := by decide +kernel
theorem dX12_dropsAt_12 : decode cX12_dropsAt 12 = .ok (.iaload, 1) := by decide +kernel
theorem dX12_dropsAt_13 : decode cX12_dropsAt 13 = .ok (.if_icmp .ge 39, 3) := by decide +kernel
theorem dX12_dropsAt_16 : decode cX12_dropsAt 16 = .ok (.iload_n 3, 1) := by decide +kernel
theorem dX12_dropsAt_17 : decode cX12_dropsAt 17 = .ok (.aload_n 0, 1) := by decide +kernel
theorem dX12_dropsAt_18 : decode cX12_dropsAt 18 = .ok (.iload 4, 2) := by decide +kernel
theorem dX12_dropsAt_20 : decode cX12_dropsAt 20 = .ok (.iconst 0, 1) := by decide +kernel
theorem dX12_dropsAt_21 : decode cX12_dropsAt 21 = .ok (.invokevirtual 225, 3) := by decide +kernel
theorem dX12_dropsAt_24 : decode cX12_dropsAt 24 = .ok (.iload_n 1, 1) := by decide +kernel
theorem dX12_dropsAt_25 : decode cX12_dropsAt 25 = .ok (.if_icmp .ne 18, 3) := by decide +kernel
theorem dX12_dropsAt_28 : decode cX12_dropsAt 28 = .ok (.aload_n 0, 1) := by decide +kernel
theorem dX12_dropsAt_29 : decode cX12_dropsAt 29 = .ok (.getfield 37, 3) := by decide +kernel
theorem dX12_dropsAt_32 : decode cX12_dropsAt 32 = .ok (.iload 4, 2) := by decide +kernel
theorem dX12_dropsAt_34 : decode cX12_dropsAt 34 = .ok (.iaload, 1) := by decide +kernel
theorem dX12_dropsAt_35 : decode cX12_dropsAt 35 = .ok (.iload_n 2, 1) := by decide +kernel
theorem dX12_dropsAt_36 : decode cX12_dropsAt 36 = .ok (.if_icmp .ne 7, 3) := by decide +kernel
theorem dX12_dropsAt_39 : decode cX12_dropsAt 39 = .ok (.iconst 1, 1) := by decide +kernel
theorem dX12_dropsAt_40 : decode cX12_dropsAt 40 = .ok (.goto 4, 3) := by decide +kernel
theorem dX12_dropsAt_43 : decode cX12_dropsAt 43 = .ok (.iconst 0, 1) := by decide +kernel
theorem dX12_dropsAt_44 : decode cX12_dropsAt 44 = .ok (.iadd, 1) := by decide +kernel
theorem dX12_dropsAt_45 : decode cX12_dropsAt 45 = .ok (.istore_n 3, 1) := by decide +kernel
theorem dX12_dropsAt_46 : decode cX12_dropsAt 46 = .ok (.iinc 4 1, 3) := by decide +kernel
theorem dX12_dropsAt_49 : decode cX12_dropsAt 49 = .ok (.goto (-44), 3) := by decide +kernel
theorem dX12_dropsAt_52 : decode cX12_dropsAt 52 = .ok (.iload_n 3, 1) := by decide +kernel
theorem dX12_dropsAt_53 : decode cX12_dropsAt 53 = .ok (.ireturn, 1) := by decide +kernel
noncomputable def vX12_dropsAt : List Cond := .code yX12_dropsAt cX12_dropsAt 5 (some .int) :: (([.fieldLink RX12 9 "IcicleClockModel" "world" "[I", .methodLink RX12 225 yX12_of, .instanceMethod yX12_of, .selects RX12 yX12_of yX12_of, .initialized RX12, .fieldLink RX12 37 "IcicleClockModel" "fell" "[I"] : List Cond) ++ (wsX120 ++ vX12_of))
theorem iX12_dropsAt_12 : ∀ w ∈ wsX120, w ∈ vX12_dropsAt := fun _ h => List.mem_cons_of_mem _ (List.mem_append_right _ (List.mem_append_left _ h))
theorem gs_X12_dropsAt : Gd vX12_dropsAt := Gd.cons (by decide +kernel) (Gd.app (Gd.r (by decide +kernel)) (Gd.app gwX_12 gs_X12_of))
theorem gg_X12_dropsAt_X12_of : GoodIn vX12_dropsAt (wsV RX12 225 RX12 yX12_of vX12_of) := goodIn_app (goodIn_r _ [2, 3, 4, 5] (by decide +kernel) (by decide +kernel)) (fun w h => ⟨List.mem_cons_of_mem _ (List.mem_append_right _ (List.mem_append_right _ (h))), gs_X12_of w h⟩)
set_option maxHeartbeats 4000000 in
set_option maxRecDepth 100000 in
theorem s_X12_dropsAt (l : Launch) (D : va_G) (cs : Nat → ClassId) (ad : Nat → Nat) (kS : kSt) (K : sK) (hKO : KO K) (hj : wJ ad 218) (g : Nat → va_E) (hW : WF (shp ad K) ad cs g) (ev : Int32) (dy : Int32) : sI l yX12_dropsAt vX12_dropsAt { frames := 1, cells := 0, slots := 0, locals := 22 } D cs ad kS [.ref (ad 197), .int ev, .int dy] g (fun r g2 => g2 = g ∧ (0 ≤ r.toInt ∧ r.toInt ≤ 8)) := by
  refine Met.startS (cc := cX12_dropsAt) (maxL := 5) (ret := (some .int)) RX12 rfl (by decide) rfl (Nat.le_of_ble_eq_true rfl) ?_
  intro p e s m below meth c ls X Z hP hl
  have hx := X.1
  have hb := X.2.1
  have hS : va_S (wA ad 218) s.heap s.heap [] := va_S.rf
  have hA : ∀ i, i < 218 → wA ad 218 (ad i) := fun i h => ⟨i, h, rfl⟩
  have hl : lv_has ls 5 [(0, .ref (ad 197)), (1, .int ev), (2, .int dy)] := hl
  refine lv_iconst (v := 0) hx hb dX12_dropsAt_0 (by decide) ?_
  refine lv_istore_n (lv' := [(3, .int 0), (0, .ref (ad 197)), (1, .int ev), (2, .int dy)]) hx hb dX12_dropsAt_1 rfl hl (by decide) rfl (fun ls hl => ?_)
  refine lv_iconst (v := 0) hx hb dX12_dropsAt_2 (by decide) ?_
  refine lv_istore (lv' := [(4, .int 0), (3, .int 0), (0, .ref (ad 197)), (1, .int ev), (2, .int dy)]) hx hb dX12_dropsAt_3 hl (by decide) rfl (fun ls hl => ?_)
  have HL5 : ∀ (n5 : Nat) (v5_4 : Int32) (v5_3 : Int32) (H : Heap) (locs : List Loc) (ls : Array Slot), (8 - v5_4.toInt).toNat < n5 → (0 ≤ v5_4.toInt ∧ v5_4.toInt ≤ 8) → (0 ≤ v5_3.toInt ∧ v5_3.toInt ≤ 8) → v5_3.toInt ≤ v5_4.toInt → va_P D vwCl (wL ad g 218) H → va_S (wA ad 218) s.heap H locs → lv_has ls 5 [(4, .int v5_4), (3, .int v5_3), (0, .ref (ad 197)), (1, .int ev), (2, .int dy)] → W p l e ({ frames := 1, cells := 0, slots := 0, locals := 22 } : Room) s m ([.ref (ad 197), .int ev, .int dy] : List Value).toArray below meth c H locs 0 0 (MQ below (qI D ad 218 (fun r g2 => g2 = g ∧ (0 ≤ r.toInt ∧ r.toInt ≤ 8))) ([.ref (ad 197), .int ev, .int dy] : List Value).toArray s 0 0 (wA ad 218)) (F0 m 5 ls []) := by
    intro n5
    induction n5 with
    | zero =>
      intro v5_4 v5_3 H locs ls hm5 hv5_0 hv5_1 he5_0 hP hS hl
      exact absurd hm5 (Nat.not_lt_zero _)
    | succ n5 ih5 =>
      intro v5_4 v5_3 H locs ls hm5 hv5_0 hv5_1 he5_0 hP hS hl
      refine lv_iload hx hb dX12_dropsAt_5 (lv_at hl 0 rfl) ?_
      refine lv_aload_n hx hb dX12_dropsAt_7 rfl (lv_at hl 2 rfl) ?_
      obtain ⟨fsc_1, hgc_1, hOc_1⟩ := hW.obj (i := 197) (by decide) (sh_197 ad K)
      have hk_2 := hOc_1.ref 1 rfl
      refine q_get X iX12_dropsAt_12 hP (by decide) hgc_1 rfl 1 (by decide) (List.mem_of_getElem? (i := 1) rfl) (v := .ref (ad 198)) hk_2 dX12_dropsAt_8 ?_
      refine lv_iconst (v := 5) hx hb dX12_dropsAt_11 (by decide) ?_
      obtain ⟨fc_3, hgc_3, hFc_3⟩ := hW.arr (i := 198) (by decide) (sh_198 ad K)
      refine q_iald X hP (by decide) hgc_3 (by unfold vp_in; decide) dX12_dropsAt_12 ?_
      refine lv_topi (fun z_4 ez_4 => ?_)
      have hqz_4 : wq (5) z_4.toInt := ez_4 ▸ hFc_3 _
      have hz_4 : 0 ≤ z_4.toInt ∧ z_4.toInt ≤ 8 := by unfold wq at hqz_4; omega
      clear hqz_4
      refine lv_icmp_ge (tgt := 52) hx hb dX12_dropsAt_13 (by decide) (fun hc_5 => ?_) (fun hc_5 => ?_)
      · have hhc_5 := n_le (rfl : z_4.toInt = z_4.toInt) (rfl : v5_4.toInt = v5_4.toInt) hc_5
        refine lv_iload_n hx hb dX12_dropsAt_52 rfl (lv_at hl 1 rfl) ?_
        exact q_iret X hP hS ⟨rfl, (by omega)⟩ dX12_dropsAt_53
      · have hhc_5 := n_nle (rfl : z_4.toInt = z_4.toInt) (rfl : v5_4.toInt = v5_4.toInt) hc_5
        refine lv_iload_n hx hb dX12_dropsAt_16 rfl (lv_at hl 1 rfl) ?_
        refine lv_aload_n hx hb dX12_dropsAt_17 rfl (lv_at hl 2 rfl) ?_
        refine lv_iload hx hb dX12_dropsAt_18 (lv_at hl 0 rfl) ?_
        refine lv_iconst (v := 0) hx hb dX12_dropsAt_20 (by decide) ?_
        have hqk_6 : (0 : Int32).toInt = 0 := by decide
        refine s_calli (q := (RX12, TX12, 40)) (As := [.int v5_4, .int 0]) (rest := [.int v5_3]) X Z (s_X12_of l D cs ad kS K hKO hj g hW v5_4 0 (by omega) (by omega)) (cwV 2 X.2.2.2.2.1 gg_X12_dropsAt_X12_of rfl rfl rfl (by decide +kernel) ⟨Nat.le_of_ble_eq_true rfl, Nat.le_of_ble_eq_true rfl⟩) (by decide) hgc_1 rfl hP hA hS.2.1 hS rfl hl.1 rfl (Nat.le_of_ble_eq_true rfl) dX12_dropsAt_21 ⟨Nat.le_of_ble_eq_true rfl, Nat.le_of_ble_eq_true rfl⟩ (fun r_9 g_8 H locs hw_7 hP hS => ?_)
        obtain ⟨hw_7g, hw_7⟩ := hw_7
        rw [hw_7g] at hP
        have hqk_10 : (0 : Int32).toInt = 0 := by decide
        refine lv_iload_n hx hb dX12_dropsAt_24 rfl (lv_at hl 3 rfl) ?_
        refine lv_icmp_ne (tgt := 43) hx hb dX12_dropsAt_25 (by decide) (fun hc_11 => ?_) (fun hc_11 => ?_)
        · have hhc_11 := n_ne (rfl : r_9.toInt = r_9.toInt) (rfl : ev.toInt = ev.toInt) hc_11
          refine lv_iconst (v := 0) hx hb dX12_dropsAt_43 (by decide) ?_
          refine lv_iadd hx hb dX12_dropsAt_44 ?_
          refine lv_topi (fun z_12 ez_12 => ?_)
          have hz_12 : z_12.toInt = v5_3.toInt + 0 := n_add (rfl : v5_3.toInt = v5_3.toInt) (by decide : (0 : Int32).toInt = 0) ez_12 (by omega) (by omega)
          refine lv_istore_n (lv' := [(3, .int z_12), (4, .int v5_4), (0, .ref (ad 197)), (1, .int ev), (2, .int dy)]) hx hb dX12_dropsAt_45 rfl hl (by decide) rfl (fun ls hl => ?_)
          obtain ⟨x_13, ex_13⟩ : ∃ y : Int32, y = v5_4 + 1 := ⟨_, rfl⟩
          have hx_13 : x_13.toInt = v5_4.toInt + 1 := n_add rfl (by decide : (1 : Int32).toInt = 1) ex_13 (by omega) (by omega)
          refine lv_iinc (v := x_13) (lv' := [(4, .int x_13), (3, .int z_12), (0, .ref (ad 197)), (1, .int ev), (2, .int dy)]) hx hb dX12_dropsAt_46 hl (k := 1) rfl (by rw [ex_13]; rfl) (by decide) rfl (fun ls hl => ?_)
          refine lv_goto (tgt := 5) hx hb dX12_dropsAt_49 (by decide) ?_
          exact ih5 x_13 z_12 _ _ ls (by omega) (by omega) (by omega) (by omega) hP hS (lv_sub hl [0, 1, 2, 3, 4] rfl)
        · have hhc_11 := n_eq (rfl : r_9.toInt = r_9.toInt) (rfl : ev.toInt = ev.toInt) hc_11
          refine lv_aload_n hx hb dX12_dropsAt_28 rfl (lv_at hl 2 rfl) ?_
          have hk_14 := hOc_1.ref 16 rfl
          refine q_get X iX12_dropsAt_12 hP (by decide) hgc_1 rfl 16 (by decide) (List.mem_of_getElem? (i := 6) rfl) (v := .ref (ad 205)) hk_14 dX12_dropsAt_29 ?_
          refine lv_iload hx hb dX12_dropsAt_32 (lv_at hl 0 rfl) ?_
          obtain ⟨fc_15, hgc_15, hFc_15⟩ := hW.arr (i := 205) (by decide) (sh_205 ad K)
          refine q_iald X hP (by decide) hgc_15 (n_in (rfl : v5_4.toInt = v5_4.toInt) (by omega) (by omega)) dX12_dropsAt_34 ?_
          refine lv_topi (fun z_16 ez_16 => ?_)
          have hz_16 : (-1) ≤ z_16.toInt ∧ z_16.toInt ≤ 13 := ez_16 ▸ hFc_15 _
          refine lv_iload_n hx hb dX12_dropsAt_35 rfl (lv_at hl 4 rfl) ?_
          refine lv_icmp_ne (tgt := 43) hx hb dX12_dropsAt_36 (by decide) (fun hc_17 => ?_) (fun hc_17 => ?_)
          · have hhc_17 := n_ne (rfl : z_16.toInt = z_16.toInt) (rfl : dy.toInt = dy.toInt) hc_17
            refine lv_iconst (v := 0) hx hb dX12_dropsAt_43 (by decide) ?_
            refine lv_iadd hx hb dX12_dropsAt_44 ?_
            refine lv_topi (fun z_18 ez_18 => ?_)
            have hz_18 : z_18.toInt = v5_3.toInt + 0 := n_add (rfl : v5_3.toInt = v5_3.toInt) (by decide : (0 : Int32).toInt = 0) ez_18 (by omega) (by omega)
            refine lv_istore_n (lv' := [(3, .int z_18), (4, .int v5_4), (0, .ref (ad 197)), (1, .int ev), (2, .int dy)]) hx hb dX12_dropsAt_45 rfl hl (by decide) rfl (fun ls hl => ?_)
            obtain ⟨x_19, ex_19⟩ : ∃ y : Int32, y = v5_4 + 1 := ⟨_, rfl⟩
            have hx_19 : x_19.toInt = v5_4.toInt + 1 := n_add rfl (by decide : (1 : Int32).toInt = 1) ex_19 (by omega) (by omega)
            refine lv_iinc (v := x_19) (lv' := [(4, .int x_19), (3, .int z_18), (0, .ref (ad 197)), (1, .int ev), (2, .int dy)]) hx hb dX12_dropsAt_46 hl (k := 1) rfl (by rw [ex_19]; rfl) (by decide) rfl (fun ls hl => ?_)
            refine lv_goto (tgt := 5) hx hb dX12_dropsAt_49 (by decide) ?_
            exact ih5 x_19 z_18 _ _ ls (by omega) (by omega) (by omega) (by omega) hP hS (lv_sub hl [0, 1, 2, 3, 4] rfl)
          · have hhc_17 := n_eq (rfl : z_16.toInt = z_16.toInt) (rfl : dy.toInt = dy.toInt) hc_17
            refine lv_iconst (v := 1) hx hb dX12_dropsAt_39 (by decide) ?_
            refine lv_goto (tgt := 44) hx hb dX12_dropsAt_40 (by decide) ?_
            refine lv_iadd hx hb dX12_dropsAt_44 ?_
            refine lv_topi (fun z_20 ez_20 => ?_)
            have hz_20 : z_20.toInt = v5_3.toInt + 1 := n_add (rfl : v5_3.toInt = v5_3.toInt) (by decide : (1 : Int32).toInt = 1) ez_20 (by omega) (by omega)
            refine lv_istore_n (lv' := [(3, .int z_20), (4, .int v5_4), (0, .ref (ad 197)), (1, .int ev), (2, .int dy)]) hx hb dX12_dropsAt_45 rfl hl (by decide) rfl (fun ls hl => ?_)
            obtain ⟨x_21, ex_21⟩ : ∃ y : Int32, y = v5_4 + 1 := ⟨_, rfl⟩
            have hx_21 : x_21.toInt = v5_4.toInt + 1 := n_add rfl (by decide : (1 : Int32).toInt = 1) ex_21 (by omega) (by omega)
            refine lv_iinc (v := x_21) (lv' := [(4, .int x_21), (3, .int z_20), (0, .ref (ad 197)), (1, .int ev), (2, .int dy)]) hx hb dX12_dropsAt_46 hl (k := 1) rfl (by rw [ex_21]; rfl) (by decide) rfl (fun ls hl => ?_)
            refine lv_goto (tgt := 5) hx hb dX12_dropsAt_49 (by decide) ?_
            exact ih5 x_21 z_20 _ _ ls (by omega) (by omega) (by omega) (by omega) hP hS (lv_sub hl [0, 1, 2, 3, 4] rfl)
  have hiv5_4 : (0 : Int32).toInt = 0 := by decide
  have hiv5_3 : (0 : Int32).toInt = 0 := by decide
  exact HL5 _ 0 0 _ _ ls (Nat.lt_succ_self _) (by omega) (by omega) (by omega) hP hS (lv_sub hl [0, 1, 2, 3, 4] rfl)

theorem dX12_next_0 : decode cX12_next 0 = .ok (.aload_n 0, 1) := by decide +kernel
theorem dX12_next_1 : decode cX12_next 1 = .ok (.iload_n 1, 1) := by decide +kernel
theorem dX12_next_2 : decode cX12_next 2 = .ok (.invokevirtual 212, 3) := by decide +kernel
theorem dX12_next_5 : decode cX12_next 5 = .ok (.ifCond .eq 11, 3) := by decide +kernel
theorem dX12_next_8 : decode cX12_next 8 = .ok (.aload_n 0, 1) := by decide +kernel
theorem dX12_next_9 : decode cX12_next 9 = .ok (.iload_n 2, 1) := by decide +kernel
theorem dX12_next_10 : decode cX12_next 10 = .ok (.invokevirtual 205, 3) := by decide +kernel
theorem dX12_next_13 : decode cX12_next 13 = .ok (.ifCond .ne 6, 3) := by decide +kernel
theorem dX12_next_19 : decode cX12_next 19 = .ok (.aload_n 0, 1) := by decide +kernel
theorem dX12_next_20 : decode cX12_next 20 = .ok (.invokevirtual 246, 3) := by decide +kernel
theorem dX12_next_23 : decode cX12_next 23 = .ok (.iload_n 2, 1) := by decide +kernel
theorem dX12_next_24 : decode cX12_next 24 = .ok (.iconst 1, 1) := by decide +kernel
theorem dX12_next_25 : decode cX12_next 25 = .ok (.iadd, 1) := by decide +kernel
theorem dX12_next_26 : decode cX12_next 26 = .ok (.istore_n 3, 1) := by decide +kernel
theorem dX12_next_27 : decode cX12_next 27 = .ok (.iload_n 3, 1) := by decide +kernel
theorem dX12_next_28 : decode cX12_next 28 = .ok (.aload_n 0, 1) := by decide +kernel
theorem dX12_next_29 : decode cX12_next 29 = .ok (.getfield 231, 3) := by decide +kernel
theorem dX12_next_32 : decode cX12_next 32 = .ok (.if_icmp .ge 20, 3) := by decide +kernel
theorem dX12_next_35 : decode cX12_next 35 = .ok (.aload_n 0, 1) := by decide +kernel
theorem dX12_next_36 : decode cX12_next 36 = .ok (.iload_n 1, 1) := by decide +kernel
theorem dX12_next_37 : decode cX12_next 37 = .ok (.iload_n 3, 1) := by decide +kernel
theorem dX12_next_38 : decode cX12_next 38 = .ok (.invokevirtual 294, 3) := by decide +kernel
theorem dX12_next_41 : decode cX12_next 41 = .ok (.ifCond .le 5, 3) := by decide +kernel
theorem dX12_next_44 : decode cX12_next 44 = .ok (.iload_n 3, 1) := by decide +kernel
theorem dX12_next_45 : decode cX12_next 45 = .ok (.ireturn, 1) := by decide +kernel
theorem dX12_next_46 : decode cX12_next 46 = .ok (.iinc 3 1, 3) := by decide +kernel
theorem dX12_next_49 : decode cX12_next 49 = .ok (.goto (-22), 3) := by decide +kernel
theorem dX12_next_52 : decode cX12_next 52 = .ok (.iconst (-1), 1) := by decide +kernel
theorem dX12_next_53 : decode cX12_next 53 = .ok (.ireturn, 1) := by decide +kernel
theorem dX12_next_16 : decode cX12_next 16 = .ok (.bipush (-2), 2) := by decide +kernel
theorem dX12_next_18 : decode cX12_next 18 = .ok (.ireturn, 1) := by decide +kernel
noncomputable def vX12_next : List Cond := .code yX12_next cX12_next 4 (some .int) :: (([.methodLink RX12 212 yX12_isEave, .instanceMethod yX12_isEave, .selects RX12 yX12_isEave yX12_isEave, .initialized RX12, .methodLink RX12 205 yX12_isDay, .instanceMethod yX12_isDay, .selects RX12 yX12_isDay yX12_isDay, .methodLink RX12 246 yX12_layAll, .instanceMethod yX12_layAll, .selects RX12 yX12_layAll yX12_layAll, .fieldLink RX12 231 "IcicleClockModel" "days" "I", .methodLink RX12 294 yX12_dropsAt, .instanceMethod yX12_dropsAt, .selects RX12 yX12_dropsAt yX12_dropsAt] : List Cond) ++ (wsX120 ++ (vX12_isEave ++ (vX12_isDay ++ (vX12_layAll ++ vX12_dropsAt)))))
theorem iX12_next_12 : ∀ w ∈ wsX120, w ∈ vX12_next := fun _ h => List.mem_cons_of_mem _ (List.mem_append_right _ (List.mem_append_left _ h))
theorem gs_X12_next : Gd vX12_next := Gd.cons (by decide +kernel) (Gd.app (Gd.r (by decide +kernel)) (Gd.app gwX_12 (Gd.app gs_X12_isEave (Gd.app gs_X12_isDay (Gd.app gs_X12_layAll gs_X12_dropsAt)))))
theorem gg_X12_next_X12_isEave : GoodIn vX12_next (wsV RX12 212 RX12 yX12_isEave vX12_isEave) := goodIn_app (goodIn_r _ [1, 2, 3, 4] (by decide +kernel) (by decide +kernel)) (fun w h => ⟨List.mem_cons_of_mem _ (List.mem_append_right _ (List.mem_append_right _ (List.mem_append_left _ h))), gs_X12_isEave w h⟩)
theorem gg_X12_next_X12_isDay : GoodIn vX12_next (wsV RX12 205 RX12 yX12_isDay vX12_isDay) := goodIn_app (goodIn_r _ [5, 6, 7, 4] (by decide +kernel) (by decide +kernel)) (fun w h => ⟨List.mem_cons_of_mem _ (List.mem_append_right _ (List.mem_append_right _ (List.mem_append_right _ (List.mem_append_left _ h)))), gs_X12_isDay w h⟩)
theorem gg_X12_next_X12_layAll : GoodIn vX12_next (wsV RX12 246 RX12 yX12_layAll vX12_layAll) := goodIn_app (goodIn_r _ [8, 9, 10, 4] (by decide +kernel) (by decide +kernel)) (fun w h => ⟨List.mem_cons_of_mem _ (List.mem_append_right _ (List.mem_append_right _ (List.mem_append_right _ (List.mem_append_right _ (List.mem_append_left _ h))))), gs_X12_layAll w h⟩)
theorem gg_X12_next_X12_dropsAt : GoodIn vX12_next (wsV RX12 294 RX12 yX12_dropsAt vX12_dropsAt) := goodIn_app (goodIn_r _ [12, 13, 14, 4] (by decide +kernel) (by decide +kernel)) (fun w h => ⟨List.mem_cons_of_mem _ (List.mem_append_right _ (List.mem_append_right _ (List.mem_append_right _ (List.mem_append_right _ (List.mem_append_right _ (h)))))), gs_X12_dropsAt w h⟩)
set_option maxHeartbeats 4000000 in
set_option maxRecDepth 100000 in
theorem s_X12_next (l : Launch) (D : va_G) (cs : Nat → ClassId) (ad : Nat → Nat) (kS : kSt) (K : sK) (hKO : KO K) (hj : wJ ad 218) (g : Nat → va_E) (hW : WF (shp ad K) ad cs g) (ev : Int32) (dy : Int32) : sI l yX12_next vX12_next { frames := 3, cells := 0, slots := 0, locals := 65 } D cs ad kS [.ref (ad 197), .int ev, .int dy] g (fun r g2 => WF (shp ad K) ad cs g2 ∧ (∀ j, j ≠ 197 ∧ j ≠ 204 ∧ j ≠ 205 → g2 j = g j)) := by
  refine Met.startS (cc := cX12_next) (maxL := 4) (ret := (some .int)) RX12 rfl (by decide) rfl (Nat.le_of_ble_eq_true rfl) ?_
  intro p e s m below meth c ls X Z hP hl
  have hx := X.1
  have hb := X.2.1
  have hS : va_S (wA ad 218) s.heap s.heap [] := va_S.rf
  have hA : ∀ i, i < 218 → wA ad 218 (ad i) := fun i h => ⟨i, h, rfl⟩
  have hfr : ∀ j, j ≠ 197 ∧ j ≠ 204 ∧ j ≠ 205 → g j = g j := fun _ _ => rfl
  have hl : lv_has ls 4 [(0, .ref (ad 197)), (1, .int ev), (2, .int dy)] := hl
  refine lv_aload_n hx hb dX12_next_0 rfl (lv_at hl 0 rfl) ?_
  refine lv_iload_n hx hb dX12_next_1 rfl (lv_at hl 1 rfl) ?_
  obtain ⟨fsc_4, hgc_4, hOc_4⟩ := hW.obj (i := 197) (by decide) (sh_197 ad K)
  refine s_calli (q := (RX12, TX12, 40)) (As := [.int ev]) (rest := []) X Z (s_X12_isEave l D cs ad kS K hKO hj g hW ev) (cwV 1 X.2.2.2.2.1 gg_X12_next_X12_isEave rfl rfl rfl (by decide +kernel) ⟨Nat.le_of_ble_eq_true rfl, Nat.le_of_ble_eq_true rfl⟩) (by decide) hgc_4 rfl hP hA hS.2.1 hS rfl hl.1 rfl (Nat.le_of_ble_eq_true rfl) dX12_next_2 ⟨Nat.le_of_ble_eq_true rfl, Nat.le_of_ble_eq_true rfl⟩ (fun r_3 g_2 H locs hw_1 hP hS => ?_)
  obtain ⟨hw_1g, hw_1⟩ := hw_1
  rw [hw_1g] at hP
  have HJ16 : ∀ (G16 : Nat → va_E) (H : Heap) (locs : List Loc) (ls : Array Slot), WF (shp ad K) ad cs G16 → (∀ j, j ≠ 197 ∧ j ≠ 204 ∧ j ≠ 205 → G16 j = g j) → G16 197 = .inr (12, fsc_4) → va_P D vwCl (wL ad G16 218) H → va_S (wA ad 218) s.heap H locs → lv_has ls 4 [] → W p l e ({ frames := 3, cells := 0, slots := 0, locals := 65 } : Room) s m ([.ref (ad 197), .int ev, .int dy] : List Value).toArray below meth c H locs 0 0 (MQ below (qI D ad 218 (fun r g2 => WF (shp ad K) ad cs g2 ∧ (∀ j, j ≠ 197 ∧ j ≠ 204 ∧ j ≠ 205 → g2 j = g j))) ([.ref (ad 197), .int ev, .int dy] : List Value).toArray s 0 0 (wA ad 218)) (F0 m 16 ls []) := by
    intro G16 H locs ls hW16 hfr16 hg16_0 hP hS hl
    refine lv_bipush (v := (-2)) hx hb dX12_next_16 (by decide) ?_
    exact q_iret X hP hS ⟨hW16, hfr16⟩ dX12_next_18
  refine lv_if_eq (tgt := 16) hx hb dX12_next_5 (by decide) (fun hc_5 => ?_) (fun hc_5 => ?_)
  · have hhc_5 := n_eq (rfl : r_3.toInt = r_3.toInt) (by decide : (0 : Int32).toInt = 0) hc_5
    exact HJ16 g _ _ ls hW hfr hgc_4 hP hS (lv_sub hl [] rfl)
  · have hhc_5 := n_ne (rfl : r_3.toInt = r_3.toInt) (by decide : (0 : Int32).toInt = 0) hc_5
    refine lv_aload_n hx hb dX12_next_8 rfl (lv_at hl 0 rfl) ?_
    refine lv_iload_n hx hb dX12_next_9 rfl (lv_at hl 2 rfl) ?_
    refine s_calli (q := (RX12, TX12, 40)) (As := [.int dy]) (rest := []) X Z (s_X12_isDay l D cs ad kS K hKO hj g hW dy) (cwV 1 X.2.2.2.2.1 gg_X12_next_X12_isDay rfl rfl rfl (by decide +kernel) ⟨Nat.le_of_ble_eq_true rfl, Nat.le_of_ble_eq_true rfl⟩) (by decide) hgc_4 rfl hP hA hS.2.1 hS rfl hl.1 rfl (Nat.le_of_ble_eq_true rfl) dX12_next_10 ⟨Nat.le_of_ble_eq_true rfl, Nat.le_of_ble_eq_true rfl⟩ (fun r_8 g_7 H locs hw_6 hP hS => ?_)
    obtain ⟨hw_6g, hw_6⟩ := hw_6
    rw [hw_6g] at hP
    refine lv_if_ne (tgt := 19) hx hb dX12_next_13 (by decide) (fun hc_9 => ?_) (fun hc_9 => ?_)
    · have hhc_9 := n_ne (rfl : r_8.toInt = r_8.toInt) (by decide : (0 : Int32).toInt = 0) hc_9
      refine lv_aload_n hx hb dX12_next_19 rfl (lv_at hl 0 rfl) ?_
      refine s_callv (q := (RX12, TX12, 40)) (As := []) (rest := []) X Z (s_X12_layAll l D cs ad kS K hKO hj g hW) (cwV 0 X.2.2.2.2.1 gg_X12_next_X12_layAll rfl rfl rfl (by decide +kernel) ⟨Nat.le_of_ble_eq_true rfl, Nat.le_of_ble_eq_true rfl⟩) (by decide) hgc_4 rfl hP hA hS.2.1 hS rfl hl.1 rfl (Nat.le_of_ble_eq_true rfl) dX12_next_20 ⟨Nat.le_of_ble_eq_true rfl, Nat.le_of_ble_eq_true rfl⟩ (fun g_11 H locs hw_10 hP hS => ?_)
      obtain ⟨hw_10W, hw_10f⟩ := hw_10
      have hfr_13 : ∀ j, j ≠ 197 ∧ j ≠ 204 ∧ j ≠ 205 → g_11 j = g j := fun j hj => (hw_10f j (by omega)).trans (hfr j hj)
      refine lv_iload_n hx hb dX12_next_23 rfl (lv_at hl 2 rfl) ?_
      refine lv_iconst (v := 1) hx hb dX12_next_24 (by decide) ?_
      refine lv_iadd hx hb dX12_next_25 ?_
      refine lv_topi (fun z_14 ez_14 => ?_)
      have hz_14 : z_14.toInt = dy.toInt + 1 := n_add (rfl : dy.toInt = dy.toInt) (by decide : (1 : Int32).toInt = 1) ez_14 (by omega) (by omega)
      refine lv_istore_n (lv' := [(3, .int z_14), (0, .ref (ad 197)), (1, .int ev), (2, .int dy)]) hx hb dX12_next_26 rfl hl (by decide) rfl (fun ls hl => ?_)
      have HL27 : ∀ (n27 : Nat) (v27_3 : Int32) (G27 : Nat → va_E) (H : Heap) (locs : List Loc) (ls : Array Slot), (14 - v27_3.toInt).toNat < n27 → (1 ≤ v27_3.toInt ∧ v27_3.toInt ≤ 14) → WF (shp ad K) ad cs G27 → (∀ j, j ≠ 197 ∧ j ≠ 204 ∧ j ≠ 205 → G27 j = g j) → va_P D vwCl (wL ad G27 218) H → va_S (wA ad 218) s.heap H locs → lv_has ls 4 [(3, .int v27_3), (0, .ref (ad 197)), (1, .int ev)] → W p l e ({ frames := 3, cells := 0, slots := 0, locals := 65 } : Room) s m ([.ref (ad 197), .int ev, .int dy] : List Value).toArray below meth c H locs 0 0 (MQ below (qI D ad 218 (fun r g2 => WF (shp ad K) ad cs g2 ∧ (∀ j, j ≠ 197 ∧ j ≠ 204 ∧ j ≠ 205 → g2 j = g j))) ([.ref (ad 197), .int ev, .int dy] : List Value).toArray s 0 0 (wA ad 218)) (F0 m 27 ls []) := by
        intro n27
        induction n27 with
        | zero =>
          intro v27_3 G27 H locs ls hm27 hv27_0 hW27 hfr27 hP hS hl
          exact absurd hm27 (Nat.not_lt_zero _)
        | succ n27 ih27 =>
          intro v27_3 G27 H locs ls hm27 hv27_0 hW27 hfr27 hP hS hl
          refine lv_iload_n hx hb dX12_next_27 rfl (lv_at hl 0 rfl) ?_
          refine lv_aload_n hx hb dX12_next_28 rfl (lv_at hl 1 rfl) ?_
          obtain ⟨fsc_15, hgc_15, hOc_15⟩ := hW27.obj (i := 197) (by decide) (sh_197 ad K)
          obtain ⟨x_17, hk_16, hlx_17, hhx_17⟩ := hOc_15.int 17 rfl
          refine q_get X iX12_next_12 hP (by decide) hgc_15 rfl 17 (by decide) (List.mem_of_getElem? (i := 11) rfl) (v := .int x_17) hk_16 dX12_next_29 ?_
          refine lv_icmp_ge (tgt := 52) hx hb dX12_next_32 (by decide) (fun hc_18 => ?_) (fun hc_18 => ?_)
          · have hhc_18 := n_le (rfl : x_17.toInt = x_17.toInt) (rfl : v27_3.toInt = v27_3.toInt) hc_18
            refine lv_iconst (v := (-1)) hx hb dX12_next_52 (by decide) ?_
            exact q_iret X hP hS ⟨hW27, hfr27⟩ dX12_next_53
          · have hhc_18 := n_nle (rfl : x_17.toInt = x_17.toInt) (rfl : v27_3.toInt = v27_3.toInt) hc_18
            refine lv_aload_n hx hb dX12_next_35 rfl (lv_at hl 1 rfl) ?_
            refine lv_iload_n hx hb dX12_next_36 rfl (lv_at hl 2 rfl) ?_
            refine lv_iload_n hx hb dX12_next_37 rfl (lv_at hl 0 rfl) ?_
            refine s_calli (q := (RX12, TX12, 40)) (As := [.int ev, .int v27_3]) (rest := []) X Z (s_X12_dropsAt l D cs ad kS K hKO hj G27 hW27 ev v27_3) (cwV 2 X.2.2.2.2.1 gg_X12_next_X12_dropsAt rfl rfl rfl (by decide +kernel) ⟨Nat.le_of_ble_eq_true rfl, Nat.le_of_ble_eq_true rfl⟩) (by decide) hgc_15 rfl hP hA hS.2.1 hS rfl hl.1 rfl (Nat.le_of_ble_eq_true rfl) dX12_next_38 ⟨Nat.le_of_ble_eq_true rfl, Nat.le_of_ble_eq_true rfl⟩ (fun r_21 g_20 H locs hw_19 hP hS => ?_)
            obtain ⟨hw_19g, hw_19⟩ := hw_19
            rw [hw_19g] at hP
            refine lv_if_le (tgt := 46) hx hb dX12_next_41 (by decide) (fun hc_22 => ?_) (fun hc_22 => ?_)
            · have hhc_22 := n_le (rfl : r_21.toInt = r_21.toInt) (by decide : (0 : Int32).toInt = 0) hc_22
              obtain ⟨x_23, ex_23⟩ : ∃ y : Int32, y = v27_3 + 1 := ⟨_, rfl⟩
              have hx_23 : x_23.toInt = v27_3.toInt + 1 := n_add rfl (by decide : (1 : Int32).toInt = 1) ex_23 (by omega) (by omega)
              refine lv_iinc (v := x_23) (lv' := [(3, .int x_23), (0, .ref (ad 197)), (1, .int ev)]) hx hb dX12_next_46 hl (k := 0) rfl (by rw [ex_23]; rfl) (by decide) rfl (fun ls hl => ?_)
              refine lv_goto (tgt := 27) hx hb dX12_next_49 (by decide) ?_
              exact ih27 x_23 G27 _ _ ls (by omega) (by omega) hW27 hfr27 hP hS (lv_sub hl [0, 1, 2] rfl)
            · have hhc_22 := n_nle (rfl : r_21.toInt = r_21.toInt) (by decide : (0 : Int32).toInt = 0) hc_22
              refine lv_iload_n hx hb dX12_next_44 rfl (lv_at hl 0 rfl) ?_
              exact q_iret X hP hS ⟨hW27, hfr27⟩ dX12_next_45
      exact HL27 _ z_14 g_11 _ _ ls (Nat.lt_succ_self _) (by omega) hw_10W hfr_13 hP hS (lv_sub hl [0, 1, 2] rfl)
    · have hhc_9 := n_eq (rfl : r_8.toInt = r_8.toInt) (by decide : (0 : Int32).toInt = 0) hc_9
      exact HJ16 g _ _ ls hW hfr hgc_4 hP hS (lv_sub hl [] rfl)

theorem dX12_barest_0 : decode cX12_barest 0 = .ok (.aload_n 0, 1) := by decide +kernel
theorem dX12_barest_1 : decode cX12_barest 1 = .ok (.invokevirtual 261, 3) := by decide +kernel
theorem dX12_barest_4 : decode cX12_barest 4 = .ok (.ifCond .ne 6, 3) := by decide +kernel
theorem dX12_barest_7 : decode cX12_barest 7 = .ok (.bipush (-2), 2) := by decide +kernel
theorem dX12_barest_9 : decode cX12_barest 9 = .ok (.ireturn, 1) := by decide +kernel
theorem dX12_barest_10 : decode cX12_barest 10 = .ok (.aload_n 0, 1) := by decide +kernel
theorem dX12_barest_11 : decode cX12_barest 11 = .ok (.invokevirtual 246, 3) := by decide +kernel
theorem dX12_barest_14 : decode cX12_barest 14 = .ok (.iconst (-1), 1) := by decide +kernel
theorem dX12_barest_15 : decode cX12_barest 15 = .ok (.istore_n 1, 1) := by decide +kernel
theorem dX12_barest_16 : decode cX12_barest 16 = .ok (.iconst 0, 1) := by decide +kernel
theorem dX12_barest_17 : decode cX12_barest 17 = .ok (.istore_n 2, 1) := by decide +kernel
theorem dX12_barest_18 : decode cX12_barest 18 = .ok (.iconst 0, 1) := by decide +kernel
theorem dX12_barest_19 : decode cX12_barest 19 = .ok (.istore_n 3, 1) := by decide +kernel
theorem dX12_barest_20 : decode cX12_barest 20 = .ok (.iload_n 3, 1) := by decide +kernel
theorem dX12_barest_21 : decode cX12_barest 21 = .ok (.aload_n 0, 1) := by decide +kernel
theorem dX12_barest_22 : decode cX12_barest 22 = .ok (.getfield 9, 3) := by decide +kernel
theorem dX12_barest_25 : decode cX12_barest 25 = .ok (.iconst 4, 1) := by decide +kernel
theorem dX12_barest_26 : decode cX12_barest 26 = .ok (.iaload, 1) := by decide +kernel
theorem dX12_barest_27 : decode cX12_barest 27 = .ok (.if_icmp .ge 56, 3) := by decide +kernel
theorem dX12_barest_30 : decode cX12_barest 30 = .ok (.iconst 0, 1) := by decide +kernel
theorem dX12_barest_31 : decode cX12_barest 31 = .ok (.istore 4, 2) := by decide +kernel
theorem dX12_barest_33 : decode cX12_barest 33 = .ok (.iconst 0, 1) := by decide +kernel
theorem dX12_barest_34 : decode cX12_barest 34 = .ok (.istore 5, 2) := by decide +kernel
theorem dX12_barest_36 : decode cX12_barest 36 = .ok (.iload 5, 2) := by decide +kernel
theorem dX12_barest_38 : decode cX12_barest 38 = .ok (.aload_n 0, 1) := by decide +kernel
theorem dX12_barest_39 : decode cX12_barest 39 = .ok (.getfield 231, 3) := by decide +kernel
theorem dX12_barest_42 : decode cX12_barest 42 = .ok (.if_icmp .ge 21, 3) := by decide +kernel
theorem dX12_barest_45 : decode cX12_barest 45 = .ok (.iload 4, 2) := by decide +kernel
theorem dX12_barest_47 : decode cX12_barest 47 = .ok (.aload_n 0, 1) := by decide +kernel
theorem dX12_barest_48 : decode cX12_barest 48 = .ok (.iload_n 3, 1) := by decide +kernel
theorem dX12_barest_49 : decode cX12_barest 49 = .ok (.iload 5, 2) := by decide +kernel
theorem dX12_barest_51 : decode cX12_barest 51 = .ok (.invokevirtual 294, 3) := by decide +kernel
theorem dX12_barest_54 : decode cX12_barest 54 = .ok (.iadd, 1) := by decide +kernel
theorem dX12_barest_55 : decode cX12_barest 55 = .ok (.istore 4, 2) := by decide +kernel
theorem dX12_barest_57 : decode cX12_barest 57 = .ok (.iinc 5 1, 3) := by decide +kernel
theorem dX12_barest_60 : decode cX12_barest 60 = .ok (.goto (-24), 3) := by decide +kernel
theorem dX12_barest_63 : decode cX12_barest 63 = .ok (.iload 4, 2) := by decide +kernel
theorem dX12_barest_65 : decode cX12_barest 65 = .ok (.iload_n 2, 1) := by decide +kernel
theorem dX12_barest_66 : decode cX12_barest 66 = .ok (.if_icmp .gt 6, 3) := by decide +kernel
theorem dX12_barest_69 : decode cX12_barest 69 = .ok (.goto 8, 3) := by decide +kernel
theorem dX12_barest_72 : decode cX12_barest 72 = .ok (.iload 4, 2) := by decide +kernel
theorem dX12_barest_74 : decode cX12_barest 74 = .ok (.istore_n 2, 1) := by decide +kernel
theorem dX12_barest_75 : decode cX12_barest 75 = .ok (.iload_n 3, 1) := by decide +kernel
theorem dX12_barest_76 : decode cX12_barest 76 = .ok (.istore_n 1, 1) := by decide +kernel
theorem dX12_barest_77 : decode cX12_barest 77 = .ok (.iinc 3 1, 3) := by decide +kernel
theorem dX12_barest_80 : decode cX12_barest 80 = .ok (.goto (-60), 3) := by decide +kernel
theorem dX12_barest_83 : decode cX12_barest 83 = .ok (.iload_n 1, 1) := by decide +kernel
theorem dX12_barest_84 : decode cX12_barest 84 = .ok (.ireturn, 1) := by decide +kernel
noncomputable def vX12_barest : List Cond := .code yX12_barest cX12_barest 6 (some .int) :: (([.methodLink RX12 261 yX12_isStreet, .instanceMethod yX12_isStreet, .selects RX12 yX12_isStreet yX12_isStreet, .initialized RX12, .methodLink RX12 246 yX12_layAll, .instanceMethod yX12_layAll, .selects RX12 yX12_layAll yX12_layAll, .fieldLink RX12 9 "IcicleClockModel" "world" "[I", .fieldLink RX12 231 "IcicleClockModel" "days" "I", .methodLink RX12 294 yX12_dropsAt, .instanceMethod yX12_dropsAt, .selects RX12 yX12_dropsAt yX12_dropsAt] : List Cond) ++ (wsX120 ++ (vX12_isStreet ++ (vX12_layAll ++ vX12_dropsAt))))
theorem iX12_barest_12 : ∀ w ∈ wsX120, w ∈ vX12_barest := fun _ h => List.mem_cons_of_mem _ (List.mem_append_right _ (List.mem_append_left _ h))
theorem gs_X12_barest : Gd vX12_barest := Gd.cons (by decide +kernel) (Gd.app (Gd.r (by decide +kernel)) (Gd.app gwX_12 (Gd.app gs_X12_isStreet (Gd.app gs_X12_layAll gs_X12_dropsAt))))
theorem gg_X12_barest_X12_isStreet : GoodIn vX12_barest (wsV RX12 261 RX12 yX12_isStreet vX12_isStreet) := goodIn_app (goodIn_r _ [1, 2, 3, 4] (by decide +kernel) (by decide +kernel)) (fun w h => ⟨List.mem_cons_of_mem _ (List.mem_append_right _ (List.mem_append_right _ (List.mem_append_left _ h))), gs_X12_isStreet w h⟩)
theorem gg_X12_barest_X12_layAll : GoodIn vX12_barest (wsV RX12 246 RX12 yX12_layAll vX12_layAll) := goodIn_app (goodIn_r _ [5, 6, 7, 4] (by decide +kernel) (by decide +kernel)) (fun w h => ⟨List.mem_cons_of_mem _ (List.mem_append_right _ (List.mem_append_right _ (List.mem_append_right _ (List.mem_append_left _ h)))), gs_X12_layAll w h⟩)
theorem gg_X12_barest_X12_dropsAt : GoodIn vX12_barest (wsV RX12 294 RX12 yX12_dropsAt vX12_dropsAt) := goodIn_app (goodIn_r _ [10, 11, 12, 4] (by decide +kernel) (by decide +kernel)) (fun w h => ⟨List.mem_cons_of_mem _ (List.mem_append_right _ (List.mem_append_right _ (List.mem_append_right _ (List.mem_append_right _ (h))))), gs_X12_dropsAt w h⟩)
set_option maxHeartbeats 4000000 in
set_option maxRecDepth 100000 in
theorem s_X12_barest (l : Launch) (D : va_G) (cs : Nat → ClassId) (ad : Nat → Nat) (kS : kSt) (K : sK) (hKO : KO K) (hj : wJ ad 218) (g : Nat → va_E) (hW : WF (shp ad K) ad cs g) : sI l yX12_barest vX12_barest { frames := 3, cells := 0, slots := 0, locals := 65 } D cs ad kS [.ref (ad 197)] g (fun r g2 => WF (shp ad K) ad cs g2 ∧ (∀ j, j ≠ 197 ∧ j ≠ 204 ∧ j ≠ 205 → g2 j = g j)) := by
  refine Met.startS (cc := cX12_barest) (maxL := 6) (ret := (some .int)) RX12 rfl (by decide) rfl (Nat.le_of_ble_eq_true rfl) ?_
  intro p e s m below meth c ls X Z hP hl
  have hx := X.1
  have hb := X.2.1
  have hS : va_S (wA ad 218) s.heap s.heap [] := va_S.rf
  have hA : ∀ i, i < 218 → wA ad 218 (ad i) := fun i h => ⟨i, h, rfl⟩
  have hfr : ∀ j, j ≠ 197 ∧ j ≠ 204 ∧ j ≠ 205 → g j = g j := fun _ _ => rfl
  have hl : lv_has ls 6 [(0, .ref (ad 197))] := hl
  refine lv_aload_n hx hb dX12_barest_0 rfl (lv_at hl 0 rfl) ?_
  obtain ⟨fsc_4, hgc_4, hOc_4⟩ := hW.obj (i := 197) (by decide) (sh_197 ad K)
  refine s_calli (q := (RX12, TX12, 40)) (As := []) (rest := []) X Z (s_X12_isStreet l D cs ad kS K hKO hj g hW) (cwV 0 X.2.2.2.2.1 gg_X12_barest_X12_isStreet rfl rfl rfl (by decide +kernel) ⟨Nat.le_of_ble_eq_true rfl, Nat.le_of_ble_eq_true rfl⟩) (by decide) hgc_4 rfl hP hA hS.2.1 hS rfl hl.1 rfl (Nat.le_of_ble_eq_true rfl) dX12_barest_1 ⟨Nat.le_of_ble_eq_true rfl, Nat.le_of_ble_eq_true rfl⟩ (fun r_3 g_2 H locs hw_1 hP hS => ?_)
  obtain ⟨hw_1g, hw_1⟩ := hw_1
  rw [hw_1g] at hP
  refine lv_if_ne (tgt := 10) hx hb dX12_barest_4 (by decide) (fun hc_5 => ?_) (fun hc_5 => ?_)
  · have hhc_5 := n_ne (rfl : r_3.toInt = r_3.toInt) (by decide : (0 : Int32).toInt = 0) hc_5
    refine lv_aload_n hx hb dX12_barest_10 rfl (lv_at hl 0 rfl) ?_
    refine s_callv (q := (RX12, TX12, 40)) (As := []) (rest := []) X Z (s_X12_layAll l D cs ad kS K hKO hj g hW) (cwV 0 X.2.2.2.2.1 gg_X12_barest_X12_layAll rfl rfl rfl (by decide +kernel) ⟨Nat.le_of_ble_eq_true rfl, Nat.le_of_ble_eq_true rfl⟩) (by decide) hgc_4 rfl hP hA hS.2.1 hS rfl hl.1 rfl (Nat.le_of_ble_eq_true rfl) dX12_barest_11 ⟨Nat.le_of_ble_eq_true rfl, Nat.le_of_ble_eq_true rfl⟩ (fun g_7 H locs hw_6 hP hS => ?_)
    obtain ⟨hw_6W, hw_6f⟩ := hw_6
    have hfr_9 : ∀ j, j ≠ 197 ∧ j ≠ 204 ∧ j ≠ 205 → g_7 j = g j := fun j hj => (hw_6f j (by omega)).trans (hfr j hj)
    refine lv_iconst (v := (-1)) hx hb dX12_barest_14 (by decide) ?_
    refine lv_istore_n (lv' := [(1, .int (-1)), (0, .ref (ad 197))]) hx hb dX12_barest_15 rfl hl (by decide) rfl (fun ls hl => ?_)
    refine lv_iconst (v := 0) hx hb dX12_barest_16 (by decide) ?_
    refine lv_istore_n (lv' := [(2, .int 0), (1, .int (-1)), (0, .ref (ad 197))]) hx hb dX12_barest_17 rfl hl (by decide) rfl (fun ls hl => ?_)
    refine lv_iconst (v := 0) hx hb dX12_barest_18 (by decide) ?_
    refine lv_istore_n (lv' := [(3, .int 0), (2, .int 0), (1, .int (-1)), (0, .ref (ad 197))]) hx hb dX12_barest_19 rfl hl (by decide) rfl (fun ls hl => ?_)
    have HL20 : ∀ (n20 : Nat) (v20_3 : Int32) (v20_2 : Int32) (v20_1 : Int32) (G20 : Nat → va_E) (H : Heap) (locs : List Loc) (ls : Array Slot), (5 - v20_3.toInt).toNat < n20 → (0 ≤ v20_3.toInt ∧ v20_3.toInt ≤ 5) → (0 ≤ v20_2.toInt) → ((-1) ≤ v20_1.toInt ∧ v20_1.toInt ≤ 4) → WF (shp ad K) ad cs G20 → (∀ j, j ≠ 197 ∧ j ≠ 204 ∧ j ≠ 205 → G20 j = g j) → va_P D vwCl (wL ad G20 218) H → va_S (wA ad 218) s.heap H locs → lv_has ls 6 [(3, .int v20_3), (2, .int v20_2), (1, .int v20_1), (0, .ref (ad 197))] → W p l e ({ frames := 3, cells := 0, slots := 0, locals := 65 } : Room) s m ([.ref (ad 197)] : List Value).toArray below meth c H locs 0 0 (MQ below (qI D ad 218 (fun r g2 => WF (shp ad K) ad cs g2 ∧ (∀ j, j ≠ 197 ∧ j ≠ 204 ∧ j ≠ 205 → g2 j = g j))) ([.ref (ad 197)] : List Value).toArray s 0 0 (wA ad 218)) (F0 m 20 ls []) := by
      intro n20
      induction n20 with
      | zero =>
        intro v20_3 v20_2 v20_1 G20 H locs ls hm20 hv20_0 hv20_1 hv20_2 hW20 hfr20 hP hS hl
        exact absurd hm20 (Nat.not_lt_zero _)
      | succ n20 ih20 =>
        intro v20_3 v20_2 v20_1 G20 H locs ls hm20 hv20_0 hv20_1 hv20_2 hW20 hfr20 hP hS hl
        refine lv_iload_n hx hb dX12_barest_20 rfl (lv_at hl 0 rfl) ?_
        refine lv_aload_n hx hb dX12_barest_21 rfl (lv_at hl 3 rfl) ?_
        obtain ⟨fsc_10, hgc_10, hOc_10⟩ := hW20.obj (i := 197) (by decide) (sh_197 ad K)
        have hk_11 := hOc_10.ref 1 rfl
        refine q_get X iX12_barest_12 hP (by decide) hgc_10 rfl 1 (by decide) (List.mem_of_getElem? (i := 8) rfl) (v := .ref (ad 198)) hk_11 dX12_barest_22 ?_
        refine lv_iconst (v := 4) hx hb dX12_barest_25 (by decide) ?_
        obtain ⟨fc_12, hgc_12, hFc_12⟩ := hW20.arr (i := 198) (by decide) (sh_198 ad K)
        refine q_iald X hP (by decide) hgc_12 (by unfold vp_in; decide) dX12_barest_26 ?_
        refine lv_topi (fun z_13 ez_13 => ?_)
        have hqz_13 : wq (4) z_13.toInt := ez_13 ▸ hFc_12 _
        have hz_13 : 0 ≤ z_13.toInt ∧ z_13.toInt ≤ 5 := by unfold wq at hqz_13; omega
        clear hqz_13
        refine lv_icmp_ge (tgt := 83) hx hb dX12_barest_27 (by decide) (fun hc_14 => ?_) (fun hc_14 => ?_)
        · have hhc_14 := n_le (rfl : z_13.toInt = z_13.toInt) (rfl : v20_3.toInt = v20_3.toInt) hc_14
          refine lv_iload_n hx hb dX12_barest_83 rfl (lv_at hl 2 rfl) ?_
          exact q_iret X hP hS ⟨hW20, hfr20⟩ dX12_barest_84
        · have hhc_14 := n_nle (rfl : z_13.toInt = z_13.toInt) (rfl : v20_3.toInt = v20_3.toInt) hc_14
          refine lv_iconst (v := 0) hx hb dX12_barest_30 (by decide) ?_
          refine lv_istore (lv' := [(4, .int 0), (3, .int v20_3), (2, .int v20_2), (1, .int v20_1), (0, .ref (ad 197))]) hx hb dX12_barest_31 hl (by decide) rfl (fun ls hl => ?_)
          refine lv_iconst (v := 0) hx hb dX12_barest_33 (by decide) ?_
          refine lv_istore (lv' := [(5, .int 0), (4, .int 0), (3, .int v20_3), (2, .int v20_2), (1, .int v20_1), (0, .ref (ad 197))]) hx hb dX12_barest_34 hl (by decide) rfl (fun ls hl => ?_)
          have HL36 : ∀ (n36 : Nat) (v36_5 : Int32) (v36_4 : Int32) (G36 : Nat → va_E) (H : Heap) (locs : List Loc) (ls : Array Slot), (14 - v36_5.toInt).toNat < n36 → (0 ≤ v36_5.toInt ∧ v36_5.toInt ≤ 14) → WF (shp ad K) ad cs G36 → (∀ j, j ≠ 197 ∧ j ≠ 204 ∧ j ≠ 205 → G36 j = g j) → va_P D vwCl (wL ad G36 218) H → va_S (wA ad 218) s.heap H locs → lv_has ls 6 [(5, .int v36_5), (4, .int v36_4), (3, .int v20_3), (2, .int v20_2), (1, .int v20_1), (0, .ref (ad 197))] → W p l e ({ frames := 3, cells := 0, slots := 0, locals := 65 } : Room) s m ([.ref (ad 197)] : List Value).toArray below meth c H locs 0 0 (MQ below (qI D ad 218 (fun r g2 => WF (shp ad K) ad cs g2 ∧ (∀ j, j ≠ 197 ∧ j ≠ 204 ∧ j ≠ 205 → g2 j = g j))) ([.ref (ad 197)] : List Value).toArray s 0 0 (wA ad 218)) (F0 m 36 ls []) := by
            intro n36
            induction n36 with
            | zero =>
              intro v36_5 v36_4 G36 H locs ls hm36 hv36_0 hW36 hfr36 hP hS hl
              exact absurd hm36 (Nat.not_lt_zero _)
            | succ n36 ih36 =>
              intro v36_5 v36_4 G36 H locs ls hm36 hv36_0 hW36 hfr36 hP hS hl
              refine lv_iload hx hb dX12_barest_36 (lv_at hl 0 rfl) ?_
              refine lv_aload_n hx hb dX12_barest_38 rfl (lv_at hl 5 rfl) ?_
              obtain ⟨fsc_15, hgc_15, hOc_15⟩ := hW36.obj (i := 197) (by decide) (sh_197 ad K)
              obtain ⟨x_17, hk_16, hlx_17, hhx_17⟩ := hOc_15.int 17 rfl
              refine q_get X iX12_barest_12 hP (by decide) hgc_15 rfl 17 (by decide) (List.mem_of_getElem? (i := 9) rfl) (v := .int x_17) hk_16 dX12_barest_39 ?_
              refine lv_icmp_ge (tgt := 63) hx hb dX12_barest_42 (by decide) (fun hc_18 => ?_) (fun hc_18 => ?_)
              · have hhc_18 := n_le (rfl : x_17.toInt = x_17.toInt) (rfl : v36_5.toInt = v36_5.toInt) hc_18
                refine lv_iload hx hb dX12_barest_63 (lv_at hl 1 rfl) ?_
                refine lv_iload_n hx hb dX12_barest_65 rfl (lv_at hl 3 rfl) ?_
                have HJ77 : ∀ (v77_2 : Int32) (v77_1 : Int32) (G77 : Nat → va_E) (H : Heap) (locs : List Loc) (ls : Array Slot), (0 ≤ v77_2.toInt) → ((-1) ≤ v77_1.toInt ∧ v77_1.toInt ≤ 4) → WF (shp ad K) ad cs G77 → (∀ j, j ≠ 197 ∧ j ≠ 204 ∧ j ≠ 205 → G77 j = g j) → G77 197 = .inr (12, fsc_15) → va_P D vwCl (wL ad G77 218) H → va_S (wA ad 218) s.heap H locs → lv_has ls 6 [(3, .int v20_3), (2, .int v77_2), (1, .int v77_1), (0, .ref (ad 197))] → W p l e ({ frames := 3, cells := 0, slots := 0, locals := 65 } : Room) s m ([.ref (ad 197)] : List Value).toArray below meth c H locs 0 0 (MQ below (qI D ad 218 (fun r g2 => WF (shp ad K) ad cs g2 ∧ (∀ j, j ≠ 197 ∧ j ≠ 204 ∧ j ≠ 205 → g2 j = g j))) ([.ref (ad 197)] : List Value).toArray s 0 0 (wA ad 218)) (F0 m 77 ls []) := by
                  intro v77_2 v77_1 G77 H locs ls hv77_0 hv77_1 hW77 hfr77 hg77_0 hP hS hl
                  obtain ⟨x_19, ex_19⟩ : ∃ y : Int32, y = v20_3 + 1 := ⟨_, rfl⟩
                  have hx_19 : x_19.toInt = v20_3.toInt + 1 := n_add rfl (by decide : (1 : Int32).toInt = 1) ex_19 (by omega) (by omega)
                  refine lv_iinc (v := x_19) (lv' := [(3, .int x_19), (2, .int v77_2), (1, .int v77_1), (0, .ref (ad 197))]) hx hb dX12_barest_77 hl (k := 0) rfl (by rw [ex_19]; rfl) (by decide) rfl (fun ls hl => ?_)
                  refine lv_goto (tgt := 20) hx hb dX12_barest_80 (by decide) ?_
                  exact ih20 x_19 v77_2 v77_1 G77 _ _ ls (by omega) (by omega) (by omega) (by omega) hW77 hfr77 hP hS (lv_sub hl [0, 1, 2, 3] rfl)
                refine lv_icmp_gt (tgt := 72) hx hb dX12_barest_66 (by decide) (fun hc_20 => ?_) (fun hc_20 => ?_)
                · have hhc_20 := n_lt (rfl : v20_2.toInt = v20_2.toInt) (rfl : v36_4.toInt = v36_4.toInt) hc_20
                  have := n_hi v20_2
                  have := n_hi v36_4
                  have := n_lo v36_4
                  refine lv_iload hx hb dX12_barest_72 (lv_at hl 1 rfl) ?_
                  refine lv_istore_n (lv' := [(2, .int v36_4), (5, .int v36_5), (4, .int v36_4), (3, .int v20_3), (1, .int v20_1), (0, .ref (ad 197))]) hx hb dX12_barest_74 rfl hl (by decide) rfl (fun ls hl => ?_)
                  refine lv_iload_n hx hb dX12_barest_75 rfl (lv_at hl 3 rfl) ?_
                  refine lv_istore_n (lv' := [(1, .int v20_3), (2, .int v36_4), (5, .int v36_5), (4, .int v36_4), (3, .int v20_3), (0, .ref (ad 197))]) hx hb dX12_barest_76 rfl hl (by decide) rfl (fun ls hl => ?_)
                  exact HJ77 v36_4 v20_3 G36 _ _ ls (by omega) (by omega) hW36 hfr36 hgc_15 hP hS (lv_sub hl [4, 1, 0, 5] rfl)
                · have hhc_20 := n_nlt (rfl : v20_2.toInt = v20_2.toInt) (rfl : v36_4.toInt = v36_4.toInt) hc_20
                  have := n_hi v20_2
                  have := n_hi v36_4
                  have := n_lo v36_4
                  refine lv_goto (tgt := 77) hx hb dX12_barest_69 (by decide) ?_
                  exact HJ77 v20_2 v20_1 G36 _ _ ls (by omega) (by omega) hW36 hfr36 hgc_15 hP hS (lv_sub hl [2, 3, 4, 5] rfl)
              · have hhc_18 := n_nle (rfl : x_17.toInt = x_17.toInt) (rfl : v36_5.toInt = v36_5.toInt) hc_18
                refine lv_iload hx hb dX12_barest_45 (lv_at hl 1 rfl) ?_
                refine lv_aload_n hx hb dX12_barest_47 rfl (lv_at hl 5 rfl) ?_
                refine lv_iload_n hx hb dX12_barest_48 rfl (lv_at hl 2 rfl) ?_
                refine lv_iload hx hb dX12_barest_49 (lv_at hl 0 rfl) ?_
                refine s_calli (q := (RX12, TX12, 40)) (As := [.int v20_3, .int v36_5]) (rest := [.int v36_4]) X Z (s_X12_dropsAt l D cs ad kS K hKO hj G36 hW36 v20_3 v36_5) (cwV 2 X.2.2.2.2.1 gg_X12_barest_X12_dropsAt rfl rfl rfl (by decide +kernel) ⟨Nat.le_of_ble_eq_true rfl, Nat.le_of_ble_eq_true rfl⟩) (by decide) hgc_15 rfl hP hA hS.2.1 hS rfl hl.1 rfl (Nat.le_of_ble_eq_true rfl) dX12_barest_51 ⟨Nat.le_of_ble_eq_true rfl, Nat.le_of_ble_eq_true rfl⟩ (fun r_23 g_22 H locs hw_21 hP hS => ?_)
                obtain ⟨hw_21g, hw_21⟩ := hw_21
                rw [hw_21g] at hP
                refine lv_iadd hx hb dX12_barest_54 ?_
                refine lv_topi (fun z_24 ez_24 => ?_)
                refine lv_istore (lv' := [(4, .int z_24), (5, .int v36_5), (3, .int v20_3), (2, .int v20_2), (1, .int v20_1), (0, .ref (ad 197))]) hx hb dX12_barest_55 hl (by decide) rfl (fun ls hl => ?_)
                obtain ⟨x_25, ex_25⟩ : ∃ y : Int32, y = v36_5 + 1 := ⟨_, rfl⟩
                have hx_25 : x_25.toInt = v36_5.toInt + 1 := n_add rfl (by decide : (1 : Int32).toInt = 1) ex_25 (by omega) (by omega)
                refine lv_iinc (v := x_25) (lv' := [(5, .int x_25), (4, .int z_24), (3, .int v20_3), (2, .int v20_2), (1, .int v20_1), (0, .ref (ad 197))]) hx hb dX12_barest_57 hl (k := 1) rfl (by rw [ex_25]; rfl) (by decide) rfl (fun ls hl => ?_)
                refine lv_goto (tgt := 36) hx hb dX12_barest_60 (by decide) ?_
                exact ih36 x_25 z_24 G36 _ _ ls (by omega) (by omega) hW36 hfr36 hP hS (lv_sub hl [0, 1, 2, 3, 4, 5] rfl)
          have hiv36_5 : (0 : Int32).toInt = 0 := by decide
          have hiv36_4 : (0 : Int32).toInt = 0 := by decide
          exact HL36 _ 0 0 G20 _ _ ls (Nat.lt_succ_self _) (by omega) hW20 hfr20 hP hS (lv_sub hl [0, 1, 2, 3, 4, 5] rfl)
    have hiv20_3 : (0 : Int32).toInt = 0 := by decide
    have hiv20_2 : (0 : Int32).toInt = 0 := by decide
    have hiv20_1 : ((-1) : Int32).toInt = -1 := by decide
    exact HL20 _ 0 0 (-1) g_7 _ _ ls (Nat.lt_succ_self _) (by omega) (by omega) (by omega) hw_6W hfr_9 hP hS (lv_sub hl [0, 1, 2, 3] rfl)
  · have hhc_5 := n_eq (rfl : r_3.toInt = r_3.toInt) (by decide : (0 : Int32).toInt = 0) hc_5
    refine lv_bipush (v := (-2)) hx hb dX12_barest_7 (by decide) ?_
    exact q_iret X hP hS ⟨hW, hfr⟩ dX12_barest_9

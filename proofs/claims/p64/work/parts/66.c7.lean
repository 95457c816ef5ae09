theorem dX10_passOver_0 : decode cX10_passOver 0 = .ok (.iconst 0, 1) := by decide +kernel
theorem dX10_passOver_1 : decode cX10_passOver 1 = .ok (.istore_n 2, 1) := by decide +kernel
theorem dX10_passOver_2 : decode cX10_passOver 2 = .ok (.iload_n 2, 1) := by decide +kernel
theorem dX10_passOver_3 : decode cX10_passOver 3 = .ok (.aload_n 1, 1) := by decide +kernel
theorem dX10_passOver_4 : decode cX10_passOver 4 = .ok (.getfield 22, 3) := by decide +kernel
theorem dX10_passOver_7 : decode cX10_passOver 7 = .ok (.if_icmp .ge 32, 3) := by decide +kernel
theorem dX10_passOver_10 : decode cX10_passOver 10 = .ok (.aload_n 0, 1) := by decide +kernel
theorem dX10_passOver_11 : decode cX10_passOver 11 = .ok (.getfield 18, 3) := by decide +kernel
theorem dX10_passOver_14 : decode cX10_passOver 14 = .ok (.iload_n 2, 1) := by decide +kernel
theorem dX10_passOver_15 : decode cX10_passOver 15 = .ok (.aload_n 0, 1) := by decide +kernel
theorem dX10_passOver_16 : decode cX10_passOver 16 = .ok (.aload_n 1, 1) := by decide +kernel
theorem dX10_passOver_17 : decode cX10_passOver 17 = .ok (.aload_n 1, 1) := by decide +kernel
theorem dX10_passOver_18 : decode cX10_passOver 18 = .ok (.getfield 27, 3) := by decide +kernel
theorem dX10_passOver_21 : decode cX10_passOver 21 = .ok (.iload_n 2, 1) := by decide +kernel
theorem dX10_passOver_22 : decode cX10_passOver 22 = .ok (.iaload, 1) := by decide +kernel
theorem dX10_passOver_23 : decode cX10_passOver 23 = .ok (.aload_n 1, 1) := by decide +kernel
theorem dX10_passOver_24 : decode cX10_passOver 24 = .ok (.getfield 30, 3) := by decide +kernel
theorem dX10_passOver_27 : decode cX10_passOver 27 = .ok (.iload_n 2, 1) := by decide +kernel
theorem dX10_passOver_28 : decode cX10_passOver 28 = .ok (.iaload, 1) := by decide +kernel
theorem dX10_passOver_29 : decode cX10_passOver 29 = .ok (.invokevirtual 33, 3) := by decide +kernel
theorem dX10_passOver_32 : decode cX10_passOver 32 = .ok (.iastore, 1) := by decide +kernel
theorem dX10_passOver_33 : decode cX10_passOver 33 = .ok (.iinc 2 1, 3) := by decide +kernel
theorem dX10_passOver_36 : decode cX10_passOver 36 = .ok (.goto (-34), 3) := by decide +kernel
theorem dX10_passOver_39 : decode cX10_passOver 39 = .ok (.return_, 1) := by decide +kernel
noncomputable def vX10_passOver : List Cond := .code yX10_passOver cX10_passOver 3 none :: (([.fieldLink RX10 22 "IcicleClock$Street" "icicles" "I", .fieldLink RX10 18 "IcicleClock$Winter" "fall" "[I", .fieldLink RX10 27 "IcicleClock$Street" "eaveOf" "[I", .fieldLink RX10 30 "IcicleClock$Street" "lengthHung" "[I", .methodLink RX10 33 yX10_fallOf, .instanceMethod yX10_fallOf, .selects RX10 yX10_fallOf yX10_fallOf, .initialized RX10] : List Cond) ++ (wsX60 ++ (wsX100 ++ vX10_fallOf)))
theorem iX10_passOver_6 : ∀ w ∈ wsX60, w ∈ vX10_passOver := fun _ h => List.mem_cons_of_mem _ (List.mem_append_right _ (List.mem_append_left _ h))
theorem iX10_passOver_10 : ∀ w ∈ wsX100, w ∈ vX10_passOver := fun _ h => List.mem_cons_of_mem _ (List.mem_append_right _ (List.mem_append_right _ (List.mem_append_left _ h)))
theorem gs_X10_passOver : Gd vX10_passOver := Gd.cons (by decide +kernel) (Gd.app (Gd.r (by decide +kernel)) (Gd.app gwX_6 (Gd.app gwX_10 gs_X10_fallOf)))
theorem gg_X10_passOver_X10_fallOf : GoodIn vX10_passOver (wsV RX10 33 RX10 yX10_fallOf vX10_fallOf) := goodIn_app (goodIn_r _ [5, 6, 7, 8] (by decide +kernel) (by decide +kernel)) (fun w h => ⟨List.mem_cons_of_mem _ (List.mem_append_right _ (List.mem_append_right _ (List.mem_append_right _ (h)))), gs_X10_fallOf w h⟩)
set_option maxHeartbeats 4000000 in
set_option maxRecDepth 100000 in
theorem s_X10_passOver (l : Launch) (D : va_G) (cs : Nat → ClassId) (ad : Nat → Nat) (kS : kSt) (K : sK) (hKO : KO K) (hj : wJ ad 218) (g : Nat → va_E) (hW : WF (shp ad K) ad cs g) (w : Nat) (hp0 : w = 114 ∨ w = 116) : sV l yX10_passOver vX10_passOver { frames := 3, cells := 0, slots := 0, locals := 71 } D cs ad kS [.ref (ad w), .ref (ad 3)] g (fun g2 => WF (shp ad K) ad cs g2 ∧ (∀ j, j ≠ w + 1 → g2 j = g j)) := by
  refine Met.startS (cc := cX10_passOver) (maxL := 3) (ret := none) RX10 rfl (by decide) rfl (Nat.le_of_ble_eq_true rfl) ?_
  intro p e s m below meth c ls X Z hP hl
  have hx := X.1
  have hb := X.2.1
  have hS : va_S (wA ad 218) s.heap s.heap [] := va_S.rf
  have hA : ∀ i, i < 218 → wA ad 218 (ad i) := fun i h => ⟨i, h, rfl⟩
  have hfr : ∀ j, j ≠ w + 1 → g j = g j := fun _ _ => rfl
  have hw_w := hp0
  have hl : lv_has ls 3 [(0, .ref (ad w)), (1, .ref (ad 3))] := hl
  refine lv_iconst (v := 0) hx hb dX10_passOver_0 (by decide) ?_
  refine lv_istore_n (lv' := [(2, .int 0), (0, .ref (ad w)), (1, .ref (ad 3))]) hx hb dX10_passOver_1 rfl hl (by decide) rfl (fun ls hl => ?_)
  have HL2 : ∀ (n2 : Nat) (v2_2 : Int32) (G2 : Nat → va_E) (H : Heap) (locs : List Loc) (ls : Array Slot), (8 - v2_2.toInt).toNat < n2 → (0 ≤ v2_2.toInt ∧ v2_2.toInt ≤ 8) → WF (shp ad K) ad cs G2 → (∀ j, j ≠ w + 1 → G2 j = g j) → va_P D vwCl (wL ad G2 218) H → va_S (wA ad 218) s.heap H locs → lv_has ls 3 [(2, .int v2_2), (0, .ref (ad w)), (1, .ref (ad 3))] → W p l e ({ frames := 3, cells := 0, slots := 0, locals := 71 } : Room) s m ([.ref (ad w), .ref (ad 3)] : List Value).toArray below meth c H locs 0 0 (MQ below (qV D ad 218 (fun g2 => WF (shp ad K) ad cs g2 ∧ (∀ j, j ≠ w + 1 → g2 j = g j))) ([.ref (ad w), .ref (ad 3)] : List Value).toArray s 0 0 (wA ad 218)) (F0 m 2 ls []) := by
    intro n2
    induction n2 with
    | zero =>
      intro v2_2 G2 H locs ls hm2 hv2_0 hW2 hfr2 hP hS hl
      exact absurd hm2 (Nat.not_lt_zero _)
    | succ n2 ih2 =>
      intro v2_2 G2 H locs ls hm2 hv2_0 hW2 hfr2 hP hS hl
      refine lv_iload_n hx hb dX10_passOver_2 rfl (lv_at hl 0 rfl) ?_
      refine lv_aload_n hx hb dX10_passOver_3 rfl (lv_at hl 2 rfl) ?_
      obtain ⟨fsc_1, hgc_1, hOc_1⟩ := hW2.obj (i := 3) (by decide) (sh_3 ad K)
      obtain ⟨x_3, hk_2, hlx_3, hhx_3⟩ := hOc_1.int 5 rfl
      refine q_get X iX10_passOver_6 hP (by decide) hgc_1 rfl 5 (by decide) (List.mem_of_getElem? (i := 1) rfl) (v := .int x_3) hk_2 dX10_passOver_4 ?_
      refine lv_icmp_ge (tgt := 39) hx hb dX10_passOver_7 (by decide) (fun hc_4 => ?_) (fun hc_4 => ?_)
      · have hhc_4 := n_le (rfl : x_3.toInt = x_3.toInt) (rfl : v2_2.toInt = v2_2.toInt) hc_4
        exact q_vret X hP hS ⟨hW2, hfr2⟩ dX10_passOver_39
      · have hhc_4 := n_nle (rfl : x_3.toInt = x_3.toInt) (rfl : v2_2.toInt = v2_2.toInt) hc_4
        refine lv_aload_n hx hb dX10_passOver_10 rfl (lv_at hl 1 rfl) ?_
        obtain ⟨fsc_5, hgc_5, hOc_5⟩ := hW2.obj (i := w) (by omega) (shW_0 ad K hw_w)
        have hk_6 := hOc_5.ref 3 rfl
        refine q_get X iX10_passOver_10 hP (by omega) hgc_5 rfl 3 (by decide) (List.mem_of_getElem? (i := 2) rfl) (v := .ref (ad (w + 1))) hk_6 dX10_passOver_11 ?_
        refine lv_iload_n hx hb dX10_passOver_14 rfl (lv_at hl 0 rfl) ?_
        refine lv_aload_n hx hb dX10_passOver_15 rfl (lv_at hl 1 rfl) ?_
        refine lv_aload_n hx hb dX10_passOver_16 rfl (lv_at hl 2 rfl) ?_
        refine lv_aload_n hx hb dX10_passOver_17 rfl (lv_at hl 2 rfl) ?_
        have hk_7 := hOc_1.ref 11 rfl
        refine q_get X iX10_passOver_6 hP (by decide) hgc_1 rfl 11 (by decide) (List.mem_of_getElem? (i := 3) rfl) (v := .ref (ad 7)) hk_7 dX10_passOver_18 ?_
        refine lv_iload_n hx hb dX10_passOver_21 rfl (lv_at hl 0 rfl) ?_
        obtain ⟨fc_8, hgc_8, hFc_8⟩ := hW2.arr (i := 7) (by decide) (sh_7 ad K)
        refine q_iald X hP (by decide) hgc_8 (n_in (rfl : v2_2.toInt = v2_2.toInt) (by omega) (by omega)) dX10_passOver_22 ?_
        refine lv_topi (fun z_9 ez_9 => ?_)
        have hz_9 : 0 ≤ z_9.toInt ∧ z_9.toInt ≤ 4 := ez_9 ▸ hFc_8 _
        refine lv_aload_n hx hb dX10_passOver_23 rfl (lv_at hl 2 rfl) ?_
        have hk_10 := hOc_1.ref 13 rfl
        refine q_get X iX10_passOver_6 hP (by decide) hgc_1 rfl 13 (by decide) (List.mem_of_getElem? (i := 4) rfl) (v := .ref (ad 9)) hk_10 dX10_passOver_24 ?_
        refine lv_iload_n hx hb dX10_passOver_27 rfl (lv_at hl 0 rfl) ?_
        obtain ⟨fc_11, hgc_11, hFc_11⟩ := hW2.arr (i := 9) (by decide) (sh_9 ad K)
        refine q_iald X hP (by decide) hgc_11 (n_in (rfl : v2_2.toInt = v2_2.toInt) (by omega) (by omega)) dX10_passOver_28 ?_
        refine lv_topi (fun z_12 ez_12 => ?_)
        refine s_calli (q := (RX10, TX10, 4)) (As := [.ref (ad 3), .int z_9, .int z_12]) (rest := [.int v2_2, .ref (ad (w + 1))]) X Z (s_X10_fallOf l D cs ad kS K hKO hj G2 hW2 w z_9 z_12 (by omega) (by omega)) (cwV 3 X.2.2.2.2.1 gg_X10_passOver_X10_fallOf rfl rfl rfl (by decide +kernel) ⟨Nat.le_of_ble_eq_true rfl, Nat.le_of_ble_eq_true rfl⟩) (by omega) hgc_5 rfl hP hA hS.2.1 hS rfl hl.1 rfl (Nat.le_of_ble_eq_true rfl) dX10_passOver_29 ⟨Nat.le_of_ble_eq_true rfl, Nat.le_of_ble_eq_true rfl⟩ (fun r_15 g_14 H locs hw_13 hP hS => ?_)
        obtain ⟨hw_13g, hw_13⟩ := hw_13
        rw [hw_13g] at hP
        obtain ⟨fc_16, hgc_16, hFc_16⟩ := hW2.arr (i := (w + 1)) (by omega) (shW_1 ad K hw_w)
        refine s_iast X hP hj hA hS (by omega) hgc_16 (n_in (rfl : v2_2.toInt = v2_2.toInt) (by omega) (by omega)) dX10_passOver_32 hW2 (shW_1 ad K hw_w) (hFc_16.put ⟨by omega, by omega⟩) (fun fc_17 gc_17 H locs ec_17 hFc_17 hgc_17 hfc_17 hWc_17 hP hS => ?_)
        have hg_19 := (hfc_17 3 (by omega)).trans hgc_1
        have hg_20 := (hfc_17 w (by omega)).trans hgc_5
        have hg_21 := (hfc_17 7 (by omega)).trans hgc_8
        have hg_22 := (hfc_17 9 (by omega)).trans hgc_11
        have hfr_18 : ∀ j, j ≠ w + 1 → gc_17 j = g j := fun j hj => (hfc_17 j (by omega)).trans (hfr2 j hj)
        obtain ⟨x_23, ex_23⟩ : ∃ y : Int32, y = v2_2 + 1 := ⟨_, rfl⟩
        have hx_23 : x_23.toInt = v2_2.toInt + 1 := n_add rfl (by decide : (1 : Int32).toInt = 1) ex_23 (by omega) (by omega)
        refine lv_iinc (v := x_23) (lv' := [(2, .int x_23), (0, .ref (ad w)), (1, .ref (ad 3))]) hx hb dX10_passOver_33 hl (k := 0) rfl (by rw [ex_23]; rfl) (by decide) rfl (fun ls hl => ?_)
        refine lv_goto (tgt := 2) hx hb dX10_passOver_36 (by decide) ?_
        exact ih2 x_23 gc_17 _ _ ls (by omega) (by omega) hWc_17 hfr_18 hP hS (lv_sub hl [0, 1, 2] rfl)
  have hiv2_2 : (0 : Int32).toInt = 0 := by decide
  exact HL2 _ 0 g _ _ ls (Nat.lt_succ_self _) (by omega) hW hfr hP hS (lv_sub hl [0, 1, 2] rfl)

theorem dX10_passUnder_0 : decode cX10_passUnder 0 = .ok (.iconst 0, 1) := by decide +kernel
theorem dX10_passUnder_1 : decode cX10_passUnder 1 = .ok (.istore_n 3, 1) := by decide +kernel
theorem dX10_passUnder_2 : decode cX10_passUnder 2 = .ok (.iload_n 3, 1) := by decide +kernel
theorem dX10_passUnder_3 : decode cX10_passUnder 3 = .ok (.aload_n 1, 1) := by decide +kernel
theorem dX10_passUnder_4 : decode cX10_passUnder 4 = .ok (.getfield 22, 3) := by decide +kernel
theorem dX10_passUnder_7 : decode cX10_passUnder 7 = .ok (.if_icmp .ge 37, 3) := by decide +kernel
theorem dX10_passUnder_10 : decode cX10_passUnder 10 = .ok (.aload_n 1, 1) := by decide +kernel
theorem dX10_passUnder_11 : decode cX10_passUnder 11 = .ok (.getfield 27, 3) := by decide +kernel
theorem dX10_passUnder_14 : decode cX10_passUnder 14 = .ok (.iload_n 3, 1) := by decide +kernel
theorem dX10_passUnder_15 : decode cX10_passUnder 15 = .ok (.iaload, 1) := by decide +kernel
theorem dX10_passUnder_16 : decode cX10_passUnder 16 = .ok (.iload_n 2, 1) := by decide +kernel
theorem dX10_passUnder_17 : decode cX10_passUnder 17 = .ok (.if_icmp .ne 21, 3) := by decide +kernel
theorem dX10_passUnder_20 : decode cX10_passUnder 20 = .ok (.aload_n 0, 1) := by decide +kernel
theorem dX10_passUnder_21 : decode cX10_passUnder 21 = .ok (.getfield 18, 3) := by decide +kernel
theorem dX10_passUnder_24 : decode cX10_passUnder 24 = .ok (.iload_n 3, 1) := by decide +kernel
theorem dX10_passUnder_25 : decode cX10_passUnder 25 = .ok (.aload_n 0, 1) := by decide +kernel
theorem dX10_passUnder_26 : decode cX10_passUnder 26 = .ok (.aload_n 1, 1) := by decide +kernel
theorem dX10_passUnder_27 : decode cX10_passUnder 27 = .ok (.iload_n 2, 1) := by decide +kernel
theorem dX10_passUnder_28 : decode cX10_passUnder 28 = .ok (.aload_n 1, 1) := by decide +kernel
theorem dX10_passUnder_29 : decode cX10_passUnder 29 = .ok (.getfield 30, 3) := by decide +kernel
theorem dX10_passUnder_32 : decode cX10_passUnder 32 = .ok (.iload_n 3, 1) := by decide +kernel
theorem dX10_passUnder_33 : decode cX10_passUnder 33 = .ok (.iaload, 1) := by decide +kernel
theorem dX10_passUnder_34 : decode cX10_passUnder 34 = .ok (.invokevirtual 33, 3) := by decide +kernel
theorem dX10_passUnder_37 : decode cX10_passUnder 37 = .ok (.iastore, 1) := by decide +kernel
theorem dX10_passUnder_38 : decode cX10_passUnder 38 = .ok (.iinc 3 1, 3) := by decide +kernel
theorem dX10_passUnder_41 : decode cX10_passUnder 41 = .ok (.goto (-39), 3) := by decide +kernel
theorem dX10_passUnder_44 : decode cX10_passUnder 44 = .ok (.return_, 1) := by decide +kernel
noncomputable def vX10_passUnder : List Cond := .code yX10_passUnder cX10_passUnder 4 none :: (([.fieldLink RX10 22 "IcicleClock$Street" "icicles" "I", .fieldLink RX10 27 "IcicleClock$Street" "eaveOf" "[I", .fieldLink RX10 18 "IcicleClock$Winter" "fall" "[I", .fieldLink RX10 30 "IcicleClock$Street" "lengthHung" "[I", .methodLink RX10 33 yX10_fallOf, .instanceMethod yX10_fallOf, .selects RX10 yX10_fallOf yX10_fallOf, .initialized RX10] : List Cond) ++ (wsX60 ++ (wsX100 ++ vX10_fallOf)))
theorem iX10_passUnder_6 : ∀ w ∈ wsX60, w ∈ vX10_passUnder := fun _ h => List.mem_cons_of_mem _ (List.mem_append_right _ (List.mem_append_left _ h))
theorem iX10_passUnder_10 : ∀ w ∈ wsX100, w ∈ vX10_passUnder := fun _ h => List.mem_cons_of_mem _ (List.mem_append_right _ (List.mem_append_right _ (List.mem_append_left _ h)))
theorem gs_X10_passUnder : Gd vX10_passUnder := Gd.cons (by decide +kernel) (Gd.app (Gd.r (by decide +kernel)) (Gd.app gwX_6 (Gd.app gwX_10 gs_X10_fallOf)))
theorem gg_X10_passUnder_X10_fallOf : GoodIn vX10_passUnder (wsV RX10 33 RX10 yX10_fallOf vX10_fallOf) := goodIn_app (goodIn_r _ [5, 6, 7, 8] (by decide +kernel) (by decide +kernel)) (fun w h => ⟨List.mem_cons_of_mem _ (List.mem_append_right _ (List.mem_append_right _ (List.mem_append_right _ (h)))), gs_X10_fallOf w h⟩)
set_option maxHeartbeats 4000000 in
set_option maxRecDepth 100000 in
theorem s_X10_passUnder (l : Launch) (D : va_G) (cs : Nat → ClassId) (ad : Nat → Nat) (kS : kSt) (K : sK) (hKO : KO K) (hj : wJ ad 218) (g : Nat → va_E) (hW : WF (shp ad K) ad cs g) (w : Nat) (ev : Int32) (hp0 : w = 114 ∨ w = 116) (hp1 : 0 ≤ ev.toInt ∧ ev.toInt ≤ 4) : sV l yX10_passUnder vX10_passUnder { frames := 3, cells := 0, slots := 0, locals := 71 } D cs ad kS [.ref (ad w), .ref (ad 3), .int ev] g (fun g2 => WF (shp ad K) ad cs g2 ∧ (∀ j, j ≠ w + 1 → g2 j = g j)) := by
  refine Met.startS (cc := cX10_passUnder) (maxL := 4) (ret := none) RX10 rfl (by decide) rfl (Nat.le_of_ble_eq_true rfl) ?_
  intro p e s m below meth c ls X Z hP hl
  have hx := X.1
  have hb := X.2.1
  have hS : va_S (wA ad 218) s.heap s.heap [] := va_S.rf
  have hA : ∀ i, i < 218 → wA ad 218 (ad i) := fun i h => ⟨i, h, rfl⟩
  have hfr : ∀ j, j ≠ w + 1 → g j = g j := fun _ _ => rfl
  have hw_w := hp0
  have hl : lv_has ls 4 [(0, .ref (ad w)), (1, .ref (ad 3)), (2, .int ev)] := hl
  refine lv_iconst (v := 0) hx hb dX10_passUnder_0 (by decide) ?_
  refine lv_istore_n (lv' := [(3, .int 0), (0, .ref (ad w)), (1, .ref (ad 3)), (2, .int ev)]) hx hb dX10_passUnder_1 rfl hl (by decide) rfl (fun ls hl => ?_)
  have HL2 : ∀ (n2 : Nat) (v2_3 : Int32) (G2 : Nat → va_E) (H : Heap) (locs : List Loc) (ls : Array Slot), (8 - v2_3.toInt).toNat < n2 → (0 ≤ v2_3.toInt ∧ v2_3.toInt ≤ 8) → WF (shp ad K) ad cs G2 → (∀ j, j ≠ w + 1 → G2 j = g j) → va_P D vwCl (wL ad G2 218) H → va_S (wA ad 218) s.heap H locs → lv_has ls 4 [(3, .int v2_3), (0, .ref (ad w)), (1, .ref (ad 3)), (2, .int ev)] → W p l e ({ frames := 3, cells := 0, slots := 0, locals := 71 } : Room) s m ([.ref (ad w), .ref (ad 3), .int ev] : List Value).toArray below meth c H locs 0 0 (MQ below (qV D ad 218 (fun g2 => WF (shp ad K) ad cs g2 ∧ (∀ j, j ≠ w + 1 → g2 j = g j))) ([.ref (ad w), .ref (ad 3), .int ev] : List Value).toArray s 0 0 (wA ad 218)) (F0 m 2 ls []) := by
    intro n2
    induction n2 with
    | zero =>
      intro v2_3 G2 H locs ls hm2 hv2_0 hW2 hfr2 hP hS hl
      exact absurd hm2 (Nat.not_lt_zero _)
    | succ n2 ih2 =>
      intro v2_3 G2 H locs ls hm2 hv2_0 hW2 hfr2 hP hS hl
      refine lv_iload_n hx hb dX10_passUnder_2 rfl (lv_at hl 0 rfl) ?_
      refine lv_aload_n hx hb dX10_passUnder_3 rfl (lv_at hl 2 rfl) ?_
      obtain ⟨fsc_1, hgc_1, hOc_1⟩ := hW2.obj (i := 3) (by decide) (sh_3 ad K)
      obtain ⟨x_3, hk_2, hlx_3, hhx_3⟩ := hOc_1.int 5 rfl
      refine q_get X iX10_passUnder_6 hP (by decide) hgc_1 rfl 5 (by decide) (List.mem_of_getElem? (i := 1) rfl) (v := .int x_3) hk_2 dX10_passUnder_4 ?_
      refine lv_icmp_ge (tgt := 44) hx hb dX10_passUnder_7 (by decide) (fun hc_4 => ?_) (fun hc_4 => ?_)
      · have hhc_4 := n_le (rfl : x_3.toInt = x_3.toInt) (rfl : v2_3.toInt = v2_3.toInt) hc_4
        exact q_vret X hP hS ⟨hW2, hfr2⟩ dX10_passUnder_44
      · have hhc_4 := n_nle (rfl : x_3.toInt = x_3.toInt) (rfl : v2_3.toInt = v2_3.toInt) hc_4
        refine lv_aload_n hx hb dX10_passUnder_10 rfl (lv_at hl 2 rfl) ?_
        have hk_5 := hOc_1.ref 11 rfl
        refine q_get X iX10_passUnder_6 hP (by decide) hgc_1 rfl 11 (by decide) (List.mem_of_getElem? (i := 2) rfl) (v := .ref (ad 7)) hk_5 dX10_passUnder_11 ?_
        refine lv_iload_n hx hb dX10_passUnder_14 rfl (lv_at hl 0 rfl) ?_
        obtain ⟨fc_6, hgc_6, hFc_6⟩ := hW2.arr (i := 7) (by decide) (sh_7 ad K)
        refine q_iald X hP (by decide) hgc_6 (n_in (rfl : v2_3.toInt = v2_3.toInt) (by omega) (by omega)) dX10_passUnder_15 ?_
        refine lv_topi (fun z_7 ez_7 => ?_)
        have hz_7 : 0 ≤ z_7.toInt ∧ z_7.toInt ≤ 4 := ez_7 ▸ hFc_6 _
        refine lv_iload_n hx hb dX10_passUnder_16 rfl (lv_at hl 3 rfl) ?_
        have HJ38 : ∀ (G38 : Nat → va_E) (H : Heap) (locs : List Loc) (ls : Array Slot), WF (shp ad K) ad cs G38 → (∀ j, j ≠ w + 1 → G38 j = g j) → G38 3 = .inr (6, fsc_1) → G38 7 = .inl (cs 1, 8, .inl fc_6) → va_P D vwCl (wL ad G38 218) H → va_S (wA ad 218) s.heap H locs → lv_has ls 4 [(3, .int v2_3), (0, .ref (ad w)), (1, .ref (ad 3)), (2, .int ev)] → W p l e ({ frames := 3, cells := 0, slots := 0, locals := 71 } : Room) s m ([.ref (ad w), .ref (ad 3), .int ev] : List Value).toArray below meth c H locs 0 0 (MQ below (qV D ad 218 (fun g2 => WF (shp ad K) ad cs g2 ∧ (∀ j, j ≠ w + 1 → g2 j = g j))) ([.ref (ad w), .ref (ad 3), .int ev] : List Value).toArray s 0 0 (wA ad 218)) (F0 m 38 ls []) := by
          intro G38 H locs ls hW38 hfr38 hg38_0 hg38_1 hP hS hl
          obtain ⟨x_8, ex_8⟩ : ∃ y : Int32, y = v2_3 + 1 := ⟨_, rfl⟩
          have hx_8 : x_8.toInt = v2_3.toInt + 1 := n_add rfl (by decide : (1 : Int32).toInt = 1) ex_8 (by omega) (by omega)
          refine lv_iinc (v := x_8) (lv' := [(3, .int x_8), (0, .ref (ad w)), (1, .ref (ad 3)), (2, .int ev)]) hx hb dX10_passUnder_38 hl (k := 0) rfl (by rw [ex_8]; rfl) (by decide) rfl (fun ls hl => ?_)
          refine lv_goto (tgt := 2) hx hb dX10_passUnder_41 (by decide) ?_
          exact ih2 x_8 G38 _ _ ls (by omega) (by omega) hW38 hfr38 hP hS (lv_sub hl [0, 1, 2, 3] rfl)
        refine lv_icmp_ne (tgt := 38) hx hb dX10_passUnder_17 (by decide) (fun hc_9 => ?_) (fun hc_9 => ?_)
        · have hhc_9 := n_ne (rfl : z_7.toInt = z_7.toInt) (rfl : ev.toInt = ev.toInt) hc_9
          exact HJ38 G2 _ _ ls hW2 hfr2 hgc_1 hgc_6 hP hS (lv_sub hl [0, 1, 2, 3] rfl)
        · have hhc_9 := n_eq (rfl : z_7.toInt = z_7.toInt) (rfl : ev.toInt = ev.toInt) hc_9
          refine lv_aload_n hx hb dX10_passUnder_20 rfl (lv_at hl 1 rfl) ?_
          obtain ⟨fsc_10, hgc_10, hOc_10⟩ := hW2.obj (i := w) (by omega) (shW_0 ad K hw_w)
          have hk_11 := hOc_10.ref 3 rfl
          refine q_get X iX10_passUnder_10 hP (by omega) hgc_10 rfl 3 (by decide) (List.mem_of_getElem? (i := 3) rfl) (v := .ref (ad (w + 1))) hk_11 dX10_passUnder_21 ?_
          refine lv_iload_n hx hb dX10_passUnder_24 rfl (lv_at hl 0 rfl) ?_
          refine lv_aload_n hx hb dX10_passUnder_25 rfl (lv_at hl 1 rfl) ?_
          refine lv_aload_n hx hb dX10_passUnder_26 rfl (lv_at hl 2 rfl) ?_
          refine lv_iload_n hx hb dX10_passUnder_27 rfl (lv_at hl 3 rfl) ?_
          refine lv_aload_n hx hb dX10_passUnder_28 rfl (lv_at hl 2 rfl) ?_
          have hk_12 := hOc_1.ref 13 rfl
          refine q_get X iX10_passUnder_6 hP (by decide) hgc_1 rfl 13 (by decide) (List.mem_of_getElem? (i := 4) rfl) (v := .ref (ad 9)) hk_12 dX10_passUnder_29 ?_
          refine lv_iload_n hx hb dX10_passUnder_32 rfl (lv_at hl 0 rfl) ?_
          obtain ⟨fc_13, hgc_13, hFc_13⟩ := hW2.arr (i := 9) (by decide) (sh_9 ad K)
          refine q_iald X hP (by decide) hgc_13 (n_in (rfl : v2_3.toInt = v2_3.toInt) (by omega) (by omega)) dX10_passUnder_33 ?_
          refine lv_topi (fun z_14 ez_14 => ?_)
          refine s_calli (q := (RX10, TX10, 4)) (As := [.ref (ad 3), .int ev, .int z_14]) (rest := [.int v2_3, .ref (ad (w + 1))]) X Z (s_X10_fallOf l D cs ad kS K hKO hj G2 hW2 w ev z_14 (by omega) (by omega)) (cwV 3 X.2.2.2.2.1 gg_X10_passUnder_X10_fallOf rfl rfl rfl (by decide +kernel) ⟨Nat.le_of_ble_eq_true rfl, Nat.le_of_ble_eq_true rfl⟩) (by omega) hgc_10 rfl hP hA hS.2.1 hS rfl hl.1 rfl (Nat.le_of_ble_eq_true rfl) dX10_passUnder_34 ⟨Nat.le_of_ble_eq_true rfl, Nat.le_of_ble_eq_true rfl⟩ (fun r_17 g_16 H locs hw_15 hP hS => ?_)
          obtain ⟨hw_15g, hw_15⟩ := hw_15
          rw [hw_15g] at hP
          obtain ⟨fc_18, hgc_18, hFc_18⟩ := hW2.arr (i := (w + 1)) (by omega) (shW_1 ad K hw_w)
          refine s_iast X hP hj hA hS (by omega) hgc_18 (n_in (rfl : v2_3.toInt = v2_3.toInt) (by omega) (by omega)) dX10_passUnder_37 hW2 (shW_1 ad K hw_w) (hFc_18.put ⟨by omega, by omega⟩) (fun fc_19 gc_19 H locs ec_19 hFc_19 hgc_19 hfc_19 hWc_19 hP hS => ?_)
          have hg_21 := (hfc_19 3 (by omega)).trans hgc_1
          have hg_22 := (hfc_19 7 (by omega)).trans hgc_6
          have hg_23 := (hfc_19 w (by omega)).trans hgc_10
          have hg_24 := (hfc_19 9 (by omega)).trans hgc_13
          have hfr_20 : ∀ j, j ≠ w + 1 → gc_19 j = g j := fun j hj => (hfc_19 j (by omega)).trans (hfr2 j hj)
          exact HJ38 gc_19 _ _ ls hWc_19 hfr_20 hg_21 hg_22 hP hS (lv_sub hl [0, 1, 2, 3] rfl)
  have hiv2_3 : (0 : Int32).toInt = 0 := by decide
  exact HL2 _ 0 g _ _ ls (Nat.lt_succ_self _) (by omega) hW hfr hP hS (lv_sub hl [0, 1, 2, 3] rfl)

theorem dX11_drawWinter_0 : decode cX11_drawWinter 0 = .ok (.lload_n 1, 1) := by decide +kernel
theorem dX11_drawWinter_1 : decode cX11_drawWinter 1 = .ok (.lstore_n 3, 1) := by decide +kernel
theorem dX11_drawWinter_2 : decode cX11_drawWinter 2 = .ok (.aload_n 0, 1) := by decide +kernel
theorem dX11_drawWinter_3 : decode cX11_drawWinter 3 = .ok (.getfield 48, 3) := by decide +kernel
theorem dX11_drawWinter_6 : decode cX11_drawWinter 6 = .ok (.iconst 0, 1) := by decide +kernel
theorem dX11_drawWinter_7 : decode cX11_drawWinter 7 = .ok (.putfield 365, 3) := by decide +kernel
theorem dX11_drawWinter_10 : decode cX11_drawWinter 10 = .ok (.iconst 0, 1) := by decide +kernel
theorem dX11_drawWinter_11 : decode cX11_drawWinter 11 = .ok (.istore 5, 2) := by decide +kernel
theorem dX11_drawWinter_13 : decode cX11_drawWinter 13 = .ok (.iload 5, 2) := by decide +kernel
theorem dX11_drawWinter_15 : decode cX11_drawWinter 15 = .ok (.aload_n 0, 1) := by decide +kernel
theorem dX11_drawWinter_16 : decode cX11_drawWinter 16 = .ok (.getfield 19, 3) := by decide +kernel
theorem dX11_drawWinter_19 : decode cX11_drawWinter 19 = .ok (.getfield 177, 3) := by decide +kernel
theorem dX11_drawWinter_22 : decode cX11_drawWinter 22 = .ok (.if_icmp .ge 73, 3) := by decide +kernel
theorem dX11_drawWinter_25 : decode cX11_drawWinter 25 = .ok (.aload_n 0, 1) := by decide +kernel
theorem dX11_drawWinter_26 : decode cX11_drawWinter 26 = .ok (.getfield 19, 3) := by decide +kernel
theorem dX11_drawWinter_29 : decode cX11_drawWinter 29 = .ok (.getfield 415, 3) := by decide +kernel
theorem dX11_drawWinter_32 : decode cX11_drawWinter 32 = .ok (.iload 5, 2) := by decide +kernel
theorem dX11_drawWinter_34 : decode cX11_drawWinter 34 = .ok (.baload, 1) := by decide +kernel
theorem dX11_drawWinter_35 : decode cX11_drawWinter 35 = .ok (.ifCond .eq 54, 3) := by decide +kernel
theorem dX11_drawWinter_38 : decode cX11_drawWinter 38 = .ok (.ldc2_w 418, 3) := by decide +kernel
theorem dX11_drawWinter_41 : decode cX11_drawWinter 41 = .ok (.lload_n 3, 1) := by decide +kernel
theorem dX11_drawWinter_42 : decode cX11_drawWinter 42 = .ok (.lmul, 1) := by decide +kernel
theorem dX11_drawWinter_43 : decode cX11_drawWinter 43 = .ok (.ldc2_w 420, 3) := by decide +kernel
theorem dX11_drawWinter_46 : decode cX11_drawWinter 46 = .ok (.ladd, 1) := by decide +kernel
theorem dX11_drawWinter_47 : decode cX11_drawWinter 47 = .ok (.ldc2_w 422, 3) := by decide +kernel
theorem dX11_drawWinter_50 : decode cX11_drawWinter 50 = .ok (.lrem, 1) := by decide +kernel
theorem dX11_drawWinter_51 : decode cX11_drawWinter 51 = .ok (.lstore_n 3, 1) := by decide +kernel
theorem dX11_drawWinter_52 : decode cX11_drawWinter 52 = .ok (.lload_n 3, 1) := by decide +kernel
theorem dX11_drawWinter_53 : decode cX11_drawWinter 53 = .ok (.ldc2_w 424, 3) := by decide +kernel
theorem dX11_drawWinter_56 : decode cX11_drawWinter 56 = .ok (.ldiv, 1) := by decide +kernel
theorem dX11_drawWinter_57 : decode cX11_drawWinter 57 = .ok (.ldc2_w 426, 3) := by decide +kernel
theorem dX11_drawWinter_60 : decode cX11_drawWinter 60 = .ok (.lrem, 1) := by decide +kernel
theorem dX11_drawWinter_61 : decode cX11_drawWinter 61 = .ok (.aload_n 0, 1) := by decide +kernel
theorem dX11_drawWinter_62 : decode cX11_drawWinter 62 = .ok (.getfield 19, 3) := by decide +kernel
theorem dX11_drawWinter_65 : decode cX11_drawWinter 65 = .ok (.getfield 371, 3) := by decide +kernel
theorem dX11_drawWinter_68 : decode cX11_drawWinter 68 = .ok (.i2l, 1) := by decide +kernel
theorem dX11_drawWinter_69 : decode cX11_drawWinter 69 = .ok (.lcmp, 1) := by decide +kernel
theorem dX11_drawWinter_70 : decode cX11_drawWinter 70 = .ok (.ifCond .ge 19, 3) := by decide +kernel
theorem dX11_drawWinter_73 : decode cX11_drawWinter 73 = .ok (.aload_n 0, 1) := by decide +kernel
theorem dX11_drawWinter_74 : decode cX11_drawWinter 74 = .ok (.getfield 48, 3) := by decide +kernel
theorem dX11_drawWinter_77 : decode cX11_drawWinter 77 = .ok (.dup, 1) := by decide +kernel
theorem dX11_drawWinter_78 : decode cX11_drawWinter 78 = .ok (.getfield 365, 3) := by decide +kernel
theorem dX11_drawWinter_81 : decode cX11_drawWinter 81 = .ok (.iconst 1, 1) := by decide +kernel
theorem dX11_drawWinter_82 : decode cX11_drawWinter 82 = .ok (.iload 5, 2) := by decide +kernel
theorem dX11_drawWinter_84 : decode cX11_drawWinter 84 = .ok (.ishl, 1) := by decide +kernel
theorem dX11_drawWinter_85 : decode cX11_drawWinter 85 = .ok (.ior, 1) := by decide +kernel
theorem dX11_drawWinter_86 : decode cX11_drawWinter 86 = .ok (.putfield 365, 3) := by decide +kernel
theorem dX11_drawWinter_89 : decode cX11_drawWinter 89 = .ok (.iinc 5 1, 3) := by decide +kernel
theorem dX11_drawWinter_92 : decode cX11_drawWinter 92 = .ok (.goto (-79), 3) := by decide +kernel
theorem dX11_drawWinter_95 : decode cX11_drawWinter 95 = .ok (.aload_n 0, 1) := by decide +kernel
theorem dX11_drawWinter_96 : decode cX11_drawWinter 96 = .ok (.getfield 48, 3) := by decide +kernel
theorem dX11_drawWinter_99 : decode cX11_drawWinter 99 = .ok (.aload_n 0, 1) := by decide +kernel
theorem dX11_drawWinter_100 : decode cX11_drawWinter 100 = .ok (.getfield 19, 3) := by decide +kernel
theorem dX11_drawWinter_103 : decode cX11_drawWinter 103 = .ok (.invokevirtual 109, 3) := by decide +kernel
theorem dX11_drawWinter_106 : decode cX11_drawWinter 106 = .ok (.return_, 1) := by decide +kernel
noncomputable def vX11_drawWinter : List Cond := .code yX11_drawWinter cX11_drawWinter 6 none :: (([.fieldLink RX11 48 "IcicleClock" "whatIf" "LIcicleClock$Winter;", .fieldLink RX11 365 "IcicleClock$Winter" "warm" "I", .fieldLink RX11 19 "IcicleClock" "now" "LIcicleClock$Street;", .fieldLink RX11 177 "IcicleClock$Street" "days" "I", .fieldLink RX11 415 "IcicleClock$Street" "isThaw" "[Z", .constantLong RX11 418 (1103515245), .constantLong RX11 420 (12345), .constantLong RX11 422 (2147483648), .constantLong RX11 424 (65536), .constantLong RX11 426 (10), .fieldLink RX11 371 "IcicleClock$Street" "odds" "I", .methodLink RX11 109 yX10_passOver, .instanceMethod yX10_passOver, .selects RX10 yX10_passOver yX10_passOver, .initialized RX10] : List Cond) ++ (wsX110 ++ (wsX100 ++ (wsX60 ++ vX10_passOver))))
theorem iX11_drawWinter_11 : ∀ w ∈ wsX110, w ∈ vX11_drawWinter := fun _ h => List.mem_cons_of_mem _ (List.mem_append_right _ (List.mem_append_left _ h))
theorem iX11_drawWinter_10 : ∀ w ∈ wsX100, w ∈ vX11_drawWinter := fun _ h => List.mem_cons_of_mem _ (List.mem_append_right _ (List.mem_append_right _ (List.mem_append_left _ h)))
theorem iX11_drawWinter_6 : ∀ w ∈ wsX60, w ∈ vX11_drawWinter := fun _ h => List.mem_cons_of_mem _ (List.mem_append_right _ (List.mem_append_right _ (List.mem_append_right _ (List.mem_append_left _ h))))
theorem gs_X11_drawWinter : Gd vX11_drawWinter := Gd.cons (by decide +kernel) (Gd.app (Gd.r (by decide +kernel)) (Gd.app gwX_11 (Gd.app gwX_10 (Gd.app gwX_6 gs_X10_passOver))))
theorem gg_X11_drawWinter_X10_passOver : GoodIn vX11_drawWinter (wsV RX11 109 RX10 yX10_passOver vX10_passOver) := goodIn_app (goodIn_r _ [12, 13, 14, 15] (by decide +kernel) (by decide +kernel)) (fun w h => ⟨List.mem_cons_of_mem _ (List.mem_append_right _ (List.mem_append_right _ (List.mem_append_right _ (List.mem_append_right _ (h))))), gs_X10_passOver w h⟩)
set_option maxHeartbeats 4000000 in
set_option maxRecDepth 100000 in
theorem s_X11_drawWinter (l : Launch) (D : va_G) (cs : Nat → ClassId) (ad : Nat → Nat) (kS : kSt) (K : sK) (hKO : KO K) (hj : wJ ad 218) (g : Nat → va_E) (hW : WF (shp ad K) ad cs g) (sd : Int64) : sV l yX11_drawWinter vX11_drawWinter { frames := 4, cells := 0, slots := 0, locals := 93 } D cs ad kS [.ref (ad 0), .long sd] g (fun g2 => WF (shp ad K) ad cs g2 ∧ (∀ j, j ≠ 116 ∧ j ≠ 117 → g2 j = g j)) := by
  refine Met.startS (cc := cX11_drawWinter) (maxL := 6) (ret := none) RX11 rfl (by decide) rfl (Nat.le_of_ble_eq_true rfl) ?_
  intro p e s m below meth c ls X Z hP hl
  have hx := X.1
  have hb := X.2.1
  have hS : va_S (wA ad 218) s.heap s.heap [] := va_S.rf
  have hA : ∀ i, i < 218 → wA ad 218 (ad i) := fun i h => ⟨i, h, rfl⟩
  have hfr : ∀ j, j ≠ 116 ∧ j ≠ 117 → g j = g j := fun _ _ => rfl
  have hl : lv_has ls 6 [(0, .ref (ad 0)), (1, .long sd)] := hl
  refine lv_lload_n hx hb dX11_drawWinter_0 rfl (lv_at hl 1 rfl) ?_
  refine lv_lstore_n (lv' := [(3, .long sd), (0, .ref (ad 0)), (1, .long sd)]) hx hb dX11_drawWinter_1 rfl hl (by decide) rfl (fun ls hl => ?_)
  refine lv_aload_n hx hb dX11_drawWinter_2 rfl (lv_at hl 1 rfl) ?_
  obtain ⟨fsc_1, hgc_1, hOc_1⟩ := hW.obj (i := 0) (by decide) (sh_0 ad K)
  have hk_2 := hOc_1.ref 7 rfl
  refine q_get X iX11_drawWinter_11 hP (by decide) hgc_1 rfl 7 (by decide) (List.mem_of_getElem? (i := 1) rfl) (v := .ref (ad 116)) hk_2 dX11_drawWinter_3 ?_
  refine lv_iconst (v := 0) hx hb dX11_drawWinter_6 (by decide) ?_
  obtain ⟨fsc_3, hgc_3, hOc_3⟩ := hW.obj (i := 116) (by decide) (sh_116 ad K)
  refine s_put X iX11_drawWinter_10 tyX10 tyX10_ok nmX10 hP hj hA hS (by decide) hgc_3 rfl 0 (by decide) (List.mem_of_getElem? (i := 2) rfl) rfl (ty := .int) (v := .int 0) (by decide +kernel) rfl rfl dX11_drawWinter_7 hW (sh_116 ad K) hOc_3 rfl ⟨0, rfl, n_lo _, n_hi _⟩ (fun fsc_4 gc_4 H locs hOc_4 hkc_4 hnc_4 hgc_4 hfc_4 hWc_4 hP hS => ?_)
  have hg_6 := (hfc_4 0 (by decide)).trans hgc_1
  have hfr_5 : ∀ j, j ≠ 116 ∧ j ≠ 117 → gc_4 j = g j := fun j hj => (hfc_4 j (by omega)).trans (hfr j hj)
  refine lv_iconst (v := 0) hx hb dX11_drawWinter_10 (by decide) ?_
  refine lv_istore (lv' := [(5, .int 0), (3, .long sd), (0, .ref (ad 0)), (1, .long sd)]) hx hb dX11_drawWinter_11 hl (by decide) rfl (fun ls hl => ?_)
  have HL13 : ∀ (n13 : Nat) (v13_5 : Int32) (v13_3 : Int64) (G13 : Nat → va_E) (H : Heap) (locs : List Loc) (ls : Array Slot), (14 - v13_5.toInt).toNat < n13 → (0 ≤ v13_5.toInt ∧ v13_5.toInt ≤ 14) → WF (shp ad K) ad cs G13 → (∀ j, j ≠ 116 ∧ j ≠ 117 → G13 j = g j) → va_P D vwCl (wL ad G13 218) H → va_S (wA ad 218) s.heap H locs → lv_has ls 6 [(5, .int v13_5), (3, .long v13_3), (0, .ref (ad 0))] → W p l e ({ frames := 4, cells := 0, slots := 0, locals := 93 } : Room) s m ([.ref (ad 0), .long sd] : List Value).toArray below meth c H locs 0 0 (MQ below (qV D ad 218 (fun g2 => WF (shp ad K) ad cs g2 ∧ (∀ j, j ≠ 116 ∧ j ≠ 117 → g2 j = g j))) ([.ref (ad 0), .long sd] : List Value).toArray s 0 0 (wA ad 218)) (F0 m 13 ls []) := by
    intro n13
    induction n13 with
    | zero =>
      intro v13_5 v13_3 G13 H locs ls hm13 hv13_0 hW13 hfr13 hP hS hl
      exact absurd hm13 (Nat.not_lt_zero _)
    | succ n13 ih13 =>
      intro v13_5 v13_3 G13 H locs ls hm13 hv13_0 hW13 hfr13 hP hS hl
      refine lv_iload hx hb dX11_drawWinter_13 (lv_at hl 0 rfl) ?_
      refine lv_aload_n hx hb dX11_drawWinter_15 rfl (lv_at hl 2 rfl) ?_
      obtain ⟨fsc_7, hgc_7, hOc_7⟩ := hW13.obj (i := 0) (by decide) (sh_0 ad K)
      have hk_8 := hOc_7.ref 1 rfl
      refine q_get X iX11_drawWinter_11 hP (by decide) hgc_7 rfl 1 (by decide) (List.mem_of_getElem? (i := 3) rfl) (v := .ref (ad 3)) hk_8 dX11_drawWinter_16 ?_
      obtain ⟨fsc_9, hgc_9, hOc_9⟩ := hW13.obj (i := 3) (by decide) (sh_3 ad K)
      obtain ⟨x_11, hk_10, hlx_11, hhx_11⟩ := hOc_9.int 3 rfl
      refine q_get X iX11_drawWinter_6 hP (by decide) hgc_9 rfl 3 (by decide) (List.mem_of_getElem? (i := 4) rfl) (v := .int x_11) hk_10 dX11_drawWinter_19 ?_
      refine lv_icmp_ge (tgt := 95) hx hb dX11_drawWinter_22 (by decide) (fun hc_12 => ?_) (fun hc_12 => ?_)
      · have hhc_12 := n_le (rfl : x_11.toInt = x_11.toInt) (rfl : v13_5.toInt = v13_5.toInt) hc_12
        refine lv_aload_n hx hb dX11_drawWinter_95 rfl (lv_at hl 2 rfl) ?_
        have hk_13 := hOc_7.ref 7 rfl
        refine q_get X iX11_drawWinter_11 hP (by decide) hgc_7 rfl 7 (by decide) (List.mem_of_getElem? (i := 1) rfl) (v := .ref (ad 116)) hk_13 dX11_drawWinter_96 ?_
        refine lv_aload_n hx hb dX11_drawWinter_99 rfl (lv_at hl 2 rfl) ?_
        refine q_get X iX11_drawWinter_11 hP (by decide) hgc_7 rfl 1 (by decide) (List.mem_of_getElem? (i := 3) rfl) (v := .ref (ad 3)) hk_8 dX11_drawWinter_100 ?_
        obtain ⟨fsc_17, hgc_17, hOc_17⟩ := hW13.obj (i := 116) (by decide) (sh_116 ad K)
        refine s_callv (q := (RX10, TX10, 4)) (As := [.ref (ad 3)]) (rest := []) X Z (s_X10_passOver l D cs ad kS K hKO hj G13 hW13 116 (by omega)) (cwV 1 X.2.2.2.2.1 gg_X11_drawWinter_X10_passOver rfl rfl rfl (by decide +kernel) ⟨Nat.le_of_ble_eq_true rfl, Nat.le_of_ble_eq_true rfl⟩) (by decide) hgc_17 rfl hP hA hS.2.1 hS rfl hl.1 rfl (Nat.le_of_ble_eq_true rfl) dX11_drawWinter_103 ⟨Nat.le_of_ble_eq_true rfl, Nat.le_of_ble_eq_true rfl⟩ (fun g_15 H locs hw_14 hP hS => ?_)
        obtain ⟨hw_14W, hw_14f⟩ := hw_14
        have hfr_18 : ∀ j, j ≠ 116 ∧ j ≠ 117 → g_15 j = g j := fun j hj => (hw_14f j (by omega)).trans (hfr13 j hj)
        have hg_19 := (hw_14f 0 (by omega)).trans hgc_7
        have hg_20 := (hw_14f 3 (by omega)).trans hgc_9
        have hg_21 := (hw_14f 116 (by omega)).trans hgc_17
        exact q_vret X hP hS ⟨hw_14W, hfr_18⟩ dX11_drawWinter_106
      · have hhc_12 := n_nle (rfl : x_11.toInt = x_11.toInt) (rfl : v13_5.toInt = v13_5.toInt) hc_12
        refine lv_aload_n hx hb dX11_drawWinter_25 rfl (lv_at hl 2 rfl) ?_
        refine q_get X iX11_drawWinter_11 hP (by decide) hgc_7 rfl 1 (by decide) (List.mem_of_getElem? (i := 3) rfl) (v := .ref (ad 3)) hk_8 dX11_drawWinter_26 ?_
        have hk_22 := hOc_9.ref 9 rfl
        refine q_get X iX11_drawWinter_6 hP (by decide) hgc_9 rfl 9 (by decide) (List.mem_of_getElem? (i := 5) rfl) (v := .ref (ad 5)) hk_22 dX11_drawWinter_29 ?_
        refine lv_iload hx hb dX11_drawWinter_32 (lv_at hl 0 rfl) ?_
        obtain ⟨fc_23, hgc_23, hFc_23⟩ := hW13.arr (i := 5) (by decide) (sh_5 ad K)
        refine q_zald X hP (by decide) hgc_23 (n_in (rfl : v13_5.toInt = v13_5.toInt) (by omega) (by omega)) dX11_drawWinter_34 ?_
        refine lv_topi (fun z_24 ez_24 => ?_)
        have HJ89 : ∀ (v89_3 : Int64) (G89 : Nat → va_E) (H : Heap) (locs : List Loc) (ls : Array Slot), WF (shp ad K) ad cs G89 → (∀ j, j ≠ 116 ∧ j ≠ 117 → G89 j = g j) → G89 0 = .inr (11, fsc_7) → G89 3 = .inr (6, fsc_9) → G89 5 = .inl (cs 3, 14, .inl fc_23) → va_P D vwCl (wL ad G89 218) H → va_S (wA ad 218) s.heap H locs → lv_has ls 6 [(5, .int v13_5), (3, .long v89_3), (0, .ref (ad 0))] → W p l e ({ frames := 4, cells := 0, slots := 0, locals := 93 } : Room) s m ([.ref (ad 0), .long sd] : List Value).toArray below meth c H locs 0 0 (MQ below (qV D ad 218 (fun g2 => WF (shp ad K) ad cs g2 ∧ (∀ j, j ≠ 116 ∧ j ≠ 117 → g2 j = g j))) ([.ref (ad 0), .long sd] : List Value).toArray s 0 0 (wA ad 218)) (F0 m 89 ls []) := by
          intro v89_3 G89 H locs ls hW89 hfr89 hg89_0 hg89_1 hg89_2 hP hS hl
          obtain ⟨x_25, ex_25⟩ : ∃ y : Int32, y = v13_5 + 1 := ⟨_, rfl⟩
          have hx_25 : x_25.toInt = v13_5.toInt + 1 := n_add rfl (by decide : (1 : Int32).toInt = 1) ex_25 (by omega) (by omega)
          refine lv_iinc (v := x_25) (lv' := [(5, .int x_25), (3, .long v89_3), (0, .ref (ad 0))]) hx hb dX11_drawWinter_89 hl (k := 0) rfl (by rw [ex_25]; rfl) (by decide) rfl (fun ls hl => ?_)
          refine lv_goto (tgt := 13) hx hb dX11_drawWinter_92 (by decide) ?_
          exact ih13 x_25 v89_3 G89 _ _ ls (by omega) (by omega) hW89 hfr89 hP hS (lv_sub hl [0, 1, 2] rfl)
        refine lv_if_eq (tgt := 89) hx hb dX11_drawWinter_35 (by decide) (fun hc_26 => ?_) (fun hc_26 => ?_)
        · have hhc_26 := n_eq (rfl : z_24.toInt = z_24.toInt) (by decide : (0 : Int32).toInt = 0) hc_26
          exact HJ89 v13_3 G13 _ _ ls hW13 hfr13 hgc_7 hgc_9 hgc_23 hP hS (lv_sub hl [0, 1, 2] rfl)
        · have hhc_26 := n_ne (rfl : z_24.toInt = z_24.toInt) (by decide : (0 : Int32).toInt = 0) hc_26
          refine lv_ldc2 (v := 1103515245) hx hb X.2.2.2.2.2.1 (X.2.2.2.2.1 _ (List.mem_of_getElem? (i := 6) rfl)) dX11_drawWinter_38 ?_
          refine lv_lload_n hx hb dX11_drawWinter_41 rfl (lv_at hl 1 rfl) ?_
          refine lv_lmul hx hb dX11_drawWinter_42 ?_
          refine lv_topl (fun z_27 ez_27 => ?_)
          refine lv_ldc2 (v := 12345) hx hb X.2.2.2.2.2.1 (X.2.2.2.2.1 _ (List.mem_of_getElem? (i := 7) rfl)) dX11_drawWinter_43 ?_
          refine lv_ladd hx hb dX11_drawWinter_46 ?_
          refine lv_topl (fun z_28 ez_28 => ?_)
          refine lv_ldc2 (v := 2147483648) hx hb X.2.2.2.2.2.1 (X.2.2.2.2.1 _ (List.mem_of_getElem? (i := 8) rfl)) dX11_drawWinter_47 ?_
          refine lv_lrem hx hb dX11_drawWinter_50 (by decide) ?_
          refine lv_topl (fun z_29 ez_29 => ?_)
          refine lv_lstore_n (lv' := [(3, .long z_29), (5, .int v13_5), (0, .ref (ad 0))]) hx hb dX11_drawWinter_51 rfl hl (by decide) rfl (fun ls hl => ?_)
          refine lv_lload_n hx hb dX11_drawWinter_52 rfl (lv_at hl 0 rfl) ?_
          refine lv_ldc2 (v := 65536) hx hb X.2.2.2.2.2.1 (X.2.2.2.2.1 _ (List.mem_of_getElem? (i := 9) rfl)) dX11_drawWinter_53 ?_
          refine lv_ldiv hx hb dX11_drawWinter_56 (by decide) ?_
          refine lv_topl (fun z_30 ez_30 => ?_)
          refine lv_ldc2 (v := 10) hx hb X.2.2.2.2.2.1 (X.2.2.2.2.1 _ (List.mem_of_getElem? (i := 10) rfl)) dX11_drawWinter_57 ?_
          refine lv_lrem hx hb dX11_drawWinter_60 (by decide) ?_
          refine lv_topl (fun z_31 ez_31 => ?_)
          refine lv_aload_n hx hb dX11_drawWinter_61 rfl (lv_at hl 2 rfl) ?_
          refine q_get X iX11_drawWinter_11 hP (by decide) hgc_7 rfl 1 (by decide) (List.mem_of_getElem? (i := 3) rfl) (v := .ref (ad 3)) hk_8 dX11_drawWinter_62 ?_
          obtain ⟨x_33, hk_32, -⟩ := hOc_9.int 2 rfl
          refine q_get X iX11_drawWinter_6 hP (by decide) hgc_9 rfl 2 (by decide) (List.mem_of_getElem? (i := 11) rfl) (v := .int x_33) hk_32 dX11_drawWinter_65 ?_
          refine lv_i2l hx hb dX11_drawWinter_68 rfl ?_
          refine lv_topl (fun z_34 ez_34 => ?_)
          have hz_34 : z_34.toInt = x_33.toInt := ez_34 ▸ j_of rfl
          have := n_hi x_33
          have := n_lo x_33
          refine W.lcmp hx hb dX11_drawWinter_69 ?_
          refine lv_if_ge (tgt := 89) hx hb dX11_drawWinter_70 (by decide) (fun hc_35 => ?_) (fun hc_35 => ?_)
          · have hhc_35 := j_cgeP (rfl : z_31.toInt = z_31.toInt) (rfl : z_34.toInt = z_34.toInt) hc_35
            exact HJ89 z_29 G13 _ _ ls hW13 hfr13 hgc_7 hgc_9 hgc_23 hP hS (lv_sub hl [1, 0, 2] rfl)
          · have hhc_35 := j_cltN (rfl : z_31.toInt = z_31.toInt) (rfl : z_34.toInt = z_34.toInt) hc_35
            refine lv_aload_n hx hb dX11_drawWinter_73 rfl (lv_at hl 2 rfl) ?_
            have hk_36 := hOc_7.ref 7 rfl
            refine q_get X iX11_drawWinter_11 hP (by decide) hgc_7 rfl 7 (by decide) (List.mem_of_getElem? (i := 1) rfl) (v := .ref (ad 116)) hk_36 dX11_drawWinter_74 ?_
            refine lv_dup hx hb dX11_drawWinter_77 rfl ?_
            obtain ⟨fsc_37, hgc_37, hOc_37⟩ := hW13.obj (i := 116) (by decide) (sh_116 ad K)
            obtain ⟨x_39, hk_38, -⟩ := hOc_37.int 0 rfl
            refine q_get X iX11_drawWinter_10 hP (by decide) hgc_37 rfl 0 (by decide) (List.mem_of_getElem? (i := 2) rfl) (v := .int x_39) hk_38 dX11_drawWinter_78 ?_
            refine lv_iconst (v := 1) hx hb dX11_drawWinter_81 (by decide) ?_
            refine lv_iload hx hb dX11_drawWinter_82 (lv_at hl 1 rfl) ?_
            refine lv_ishl hx hb dX11_drawWinter_84 ?_
            refine lv_topi (fun z_40 ez_40 => ?_)
            refine lv_ior hx hb dX11_drawWinter_85 ?_
            refine lv_topi (fun z_41 ez_41 => ?_)
            refine s_put X iX11_drawWinter_10 tyX10 tyX10_ok nmX10 hP hj hA hS (by decide) hgc_37 rfl 0 (by decide) (List.mem_of_getElem? (i := 2) rfl) rfl (ty := .int) (v := .int z_41) (by decide +kernel) rfl rfl dX11_drawWinter_86 hW13 (sh_116 ad K) hOc_37 rfl ⟨z_41, rfl, n_lo _, n_hi _⟩ (fun fsc_42 gc_42 H locs hOc_42 hkc_42 hnc_42 hgc_42 hfc_42 hWc_42 hP hS => ?_)
            have hg_44 := (hfc_42 0 (by decide)).trans hgc_7
            have hg_45 := (hfc_42 3 (by decide)).trans hgc_9
            have hg_46 := (hfc_42 5 (by decide)).trans hgc_23
            have hfr_43 : ∀ j, j ≠ 116 ∧ j ≠ 117 → gc_42 j = g j := fun j hj => (hfc_42 j (by omega)).trans (hfr13 j hj)
            exact HJ89 z_29 gc_42 _ _ ls hWc_42 hfr_43 hg_44 hg_45 hg_46 hP hS (lv_sub hl [1, 0, 2] rfl)
  have hiv13_5 : (0 : Int32).toInt = 0 := by decide
  exact HL13 _ 0 sd gc_4 _ _ ls (Nat.lt_succ_self _) (by omega) hWc_4 hfr_5 hP hS (lv_sub hl [0, 1, 2] rfl)

theorem dX11_offIfHung_0 : decode cX11_offIfHung 0 = .ok (.aload_n 0, 1) := by decide +kernel
theorem dX11_offIfHung_1 : decode cX11_offIfHung 1 = .ok (.getfield 44, 3) := by decide +kernel
theorem dX11_offIfHung_4 : decode cX11_offIfHung 4 = .ok (.getfield 163, 3) := by decide +kernel
theorem dX11_offIfHung_7 : decode cX11_offIfHung 7 = .ok (.iconst 0, 1) := by decide +kernel
theorem dX11_offIfHung_8 : decode cX11_offIfHung 8 = .ok (.aload_n 0, 1) := by decide +kernel
theorem dX11_offIfHung_9 : decode cX11_offIfHung 9 = .ok (.getfield 48, 3) := by decide +kernel
theorem dX11_offIfHung_12 : decode cX11_offIfHung 12 = .ok (.getfield 163, 3) := by decide +kernel
theorem dX11_offIfHung_15 : decode cX11_offIfHung 15 = .ok (.iconst 0, 1) := by decide +kernel
theorem dX11_offIfHung_16 : decode cX11_offIfHung 16 = .ok (.bipush 8, 2) := by decide +kernel
theorem dX11_offIfHung_18 : decode cX11_offIfHung 18 = .ok (.invokestatic 404, 3) := by decide +kernel
theorem dX11_offIfHung_21 : decode cX11_offIfHung 21 = .ok (.aload_n 0, 1) := by decide +kernel
theorem dX11_offIfHung_22 : decode cX11_offIfHung 22 = .ok (.getfield 48, 3) := by decide +kernel
theorem dX11_offIfHung_25 : decode cX11_offIfHung 25 = .ok (.getfield 163, 3) := by decide +kernel
theorem dX11_offIfHung_28 : decode cX11_offIfHung 28 = .ok (.iload_n 1, 1) := by decide +kernel
theorem dX11_offIfHung_29 : decode cX11_offIfHung 29 = .ok (.aload_n 0, 1) := by decide +kernel
theorem dX11_offIfHung_30 : decode cX11_offIfHung 30 = .ok (.getfield 44, 3) := by decide +kernel
theorem dX11_offIfHung_33 : decode cX11_offIfHung 33 = .ok (.aload_n 0, 1) := by decide +kernel
theorem dX11_offIfHung_34 : decode cX11_offIfHung 34 = .ok (.getfield 19, 3) := by decide +kernel
theorem dX11_offIfHung_37 : decode cX11_offIfHung 37 = .ok (.aload_n 0, 1) := by decide +kernel
theorem dX11_offIfHung_38 : decode cX11_offIfHung 38 = .ok (.getfield 19, 3) := by decide +kernel
theorem dX11_offIfHung_41 : decode cX11_offIfHung 41 = .ok (.getfield 139, 3) := by decide +kernel
theorem dX11_offIfHung_44 : decode cX11_offIfHung 44 = .ok (.iload_n 1, 1) := by decide +kernel
theorem dX11_offIfHung_45 : decode cX11_offIfHung 45 = .ok (.iaload, 1) := by decide +kernel
theorem dX11_offIfHung_46 : decode cX11_offIfHung 46 = .ok (.iload_n 2, 1) := by decide +kernel
theorem dX11_offIfHung_47 : decode cX11_offIfHung 47 = .ok (.invokevirtual 239, 3) := by decide +kernel
theorem dX11_offIfHung_50 : decode cX11_offIfHung 50 = .ok (.iastore, 1) := by decide +kernel
theorem dX11_offIfHung_51 : decode cX11_offIfHung 51 = .ok (.aload_n 0, 1) := by decide +kernel
theorem dX11_offIfHung_52 : decode cX11_offIfHung 52 = .ok (.getfield 48, 3) := by decide +kernel
theorem dX11_offIfHung_55 : decode cX11_offIfHung 55 = .ok (.aload_n 0, 1) := by decide +kernel
theorem dX11_offIfHung_56 : decode cX11_offIfHung 56 = .ok (.getfield 19, 3) := by decide +kernel
theorem dX11_offIfHung_59 : decode cX11_offIfHung 59 = .ok (.invokevirtual 229, 3) := by decide +kernel
theorem dX11_offIfHung_62 : decode cX11_offIfHung 62 = .ok (.ireturn, 1) := by decide +kernel
noncomputable def vX11_offIfHung : List Cond := .code yX11_offIfHung cX11_offIfHung 3 (some .int) :: (([.fieldLink RX11 44 "IcicleClock" "winter" "LIcicleClock$Winter;", .fieldLink RX11 163 "IcicleClock$Winter" "fall" "[I", .fieldLink RX11 48 "IcicleClock" "whatIf" "LIcicleClock$Winter;", .methodLink RX11 404 arraycopyName, .native arraycopyName, .static arraycopyName, .initialized "java/lang/System", .fieldLink RX11 19 "IcicleClock" "now" "LIcicleClock$Street;", .fieldLink RX11 139 "IcicleClock$Street" "eaveOf" "[I", .methodLink RX11 239 yX10_fallOf, .instanceMethod yX10_fallOf, .selects RX10 yX10_fallOf yX10_fallOf, .initialized RX10, .methodLink RX11 229 yX10_offTogether, .instanceMethod yX10_offTogether, .selects RX10 yX10_offTogether yX10_offTogether] : List Cond) ++ (wsX110 ++ (wsX100 ++ (wsX60 ++ (vX10_fallOf ++ vX10_offTogether)))))
theorem iX11_offIfHung_11 : ∀ w ∈ wsX110, w ∈ vX11_offIfHung := fun _ h => List.mem_cons_of_mem _ (List.mem_append_right _ (List.mem_append_left _ h))
theorem iX11_offIfHung_10 : ∀ w ∈ wsX100, w ∈ vX11_offIfHung := fun _ h => List.mem_cons_of_mem _ (List.mem_append_right _ (List.mem_append_right _ (List.mem_append_left _ h)))
theorem iX11_offIfHung_6 : ∀ w ∈ wsX60, w ∈ vX11_offIfHung := fun _ h => List.mem_cons_of_mem _ (List.mem_append_right _ (List.mem_append_right _ (List.mem_append_right _ (List.mem_append_left _ h))))
theorem gs_X11_offIfHung : Gd vX11_offIfHung := Gd.cons (by decide +kernel) (Gd.app (Gd.r (by decide +kernel)) (Gd.app gwX_11 (Gd.app gwX_10 (Gd.app gwX_6 (Gd.app gs_X10_fallOf gs_X10_offTogether)))))
theorem gg_X11_offIfHung_X10_fallOf : GoodIn vX11_offIfHung (wsV RX11 239 RX10 yX10_fallOf vX10_fallOf) := goodIn_app (goodIn_r _ [10, 11, 12, 13] (by decide +kernel) (by decide +kernel)) (fun w h => ⟨List.mem_cons_of_mem _ (List.mem_append_right _ (List.mem_append_right _ (List.mem_append_right _ (List.mem_append_right _ (List.mem_append_left _ h))))), gs_X10_fallOf w h⟩)
theorem gg_X11_offIfHung_X10_offTogether : GoodIn vX11_offIfHung (wsV RX11 229 RX10 yX10_offTogether vX10_offTogether) := goodIn_app (goodIn_r _ [14, 15, 16, 13] (by decide +kernel) (by decide +kernel)) (fun w h => ⟨List.mem_cons_of_mem _ (List.mem_append_right _ (List.mem_append_right _ (List.mem_append_right _ (List.mem_append_right _ (List.mem_append_right _ (h)))))), gs_X10_offTogether w h⟩)
set_option maxHeartbeats 4000000 in
set_option maxRecDepth 100000 in
theorem s_X11_offIfHung (l : Launch) (D : va_G) (cs : Nat → ClassId) (ad : Nat → Nat) (kS : kSt) (K : sK) (hKO : KO K) (hj : wJ ad 218) (g : Nat → va_E) (hW : WF (shp ad K) ad cs g) (ic : Int32) (len : Int32) (hp0 : 0 ≤ ic.toInt ∧ ic.toInt ≤ 7) : sI l yX11_offIfHung vX11_offIfHung { frames := 3, cells := 0, slots := 0, locals := 71 } D cs ad kS [.ref (ad 0), .int ic, .int len] g (fun r g2 => WF (shp ad K) ad cs g2 ∧ (∀ j, j ≠ 117 → g2 j = g j)) := by
  refine Met.startS (cc := cX11_offIfHung) (maxL := 3) (ret := (some .int)) RX11 rfl (by decide) rfl (Nat.le_of_ble_eq_true rfl) ?_
  intro p e s m below meth c ls X Z hP hl
  have hx := X.1
  have hb := X.2.1
  have hS : va_S (wA ad 218) s.heap s.heap [] := va_S.rf
  have hA : ∀ i, i < 218 → wA ad 218 (ad i) := fun i h => ⟨i, h, rfl⟩
  have hfr : ∀ j, j ≠ 117 → g j = g j := fun _ _ => rfl
  have hl : lv_has ls 3 [(0, .ref (ad 0)), (1, .int ic), (2, .int len)] := hl
  refine lv_aload_n hx hb dX11_offIfHung_0 rfl (lv_at hl 0 rfl) ?_
  obtain ⟨fsc_1, hgc_1, hOc_1⟩ := hW.obj (i := 0) (by decide) (sh_0 ad K)
  have hk_2 := hOc_1.ref 6 rfl
  refine q_get X iX11_offIfHung_11 hP (by decide) hgc_1 rfl 6 (by decide) (List.mem_of_getElem? (i := 1) rfl) (v := .ref (ad 114)) hk_2 dX11_offIfHung_1 ?_
  obtain ⟨fsc_3, hgc_3, hOc_3⟩ := hW.obj (i := 114) (by decide) (sh_114 ad K)
  have hk_4 := hOc_3.ref 3 rfl
  refine q_get X iX11_offIfHung_10 hP (by decide) hgc_3 rfl 3 (by decide) (List.mem_of_getElem? (i := 2) rfl) (v := .ref (ad 115)) hk_4 dX11_offIfHung_4 ?_
  refine lv_iconst (v := 0) hx hb dX11_offIfHung_7 (by decide) ?_
  refine lv_aload_n hx hb dX11_offIfHung_8 rfl (lv_at hl 0 rfl) ?_
  have hk_5 := hOc_1.ref 7 rfl
  refine q_get X iX11_offIfHung_11 hP (by decide) hgc_1 rfl 7 (by decide) (List.mem_of_getElem? (i := 3) rfl) (v := .ref (ad 116)) hk_5 dX11_offIfHung_9 ?_
  obtain ⟨fsc_6, hgc_6, hOc_6⟩ := hW.obj (i := 116) (by decide) (sh_116 ad K)
  have hk_7 := hOc_6.ref 3 rfl
  refine q_get X iX11_offIfHung_10 hP (by decide) hgc_6 rfl 3 (by decide) (List.mem_of_getElem? (i := 2) rfl) (v := .ref (ad 117)) hk_7 dX11_offIfHung_12 ?_
  refine lv_iconst (v := 0) hx hb dX11_offIfHung_15 (by decide) ?_
  refine lv_bipush (v := 8) hx hb dX11_offIfHung_16 (by decide) ?_
  obtain ⟨fc_8, hgc_8, hFc_8⟩ := hW.arr (i := 115) (by decide) (sh_115 ad K)
  obtain ⟨fc_9, hgc_9, hFc_9⟩ := hW.arr (i := 117) (by decide) (sh_117 ad K)
  refine s_copyi X hl.1 (List.mem_of_getElem? (i := 4) rfl) (List.mem_of_getElem? (i := 5) rfl) (List.mem_of_getElem? (i := 6) rfl) (List.mem_of_getElem? (i := 7) rfl) hP hj hA hS 1 rfl rfl (by decide) (by decide) hgc_8 hgc_9 (by decide) (by decide) (by decide) (by decide) (by decide) (fun _ _ => rfl) (Nat.le_of_ble_eq_true rfl) (Nat.le_of_ble_eq_true rfl) dX11_offIfHung_18 hW (sh_117 ad K) (rP.cpy hFc_8 hFc_9 (fun _ _ h => h)) (fun fc_10 gc_10 H locs hFc_10 hgc_10 hfc_10 hWc_10 hP hS => ?_)
  have hg_12 := (hfc_10 0 (by decide)).trans hgc_1
  have hg_13 := (hfc_10 114 (by decide)).trans hgc_3
  have hg_14 := (hfc_10 116 (by decide)).trans hgc_6
  have hg_15 := (hfc_10 115 (by decide)).trans hgc_8
  have hfr_11 : ∀ j, j ≠ 117 → gc_10 j = g j := fun j hj => (hfc_10 j (by omega)).trans (hfr j hj)
  refine lv_aload_n hx hb dX11_offIfHung_21 rfl (lv_at hl 0 rfl) ?_
  refine q_get X iX11_offIfHung_11 hP (by decide) hg_12 rfl 7 (by decide) (List.mem_of_getElem? (i := 3) rfl) (v := .ref (ad 116)) hk_5 dX11_offIfHung_22 ?_
  refine q_get X iX11_offIfHung_10 hP (by decide) hg_14 rfl 3 (by decide) (List.mem_of_getElem? (i := 2) rfl) (v := .ref (ad 117)) hk_7 dX11_offIfHung_25 ?_
  refine lv_iload_n hx hb dX11_offIfHung_28 rfl (lv_at hl 1 rfl) ?_
  refine lv_aload_n hx hb dX11_offIfHung_29 rfl (lv_at hl 0 rfl) ?_
  refine q_get X iX11_offIfHung_11 hP (by decide) hg_12 rfl 6 (by decide) (List.mem_of_getElem? (i := 1) rfl) (v := .ref (ad 114)) hk_2 dX11_offIfHung_30 ?_
  refine lv_aload_n hx hb dX11_offIfHung_33 rfl (lv_at hl 0 rfl) ?_
  have hk_16 := hOc_1.ref 1 rfl
  refine q_get X iX11_offIfHung_11 hP (by decide) hg_12 rfl 1 (by decide) (List.mem_of_getElem? (i := 8) rfl) (v := .ref (ad 3)) hk_16 dX11_offIfHung_34 ?_
  refine lv_aload_n hx hb dX11_offIfHung_37 rfl (lv_at hl 0 rfl) ?_
  refine q_get X iX11_offIfHung_11 hP (by decide) hg_12 rfl 1 (by decide) (List.mem_of_getElem? (i := 8) rfl) (v := .ref (ad 3)) hk_16 dX11_offIfHung_38 ?_
  obtain ⟨fsc_17, hgc_17, hOc_17⟩ := hWc_10.obj (i := 3) (by decide) (sh_3 ad K)
  have hk_18 := hOc_17.ref 11 rfl
  refine q_get X iX11_offIfHung_6 hP (by decide) hgc_17 rfl 11 (by decide) (List.mem_of_getElem? (i := 9) rfl) (v := .ref (ad 7)) hk_18 dX11_offIfHung_41 ?_
  refine lv_iload_n hx hb dX11_offIfHung_44 rfl (lv_at hl 1 rfl) ?_
  obtain ⟨fc_19, hgc_19, hFc_19⟩ := hWc_10.arr (i := 7) (by decide) (sh_7 ad K)
  refine q_iald X hP (by decide) hgc_19 (n_in (rfl : ic.toInt = ic.toInt) (by omega) (by omega)) dX11_offIfHung_45 ?_
  refine lv_topi (fun z_20 ez_20 => ?_)
  have hz_20 : 0 ≤ z_20.toInt ∧ z_20.toInt ≤ 4 := ez_20 ▸ hFc_19 _
  refine lv_iload_n hx hb dX11_offIfHung_46 rfl (lv_at hl 2 rfl) ?_
  refine s_calli (q := (RX10, TX10, 4)) (As := [.ref (ad 3), .int z_20, .int len]) (rest := [.int ic, .ref (ad 117)]) X Z (s_X10_fallOf l D cs ad kS K hKO hj gc_10 hWc_10 114 z_20 len (by omega) (by omega)) (cwV 3 X.2.2.2.2.1 gg_X11_offIfHung_X10_fallOf rfl rfl rfl (by decide +kernel) ⟨Nat.le_of_ble_eq_true rfl, Nat.le_of_ble_eq_true rfl⟩) (by decide) hg_13 rfl hP hA hS.2.1 hS rfl hl.1 rfl (Nat.le_of_ble_eq_true rfl) dX11_offIfHung_47 ⟨Nat.le_of_ble_eq_true rfl, Nat.le_of_ble_eq_true rfl⟩ (fun r_23 g_22 H locs hw_21 hP hS => ?_)
  obtain ⟨hw_21g, hw_21⟩ := hw_21
  rw [hw_21g] at hP
  refine s_iast X hP hj hA hS (by decide) hgc_10 (n_in (rfl : ic.toInt = ic.toInt) (by omega) (by omega)) dX11_offIfHung_50 hWc_10 (sh_117 ad K) (hFc_10.put ⟨by omega, by omega⟩) (fun fc_24 gc_24 H locs ec_24 hFc_24 hgc_24 hfc_24 hWc_24 hP hS => ?_)
  have hg_26 := (hfc_24 0 (by decide)).trans hg_12
  have hg_27 := (hfc_24 114 (by decide)).trans hg_13
  have hg_28 := (hfc_24 116 (by decide)).trans hg_14
  have hg_29 := (hfc_24 115 (by decide)).trans hg_15
  have hg_30 := (hfc_24 3 (by decide)).trans hgc_17
  have hg_31 := (hfc_24 7 (by decide)).trans hgc_19
  have hfr_25 : ∀ j, j ≠ 117 → gc_24 j = g j := fun j hj => (hfc_24 j (by omega)).trans (hfr_11 j hj)
  refine lv_aload_n hx hb dX11_offIfHung_51 rfl (lv_at hl 0 rfl) ?_
  refine q_get X iX11_offIfHung_11 hP (by decide) hg_26 rfl 7 (by decide) (List.mem_of_getElem? (i := 3) rfl) (v := .ref (ad 116)) hk_5 dX11_offIfHung_52 ?_
  refine lv_aload_n hx hb dX11_offIfHung_55 rfl (lv_at hl 0 rfl) ?_
  refine q_get X iX11_offIfHung_11 hP (by decide) hg_26 rfl 1 (by decide) (List.mem_of_getElem? (i := 8) rfl) (v := .ref (ad 3)) hk_16 dX11_offIfHung_56 ?_
  refine s_calli (q := (RX10, TX10, 4)) (As := [.ref (ad 3)]) (rest := []) X Z (s_X10_offTogether l D cs ad kS K hKO hj gc_24 hWc_24 116 (by omega)) (cwV 1 X.2.2.2.2.1 gg_X11_offIfHung_X10_offTogether rfl rfl rfl (by decide +kernel) ⟨Nat.le_of_ble_eq_true rfl, Nat.le_of_ble_eq_true rfl⟩) (by decide) hg_28 rfl hP hA hS.2.1 hS rfl hl.1 rfl (Nat.le_of_ble_eq_true rfl) dX11_offIfHung_59 ⟨Nat.le_of_ble_eq_true rfl, Nat.le_of_ble_eq_true rfl⟩ (fun r_34 g_33 H locs hw_32 hP hS => ?_)
  rw [hw_32] at hP
  exact q_iret X hP hS ⟨hWc_24, hfr_25⟩ dX11_offIfHung_62

theorem dX11_bestLength_0 : decode cX11_bestLength 0 = .ok (.iconst 1, 1) := by decide +kernel
theorem dX11_bestLength_1 : decode cX11_bestLength 1 = .ok (.istore_n 2, 1) := by decide +kernel
theorem dX11_bestLength_2 : decode cX11_bestLength 2 = .ok (.aload_n 0, 1) := by decide +kernel
theorem dX11_bestLength_3 : decode cX11_bestLength 3 = .ok (.iload_n 1, 1) := by decide +kernel
theorem dX11_bestLength_4 : decode cX11_bestLength 4 = .ok (.iconst 1, 1) := by decide +kernel
theorem dX11_bestLength_5 : decode cX11_bestLength 5 = .ok (.invokevirtual 245, 3) := by decide +kernel
theorem dX11_bestLength_8 : decode cX11_bestLength 8 = .ok (.istore_n 3, 1) := by decide +kernel
theorem dX11_bestLength_9 : decode cX11_bestLength 9 = .ok (.iconst 2, 1) := by decide +kernel
theorem dX11_bestLength_10 : decode cX11_bestLength 10 = .ok (.istore 4, 2) := by decide +kernel
theorem dX11_bestLength_12 : decode cX11_bestLength 12 = .ok (.iload 4, 2) := by decide +kernel
theorem dX11_bestLength_14 : decode cX11_bestLength 14 = .ok (.bipush 99, 2) := by decide +kernel
theorem dX11_bestLength_16 : decode cX11_bestLength 16 = .ok (.if_icmp .gt 30, 3) := by decide +kernel
theorem dX11_bestLength_19 : decode cX11_bestLength 19 = .ok (.aload_n 0, 1) := by decide +kernel
theorem dX11_bestLength_20 : decode cX11_bestLength 20 = .ok (.iload_n 1, 1) := by decide +kernel
theorem dX11_bestLength_21 : decode cX11_bestLength 21 = .ok (.iload 4, 2) := by decide +kernel
theorem dX11_bestLength_23 : decode cX11_bestLength 23 = .ok (.invokevirtual 245, 3) := by decide +kernel
theorem dX11_bestLength_26 : decode cX11_bestLength 26 = .ok (.istore 5, 2) := by decide +kernel
theorem dX11_bestLength_28 : decode cX11_bestLength 28 = .ok (.iload 5, 2) := by decide +kernel
theorem dX11_bestLength_30 : decode cX11_bestLength 30 = .ok (.iload_n 3, 1) := by decide +kernel
theorem dX11_bestLength_31 : decode cX11_bestLength 31 = .ok (.if_icmp .ge 9, 3) := by decide +kernel
theorem dX11_bestLength_34 : decode cX11_bestLength 34 = .ok (.iload 5, 2) := by decide +kernel
theorem dX11_bestLength_36 : decode cX11_bestLength 36 = .ok (.istore_n 3, 1) := by decide +kernel
theorem dX11_bestLength_37 : decode cX11_bestLength 37 = .ok (.iload 4, 2) := by decide +kernel
theorem dX11_bestLength_39 : decode cX11_bestLength 39 = .ok (.istore_n 2, 1) := by decide +kernel
theorem dX11_bestLength_40 : decode cX11_bestLength 40 = .ok (.iinc 4 1, 3) := by decide +kernel
theorem dX11_bestLength_43 : decode cX11_bestLength 43 = .ok (.goto (-31), 3) := by decide +kernel
theorem dX11_bestLength_46 : decode cX11_bestLength 46 = .ok (.iload_n 2, 1) := by decide +kernel
theorem dX11_bestLength_47 : decode cX11_bestLength 47 = .ok (.ireturn, 1) := by decide +kernel
noncomputable def vX11_bestLength : List Cond := .code yX11_bestLength cX11_bestLength 6 (some .int) :: (([.methodLink RX11 245 yX11_offIfHung, .instanceMethod yX11_offIfHung, .selects RX11 yX11_offIfHung yX11_offIfHung, .initialized RX11] : List Cond) ++ vX11_offIfHung)
theorem gs_X11_bestLength : Gd vX11_bestLength := Gd.cons (by decide +kernel) (Gd.app (Gd.r (by decide +kernel)) gs_X11_offIfHung)
theorem gg_X11_bestLength_X11_offIfHung : GoodIn vX11_bestLength (wsV RX11 245 RX11 yX11_offIfHung vX11_offIfHung) := goodIn_app (goodIn_r _ [1, 2, 3, 4] (by decide +kernel) (by decide +kernel)) (fun w h => ⟨List.mem_cons_of_mem _ (List.mem_append_right _ (h)), gs_X11_offIfHung w h⟩)
set_option maxHeartbeats 4000000 in
set_option maxRecDepth 100000 in
theorem s_X11_bestLength (l : Launch) (D : va_G) (cs : Nat → ClassId) (ad : Nat → Nat) (kS : kSt) (K : sK) (hKO : KO K) (hj : wJ ad 218) (g : Nat → va_E) (hW : WF (shp ad K) ad cs g) (ic : Int32) (hp0 : 0 ≤ ic.toInt ∧ ic.toInt ≤ 7) : sI l yX11_bestLength vX11_bestLength { frames := 4, cells := 0, slots := 0, locals := 93 } D cs ad kS [.ref (ad 0), .int ic] g (fun r g2 => WF (shp ad K) ad cs g2 ∧ (∀ j, j ≠ 117 → g2 j = g j)) := by
  refine Met.startS (cc := cX11_bestLength) (maxL := 6) (ret := (some .int)) RX11 rfl (by decide) rfl (Nat.le_of_ble_eq_true rfl) ?_
  intro p e s m below meth c ls X Z hP hl
  have hx := X.1
  have hb := X.2.1
  have hS : va_S (wA ad 218) s.heap s.heap [] := va_S.rf
  have hA : ∀ i, i < 218 → wA ad 218 (ad i) := fun i h => ⟨i, h, rfl⟩
  have hfr : ∀ j, j ≠ 117 → g j = g j := fun _ _ => rfl
  have hl : lv_has ls 6 [(0, .ref (ad 0)), (1, .int ic)] := hl
  refine lv_iconst (v := 1) hx hb dX11_bestLength_0 (by decide) ?_
  refine lv_istore_n (lv' := [(2, .int 1), (0, .ref (ad 0)), (1, .int ic)]) hx hb dX11_bestLength_1 rfl hl (by decide) rfl (fun ls hl => ?_)
  refine lv_aload_n hx hb dX11_bestLength_2 rfl (lv_at hl 1 rfl) ?_
  refine lv_iload_n hx hb dX11_bestLength_3 rfl (lv_at hl 2 rfl) ?_
  refine lv_iconst (v := 1) hx hb dX11_bestLength_4 (by decide) ?_
  obtain ⟨fsc_4, hgc_4, hOc_4⟩ := hW.obj (i := 0) (by decide) (sh_0 ad K)
  refine s_calli (q := (RX11, TX11, 14)) (As := [.int ic, .int 1]) (rest := []) X Z (s_X11_offIfHung l D cs ad kS K hKO hj g hW ic 1 (by omega)) (cwV 2 X.2.2.2.2.1 gg_X11_bestLength_X11_offIfHung rfl rfl rfl (by decide +kernel) ⟨Nat.le_of_ble_eq_true rfl, Nat.le_of_ble_eq_true rfl⟩) (by decide) hgc_4 rfl hP hA hS.2.1 hS rfl hl.1 rfl (Nat.le_of_ble_eq_true rfl) dX11_bestLength_5 ⟨Nat.le_of_ble_eq_true rfl, Nat.le_of_ble_eq_true rfl⟩ (fun r_3 g_2 H locs hw_1 hP hS => ?_)
  obtain ⟨hw_1W, hw_1f⟩ := hw_1
  have hfr_5 : ∀ j, j ≠ 117 → g_2 j = g j := fun j hj => (hw_1f j (by omega)).trans (hfr j hj)
  have hg_6 := (hw_1f 0 (by omega)).trans hgc_4
  refine lv_istore_n (lv' := [(3, .int r_3), (2, .int 1), (0, .ref (ad 0)), (1, .int ic)]) hx hb dX11_bestLength_8 rfl hl (by decide) rfl (fun ls hl => ?_)
  refine lv_iconst (v := 2) hx hb dX11_bestLength_9 (by decide) ?_
  refine lv_istore (lv' := [(4, .int 2), (3, .int r_3), (2, .int 1), (0, .ref (ad 0)), (1, .int ic)]) hx hb dX11_bestLength_10 hl (by decide) rfl (fun ls hl => ?_)
  have HL12 : ∀ (n12 : Nat) (v12_4 : Int32) (v12_3 : Int32) (v12_2 : Int32) (G12 : Nat → va_E) (H : Heap) (locs : List Loc) (ls : Array Slot), (100 - v12_4.toInt).toNat < n12 → (2 ≤ v12_4.toInt ∧ v12_4.toInt ≤ 100) → (1 ≤ v12_2.toInt ∧ v12_2.toInt ≤ 99) → WF (shp ad K) ad cs G12 → (∀ j, j ≠ 117 → G12 j = g j) → va_P D vwCl (wL ad G12 218) H → va_S (wA ad 218) s.heap H locs → lv_has ls 6 [(4, .int v12_4), (3, .int v12_3), (2, .int v12_2), (0, .ref (ad 0)), (1, .int ic)] → W p l e ({ frames := 4, cells := 0, slots := 0, locals := 93 } : Room) s m ([.ref (ad 0), .int ic] : List Value).toArray below meth c H locs 0 0 (MQ below (qI D ad 218 (fun r g2 => WF (shp ad K) ad cs g2 ∧ (∀ j, j ≠ 117 → g2 j = g j))) ([.ref (ad 0), .int ic] : List Value).toArray s 0 0 (wA ad 218)) (F0 m 12 ls []) := by
    intro n12
    induction n12 with
    | zero =>
      intro v12_4 v12_3 v12_2 G12 H locs ls hm12 hv12_0 hv12_1 hW12 hfr12 hP hS hl
      exact absurd hm12 (Nat.not_lt_zero _)
    | succ n12 ih12 =>
      intro v12_4 v12_3 v12_2 G12 H locs ls hm12 hv12_0 hv12_1 hW12 hfr12 hP hS hl
      refine lv_iload hx hb dX11_bestLength_12 (lv_at hl 0 rfl) ?_
      refine lv_bipush (v := 99) hx hb dX11_bestLength_14 (by decide) ?_
      refine lv_icmp_gt (tgt := 46) hx hb dX11_bestLength_16 (by decide) (fun hc_7 => ?_) (fun hc_7 => ?_)
      · have hhc_7 := n_lt (by decide : (99 : Int32).toInt = 99) (rfl : v12_4.toInt = v12_4.toInt) hc_7
        refine lv_iload_n hx hb dX11_bestLength_46 rfl (lv_at hl 2 rfl) ?_
        exact q_iret X hP hS ⟨hW12, hfr12⟩ dX11_bestLength_47
      · have hhc_7 := n_nlt (by decide : (99 : Int32).toInt = 99) (rfl : v12_4.toInt = v12_4.toInt) hc_7
        refine lv_aload_n hx hb dX11_bestLength_19 rfl (lv_at hl 3 rfl) ?_
        refine lv_iload_n hx hb dX11_bestLength_20 rfl (lv_at hl 4 rfl) ?_
        refine lv_iload hx hb dX11_bestLength_21 (lv_at hl 0 rfl) ?_
        obtain ⟨fsc_11, hgc_11, hOc_11⟩ := hW12.obj (i := 0) (by decide) (sh_0 ad K)
        refine s_calli (q := (RX11, TX11, 14)) (As := [.int ic, .int v12_4]) (rest := []) X Z (s_X11_offIfHung l D cs ad kS K hKO hj G12 hW12 ic v12_4 (by omega)) (cwV 2 X.2.2.2.2.1 gg_X11_bestLength_X11_offIfHung rfl rfl rfl (by decide +kernel) ⟨Nat.le_of_ble_eq_true rfl, Nat.le_of_ble_eq_true rfl⟩) (by decide) hgc_11 rfl hP hA hS.2.1 hS rfl hl.1 rfl (Nat.le_of_ble_eq_true rfl) dX11_bestLength_23 ⟨Nat.le_of_ble_eq_true rfl, Nat.le_of_ble_eq_true rfl⟩ (fun r_10 g_9 H locs hw_8 hP hS => ?_)
        obtain ⟨hw_8W, hw_8f⟩ := hw_8
        have hfr_12 : ∀ j, j ≠ 117 → g_9 j = g j := fun j hj => (hw_8f j (by omega)).trans (hfr12 j hj)
        have hg_13 := (hw_8f 0 (by omega)).trans hgc_11
        refine lv_istore (lv' := [(5, .int r_10), (4, .int v12_4), (3, .int v12_3), (2, .int v12_2), (0, .ref (ad 0)), (1, .int ic)]) hx hb dX11_bestLength_26 hl (by decide) rfl (fun ls hl => ?_)
        refine lv_iload hx hb dX11_bestLength_28 (lv_at hl 0 rfl) ?_
        refine lv_iload_n hx hb dX11_bestLength_30 rfl (lv_at hl 2 rfl) ?_
        have HJ40 : ∀ (v40_3 : Int32) (v40_2 : Int32) (G40 : Nat → va_E) (H : Heap) (locs : List Loc) (ls : Array Slot), (1 ≤ v40_2.toInt ∧ v40_2.toInt ≤ 99) → WF (shp ad K) ad cs G40 → (∀ j, j ≠ 117 → G40 j = g j) → G40 0 = .inr (11, fsc_11) → va_P D vwCl (wL ad G40 218) H → va_S (wA ad 218) s.heap H locs → lv_has ls 6 [(4, .int v12_4), (3, .int v40_3), (2, .int v40_2), (0, .ref (ad 0)), (1, .int ic)] → W p l e ({ frames := 4, cells := 0, slots := 0, locals := 93 } : Room) s m ([.ref (ad 0), .int ic] : List Value).toArray below meth c H locs 0 0 (MQ below (qI D ad 218 (fun r g2 => WF (shp ad K) ad cs g2 ∧ (∀ j, j ≠ 117 → g2 j = g j))) ([.ref (ad 0), .int ic] : List Value).toArray s 0 0 (wA ad 218)) (F0 m 40 ls []) := by
          intro v40_3 v40_2 G40 H locs ls hv40_0 hW40 hfr40 hg40_0 hP hS hl
          obtain ⟨x_14, ex_14⟩ : ∃ y : Int32, y = v12_4 + 1 := ⟨_, rfl⟩
          have hx_14 : x_14.toInt = v12_4.toInt + 1 := n_add rfl (by decide : (1 : Int32).toInt = 1) ex_14 (by omega) (by omega)
          refine lv_iinc (v := x_14) (lv' := [(4, .int x_14), (3, .int v40_3), (2, .int v40_2), (0, .ref (ad 0)), (1, .int ic)]) hx hb dX11_bestLength_40 hl (k := 0) rfl (by rw [ex_14]; rfl) (by decide) rfl (fun ls hl => ?_)
          refine lv_goto (tgt := 12) hx hb dX11_bestLength_43 (by decide) ?_
          exact ih12 x_14 v40_3 v40_2 G40 _ _ ls (by omega) (by omega) (by omega) hW40 hfr40 hP hS (lv_sub hl [0, 1, 2, 3, 4] rfl)
        refine lv_icmp_ge (tgt := 40) hx hb dX11_bestLength_31 (by decide) (fun hc_15 => ?_) (fun hc_15 => ?_)
        · have hhc_15 := n_le (rfl : v12_3.toInt = v12_3.toInt) (rfl : r_10.toInt = r_10.toInt) hc_15
          have := n_hi v12_3
          have := n_lo v12_3
          have := n_hi r_10
          have := n_lo r_10
          exact HJ40 v12_3 v12_2 g_9 _ _ ls (by omega) hw_8W hfr_12 hg_13 hP hS (lv_sub hl [1, 2, 3, 4, 5] rfl)
        · have hhc_15 := n_nle (rfl : v12_3.toInt = v12_3.toInt) (rfl : r_10.toInt = r_10.toInt) hc_15
          have := n_hi v12_3
          have := n_lo v12_3
          have := n_hi r_10
          have := n_lo r_10
          refine lv_iload hx hb dX11_bestLength_34 (lv_at hl 0 rfl) ?_
          refine lv_istore_n (lv' := [(3, .int r_10), (5, .int r_10), (4, .int v12_4), (2, .int v12_2), (0, .ref (ad 0)), (1, .int ic)]) hx hb dX11_bestLength_36 rfl hl (by decide) rfl (fun ls hl => ?_)
          refine lv_iload hx hb dX11_bestLength_37 (lv_at hl 2 rfl) ?_
          refine lv_istore_n (lv' := [(2, .int v12_4), (3, .int r_10), (5, .int r_10), (4, .int v12_4), (0, .ref (ad 0)), (1, .int ic)]) hx hb dX11_bestLength_39 rfl hl (by decide) rfl (fun ls hl => ?_)
          exact HJ40 r_10 v12_4 g_9 _ _ ls (by omega) hw_8W hfr_12 hg_13 hP hS (lv_sub hl [3, 1, 0, 4, 5] rfl)
  have hiv12_4 : (2 : Int32).toInt = 2 := by decide
  have hiv12_2 : (1 : Int32).toInt = 1 := by decide
  exact HL12 _ 2 r_3 1 g_2 _ _ ls (Nat.lt_succ_self _) (by omega) (by omega) hw_1W hfr_5 hP hS (lv_sub hl [0, 1, 2, 3, 4] rfl)

theorem dX11_best_0 : decode cX11_best 0 = .ok (.aload_n 0, 1) := by decide +kernel
theorem dX11_best_1 : decode cX11_best 1 = .ok (.iload_n 1, 1) := by decide +kernel
theorem dX11_best_2 : decode cX11_best 2 = .ok (.invokevirtual 136, 3) := by decide +kernel
theorem dX11_best_5 : decode cX11_best 5 = .ok (.ifCond .eq 11, 3) := by decide +kernel
theorem dX11_best_8 : decode cX11_best 8 = .ok (.aload_n 0, 1) := by decide +kernel
theorem dX11_best_9 : decode cX11_best 9 = .ok (.iload_n 1, 1) := by decide +kernel
theorem dX11_best_10 : decode cX11_best 10 = .ok (.invokevirtual 242, 3) := by decide +kernel
theorem dX11_best_13 : decode cX11_best 13 = .ok (.goto 5, 3) := by decide +kernel
theorem dX11_best_16 : decode cX11_best 16 = .ok (.bipush (-2), 2) := by decide +kernel
theorem dX11_best_18 : decode cX11_best 18 = .ok (.ireturn, 1) := by decide +kernel
noncomputable def vX11_best : List Cond := .code yX11_best cX11_best 2 (some .int) :: (([.methodLink RX11 136 yX11_isIcicle, .instanceMethod yX11_isIcicle, .selects RX11 yX11_isIcicle yX11_isIcicle, .initialized RX11, .methodLink RX11 242 yX11_bestLength, .instanceMethod yX11_bestLength, .selects RX11 yX11_bestLength yX11_bestLength] : List Cond) ++ (vX11_isIcicle ++ vX11_bestLength))
theorem gs_X11_best : Gd vX11_best := Gd.cons (by decide +kernel) (Gd.app (Gd.r (by decide +kernel)) (Gd.app gs_X11_isIcicle gs_X11_bestLength))
theorem gg_X11_best_X11_isIcicle : GoodIn vX11_best (wsV RX11 136 RX11 yX11_isIcicle vX11_isIcicle) := goodIn_app (goodIn_r _ [1, 2, 3, 4] (by decide +kernel) (by decide +kernel)) (fun w h => ⟨List.mem_cons_of_mem _ (List.mem_append_right _ (List.mem_append_left _ h)), gs_X11_isIcicle w h⟩)
theorem gg_X11_best_X11_bestLength : GoodIn vX11_best (wsV RX11 242 RX11 yX11_bestLength vX11_bestLength) := goodIn_app (goodIn_r _ [5, 6, 7, 4] (by decide +kernel) (by decide +kernel)) (fun w h => ⟨List.mem_cons_of_mem _ (List.mem_append_right _ (List.mem_append_right _ (h))), gs_X11_bestLength w h⟩)
set_option maxHeartbeats 4000000 in
set_option maxRecDepth 100000 in
theorem s_X11_best (l : Launch) (D : va_G) (cs : Nat → ClassId) (ad : Nat → Nat) (kS : kSt) (K : sK) (hKO : KO K) (hj : wJ ad 218) (g : Nat → va_E) (hW : WF (shp ad K) ad cs g) (ic : Int32) : sI l yX11_best vX11_best { frames := 5, cells := 0, slots := 0, locals := 118 } D cs ad kS [.ref (ad 0), .int ic] g (fun r g2 => WF (shp ad K) ad cs g2 ∧ (∀ j, j ≠ 117 → g2 j = g j)) := by
  refine Met.startS (cc := cX11_best) (maxL := 2) (ret := (some .int)) RX11 rfl (by decide) rfl (Nat.le_of_ble_eq_true rfl) ?_
  intro p e s m below meth c ls X Z hP hl
  have hx := X.1
  have hb := X.2.1
  have hS : va_S (wA ad 218) s.heap s.heap [] := va_S.rf
  have hA : ∀ i, i < 218 → wA ad 218 (ad i) := fun i h => ⟨i, h, rfl⟩
  have hfr : ∀ j, j ≠ 117 → g j = g j := fun _ _ => rfl
  have hl : lv_has ls 2 [(0, .ref (ad 0)), (1, .int ic)] := hl
  refine lv_aload_n hx hb dX11_best_0 rfl (lv_at hl 0 rfl) ?_
  refine lv_iload_n hx hb dX11_best_1 rfl (lv_at hl 1 rfl) ?_
  obtain ⟨fsc_4, hgc_4, hOc_4⟩ := hW.obj (i := 0) (by decide) (sh_0 ad K)
  refine s_calli (q := (RX11, TX11, 14)) (As := [.int ic]) (rest := []) X Z (s_X11_isIcicle l D cs ad kS K hKO hj g hW ic) (cwV 1 X.2.2.2.2.1 gg_X11_best_X11_isIcicle rfl rfl rfl (by decide +kernel) ⟨Nat.le_of_ble_eq_true rfl, Nat.le_of_ble_eq_true rfl⟩) (by decide) hgc_4 rfl hP hA hS.2.1 hS rfl hl.1 rfl (Nat.le_of_ble_eq_true rfl) dX11_best_2 ⟨Nat.le_of_ble_eq_true rfl, Nat.le_of_ble_eq_true rfl⟩ (fun r_3 g_2 H locs hw_1 hP hS => ?_)
  obtain ⟨hw_1g, hw_1⟩ := hw_1
  rw [hw_1g] at hP
  refine lv_if_eq (tgt := 16) hx hb dX11_best_5 (by decide) (fun hc_5 => ?_) (fun hc_5 => ?_)
  · have hhc_5 := n_eq (rfl : r_3.toInt = r_3.toInt) (by decide : (0 : Int32).toInt = 0) hc_5
    refine lv_bipush (v := (-2)) hx hb dX11_best_16 (by decide) ?_
    exact q_iret X hP hS ⟨hW, hfr⟩ dX11_best_18
  · have hhc_5 := n_ne (rfl : r_3.toInt = r_3.toInt) (by decide : (0 : Int32).toInt = 0) hc_5
    refine lv_aload_n hx hb dX11_best_8 rfl (lv_at hl 0 rfl) ?_
    refine lv_iload_n hx hb dX11_best_9 rfl (lv_at hl 1 rfl) ?_
    refine s_calli (q := (RX11, TX11, 14)) (As := [.int ic]) (rest := []) X Z (s_X11_bestLength l D cs ad kS K hKO hj g hW ic (by omega)) (cwV 1 X.2.2.2.2.1 gg_X11_best_X11_bestLength rfl rfl rfl (by decide +kernel) ⟨Nat.le_of_ble_eq_true rfl, Nat.le_of_ble_eq_true rfl⟩) (by decide) hgc_4 rfl hP hA hS.2.1 hS rfl hl.1 rfl (Nat.le_of_ble_eq_true rfl) dX11_best_10 ⟨Nat.le_of_ble_eq_true rfl, Nat.le_of_ble_eq_true rfl⟩ (fun r_8 g_7 H locs hw_6 hP hS => ?_)
    obtain ⟨hw_6W, hw_6f⟩ := hw_6
    have hfr_9 : ∀ j, j ≠ 117 → g_7 j = g j := fun j hj => (hw_6f j (by omega)).trans (hfr j hj)
    have hg_10 := (hw_6f 0 (by omega)).trans hgc_4
    refine lv_goto (tgt := 18) hx hb dX11_best_13 (by decide) ?_
    exact q_iret X hP hS ⟨hw_6W, hfr_9⟩ dX11_best_18

theorem dX11_offs_0 : decode cX11_offs 0 = .ok (.aload_n 0, 1) := by decide +kernel
theorem dX11_offs_1 : decode cX11_offs 1 = .ok (.iload_n 1, 1) := by decide +kernel
theorem dX11_offs_2 : decode cX11_offs 2 = .ok (.invokevirtual 136, 3) := by decide +kernel
theorem dX11_offs_5 : decode cX11_offs 5 = .ok (.ifCond .eq 16, 3) := by decide +kernel
theorem dX11_offs_8 : decode cX11_offs 8 = .ok (.aload_n 0, 1) := by decide +kernel
theorem dX11_offs_9 : decode cX11_offs 9 = .ok (.iload_n 1, 1) := by decide +kernel
theorem dX11_offs_10 : decode cX11_offs 10 = .ok (.aload_n 0, 1) := by decide +kernel
theorem dX11_offs_11 : decode cX11_offs 11 = .ok (.iload_n 1, 1) := by decide +kernel
theorem dX11_offs_12 : decode cX11_offs 12 = .ok (.invokevirtual 242, 3) := by decide +kernel
theorem dX11_offs_15 : decode cX11_offs 15 = .ok (.invokevirtual 245, 3) := by decide +kernel
theorem dX11_offs_18 : decode cX11_offs 18 = .ok (.goto 5, 3) := by decide +kernel
theorem dX11_offs_21 : decode cX11_offs 21 = .ok (.bipush (-2), 2) := by decide +kernel
theorem dX11_offs_23 : decode cX11_offs 23 = .ok (.ireturn, 1) := by decide +kernel
noncomputable def vX11_offs : List Cond := .code yX11_offs cX11_offs 2 (some .int) :: (([.methodLink RX11 136 yX11_isIcicle, .instanceMethod yX11_isIcicle, .selects RX11 yX11_isIcicle yX11_isIcicle, .initialized RX11, .methodLink RX11 242 yX11_bestLength, .instanceMethod yX11_bestLength, .selects RX11 yX11_bestLength yX11_bestLength, .methodLink RX11 245 yX11_offIfHung, .instanceMethod yX11_offIfHung, .selects RX11 yX11_offIfHung yX11_offIfHung] : List Cond) ++ (vX11_isIcicle ++ (vX11_bestLength ++ vX11_offIfHung)))
theorem gs_X11_offs : Gd vX11_offs := Gd.cons (by decide +kernel) (Gd.app (Gd.r (by decide +kernel)) (Gd.app gs_X11_isIcicle (Gd.app gs_X11_bestLength gs_X11_offIfHung)))
theorem gg_X11_offs_X11_isIcicle : GoodIn vX11_offs (wsV RX11 136 RX11 yX11_isIcicle vX11_isIcicle) := goodIn_app (goodIn_r _ [1, 2, 3, 4] (by decide +kernel) (by decide +kernel)) (fun w h => ⟨List.mem_cons_of_mem _ (List.mem_append_right _ (List.mem_append_left _ h)), gs_X11_isIcicle w h⟩)
theorem gg_X11_offs_X11_bestLength : GoodIn vX11_offs (wsV RX11 242 RX11 yX11_bestLength vX11_bestLength) := goodIn_app (goodIn_r _ [5, 6, 7, 4] (by decide +kernel) (by decide +kernel)) (fun w h => ⟨List.mem_cons_of_mem _ (List.mem_append_right _ (List.mem_append_right _ (List.mem_append_left _ h))), gs_X11_bestLength w h⟩)
theorem gg_X11_offs_X11_offIfHung : GoodIn vX11_offs (wsV RX11 245 RX11 yX11_offIfHung vX11_offIfHung) := goodIn_app (goodIn_r _ [8, 9, 10, 4] (by decide +kernel) (by decide +kernel)) (fun w h => ⟨List.mem_cons_of_mem _ (List.mem_append_right _ (List.mem_append_right _ (List.mem_append_right _ (h)))), gs_X11_offIfHung w h⟩)
set_option maxHeartbeats 4000000 in
set_option maxRecDepth 100000 in
theorem s_X11_offs (l : Launch) (D : va_G) (cs : Nat → ClassId) (ad : Nat → Nat) (kS : kSt) (K : sK) (hKO : KO K) (hj : wJ ad 218) (g : Nat → va_E) (hW : WF (shp ad K) ad cs g) (ic : Int32) : sI l yX11_offs vX11_offs { frames := 5, cells := 0, slots := 0, locals := 118 } D cs ad kS [.ref (ad 0), .int ic] g (fun r g2 => WF (shp ad K) ad cs g2 ∧ (∀ j, j ≠ 117 → g2 j = g j)) := by
  refine Met.startS (cc := cX11_offs) (maxL := 2) (ret := (some .int)) RX11 rfl (by decide) rfl (Nat.le_of_ble_eq_true rfl) ?_
  intro p e s m below meth c ls X Z hP hl
  have hx := X.1
  have hb := X.2.1
  have hS : va_S (wA ad 218) s.heap s.heap [] := va_S.rf
  have hA : ∀ i, i < 218 → wA ad 218 (ad i) := fun i h => ⟨i, h, rfl⟩
  have hfr : ∀ j, j ≠ 117 → g j = g j := fun _ _ => rfl
  have hl : lv_has ls 2 [(0, .ref (ad 0)), (1, .int ic)] := hl
  refine lv_aload_n hx hb dX11_offs_0 rfl (lv_at hl 0 rfl) ?_
  refine lv_iload_n hx hb dX11_offs_1 rfl (lv_at hl 1 rfl) ?_
  obtain ⟨fsc_4, hgc_4, hOc_4⟩ := hW.obj (i := 0) (by decide) (sh_0 ad K)
  refine s_calli (q := (RX11, TX11, 14)) (As := [.int ic]) (rest := []) X Z (s_X11_isIcicle l D cs ad kS K hKO hj g hW ic) (cwV 1 X.2.2.2.2.1 gg_X11_offs_X11_isIcicle rfl rfl rfl (by decide +kernel) ⟨Nat.le_of_ble_eq_true rfl, Nat.le_of_ble_eq_true rfl⟩) (by decide) hgc_4 rfl hP hA hS.2.1 hS rfl hl.1 rfl (Nat.le_of_ble_eq_true rfl) dX11_offs_2 ⟨Nat.le_of_ble_eq_true rfl, Nat.le_of_ble_eq_true rfl⟩ (fun r_3 g_2 H locs hw_1 hP hS => ?_)
  obtain ⟨hw_1g, hw_1⟩ := hw_1
  rw [hw_1g] at hP
  refine lv_if_eq (tgt := 21) hx hb dX11_offs_5 (by decide) (fun hc_5 => ?_) (fun hc_5 => ?_)
  · have hhc_5 := n_eq (rfl : r_3.toInt = r_3.toInt) (by decide : (0 : Int32).toInt = 0) hc_5
    refine lv_bipush (v := (-2)) hx hb dX11_offs_21 (by decide) ?_
    exact q_iret X hP hS ⟨hW, hfr⟩ dX11_offs_23
  · have hhc_5 := n_ne (rfl : r_3.toInt = r_3.toInt) (by decide : (0 : Int32).toInt = 0) hc_5
    refine lv_aload_n hx hb dX11_offs_8 rfl (lv_at hl 0 rfl) ?_
    refine lv_iload_n hx hb dX11_offs_9 rfl (lv_at hl 1 rfl) ?_
    refine lv_aload_n hx hb dX11_offs_10 rfl (lv_at hl 0 rfl) ?_
    refine lv_iload_n hx hb dX11_offs_11 rfl (lv_at hl 1 rfl) ?_
    refine s_calli (q := (RX11, TX11, 14)) (As := [.int ic]) (rest := [.int ic, .ref (ad 0)]) X Z (s_X11_bestLength l D cs ad kS K hKO hj g hW ic (by omega)) (cwV 1 X.2.2.2.2.1 gg_X11_offs_X11_bestLength rfl rfl rfl (by decide +kernel) ⟨Nat.le_of_ble_eq_true rfl, Nat.le_of_ble_eq_true rfl⟩) (by decide) hgc_4 rfl hP hA hS.2.1 hS rfl hl.1 rfl (Nat.le_of_ble_eq_true rfl) dX11_offs_12 ⟨Nat.le_of_ble_eq_true rfl, Nat.le_of_ble_eq_true rfl⟩ (fun r_8 g_7 H locs hw_6 hP hS => ?_)
    obtain ⟨hw_6W, hw_6f⟩ := hw_6
    have hfr_9 : ∀ j, j ≠ 117 → g_7 j = g j := fun j hj => (hw_6f j (by omega)).trans (hfr j hj)
    have hg_10 := (hw_6f 0 (by omega)).trans hgc_4
    refine s_calli (q := (RX11, TX11, 14)) (As := [.int ic, .int r_8]) (rest := []) X Z (s_X11_offIfHung l D cs ad kS K hKO hj g_7 hw_6W ic r_8 (by omega)) (cwV 2 X.2.2.2.2.1 gg_X11_offs_X11_offIfHung rfl rfl rfl (by decide +kernel) ⟨Nat.le_of_ble_eq_true rfl, Nat.le_of_ble_eq_true rfl⟩) (by decide) hg_10 rfl hP hA hS.2.1 hS rfl hl.1 rfl (Nat.le_of_ble_eq_true rfl) dX11_offs_15 ⟨Nat.le_of_ble_eq_true rfl, Nat.le_of_ble_eq_true rfl⟩ (fun r_13 g_12 H locs hw_11 hP hS => ?_)
    obtain ⟨hw_11W, hw_11f⟩ := hw_11
    have hfr_14 : ∀ j, j ≠ 117 → g_12 j = g j := fun j hj => (hw_11f j (by omega)).trans (hfr_9 j hj)
    have hg_15 := (hw_11f 0 (by omega)).trans hg_10
    refine lv_goto (tgt := 23) hx hb dX11_offs_18 (by decide) ?_
    exact q_iret X hP hS ⟨hw_11W, hfr_14⟩ dX11_offs_23

theorem dX11_drawn_0 : decode cX11_drawn 0 = .ok (.aload_n 0, 1) := by decide +kernel
theorem dX11_drawn_1 : decode cX11_drawn 1 = .ok (.invokevirtual 195, 3) := by decide +kernel
theorem dX11_drawn_4 : decode cX11_drawn 4 = .ok (.ifCond .eq 19, 3) := by decide +kernel
theorem dX11_drawn_7 : decode cX11_drawn 7 = .ok (.iload_n 1, 1) := by decide +kernel
theorem dX11_drawn_8 : decode cX11_drawn 8 = .ok (.invokestatic 358, 3) := by decide +kernel
theorem dX11_drawn_11 : decode cX11_drawn 11 = .ok (.ifCond .eq 12, 3) := by decide +kernel
theorem dX11_drawn_14 : decode cX11_drawn 14 = .ok (.iload_n 2, 1) := by decide +kernel
theorem dX11_drawn_15 : decode cX11_drawn 15 = .ok (.ifCond .lt 8, 3) := by decide +kernel
theorem dX11_drawn_18 : decode cX11_drawn 18 = .ok (.iload_n 2, 1) := by decide +kernel
theorem dX11_drawn_19 : decode cX11_drawn 19 = .ok (.iconst 2, 1) := by decide +kernel
theorem dX11_drawn_20 : decode cX11_drawn 20 = .ok (.if_icmp .le 6, 3) := by decide +kernel
theorem dX11_drawn_26 : decode cX11_drawn 26 = .ok (.aload_n 0, 1) := by decide +kernel
theorem dX11_drawn_27 : decode cX11_drawn 27 = .ok (.iload_n 1, 1) := by decide +kernel
theorem dX11_drawn_28 : decode cX11_drawn 28 = .ok (.i2l, 1) := by decide +kernel
theorem dX11_drawn_29 : decode cX11_drawn 29 = .ok (.invokevirtual 361, 3) := by decide +kernel
theorem dX11_drawn_32 : decode cX11_drawn 32 = .ok (.iload_n 2, 1) := by decide +kernel
theorem dX11_drawn_33 : decode cX11_drawn 33 = .ok (.ifCond .ne 11, 3) := by decide +kernel
theorem dX11_drawn_36 : decode cX11_drawn 36 = .ok (.aload_n 0, 1) := by decide +kernel
theorem dX11_drawn_37 : decode cX11_drawn 37 = .ok (.getfield 48, 3) := by decide +kernel
theorem dX11_drawn_40 : decode cX11_drawn 40 = .ok (.getfield 365, 3) := by decide +kernel
theorem dX11_drawn_43 : decode cX11_drawn 43 = .ok (.ireturn, 1) := by decide +kernel
theorem dX11_drawn_44 : decode cX11_drawn 44 = .ok (.aload_n 0, 1) := by decide +kernel
theorem dX11_drawn_45 : decode cX11_drawn 45 = .ok (.getfield 19, 3) := by decide +kernel
theorem dX11_drawn_48 : decode cX11_drawn 48 = .ok (.getfield 177, 3) := by decide +kernel
theorem dX11_drawn_51 : decode cX11_drawn 51 = .ok (.iconst 1, 1) := by decide +kernel
theorem dX11_drawn_52 : decode cX11_drawn 52 = .ok (.isub, 1) := by decide +kernel
theorem dX11_drawn_53 : decode cX11_drawn 53 = .ok (.istore_n 3, 1) := by decide +kernel
theorem dX11_drawn_54 : decode cX11_drawn 54 = .ok (.iload_n 2, 1) := by decide +kernel
theorem dX11_drawn_55 : decode cX11_drawn 55 = .ok (.iconst 1, 1) := by decide +kernel
theorem dX11_drawn_56 : decode cX11_drawn 56 = .ok (.if_icmp .ne 18, 3) := by decide +kernel
theorem dX11_drawn_59 : decode cX11_drawn 59 = .ok (.aload_n 0, 1) := by decide +kernel
theorem dX11_drawn_60 : decode cX11_drawn 60 = .ok (.getfield 48, 3) := by decide +kernel
theorem dX11_drawn_63 : decode cX11_drawn 63 = .ok (.aload_n 0, 1) := by decide +kernel
theorem dX11_drawn_64 : decode cX11_drawn 64 = .ok (.getfield 19, 3) := by decide +kernel
theorem dX11_drawn_67 : decode cX11_drawn 67 = .ok (.iload_n 3, 1) := by decide +kernel
theorem dX11_drawn_68 : decode cX11_drawn 68 = .ok (.invokevirtual 192, 3) := by decide +kernel
theorem dX11_drawn_71 : decode cX11_drawn 71 = .ok (.goto 16, 3) := by decide +kernel
theorem dX11_drawn_74 : decode cX11_drawn 74 = .ok (.aload_n 0, 1) := by decide +kernel
theorem dX11_drawn_75 : decode cX11_drawn 75 = .ok (.getfield 48, 3) := by decide +kernel
theorem dX11_drawn_78 : decode cX11_drawn 78 = .ok (.aload_n 0, 1) := by decide +kernel
theorem dX11_drawn_79 : decode cX11_drawn 79 = .ok (.getfield 19, 3) := by decide +kernel
theorem dX11_drawn_82 : decode cX11_drawn 82 = .ok (.iconst (-1), 1) := by decide +kernel
theorem dX11_drawn_83 : decode cX11_drawn 83 = .ok (.iload_n 3, 1) := by decide +kernel
theorem dX11_drawn_84 : decode cX11_drawn 84 = .ok (.invokevirtual 211, 3) := by decide +kernel
theorem dX11_drawn_87 : decode cX11_drawn 87 = .ok (.ireturn, 1) := by decide +kernel
theorem dX11_drawn_23 : decode cX11_drawn 23 = .ok (.bipush (-2), 2) := by decide +kernel
theorem dX11_drawn_25 : decode cX11_drawn 25 = .ok (.ireturn, 1) := by decide +kernel
noncomputable def vX11_drawn : List Cond := .code yX11_drawn cX11_drawn 4 (some .int) :: (([.methodLink RX11 195 yX11_isTold, .instanceMethod yX11_isTold, .selects RX11 yX11_isTold yX11_isTold, .initialized RX11, .methodLink RX11 358 yX11_isSeed, .static yX11_isSeed, .methodLink RX11 361 yX11_drawWinter, .instanceMethod yX11_drawWinter, .selects RX11 yX11_drawWinter yX11_drawWinter, .fieldLink RX11 48 "IcicleClock" "whatIf" "LIcicleClock$Winter;", .fieldLink RX11 365 "IcicleClock$Winter" "warm" "I", .fieldLink RX11 19 "IcicleClock" "now" "LIcicleClock$Street;", .fieldLink RX11 177 "IcicleClock$Street" "days" "I", .methodLink RX11 192 yX10_fallenBy, .instanceMethod yX10_fallenBy, .selects RX10 yX10_fallenBy yX10_fallenBy, .initialized RX10, .methodLink RX11 211 yX10_timeAt, .instanceMethod yX10_timeAt, .selects RX10 yX10_timeAt yX10_timeAt] : List Cond) ++ (wsX110 ++ (wsX100 ++ (wsX60 ++ (vX11_isTold ++ (vX11_isSeed ++ (vX11_drawWinter ++ (vX10_fallenBy ++ vX10_timeAt))))))))
theorem iX11_drawn_11 : ∀ w ∈ wsX110, w ∈ vX11_drawn := fun _ h => List.mem_cons_of_mem _ (List.mem_append_right _ (List.mem_append_left _ h))
theorem iX11_drawn_10 : ∀ w ∈ wsX100, w ∈ vX11_drawn := fun _ h => List.mem_cons_of_mem _ (List.mem_append_right _ (List.mem_append_right _ (List.mem_append_left _ h)))
theorem iX11_drawn_6 : ∀ w ∈ wsX60, w ∈ vX11_drawn := fun _ h => List.mem_cons_of_mem _ (List.mem_append_right _ (List.mem_append_right _ (List.mem_append_right _ (List.mem_append_left _ h))))
theorem gs_X11_drawn : Gd vX11_drawn := Gd.cons (by decide +kernel) (Gd.app (Gd.r (by decide +kernel)) (Gd.app gwX_11 (Gd.app gwX_10 (Gd.app gwX_6 (Gd.app gs_X11_isTold (Gd.app gs_X11_isSeed (Gd.app gs_X11_drawWinter (Gd.app gs_X10_fallenBy gs_X10_timeAt))))))))
theorem gg_X11_drawn_X11_isTold : GoodIn vX11_drawn (wsV RX11 195 RX11 yX11_isTold vX11_isTold) := goodIn_app (goodIn_r _ [1, 2, 3, 4] (by decide +kernel) (by decide +kernel)) (fun w h => ⟨List.mem_cons_of_mem _ (List.mem_append_right _ (List.mem_append_right _ (List.mem_append_right _ (List.mem_append_right _ (List.mem_append_left _ h))))), gs_X11_isTold w h⟩)
theorem gg_X11_drawn_X11_isSeed : GoodIn vX11_drawn (wsS RX11 358 yX11_isSeed vX11_isSeed) := goodIn_app (goodIn_r _ [5, 6, 4] (by decide +kernel) (by decide +kernel)) (fun w h => ⟨List.mem_cons_of_mem _ (List.mem_append_right _ (List.mem_append_right _ (List.mem_append_right _ (List.mem_append_right _ (List.mem_append_right _ (List.mem_append_left _ h)))))), gs_X11_isSeed w h⟩)
theorem gg_X11_drawn_X11_drawWinter : GoodIn vX11_drawn (wsV RX11 361 RX11 yX11_drawWinter vX11_drawWinter) := goodIn_app (goodIn_r _ [7, 8, 9, 4] (by decide +kernel) (by decide +kernel)) (fun w h => ⟨List.mem_cons_of_mem _ (List.mem_append_right _ (List.mem_append_right _ (List.mem_append_right _ (List.mem_append_right _ (List.mem_append_right _ (List.mem_append_right _ (List.mem_append_left _ h))))))), gs_X11_drawWinter w h⟩)
theorem gg_X11_drawn_X10_fallenBy : GoodIn vX11_drawn (wsV RX11 192 RX10 yX10_fallenBy vX10_fallenBy) := goodIn_app (goodIn_r _ [14, 15, 16, 17] (by decide +kernel) (by decide +kernel)) (fun w h => ⟨List.mem_cons_of_mem _ (List.mem_append_right _ (List.mem_append_right _ (List.mem_append_right _ (List.mem_append_right _ (List.mem_append_right _ (List.mem_append_right _ (List.mem_append_right _ (List.mem_append_left _ h)))))))), gs_X10_fallenBy w h⟩)
theorem gg_X11_drawn_X10_timeAt : GoodIn vX11_drawn (wsV RX11 211 RX10 yX10_timeAt vX10_timeAt) := goodIn_app (goodIn_r _ [18, 19, 20, 17] (by decide +kernel) (by decide +kernel)) (fun w h => ⟨List.mem_cons_of_mem _ (List.mem_append_right _ (List.mem_append_right _ (List.mem_append_right _ (List.mem_append_right _ (List.mem_append_right _ (List.mem_append_right _ (List.mem_append_right _ (List.mem_append_right _ (h))))))))), gs_X10_timeAt w h⟩)
set_option maxHeartbeats 4000000 in
set_option maxRecDepth 100000 in
theorem s_X11_drawn (l : Launch) (D : va_G) (cs : Nat → ClassId) (ad : Nat → Nat) (kS : kSt) (K : sK) (hKO : KO K) (hj : wJ ad 218) (g : Nat → va_E) (hW : WF (shp ad K) ad cs g) (sd : Int32) (wh : Int32) : sI l yX11_drawn vX11_drawn { frames := 5, cells := 0, slots := 0, locals := 118 } D cs ad kS [.ref (ad 0), .int sd, .int wh] g (fun r g2 => WF (shp ad K) ad cs g2 ∧ (∀ j, j ≠ 116 ∧ j ≠ 117 → g2 j = g j)) := by
  refine Met.startS (cc := cX11_drawn) (maxL := 4) (ret := (some .int)) RX11 rfl (by decide) rfl (Nat.le_of_ble_eq_true rfl) ?_
  intro p e s m below meth c ls X Z hP hl
  have hx := X.1
  have hb := X.2.1
  have hS : va_S (wA ad 218) s.heap s.heap [] := va_S.rf
  have hA : ∀ i, i < 218 → wA ad 218 (ad i) := fun i h => ⟨i, h, rfl⟩
  have hfr : ∀ j, j ≠ 116 ∧ j ≠ 117 → g j = g j := fun _ _ => rfl
  have hl : lv_has ls 4 [(0, .ref (ad 0)), (1, .int sd), (2, .int wh)] := hl
  refine lv_aload_n hx hb dX11_drawn_0 rfl (lv_at hl 0 rfl) ?_
  obtain ⟨fsc_4, hgc_4, hOc_4⟩ := hW.obj (i := 0) (by decide) (sh_0 ad K)
  refine s_calli (q := (RX11, TX11, 14)) (As := []) (rest := []) X Z (s_X11_isTold l D cs ad kS K hKO hj g hW) (cwV 0 X.2.2.2.2.1 gg_X11_drawn_X11_isTold rfl rfl rfl (by decide +kernel) ⟨Nat.le_of_ble_eq_true rfl, Nat.le_of_ble_eq_true rfl⟩) (by decide) hgc_4 rfl hP hA hS.2.1 hS rfl hl.1 rfl (Nat.le_of_ble_eq_true rfl) dX11_drawn_1 ⟨Nat.le_of_ble_eq_true rfl, Nat.le_of_ble_eq_true rfl⟩ (fun r_3 g_2 H locs hw_1 hP hS => ?_)
  obtain ⟨hw_1g, hw_1⟩ := hw_1
  rw [hw_1g] at hP
  have HJ23 : ∀ (G23 : Nat → va_E) (H : Heap) (locs : List Loc) (ls : Array Slot), WF (shp ad K) ad cs G23 → (∀ j, j ≠ 116 ∧ j ≠ 117 → G23 j = g j) → G23 0 = .inr (11, fsc_4) → va_P D vwCl (wL ad G23 218) H → va_S (wA ad 218) s.heap H locs → lv_has ls 4 [] → W p l e ({ frames := 5, cells := 0, slots := 0, locals := 118 } : Room) s m ([.ref (ad 0), .int sd, .int wh] : List Value).toArray below meth c H locs 0 0 (MQ below (qI D ad 218 (fun r g2 => WF (shp ad K) ad cs g2 ∧ (∀ j, j ≠ 116 ∧ j ≠ 117 → g2 j = g j))) ([.ref (ad 0), .int sd, .int wh] : List Value).toArray s 0 0 (wA ad 218)) (F0 m 23 ls []) := by
    intro G23 H locs ls hW23 hfr23 hg23_0 hP hS hl
    refine lv_bipush (v := (-2)) hx hb dX11_drawn_23 (by decide) ?_
    exact q_iret X hP hS ⟨hW23, hfr23⟩ dX11_drawn_25
  refine lv_if_eq (tgt := 23) hx hb dX11_drawn_4 (by decide) (fun hc_5 => ?_) (fun hc_5 => ?_)
  · have hhc_5 := n_eq (rfl : r_3.toInt = r_3.toInt) (by decide : (0 : Int32).toInt = 0) hc_5
    exact HJ23 g _ _ ls hW hfr hgc_4 hP hS (lv_sub hl [] rfl)
  · have hhc_5 := n_ne (rfl : r_3.toInt = r_3.toInt) (by decide : (0 : Int32).toInt = 0) hc_5
    refine lv_iload_n hx hb dX11_drawn_7 rfl (lv_at hl 1 rfl) ?_
    refine s_callSi (As := [.int sd]) (rest := []) X Z (s_X11_isSeed l D cs ad kS K hKO hj g hW sd) (cwS 1 X.2.2.2.2.1 gg_X11_drawn_X11_isSeed rfl rfl rfl (by decide +kernel) ⟨Nat.le_of_ble_eq_true rfl, Nat.le_of_ble_eq_true rfl⟩) hP hA hS.2.1 hS rfl hl.1 rfl (Nat.le_of_ble_eq_true rfl) dX11_drawn_8 ⟨Nat.le_of_ble_eq_true rfl, Nat.le_of_ble_eq_true rfl⟩ (fun r_8 g_7 H locs hw_6 hP hS => ?_)
    obtain ⟨hw_6g, hw_6⟩ := hw_6
    rw [hw_6g] at hP
    refine lv_if_eq (tgt := 23) hx hb dX11_drawn_11 (by decide) (fun hc_9 => ?_) (fun hc_9 => ?_)
    · have hhc_9 := n_eq (rfl : r_8.toInt = r_8.toInt) (by decide : (0 : Int32).toInt = 0) hc_9
      exact HJ23 g _ _ ls hW hfr hgc_4 hP hS (lv_sub hl [] rfl)
    · have hhc_9 := n_ne (rfl : r_8.toInt = r_8.toInt) (by decide : (0 : Int32).toInt = 0) hc_9
      refine lv_iload_n hx hb dX11_drawn_14 rfl (lv_at hl 2 rfl) ?_
      refine lv_if_lt (tgt := 23) hx hb dX11_drawn_15 (by decide) (fun hc_10 => ?_) (fun hc_10 => ?_)
      · have hhc_10 := n_lt (rfl : wh.toInt = wh.toInt) (by decide : (0 : Int32).toInt = 0) hc_10
        exact HJ23 g _ _ ls hW hfr hgc_4 hP hS (lv_sub hl [] rfl)
      · have hhc_10 := n_nlt (rfl : wh.toInt = wh.toInt) (by decide : (0 : Int32).toInt = 0) hc_10
        refine lv_iload_n hx hb dX11_drawn_18 rfl (lv_at hl 2 rfl) ?_
        refine lv_iconst (v := 2) hx hb dX11_drawn_19 (by decide) ?_
        refine lv_icmp_le (tgt := 26) hx hb dX11_drawn_20 (by decide) (fun hc_11 => ?_) (fun hc_11 => ?_)
        · have hhc_11 := n_le (rfl : wh.toInt = wh.toInt) (by decide : (2 : Int32).toInt = 2) hc_11
          refine lv_aload_n hx hb dX11_drawn_26 rfl (lv_at hl 0 rfl) ?_
          refine lv_iload_n hx hb dX11_drawn_27 rfl (lv_at hl 1 rfl) ?_
          refine lv_i2l hx hb dX11_drawn_28 rfl ?_
          refine lv_topl (fun z_12 ez_12 => ?_)
          have hz_12 : z_12.toInt = sd.toInt := ez_12 ▸ j_of rfl
          refine s_callv (q := (RX11, TX11, 14)) (As := [.long z_12]) (rest := []) X Z (s_X11_drawWinter l D cs ad kS K hKO hj g hW z_12) (cwV 1 X.2.2.2.2.1 gg_X11_drawn_X11_drawWinter rfl rfl rfl (by decide +kernel) ⟨Nat.le_of_ble_eq_true rfl, Nat.le_of_ble_eq_true rfl⟩) (by decide) hgc_4 rfl hP hA hS.2.1 hS rfl hl.1 rfl (Nat.le_of_ble_eq_true rfl) dX11_drawn_29 ⟨Nat.le_of_ble_eq_true rfl, Nat.le_of_ble_eq_true rfl⟩ (fun g_14 H locs hw_13 hP hS => ?_)
          obtain ⟨hw_13W, hw_13f⟩ := hw_13
          have hfr_16 : ∀ j, j ≠ 116 ∧ j ≠ 117 → g_14 j = g j := fun j hj => (hw_13f j (by omega)).trans (hfr j hj)
          have hg_17 := (hw_13f 0 (by omega)).trans hgc_4
          refine lv_iload_n hx hb dX11_drawn_32 rfl (lv_at hl 2 rfl) ?_
          refine lv_if_ne (tgt := 44) hx hb dX11_drawn_33 (by decide) (fun hc_18 => ?_) (fun hc_18 => ?_)
          · have hhc_18 := n_ne (rfl : wh.toInt = wh.toInt) (by decide : (0 : Int32).toInt = 0) hc_18
            refine lv_aload_n hx hb dX11_drawn_44 rfl (lv_at hl 0 rfl) ?_
            have hk_19 := hOc_4.ref 1 rfl
            refine q_get X iX11_drawn_11 hP (by decide) hg_17 rfl 1 (by decide) (List.mem_of_getElem? (i := 12) rfl) (v := .ref (ad 3)) hk_19 dX11_drawn_45 ?_
            obtain ⟨fsc_20, hgc_20, hOc_20⟩ := hw_13W.obj (i := 3) (by decide) (sh_3 ad K)
            obtain ⟨x_22, hk_21, hlx_22, hhx_22⟩ := hOc_20.int 3 rfl
            refine q_get X iX11_drawn_6 hP (by decide) hgc_20 rfl 3 (by decide) (List.mem_of_getElem? (i := 13) rfl) (v := .int x_22) hk_21 dX11_drawn_48 ?_
            refine lv_iconst (v := 1) hx hb dX11_drawn_51 (by decide) ?_
            refine lv_isub hx hb dX11_drawn_52 ?_
            refine lv_topi (fun z_23 ez_23 => ?_)
            have hz_23 : z_23.toInt = x_22.toInt - 1 := n_sub (rfl : x_22.toInt = x_22.toInt) (by decide : (1 : Int32).toInt = 1) ez_23 (by omega) (by omega)
            refine lv_istore_n (lv' := [(3, .int z_23), (0, .ref (ad 0)), (1, .int sd), (2, .int wh)]) hx hb dX11_drawn_53 rfl hl (by decide) rfl (fun ls hl => ?_)
            refine lv_iload_n hx hb dX11_drawn_54 rfl (lv_at hl 3 rfl) ?_
            refine lv_iconst (v := 1) hx hb dX11_drawn_55 (by decide) ?_
            refine lv_icmp_ne (tgt := 74) hx hb dX11_drawn_56 (by decide) (fun hc_24 => ?_) (fun hc_24 => ?_)
            · have hhc_24 := n_ne (rfl : wh.toInt = wh.toInt) (by decide : (1 : Int32).toInt = 1) hc_24
              refine lv_aload_n hx hb dX11_drawn_74 rfl (lv_at hl 1 rfl) ?_
              have hk_25 := hOc_4.ref 7 rfl
              refine q_get X iX11_drawn_11 hP (by decide) hg_17 rfl 7 (by decide) (List.mem_of_getElem? (i := 10) rfl) (v := .ref (ad 116)) hk_25 dX11_drawn_75 ?_
              refine lv_aload_n hx hb dX11_drawn_78 rfl (lv_at hl 1 rfl) ?_
              refine q_get X iX11_drawn_11 hP (by decide) hg_17 rfl 1 (by decide) (List.mem_of_getElem? (i := 12) rfl) (v := .ref (ad 3)) hk_19 dX11_drawn_79 ?_
              refine lv_iconst (v := (-1)) hx hb dX11_drawn_82 (by decide) ?_
              refine lv_iload_n hx hb dX11_drawn_83 rfl (lv_at hl 0 rfl) ?_
              obtain ⟨fsc_29, hgc_29, hOc_29⟩ := hw_13W.obj (i := 116) (by decide) (sh_116 ad K)
              refine s_calli (q := (RX10, TX10, 4)) (As := [.ref (ad 3), .int (-1), .int z_23]) (rest := []) X Z (s_X10_timeAt l D cs ad kS K hKO hj g_14 hw_13W 116 (-1) z_23 (by omega)) (cwV 3 X.2.2.2.2.1 gg_X11_drawn_X10_timeAt rfl rfl rfl (by decide +kernel) ⟨Nat.le_of_ble_eq_true rfl, Nat.le_of_ble_eq_true rfl⟩) (by decide) hgc_29 rfl hP hA hS.2.1 hS rfl hl.1 rfl (Nat.le_of_ble_eq_true rfl) dX11_drawn_84 ⟨Nat.le_of_ble_eq_true rfl, Nat.le_of_ble_eq_true rfl⟩ (fun r_28 g_27 H locs hw_26 hP hS => ?_)
              rw [hw_26] at hP
              exact q_iret X hP hS ⟨hw_13W, hfr_16⟩ dX11_drawn_87
            · have hhc_24 := n_eq (rfl : wh.toInt = wh.toInt) (by decide : (1 : Int32).toInt = 1) hc_24
              refine lv_aload_n hx hb dX11_drawn_59 rfl (lv_at hl 1 rfl) ?_
              have hk_30 := hOc_4.ref 7 rfl
              refine q_get X iX11_drawn_11 hP (by decide) hg_17 rfl 7 (by decide) (List.mem_of_getElem? (i := 10) rfl) (v := .ref (ad 116)) hk_30 dX11_drawn_60 ?_
              refine lv_aload_n hx hb dX11_drawn_63 rfl (lv_at hl 1 rfl) ?_
              refine q_get X iX11_drawn_11 hP (by decide) hg_17 rfl 1 (by decide) (List.mem_of_getElem? (i := 12) rfl) (v := .ref (ad 3)) hk_19 dX11_drawn_64 ?_
              refine lv_iload_n hx hb dX11_drawn_67 rfl (lv_at hl 0 rfl) ?_
              obtain ⟨fsc_34, hgc_34, hOc_34⟩ := hw_13W.obj (i := 116) (by decide) (sh_116 ad K)
              refine s_calli (q := (RX10, TX10, 4)) (As := [.ref (ad 3), .int z_23]) (rest := []) X Z (s_X10_fallenBy l D cs ad kS K hKO hj g_14 hw_13W 116 z_23 (by omega)) (cwV 2 X.2.2.2.2.1 gg_X11_drawn_X10_fallenBy rfl rfl rfl (by decide +kernel) ⟨Nat.le_of_ble_eq_true rfl, Nat.le_of_ble_eq_true rfl⟩) (by decide) hgc_34 rfl hP hA hS.2.1 hS rfl hl.1 rfl (Nat.le_of_ble_eq_true rfl) dX11_drawn_68 ⟨Nat.le_of_ble_eq_true rfl, Nat.le_of_ble_eq_true rfl⟩ (fun r_33 g_32 H locs hw_31 hP hS => ?_)
              rw [hw_31] at hP
              refine lv_goto (tgt := 87) hx hb dX11_drawn_71 (by decide) ?_
              exact q_iret X hP hS ⟨hw_13W, hfr_16⟩ dX11_drawn_87
          · have hhc_18 := n_eq (rfl : wh.toInt = wh.toInt) (by decide : (0 : Int32).toInt = 0) hc_18
            refine lv_aload_n hx hb dX11_drawn_36 rfl (lv_at hl 0 rfl) ?_
            have hk_35 := hOc_4.ref 7 rfl
            refine q_get X iX11_drawn_11 hP (by decide) hg_17 rfl 7 (by decide) (List.mem_of_getElem? (i := 10) rfl) (v := .ref (ad 116)) hk_35 dX11_drawn_37 ?_
            obtain ⟨fsc_36, hgc_36, hOc_36⟩ := hw_13W.obj (i := 116) (by decide) (sh_116 ad K)
            obtain ⟨x_38, hk_37, -⟩ := hOc_36.int 0 rfl
            refine q_get X iX11_drawn_10 hP (by decide) hgc_36 rfl 0 (by decide) (List.mem_of_getElem? (i := 11) rfl) (v := .int x_38) hk_37 dX11_drawn_40 ?_
            exact q_iret X hP hS ⟨hw_13W, hfr_16⟩ dX11_drawn_43
        · have hhc_11 := n_nle (rfl : wh.toInt = wh.toInt) (by decide : (2 : Int32).toInt = 2) hc_11
          exact HJ23 g _ _ ls hW hfr hgc_4 hP hS (lv_sub hl [] rfl)

theorem dX11_luck_0 : decode cX11_luck 0 = .ok (.aload_n 0, 1) := by decide +kernel
theorem dX11_luck_1 : decode cX11_luck 1 = .ok (.iload_n 3, 1) := by decide +kernel
theorem dX11_luck_2 : decode cX11_luck 2 = .ok (.invokevirtual 136, 3) := by decide +kernel
theorem dX11_luck_5 : decode cX11_luck 5 = .ok (.ifCond .eq 30, 3) := by decide +kernel
theorem dX11_luck_8 : decode cX11_luck 8 = .ok (.aload_n 0, 1) := by decide +kernel
theorem dX11_luck_9 : decode cX11_luck 9 = .ok (.iload 4, 2) := by decide +kernel
theorem dX11_luck_11 : decode cX11_luck 11 = .ok (.invokevirtual 121, 3) := by decide +kernel
theorem dX11_luck_14 : decode cX11_luck 14 = .ok (.ifCond .eq 21, 3) := by decide +kernel
theorem dX11_luck_17 : decode cX11_luck 17 = .ok (.iload_n 1, 1) := by decide +kernel
theorem dX11_luck_18 : decode cX11_luck 18 = .ok (.invokestatic 358, 3) := by decide +kernel
theorem dX11_luck_21 : decode cX11_luck 21 = .ok (.ifCond .eq 14, 3) := by decide +kernel
theorem dX11_luck_24 : decode cX11_luck 24 = .ok (.iload_n 2, 1) := by decide +kernel
theorem dX11_luck_25 : decode cX11_luck 25 = .ok (.iconst 1, 1) := by decide +kernel
theorem dX11_luck_26 : decode cX11_luck 26 = .ok (.if_icmp .lt 9, 3) := by decide +kernel
theorem dX11_luck_29 : decode cX11_luck 29 = .ok (.iload_n 2, 1) := by decide +kernel
theorem dX11_luck_30 : decode cX11_luck 30 = .ok (.bipush 20, 2) := by decide +kernel
theorem dX11_luck_32 : decode cX11_luck 32 = .ok (.if_icmp .le 6, 3) := by decide +kernel
theorem dX11_luck_38 : decode cX11_luck 38 = .ok (.iconst 0, 1) := by decide +kernel
theorem dX11_luck_39 : decode cX11_luck 39 = .ok (.istore 5, 2) := by decide +kernel
theorem dX11_luck_41 : decode cX11_luck 41 = .ok (.iconst 0, 1) := by decide +kernel
theorem dX11_luck_42 : decode cX11_luck 42 = .ok (.istore 6, 2) := by decide +kernel
theorem dX11_luck_44 : decode cX11_luck 44 = .ok (.iload 6, 2) := by decide +kernel
theorem dX11_luck_46 : decode cX11_luck 46 = .ok (.iload_n 2, 1) := by decide +kernel
theorem dX11_luck_47 : decode cX11_luck 47 = .ok (.if_icmp .ge 35, 3) := by decide +kernel
theorem dX11_luck_50 : decode cX11_luck 50 = .ok (.aload_n 0, 1) := by decide +kernel
theorem dX11_luck_51 : decode cX11_luck 51 = .ok (.iload_n 1, 1) := by decide +kernel
theorem dX11_luck_52 : decode cX11_luck 52 = .ok (.i2l, 1) := by decide +kernel
theorem dX11_luck_53 : decode cX11_luck 53 = .ok (.iload 6, 2) := by decide +kernel
theorem dX11_luck_55 : decode cX11_luck 55 = .ok (.i2l, 1) := by decide +kernel
theorem dX11_luck_56 : decode cX11_luck 56 = .ok (.ladd, 1) := by decide +kernel
theorem dX11_luck_57 : decode cX11_luck 57 = .ok (.invokevirtual 361, 3) := by decide +kernel
theorem dX11_luck_60 : decode cX11_luck 60 = .ok (.aload_n 0, 1) := by decide +kernel
theorem dX11_luck_61 : decode cX11_luck 61 = .ok (.getfield 48, 3) := by decide +kernel
theorem dX11_luck_64 : decode cX11_luck 64 = .ok (.iload_n 3, 1) := by decide +kernel
theorem dX11_luck_65 : decode cX11_luck 65 = .ok (.iload 4, 2) := by decide +kernel
theorem dX11_luck_67 : decode cX11_luck 67 = .ok (.invokevirtual 166, 3) := by decide +kernel
theorem dX11_luck_70 : decode cX11_luck 70 = .ok (.ifCond .eq 6, 3) := by decide +kernel
theorem dX11_luck_73 : decode cX11_luck 73 = .ok (.iinc 5 1, 3) := by decide +kernel
theorem dX11_luck_76 : decode cX11_luck 76 = .ok (.iinc 6 1, 3) := by decide +kernel
theorem dX11_luck_79 : decode cX11_luck 79 = .ok (.goto (-35), 3) := by decide +kernel
theorem dX11_luck_82 : decode cX11_luck 82 = .ok (.iload 5, 2) := by decide +kernel
theorem dX11_luck_84 : decode cX11_luck 84 = .ok (.ireturn, 1) := by decide +kernel
theorem dX11_luck_35 : decode cX11_luck 35 = .ok (.bipush (-2), 2) := by decide +kernel
theorem dX11_luck_37 : decode cX11_luck 37 = .ok (.ireturn, 1) := by decide +kernel
noncomputable def vX11_luck : List Cond := .code yX11_luck cX11_luck 7 (some .int) :: (([.methodLink RX11 136 yX11_isIcicle, .instanceMethod yX11_isIcicle, .selects RX11 yX11_isIcicle yX11_isIcicle, .initialized RX11, .methodLink RX11 121 yX11_isDay, .instanceMethod yX11_isDay, .selects RX11 yX11_isDay yX11_isDay, .methodLink RX11 358 yX11_isSeed, .static yX11_isSeed, .methodLink RX11 361 yX11_drawWinter, .instanceMethod yX11_drawWinter, .selects RX11 yX11_drawWinter yX11_drawWinter, .fieldLink RX11 48 "IcicleClock" "whatIf" "LIcicleClock$Winter;", .methodLink RX11 166 yX10_fellBy, .instanceMethod yX10_fellBy, .selects RX10 yX10_fellBy yX10_fellBy, .initialized RX10] : List Cond) ++ (wsX110 ++ (vX11_isIcicle ++ (vX11_isDay ++ (vX11_isSeed ++ (vX11_drawWinter ++ vX10_fellBy))))))
theorem iX11_luck_11 : ∀ w ∈ wsX110, w ∈ vX11_luck := fun _ h => List.mem_cons_of_mem _ (List.mem_append_right _ (List.mem_append_left _ h))
theorem gs_X11_luck : Gd vX11_luck := Gd.cons (by decide +kernel) (Gd.app (Gd.r (by decide +kernel)) (Gd.app gwX_11 (Gd.app gs_X11_isIcicle (Gd.app gs_X11_isDay (Gd.app gs_X11_isSeed (Gd.app gs_X11_drawWinter gs_X10_fellBy))))))
theorem gg_X11_luck_X11_isIcicle : GoodIn vX11_luck (wsV RX11 136 RX11 yX11_isIcicle vX11_isIcicle) := goodIn_app (goodIn_r _ [1, 2, 3, 4] (by decide +kernel) (by decide +kernel)) (fun w h => ⟨List.mem_cons_of_mem _ (List.mem_append_right _ (List.mem_append_right _ (List.mem_append_left _ h))), gs_X11_isIcicle w h⟩)
theorem gg_X11_luck_X11_isDay : GoodIn vX11_luck (wsV RX11 121 RX11 yX11_isDay vX11_isDay) := goodIn_app (goodIn_r _ [5, 6, 7, 4] (by decide +kernel) (by decide +kernel)) (fun w h => ⟨List.mem_cons_of_mem _ (List.mem_append_right _ (List.mem_append_right _ (List.mem_append_right _ (List.mem_append_left _ h)))), gs_X11_isDay w h⟩)
theorem gg_X11_luck_X11_isSeed : GoodIn vX11_luck (wsS RX11 358 yX11_isSeed vX11_isSeed) := goodIn_app (goodIn_r _ [8, 9, 4] (by decide +kernel) (by decide +kernel)) (fun w h => ⟨List.mem_cons_of_mem _ (List.mem_append_right _ (List.mem_append_right _ (List.mem_append_right _ (List.mem_append_right _ (List.mem_append_left _ h))))), gs_X11_isSeed w h⟩)
theorem gg_X11_luck_X11_drawWinter : GoodIn vX11_luck (wsV RX11 361 RX11 yX11_drawWinter vX11_drawWinter) := goodIn_app (goodIn_r _ [10, 11, 12, 4] (by decide +kernel) (by decide +kernel)) (fun w h => ⟨List.mem_cons_of_mem _ (List.mem_append_right _ (List.mem_append_right _ (List.mem_append_right _ (List.mem_append_right _ (List.mem_append_right _ (List.mem_append_left _ h)))))), gs_X11_drawWinter w h⟩)
theorem gg_X11_luck_X10_fellBy : GoodIn vX11_luck (wsV RX11 166 RX10 yX10_fellBy vX10_fellBy) := goodIn_app (goodIn_r _ [14, 15, 16, 17] (by decide +kernel) (by decide +kernel)) (fun w h => ⟨List.mem_cons_of_mem _ (List.mem_append_right _ (List.mem_append_right _ (List.mem_append_right _ (List.mem_append_right _ (List.mem_append_right _ (List.mem_append_right _ (h))))))), gs_X10_fellBy w h⟩)
set_option maxHeartbeats 4000000 in
set_option maxRecDepth 100000 in
theorem s_X11_luck (l : Launch) (D : va_G) (cs : Nat → ClassId) (ad : Nat → Nat) (kS : kSt) (K : sK) (hKO : KO K) (hj : wJ ad 218) (g : Nat → va_E) (hW : WF (shp ad K) ad cs g) (sd : Int32) (nn : Int32) (ic : Int32) (dy : Int32) : sI l yX11_luck vX11_luck { frames := 5, cells := 0, slots := 0, locals := 118 } D cs ad kS [.ref (ad 0), .int sd, .int nn, .int ic, .int dy] g (fun r g2 => WF (shp ad K) ad cs g2 ∧ (∀ j, j ≠ 116 ∧ j ≠ 117 → g2 j = g j)) := by
  refine Met.startS (cc := cX11_luck) (maxL := 7) (ret := (some .int)) RX11 rfl (by decide) rfl (Nat.le_of_ble_eq_true rfl) ?_
  intro p e s m below meth c ls X Z hP hl
  have hx := X.1
  have hb := X.2.1
  have hS : va_S (wA ad 218) s.heap s.heap [] := va_S.rf
  have hA : ∀ i, i < 218 → wA ad 218 (ad i) := fun i h => ⟨i, h, rfl⟩
  have hfr : ∀ j, j ≠ 116 ∧ j ≠ 117 → g j = g j := fun _ _ => rfl
  have hl : lv_has ls 7 [(0, .ref (ad 0)), (1, .int sd), (2, .int nn), (3, .int ic), (4, .int dy)] := hl
  refine lv_aload_n hx hb dX11_luck_0 rfl (lv_at hl 0 rfl) ?_
  refine lv_iload_n hx hb dX11_luck_1 rfl (lv_at hl 3 rfl) ?_
  obtain ⟨fsc_4, hgc_4, hOc_4⟩ := hW.obj (i := 0) (by decide) (sh_0 ad K)
  refine s_calli (q := (RX11, TX11, 14)) (As := [.int ic]) (rest := []) X Z (s_X11_isIcicle l D cs ad kS K hKO hj g hW ic) (cwV 1 X.2.2.2.2.1 gg_X11_luck_X11_isIcicle rfl rfl rfl (by decide +kernel) ⟨Nat.le_of_ble_eq_true rfl, Nat.le_of_ble_eq_true rfl⟩) (by decide) hgc_4 rfl hP hA hS.2.1 hS rfl hl.1 rfl (Nat.le_of_ble_eq_true rfl) dX11_luck_2 ⟨Nat.le_of_ble_eq_true rfl, Nat.le_of_ble_eq_true rfl⟩ (fun r_3 g_2 H locs hw_1 hP hS => ?_)
  obtain ⟨hw_1g, hw_1⟩ := hw_1
  rw [hw_1g] at hP
  have HJ35 : ∀ (G35 : Nat → va_E) (H : Heap) (locs : List Loc) (ls : Array Slot), WF (shp ad K) ad cs G35 → (∀ j, j ≠ 116 ∧ j ≠ 117 → G35 j = g j) → G35 0 = .inr (11, fsc_4) → va_P D vwCl (wL ad G35 218) H → va_S (wA ad 218) s.heap H locs → lv_has ls 7 [] → W p l e ({ frames := 5, cells := 0, slots := 0, locals := 118 } : Room) s m ([.ref (ad 0), .int sd, .int nn, .int ic, .int dy] : List Value).toArray below meth c H locs 0 0 (MQ below (qI D ad 218 (fun r g2 => WF (shp ad K) ad cs g2 ∧ (∀ j, j ≠ 116 ∧ j ≠ 117 → g2 j = g j))) ([.ref (ad 0), .int sd, .int nn, .int ic, .int dy] : List Value).toArray s 0 0 (wA ad 218)) (F0 m 35 ls []) := by
    intro G35 H locs ls hW35 hfr35 hg35_0 hP hS hl
    refine lv_bipush (v := (-2)) hx hb dX11_luck_35 (by decide) ?_
    exact q_iret X hP hS ⟨hW35, hfr35⟩ dX11_luck_37
  refine lv_if_eq (tgt := 35) hx hb dX11_luck_5 (by decide) (fun hc_5 => ?_) (fun hc_5 => ?_)
  · have hhc_5 := n_eq (rfl : r_3.toInt = r_3.toInt) (by decide : (0 : Int32).toInt = 0) hc_5
    exact HJ35 g _ _ ls hW hfr hgc_4 hP hS (lv_sub hl [] rfl)
  · have hhc_5 := n_ne (rfl : r_3.toInt = r_3.toInt) (by decide : (0 : Int32).toInt = 0) hc_5
    refine lv_aload_n hx hb dX11_luck_8 rfl (lv_at hl 0 rfl) ?_
    refine lv_iload hx hb dX11_luck_9 (lv_at hl 4 rfl) ?_
    refine s_calli (q := (RX11, TX11, 14)) (As := [.int dy]) (rest := []) X Z (s_X11_isDay l D cs ad kS K hKO hj g hW dy) (cwV 1 X.2.2.2.2.1 gg_X11_luck_X11_isDay rfl rfl rfl (by decide +kernel) ⟨Nat.le_of_ble_eq_true rfl, Nat.le_of_ble_eq_true rfl⟩) (by decide) hgc_4 rfl hP hA hS.2.1 hS rfl hl.1 rfl (Nat.le_of_ble_eq_true rfl) dX11_luck_11 ⟨Nat.le_of_ble_eq_true rfl, Nat.le_of_ble_eq_true rfl⟩ (fun r_8 g_7 H locs hw_6 hP hS => ?_)
    obtain ⟨hw_6g, hw_6⟩ := hw_6
    rw [hw_6g] at hP
    refine lv_if_eq (tgt := 35) hx hb dX11_luck_14 (by decide) (fun hc_9 => ?_) (fun hc_9 => ?_)
    · have hhc_9 := n_eq (rfl : r_8.toInt = r_8.toInt) (by decide : (0 : Int32).toInt = 0) hc_9
      exact HJ35 g _ _ ls hW hfr hgc_4 hP hS (lv_sub hl [] rfl)
    · have hhc_9 := n_ne (rfl : r_8.toInt = r_8.toInt) (by decide : (0 : Int32).toInt = 0) hc_9
      refine lv_iload_n hx hb dX11_luck_17 rfl (lv_at hl 1 rfl) ?_
      refine s_callSi (As := [.int sd]) (rest := []) X Z (s_X11_isSeed l D cs ad kS K hKO hj g hW sd) (cwS 1 X.2.2.2.2.1 gg_X11_luck_X11_isSeed rfl rfl rfl (by decide +kernel) ⟨Nat.le_of_ble_eq_true rfl, Nat.le_of_ble_eq_true rfl⟩) hP hA hS.2.1 hS rfl hl.1 rfl (Nat.le_of_ble_eq_true rfl) dX11_luck_18 ⟨Nat.le_of_ble_eq_true rfl, Nat.le_of_ble_eq_true rfl⟩ (fun r_12 g_11 H locs hw_10 hP hS => ?_)
      obtain ⟨hw_10g, hw_10⟩ := hw_10
      rw [hw_10g] at hP
      refine lv_if_eq (tgt := 35) hx hb dX11_luck_21 (by decide) (fun hc_13 => ?_) (fun hc_13 => ?_)
      · have hhc_13 := n_eq (rfl : r_12.toInt = r_12.toInt) (by decide : (0 : Int32).toInt = 0) hc_13
        exact HJ35 g _ _ ls hW hfr hgc_4 hP hS (lv_sub hl [] rfl)
      · have hhc_13 := n_ne (rfl : r_12.toInt = r_12.toInt) (by decide : (0 : Int32).toInt = 0) hc_13
        refine lv_iload_n hx hb dX11_luck_24 rfl (lv_at hl 2 rfl) ?_
        refine lv_iconst (v := 1) hx hb dX11_luck_25 (by decide) ?_
        refine lv_icmp_lt (tgt := 35) hx hb dX11_luck_26 (by decide) (fun hc_14 => ?_) (fun hc_14 => ?_)
        · have hhc_14 := n_lt (rfl : nn.toInt = nn.toInt) (by decide : (1 : Int32).toInt = 1) hc_14
          exact HJ35 g _ _ ls hW hfr hgc_4 hP hS (lv_sub hl [] rfl)
        · have hhc_14 := n_nlt (rfl : nn.toInt = nn.toInt) (by decide : (1 : Int32).toInt = 1) hc_14
          refine lv_iload_n hx hb dX11_luck_29 rfl (lv_at hl 2 rfl) ?_
          refine lv_bipush (v := 20) hx hb dX11_luck_30 (by decide) ?_
          refine lv_icmp_le (tgt := 38) hx hb dX11_luck_32 (by decide) (fun hc_15 => ?_) (fun hc_15 => ?_)
          · have hhc_15 := n_le (rfl : nn.toInt = nn.toInt) (by decide : (20 : Int32).toInt = 20) hc_15
            refine lv_iconst (v := 0) hx hb dX11_luck_38 (by decide) ?_
            refine lv_istore (lv' := [(5, .int 0), (0, .ref (ad 0)), (1, .int sd), (2, .int nn), (3, .int ic), (4, .int dy)]) hx hb dX11_luck_39 hl (by decide) rfl (fun ls hl => ?_)
            refine lv_iconst (v := 0) hx hb dX11_luck_41 (by decide) ?_
            refine lv_istore (lv' := [(6, .int 0), (5, .int 0), (0, .ref (ad 0)), (1, .int sd), (2, .int nn), (3, .int ic), (4, .int dy)]) hx hb dX11_luck_42 hl (by decide) rfl (fun ls hl => ?_)
            have HL44 : ∀ (n44 : Nat) (v44_6 : Int32) (v44_5 : Int32) (G44 : Nat → va_E) (H : Heap) (locs : List Loc) (ls : Array Slot), (20 - v44_6.toInt).toNat < n44 → (0 ≤ v44_6.toInt ∧ v44_6.toInt ≤ 20) → WF (shp ad K) ad cs G44 → (∀ j, j ≠ 116 ∧ j ≠ 117 → G44 j = g j) → va_P D vwCl (wL ad G44 218) H → va_S (wA ad 218) s.heap H locs → lv_has ls 7 [(6, .int v44_6), (5, .int v44_5), (0, .ref (ad 0)), (1, .int sd), (2, .int nn), (3, .int ic), (4, .int dy)] → W p l e ({ frames := 5, cells := 0, slots := 0, locals := 118 } : Room) s m ([.ref (ad 0), .int sd, .int nn, .int ic, .int dy] : List Value).toArray below meth c H locs 0 0 (MQ below (qI D ad 218 (fun r g2 => WF (shp ad K) ad cs g2 ∧ (∀ j, j ≠ 116 ∧ j ≠ 117 → g2 j = g j))) ([.ref (ad 0), .int sd, .int nn, .int ic, .int dy] : List Value).toArray s 0 0 (wA ad 218)) (F0 m 44 ls []) := by
              intro n44
              induction n44 with
              | zero =>
                intro v44_6 v44_5 G44 H locs ls hm44 hv44_0 hW44 hfr44 hP hS hl
                exact absurd hm44 (Nat.not_lt_zero _)
              | succ n44 ih44 =>
                intro v44_6 v44_5 G44 H locs ls hm44 hv44_0 hW44 hfr44 hP hS hl
                refine lv_iload hx hb dX11_luck_44 (lv_at hl 0 rfl) ?_
                refine lv_iload_n hx hb dX11_luck_46 rfl (lv_at hl 4 rfl) ?_
                refine lv_icmp_ge (tgt := 82) hx hb dX11_luck_47 (by decide) (fun hc_16 => ?_) (fun hc_16 => ?_)
                · have hhc_16 := n_le (rfl : nn.toInt = nn.toInt) (rfl : v44_6.toInt = v44_6.toInt) hc_16
                  refine lv_iload hx hb dX11_luck_82 (lv_at hl 1 rfl) ?_
                  exact q_iret X hP hS ⟨hW44, hfr44⟩ dX11_luck_84
                · have hhc_16 := n_nle (rfl : nn.toInt = nn.toInt) (rfl : v44_6.toInt = v44_6.toInt) hc_16
                  refine lv_aload_n hx hb dX11_luck_50 rfl (lv_at hl 2 rfl) ?_
                  refine lv_iload_n hx hb dX11_luck_51 rfl (lv_at hl 3 rfl) ?_
                  refine lv_i2l hx hb dX11_luck_52 rfl ?_
                  refine lv_topl (fun z_17 ez_17 => ?_)
                  have hz_17 : z_17.toInt = sd.toInt := ez_17 ▸ j_of rfl
                  refine lv_iload hx hb dX11_luck_53 (lv_at hl 0 rfl) ?_
                  refine lv_i2l hx hb dX11_luck_55 rfl ?_
                  refine lv_topl (fun z_18 ez_18 => ?_)
                  have hz_18 : z_18.toInt = v44_6.toInt := ez_18 ▸ j_of rfl
                  refine lv_ladd hx hb dX11_luck_56 ?_
                  refine lv_topl (fun z_19 ez_19 => ?_)
                  have hz_19 : z_19.toInt = z_17.toInt + z_18.toInt := j_add (rfl : z_17.toInt = z_17.toInt) (rfl : z_18.toInt = z_18.toInt) ez_19 (by omega) (by omega)
                  obtain ⟨fsc_23, hgc_23, hOc_23⟩ := hW44.obj (i := 0) (by decide) (sh_0 ad K)
                  refine s_callv (q := (RX11, TX11, 14)) (As := [.long z_19]) (rest := []) X Z (s_X11_drawWinter l D cs ad kS K hKO hj G44 hW44 z_19) (cwV 1 X.2.2.2.2.1 gg_X11_luck_X11_drawWinter rfl rfl rfl (by decide +kernel) ⟨Nat.le_of_ble_eq_true rfl, Nat.le_of_ble_eq_true rfl⟩) (by decide) hgc_23 rfl hP hA hS.2.1 hS rfl hl.1 rfl (Nat.le_of_ble_eq_true rfl) dX11_luck_57 ⟨Nat.le_of_ble_eq_true rfl, Nat.le_of_ble_eq_true rfl⟩ (fun g_21 H locs hw_20 hP hS => ?_)
                  obtain ⟨hw_20W, hw_20f⟩ := hw_20
                  have hfr_24 : ∀ j, j ≠ 116 ∧ j ≠ 117 → g_21 j = g j := fun j hj => (hw_20f j (by omega)).trans (hfr44 j hj)
                  have hg_25 := (hw_20f 0 (by omega)).trans hgc_23
                  refine lv_aload_n hx hb dX11_luck_60 rfl (lv_at hl 2 rfl) ?_
                  have hk_26 := hOc_23.ref 7 rfl
                  refine q_get X iX11_luck_11 hP (by decide) hg_25 rfl 7 (by decide) (List.mem_of_getElem? (i := 13) rfl) (v := .ref (ad 116)) hk_26 dX11_luck_61 ?_
                  refine lv_iload_n hx hb dX11_luck_64 rfl (lv_at hl 5 rfl) ?_
                  refine lv_iload hx hb dX11_luck_65 (lv_at hl 6 rfl) ?_
                  obtain ⟨fsc_30, hgc_30, hOc_30⟩ := hw_20W.obj (i := 116) (by decide) (sh_116 ad K)
                  refine s_calli (q := (RX10, TX10, 4)) (As := [.int ic, .int dy]) (rest := []) X Z (s_X10_fellBy l D cs ad kS K hKO hj g_21 hw_20W 116 ic dy (by omega) (by omega)) (cwV 2 X.2.2.2.2.1 gg_X11_luck_X10_fellBy rfl rfl rfl (by decide +kernel) ⟨Nat.le_of_ble_eq_true rfl, Nat.le_of_ble_eq_true rfl⟩) (by decide) hgc_30 rfl hP hA hS.2.1 hS rfl hl.1 rfl (Nat.le_of_ble_eq_true rfl) dX11_luck_67 ⟨Nat.le_of_ble_eq_true rfl, Nat.le_of_ble_eq_true rfl⟩ (fun r_29 g_28 H locs hw_27 hP hS => ?_)
                  obtain ⟨hw_27g, hw_27⟩ := hw_27
                  rw [hw_27g] at hP
                  have HJ76 : ∀ (v76_5 : Int32) (G76 : Nat → va_E) (H : Heap) (locs : List Loc) (ls : Array Slot), WF (shp ad K) ad cs G76 → (∀ j, j ≠ 116 ∧ j ≠ 117 → G76 j = g j) → G76 0 = .inr (11, fsc_23) → G76 116 = .inr (10, fsc_30) → va_P D vwCl (wL ad G76 218) H → va_S (wA ad 218) s.heap H locs → lv_has ls 7 [(6, .int v44_6), (5, .int v76_5), (0, .ref (ad 0)), (1, .int sd), (2, .int nn), (3, .int ic), (4, .int dy)] → W p l e ({ frames := 5, cells := 0, slots := 0, locals := 118 } : Room) s m ([.ref (ad 0), .int sd, .int nn, .int ic, .int dy] : List Value).toArray below meth c H locs 0 0 (MQ below (qI D ad 218 (fun r g2 => WF (shp ad K) ad cs g2 ∧ (∀ j, j ≠ 116 ∧ j ≠ 117 → g2 j = g j))) ([.ref (ad 0), .int sd, .int nn, .int ic, .int dy] : List Value).toArray s 0 0 (wA ad 218)) (F0 m 76 ls []) := by
                    intro v76_5 G76 H locs ls hW76 hfr76 hg76_0 hg76_1 hP hS hl
                    obtain ⟨x_31, ex_31⟩ : ∃ y : Int32, y = v44_6 + 1 := ⟨_, rfl⟩
                    have hx_31 : x_31.toInt = v44_6.toInt + 1 := n_add rfl (by decide : (1 : Int32).toInt = 1) ex_31 (by omega) (by omega)
                    refine lv_iinc (v := x_31) (lv' := [(6, .int x_31), (5, .int v76_5), (0, .ref (ad 0)), (1, .int sd), (2, .int nn), (3, .int ic), (4, .int dy)]) hx hb dX11_luck_76 hl (k := 0) rfl (by rw [ex_31]; rfl) (by decide) rfl (fun ls hl => ?_)
                    refine lv_goto (tgt := 44) hx hb dX11_luck_79 (by decide) ?_
                    exact ih44 x_31 v76_5 G76 _ _ ls (by omega) (by omega) hW76 hfr76 hP hS (lv_sub hl [0, 1, 2, 3, 4, 5, 6] rfl)
                  refine lv_if_eq (tgt := 76) hx hb dX11_luck_70 (by decide) (fun hc_32 => ?_) (fun hc_32 => ?_)
                  · have hhc_32 := n_eq (rfl : r_29.toInt = r_29.toInt) (by decide : (0 : Int32).toInt = 0) hc_32
                    exact HJ76 v44_5 g_21 _ _ ls hw_20W hfr_24 hg_25 hgc_30 hP hS (lv_sub hl [0, 1, 2, 3, 4, 5, 6] rfl)
                  · have hhc_32 := n_ne (rfl : r_29.toInt = r_29.toInt) (by decide : (0 : Int32).toInt = 0) hc_32
                    obtain ⟨x_33, ex_33⟩ : ∃ y : Int32, y = v44_5 + 1 := ⟨_, rfl⟩
                    refine lv_iinc (v := x_33) (lv' := [(5, .int x_33), (6, .int v44_6), (0, .ref (ad 0)), (1, .int sd), (2, .int nn), (3, .int ic), (4, .int dy)]) hx hb dX11_luck_73 hl (k := 1) rfl (by rw [ex_33]; rfl) (by decide) rfl (fun ls hl => ?_)
                    exact HJ76 x_33 g_21 _ _ ls hw_20W hfr_24 hg_25 hgc_30 hP hS (lv_sub hl [1, 0, 2, 3, 4, 5, 6] rfl)
            have hiv44_6 : (0 : Int32).toInt = 0 := by decide
            have hiv44_5 : (0 : Int32).toInt = 0 := by decide
            exact HL44 _ 0 0 g _ _ ls (Nat.lt_succ_self _) (by omega) hW hfr hP hS (lv_sub hl [0, 1, 2, 3, 4, 5, 6] rfl)
          · have hhc_15 := n_nle (rfl : nn.toInt = nn.toInt) (by decide : (20 : Int32).toInt = 20) hc_15
            exact HJ35 g _ _ ls hW hfr hgc_4 hP hS (lv_sub hl [] rfl)

theorem dX11_door_0 : decode cX11_door 0 = .ok (.aload_n 0, 1) := by decide +kernel
theorem dX11_door_1 : decode cX11_door 1 = .ok (.iload_n 1, 1) := by decide +kernel
theorem dX11_door_2 : decode cX11_door 2 = .ok (.invokevirtual 129, 3) := by decide +kernel
theorem dX11_door_5 : decode cX11_door 5 = .ok (.ifCond .eq 11, 3) := by decide +kernel
theorem dX11_door_8 : decode cX11_door 8 = .ok (.aload_n 0, 1) := by decide +kernel
theorem dX11_door_9 : decode cX11_door 9 = .ok (.iload_n 2, 1) := by decide +kernel
theorem dX11_door_10 : decode cX11_door 10 = .ok (.invokevirtual 121, 3) := by decide +kernel
theorem dX11_door_13 : decode cX11_door 13 = .ok (.ifCond .ne 6, 3) := by decide +kernel
theorem dX11_door_19 : decode cX11_door 19 = .ok (.aload_n 0, 1) := by decide +kernel
theorem dX11_door_20 : decode cX11_door 20 = .ok (.getfield 19, 3) := by decide +kernel
theorem dX11_door_23 : decode cX11_door 23 = .ok (.getfield 340, 3) := by decide +kernel
theorem dX11_door_26 : decode cX11_door 26 = .ok (.iload_n 1, 1) := by decide +kernel
theorem dX11_door_27 : decode cX11_door 27 = .ok (.iload_n 2, 1) := by decide +kernel
theorem dX11_door_28 : decode cX11_door 28 = .ok (.invokevirtual 344, 3) := by decide +kernel
theorem dX11_door_31 : decode cX11_door 31 = .ok (.ifCond .ne 6, 3) := by decide +kernel
theorem dX11_door_34 : decode cX11_door 34 = .ok (.bipush (-5), 2) := by decide +kernel
theorem dX11_door_36 : decode cX11_door 36 = .ok (.ireturn, 1) := by decide +kernel
theorem dX11_door_37 : decode cX11_door 37 = .ok (.aload_n 0, 1) := by decide +kernel
theorem dX11_door_38 : decode cX11_door 38 = .ok (.getfield 44, 3) := by decide +kernel
theorem dX11_door_41 : decode cX11_door 41 = .ok (.aload_n 0, 1) := by decide +kernel
theorem dX11_door_42 : decode cX11_door 42 = .ok (.getfield 19, 3) := by decide +kernel
theorem dX11_door_45 : decode cX11_door 45 = .ok (.invokevirtual 109, 3) := by decide +kernel
theorem dX11_door_48 : decode cX11_door 48 = .ok (.aload_n 0, 1) := by decide +kernel
theorem dX11_door_49 : decode cX11_door 49 = .ok (.getfield 44, 3) := by decide +kernel
theorem dX11_door_52 : decode cX11_door 52 = .ok (.aload_n 0, 1) := by decide +kernel
theorem dX11_door_53 : decode cX11_door 53 = .ok (.getfield 19, 3) := by decide +kernel
theorem dX11_door_56 : decode cX11_door 56 = .ok (.iload_n 1, 1) := by decide +kernel
theorem dX11_door_57 : decode cX11_door 57 = .ok (.iload_n 2, 1) := by decide +kernel
theorem dX11_door_58 : decode cX11_door 58 = .ok (.invokevirtual 205, 3) := by decide +kernel
theorem dX11_door_61 : decode cX11_door 61 = .ok (.ireturn, 1) := by decide +kernel
theorem dX11_door_16 : decode cX11_door 16 = .ok (.bipush (-2), 2) := by decide +kernel
theorem dX11_door_18 : decode cX11_door 18 = .ok (.ireturn, 1) := by decide +kernel
noncomputable def vX11_door : List Cond := .code yX11_door cX11_door 3 (some .int) :: (([.methodLink RX11 129 yX11_isEave, .instanceMethod yX11_isEave, .selects RX11 yX11_isEave yX11_isEave, .initialized RX11, .methodLink RX11 121 yX11_isDay, .instanceMethod yX11_isDay, .selects RX11 yX11_isDay yX11_isDay, .fieldLink RX11 19 "IcicleClock" "now" "LIcicleClock$Street;", .fieldLink RX11 340 "IcicleClock$Street" "acts" "LIcicleClock$Acts;", .methodLink RX11 344 yX0_add, .instanceMethod yX0_add, .selects RX0 yX0_add yX0_add, .initialized RX0, .fieldLink RX11 44 "IcicleClock" "winter" "LIcicleClock$Winter;", .methodLink RX11 109 yX10_passOver, .instanceMethod yX10_passOver, .selects RX10 yX10_passOver yX10_passOver, .initialized RX10, .methodLink RX11 205 yX10_fallsUnder, .instanceMethod yX10_fallsUnder, .selects RX10 yX10_fallsUnder yX10_fallsUnder] : List Cond) ++ (wsX110 ++ (wsX60 ++ (vX11_isEave ++ (vX11_isDay ++ (vX0_add ++ (vX10_passOver ++ vX10_fallsUnder)))))))
theorem iX11_door_11 : ∀ w ∈ wsX110, w ∈ vX11_door := fun _ h => List.mem_cons_of_mem _ (List.mem_append_right _ (List.mem_append_left _ h))
theorem iX11_door_6 : ∀ w ∈ wsX60, w ∈ vX11_door := fun _ h => List.mem_cons_of_mem _ (List.mem_append_right _ (List.mem_append_right _ (List.mem_append_left _ h)))
theorem gs_X11_door : Gd vX11_door := Gd.cons (by decide +kernel) (Gd.app (Gd.r (by decide +kernel)) (Gd.app gwX_11 (Gd.app gwX_6 (Gd.app gs_X11_isEave (Gd.app gs_X11_isDay (Gd.app gs_X0_add (Gd.app gs_X10_passOver gs_X10_fallsUnder)))))))
theorem gg_X11_door_X11_isEave : GoodIn vX11_door (wsV RX11 129 RX11 yX11_isEave vX11_isEave) := goodIn_app (goodIn_r _ [1, 2, 3, 4] (by decide +kernel) (by decide +kernel)) (fun w h => ⟨List.mem_cons_of_mem _ (List.mem_append_right _ (List.mem_append_right _ (List.mem_append_right _ (List.mem_append_left _ h)))), gs_X11_isEave w h⟩)
theorem gg_X11_door_X11_isDay : GoodIn vX11_door (wsV RX11 121 RX11 yX11_isDay vX11_isDay) := goodIn_app (goodIn_r _ [5, 6, 7, 4] (by decide +kernel) (by decide +kernel)) (fun w h => ⟨List.mem_cons_of_mem _ (List.mem_append_right _ (List.mem_append_right _ (List.mem_append_right _ (List.mem_append_right _ (List.mem_append_left _ h))))), gs_X11_isDay w h⟩)
theorem gg_X11_door_X0_add : GoodIn vX11_door (wsV RX11 344 RX0 yX0_add vX0_add) := goodIn_app (goodIn_r _ [10, 11, 12, 13] (by decide +kernel) (by decide +kernel)) (fun w h => ⟨List.mem_cons_of_mem _ (List.mem_append_right _ (List.mem_append_right _ (List.mem_append_right _ (List.mem_append_right _ (List.mem_append_right _ (List.mem_append_left _ h)))))), gs_X0_add w h⟩)
theorem gg_X11_door_X10_passOver : GoodIn vX11_door (wsV RX11 109 RX10 yX10_passOver vX10_passOver) := goodIn_app (goodIn_r _ [15, 16, 17, 18] (by decide +kernel) (by decide +kernel)) (fun w h => ⟨List.mem_cons_of_mem _ (List.mem_append_right _ (List.mem_append_right _ (List.mem_append_right _ (List.mem_append_right _ (List.mem_append_right _ (List.mem_append_right _ (List.mem_append_left _ h))))))), gs_X10_passOver w h⟩)
theorem gg_X11_door_X10_fallsUnder : GoodIn vX11_door (wsV RX11 205 RX10 yX10_fallsUnder vX10_fallsUnder) := goodIn_app (goodIn_r _ [19, 20, 21, 18] (by decide +kernel) (by decide +kernel)) (fun w h => ⟨List.mem_cons_of_mem _ (List.mem_append_right _ (List.mem_append_right _ (List.mem_append_right _ (List.mem_append_right _ (List.mem_append_right _ (List.mem_append_right _ (List.mem_append_right _ (h)))))))), gs_X10_fallsUnder w h⟩)
set_option maxHeartbeats 4000000 in
set_option maxRecDepth 100000 in
theorem s_X11_door (l : Launch) (D : va_G) (cs : Nat → ClassId) (ad : Nat → Nat) (kS : kSt) (K : sK) (hKO : KO K) (hj : wJ ad 218) (g : Nat → va_E) (hW : WF (shp ad K) ad cs g) (ev : Int32) (dy : Int32) : sI l yX11_door vX11_door { frames := 4, cells := 0, slots := 0, locals := 93 } D cs ad kS [.ref (ad 0), .int ev, .int dy] g (fun r g2 => WF (shp ad K) ad cs g2 ∧ (∀ j, j ≠ 13 ∧ j ≠ 14 ∧ j ≠ 15 ∧ (j < 3 + 14 ∨ 3 + 20 ≤ j) ∧ j ≠ 115 → g2 j = g j)) := by
  refine Met.startS (cc := cX11_door) (maxL := 3) (ret := (some .int)) RX11 rfl (by decide) rfl (Nat.le_of_ble_eq_true rfl) ?_
  intro p e s m below meth c ls X Z hP hl
  have hx := X.1
  have hb := X.2.1
  have hS : va_S (wA ad 218) s.heap s.heap [] := va_S.rf
  have hA : ∀ i, i < 218 → wA ad 218 (ad i) := fun i h => ⟨i, h, rfl⟩
  have hfr : ∀ j, j ≠ 13 ∧ j ≠ 14 ∧ j ≠ 15 ∧ (j < 3 + 14 ∨ 3 + 20 ≤ j) ∧ j ≠ 115 → g j = g j := fun _ _ => rfl
  have hl : lv_has ls 3 [(0, .ref (ad 0)), (1, .int ev), (2, .int dy)] := hl
  refine lv_aload_n hx hb dX11_door_0 rfl (lv_at hl 0 rfl) ?_
  refine lv_iload_n hx hb dX11_door_1 rfl (lv_at hl 1 rfl) ?_
  obtain ⟨fsc_4, hgc_4, hOc_4⟩ := hW.obj (i := 0) (by decide) (sh_0 ad K)
  refine s_calli (q := (RX11, TX11, 14)) (As := [.int ev]) (rest := []) X Z (s_X11_isEave l D cs ad kS K hKO hj g hW ev) (cwV 1 X.2.2.2.2.1 gg_X11_door_X11_isEave rfl rfl rfl (by decide +kernel) ⟨Nat.le_of_ble_eq_true rfl, Nat.le_of_ble_eq_true rfl⟩) (by decide) hgc_4 rfl hP hA hS.2.1 hS rfl hl.1 rfl (Nat.le_of_ble_eq_true rfl) dX11_door_2 ⟨Nat.le_of_ble_eq_true rfl, Nat.le_of_ble_eq_true rfl⟩ (fun r_3 g_2 H locs hw_1 hP hS => ?_)
  obtain ⟨hw_1g, hw_1⟩ := hw_1
  rw [hw_1g] at hP
  have HJ16 : ∀ (G16 : Nat → va_E) (H : Heap) (locs : List Loc) (ls : Array Slot), WF (shp ad K) ad cs G16 → (∀ j, j ≠ 13 ∧ j ≠ 14 ∧ j ≠ 15 ∧ (j < 3 + 14 ∨ 3 + 20 ≤ j) ∧ j ≠ 115 → G16 j = g j) → G16 0 = .inr (11, fsc_4) → va_P D vwCl (wL ad G16 218) H → va_S (wA ad 218) s.heap H locs → lv_has ls 3 [] → W p l e ({ frames := 4, cells := 0, slots := 0, locals := 93 } : Room) s m ([.ref (ad 0), .int ev, .int dy] : List Value).toArray below meth c H locs 0 0 (MQ below (qI D ad 218 (fun r g2 => WF (shp ad K) ad cs g2 ∧ (∀ j, j ≠ 13 ∧ j ≠ 14 ∧ j ≠ 15 ∧ (j < 3 + 14 ∨ 3 + 20 ≤ j) ∧ j ≠ 115 → g2 j = g j))) ([.ref (ad 0), .int ev, .int dy] : List Value).toArray s 0 0 (wA ad 218)) (F0 m 16 ls []) := by
    intro G16 H locs ls hW16 hfr16 hg16_0 hP hS hl
    refine lv_bipush (v := (-2)) hx hb dX11_door_16 (by decide) ?_
    exact q_iret X hP hS ⟨hW16, hfr16⟩ dX11_door_18
  refine lv_if_eq (tgt := 16) hx hb dX11_door_5 (by decide) (fun hc_5 => ?_) (fun hc_5 => ?_)
  · have hhc_5 := n_eq (rfl : r_3.toInt = r_3.toInt) (by decide : (0 : Int32).toInt = 0) hc_5
    exact HJ16 g _ _ ls hW hfr hgc_4 hP hS (lv_sub hl [] rfl)
  · have hhc_5 := n_ne (rfl : r_3.toInt = r_3.toInt) (by decide : (0 : Int32).toInt = 0) hc_5
    refine lv_aload_n hx hb dX11_door_8 rfl (lv_at hl 0 rfl) ?_
    refine lv_iload_n hx hb dX11_door_9 rfl (lv_at hl 2 rfl) ?_
    refine s_calli (q := (RX11, TX11, 14)) (As := [.int dy]) (rest := []) X Z (s_X11_isDay l D cs ad kS K hKO hj g hW dy) (cwV 1 X.2.2.2.2.1 gg_X11_door_X11_isDay rfl rfl rfl (by decide +kernel) ⟨Nat.le_of_ble_eq_true rfl, Nat.le_of_ble_eq_true rfl⟩) (by decide) hgc_4 rfl hP hA hS.2.1 hS rfl hl.1 rfl (Nat.le_of_ble_eq_true rfl) dX11_door_10 ⟨Nat.le_of_ble_eq_true rfl, Nat.le_of_ble_eq_true rfl⟩ (fun r_8 g_7 H locs hw_6 hP hS => ?_)
    obtain ⟨hw_6g, hw_6⟩ := hw_6
    rw [hw_6g] at hP
    refine lv_if_ne (tgt := 19) hx hb dX11_door_13 (by decide) (fun hc_9 => ?_) (fun hc_9 => ?_)
    · have hhc_9 := n_ne (rfl : r_8.toInt = r_8.toInt) (by decide : (0 : Int32).toInt = 0) hc_9
      refine lv_aload_n hx hb dX11_door_19 rfl (lv_at hl 0 rfl) ?_
      have hk_10 := hOc_4.ref 1 rfl
      refine q_get X iX11_door_11 hP (by decide) hgc_4 rfl 1 (by decide) (List.mem_of_getElem? (i := 8) rfl) (v := .ref (ad 3)) hk_10 dX11_door_20 ?_
      obtain ⟨fsc_11, hgc_11, hOc_11⟩ := hW.obj (i := 3) (by decide) (sh_3 ad K)
      have hk_12 := hOc_11.ref 17 rfl
      refine q_get X iX11_door_6 hP (by decide) hgc_11 rfl 17 (by decide) (List.mem_of_getElem? (i := 9) rfl) (v := .ref (ad 13)) hk_12 dX11_door_23 ?_
      refine lv_iload_n hx hb dX11_door_26 rfl (lv_at hl 1 rfl) ?_
      refine lv_iload_n hx hb dX11_door_27 rfl (lv_at hl 2 rfl) ?_
      obtain ⟨fsc_16, hgc_16, hOc_16⟩ := hW.obj (i := 13) (by decide) (sh_13 ad K)
      refine s_calli (q := (RX0, TX0, 5)) (As := [.int ev, .int dy]) (rest := []) X Z (s_X0_add l D cs ad kS K hKO hj g hW 3 ev dy (by omega) (by omega) (by omega)) (cwV 2 X.2.2.2.2.1 gg_X11_door_X0_add rfl rfl rfl (by decide +kernel) ⟨Nat.le_of_ble_eq_true rfl, Nat.le_of_ble_eq_true rfl⟩) (by decide) hgc_16 rfl hP hA hS.2.1 hS rfl hl.1 rfl (Nat.le_of_ble_eq_true rfl) dX11_door_28 ⟨Nat.le_of_ble_eq_true rfl, Nat.le_of_ble_eq_true rfl⟩ (fun r_15 g_14 H locs hw_13 hP hS => ?_)
      obtain ⟨hw_13W, hw_13f, hw_13⟩ := hw_13
      have hfr_17 : ∀ j, j ≠ 13 ∧ j ≠ 14 ∧ j ≠ 15 ∧ (j < 3 + 14 ∨ 3 + 20 ≤ j) ∧ j ≠ 115 → g_14 j = g j := fun j hj => (hw_13f j (by omega)).trans (hfr j hj)
      have hg_18 := (hw_13f 0 (by omega)).trans hgc_4
      have hg_19 := (hw_13f 3 (by omega)).trans hgc_11
      refine lv_if_ne (tgt := 37) hx hb dX11_door_31 (by decide) (fun hc_20 => ?_) (fun hc_20 => ?_)
      · have hhc_20 := n_ne (rfl : r_15.toInt = r_15.toInt) (by decide : (0 : Int32).toInt = 0) hc_20
        refine lv_aload_n hx hb dX11_door_37 rfl (lv_at hl 0 rfl) ?_
        have hk_21 := hOc_4.ref 6 rfl
        refine q_get X iX11_door_11 hP (by decide) hg_18 rfl 6 (by decide) (List.mem_of_getElem? (i := 14) rfl) (v := .ref (ad 114)) hk_21 dX11_door_38 ?_
        refine lv_aload_n hx hb dX11_door_41 rfl (lv_at hl 0 rfl) ?_
        refine q_get X iX11_door_11 hP (by decide) hg_18 rfl 1 (by decide) (List.mem_of_getElem? (i := 8) rfl) (v := .ref (ad 3)) hk_10 dX11_door_42 ?_
        obtain ⟨fsc_25, hgc_25, hOc_25⟩ := hw_13W.obj (i := 114) (by decide) (sh_114 ad K)
        refine s_callv (q := (RX10, TX10, 4)) (As := [.ref (ad 3)]) (rest := []) X Z (s_X10_passOver l D cs ad kS K hKO hj g_14 hw_13W 114 (by omega)) (cwV 1 X.2.2.2.2.1 gg_X11_door_X10_passOver rfl rfl rfl (by decide +kernel) ⟨Nat.le_of_ble_eq_true rfl, Nat.le_of_ble_eq_true rfl⟩) (by decide) hgc_25 rfl hP hA hS.2.1 hS rfl hl.1 rfl (Nat.le_of_ble_eq_true rfl) dX11_door_45 ⟨Nat.le_of_ble_eq_true rfl, Nat.le_of_ble_eq_true rfl⟩ (fun g_23 H locs hw_22 hP hS => ?_)
        obtain ⟨hw_22W, hw_22f⟩ := hw_22
        have hfr_26 : ∀ j, j ≠ 13 ∧ j ≠ 14 ∧ j ≠ 15 ∧ (j < 3 + 14 ∨ 3 + 20 ≤ j) ∧ j ≠ 115 → g_23 j = g j := fun j hj => (hw_22f j (by omega)).trans (hfr_17 j hj)
        have hg_27 := (hw_22f 0 (by omega)).trans hg_18
        have hg_28 := (hw_22f 3 (by omega)).trans hg_19
        have hg_29 := (hw_22f 114 (by omega)).trans hgc_25
        refine lv_aload_n hx hb dX11_door_48 rfl (lv_at hl 0 rfl) ?_
        refine q_get X iX11_door_11 hP (by decide) hg_27 rfl 6 (by decide) (List.mem_of_getElem? (i := 14) rfl) (v := .ref (ad 114)) hk_21 dX11_door_49 ?_
        refine lv_aload_n hx hb dX11_door_52 rfl (lv_at hl 0 rfl) ?_
        refine q_get X iX11_door_11 hP (by decide) hg_27 rfl 1 (by decide) (List.mem_of_getElem? (i := 8) rfl) (v := .ref (ad 3)) hk_10 dX11_door_53 ?_
        refine lv_iload_n hx hb dX11_door_56 rfl (lv_at hl 1 rfl) ?_
        refine lv_iload_n hx hb dX11_door_57 rfl (lv_at hl 2 rfl) ?_
        refine s_calli (q := (RX10, TX10, 4)) (As := [.ref (ad 3), .int ev, .int dy]) (rest := []) X Z (s_X10_fallsUnder l D cs ad kS K hKO hj g_23 hw_22W 114 ev dy (by omega)) (cwV 3 X.2.2.2.2.1 gg_X11_door_X10_fallsUnder rfl rfl rfl (by decide +kernel) ⟨Nat.le_of_ble_eq_true rfl, Nat.le_of_ble_eq_true rfl⟩) (by decide) hg_29 rfl hP hA hS.2.1 hS rfl hl.1 rfl (Nat.le_of_ble_eq_true rfl) dX11_door_58 ⟨Nat.le_of_ble_eq_true rfl, Nat.le_of_ble_eq_true rfl⟩ (fun r_32 g_31 H locs hw_30 hP hS => ?_)
        rw [hw_30] at hP
        exact q_iret X hP hS ⟨hw_22W, hfr_26⟩ dX11_door_61
      · have hhc_20 := n_eq (rfl : r_15.toInt = r_15.toInt) (by decide : (0 : Int32).toInt = 0) hc_20
        refine lv_bipush (v := (-5)) hx hb dX11_door_34 (by decide) ?_
        exact q_iret X hP hS ⟨hw_13W, hfr_17⟩ dX11_door_36
    · have hhc_9 := n_eq (rfl : r_8.toInt = r_8.toInt) (by decide : (0 : Int32).toInt = 0) hc_9
      exact HJ16 g _ _ ls hW hfr hgc_4 hP hS (lv_sub hl [] rfl)

theorem dX11_ring_0 : decode cX11_ring 0 = .ok (.aload_n 0, 1) := by decide +kernel
theorem dX11_ring_1 : decode cX11_ring 1 = .ok (.iload_n 1, 1) := by decide +kernel
theorem dX11_ring_2 : decode cX11_ring 2 = .ok (.invokevirtual 121, 3) := by decide +kernel
theorem dX11_ring_5 : decode cX11_ring 5 = .ok (.ifCond .ne 6, 3) := by decide +kernel
theorem dX11_ring_8 : decode cX11_ring 8 = .ok (.bipush (-2), 2) := by decide +kernel
theorem dX11_ring_10 : decode cX11_ring 10 = .ok (.ireturn, 1) := by decide +kernel
theorem dX11_ring_11 : decode cX11_ring 11 = .ok (.aload_n 0, 1) := by decide +kernel
theorem dX11_ring_12 : decode cX11_ring 12 = .ok (.getfield 19, 3) := by decide +kernel
theorem dX11_ring_15 : decode cX11_ring 15 = .ok (.getfield 340, 3) := by decide +kernel
theorem dX11_ring_18 : decode cX11_ring 18 = .ok (.iconst (-1), 1) := by decide +kernel
theorem dX11_ring_19 : decode cX11_ring 19 = .ok (.iload_n 1, 1) := by decide +kernel
theorem dX11_ring_20 : decode cX11_ring 20 = .ok (.invokevirtual 344, 3) := by decide +kernel
theorem dX11_ring_23 : decode cX11_ring 23 = .ok (.ifCond .ne 6, 3) := by decide +kernel
theorem dX11_ring_26 : decode cX11_ring 26 = .ok (.bipush (-5), 2) := by decide +kernel
theorem dX11_ring_28 : decode cX11_ring 28 = .ok (.ireturn, 1) := by decide +kernel
theorem dX11_ring_29 : decode cX11_ring 29 = .ok (.aload_n 0, 1) := by decide +kernel
theorem dX11_ring_30 : decode cX11_ring 30 = .ok (.getfield 44, 3) := by decide +kernel
theorem dX11_ring_33 : decode cX11_ring 33 = .ok (.aload_n 0, 1) := by decide +kernel
theorem dX11_ring_34 : decode cX11_ring 34 = .ok (.getfield 19, 3) := by decide +kernel
theorem dX11_ring_37 : decode cX11_ring 37 = .ok (.invokevirtual 109, 3) := by decide +kernel
theorem dX11_ring_40 : decode cX11_ring 40 = .ok (.aload_n 0, 1) := by decide +kernel
theorem dX11_ring_41 : decode cX11_ring 41 = .ok (.getfield 44, 3) := by decide +kernel
theorem dX11_ring_44 : decode cX11_ring 44 = .ok (.aload_n 0, 1) := by decide +kernel
theorem dX11_ring_45 : decode cX11_ring 45 = .ok (.getfield 19, 3) := by decide +kernel
theorem dX11_ring_48 : decode cX11_ring 48 = .ok (.iload_n 1, 1) := by decide +kernel
theorem dX11_ring_49 : decode cX11_ring 49 = .ok (.invokevirtual 188, 3) := by decide +kernel
theorem dX11_ring_52 : decode cX11_ring 52 = .ok (.invokestatic 199, 3) := by decide +kernel
theorem dX11_ring_55 : decode cX11_ring 55 = .ok (.ireturn, 1) := by decide +kernel
noncomputable def vX11_ring : List Cond := .code yX11_ring cX11_ring 2 (some .int) :: (([.methodLink RX11 121 yX11_isDay, .instanceMethod yX11_isDay, .selects RX11 yX11_isDay yX11_isDay, .initialized RX11, .fieldLink RX11 19 "IcicleClock" "now" "LIcicleClock$Street;", .fieldLink RX11 340 "IcicleClock$Street" "acts" "LIcicleClock$Acts;", .methodLink RX11 344 yX0_add, .instanceMethod yX0_add, .selects RX0 yX0_add yX0_add, .initialized RX0, .fieldLink RX11 44 "IcicleClock" "winter" "LIcicleClock$Winter;", .methodLink RX11 109 yX10_passOver, .instanceMethod yX10_passOver, .selects RX10 yX10_passOver yX10_passOver, .initialized RX10, .methodLink RX11 188 yX10_fallenOn, .instanceMethod yX10_fallenOn, .selects RX10 yX10_fallenOn yX10_fallenOn, .methodLink RX11 199 yJ6_bitCount_0f7a4, .static yJ6_bitCount_0f7a4, .initialized RJ6] : List Cond) ++ (wsX110 ++ (wsX60 ++ (vX11_isDay ++ (vX0_add ++ (vX10_passOver ++ (vX10_fallenOn ++ vJ6_bitCount_0f7a4)))))))
theorem iX11_ring_11 : ∀ w ∈ wsX110, w ∈ vX11_ring := fun _ h => List.mem_cons_of_mem _ (List.mem_append_right _ (List.mem_append_left _ h))
theorem iX11_ring_6 : ∀ w ∈ wsX60, w ∈ vX11_ring := fun _ h => List.mem_cons_of_mem _ (List.mem_append_right _ (List.mem_append_right _ (List.mem_append_left _ h)))
theorem gs_X11_ring : Gd vX11_ring := Gd.cons (by decide +kernel) (Gd.app (Gd.r (by decide +kernel)) (Gd.app gwX_11 (Gd.app gwX_6 (Gd.app gs_X11_isDay (Gd.app gs_X0_add (Gd.app gs_X10_passOver (Gd.app gs_X10_fallenOn gs_J6_bitCount_0f7a4)))))))
theorem gg_X11_ring_X11_isDay : GoodIn vX11_ring (wsV RX11 121 RX11 yX11_isDay vX11_isDay) := goodIn_app (goodIn_r _ [1, 2, 3, 4] (by decide +kernel) (by decide +kernel)) (fun w h => ⟨List.mem_cons_of_mem _ (List.mem_append_right _ (List.mem_append_right _ (List.mem_append_right _ (List.mem_append_left _ h)))), gs_X11_isDay w h⟩)
theorem gg_X11_ring_X0_add : GoodIn vX11_ring (wsV RX11 344 RX0 yX0_add vX0_add) := goodIn_app (goodIn_r _ [7, 8, 9, 10] (by decide +kernel) (by decide +kernel)) (fun w h => ⟨List.mem_cons_of_mem _ (List.mem_append_right _ (List.mem_append_right _ (List.mem_append_right _ (List.mem_append_right _ (List.mem_append_left _ h))))), gs_X0_add w h⟩)
theorem gg_X11_ring_X10_passOver : GoodIn vX11_ring (wsV RX11 109 RX10 yX10_passOver vX10_passOver) := goodIn_app (goodIn_r _ [12, 13, 14, 15] (by decide +kernel) (by decide +kernel)) (fun w h => ⟨List.mem_cons_of_mem _ (List.mem_append_right _ (List.mem_append_right _ (List.mem_append_right _ (List.mem_append_right _ (List.mem_append_right _ (List.mem_append_left _ h)))))), gs_X10_passOver w h⟩)
theorem gg_X11_ring_X10_fallenOn : GoodIn vX11_ring (wsV RX11 188 RX10 yX10_fallenOn vX10_fallenOn) := goodIn_app (goodIn_r _ [16, 17, 18, 15] (by decide +kernel) (by decide +kernel)) (fun w h => ⟨List.mem_cons_of_mem _ (List.mem_append_right _ (List.mem_append_right _ (List.mem_append_right _ (List.mem_append_right _ (List.mem_append_right _ (List.mem_append_right _ (List.mem_append_left _ h))))))), gs_X10_fallenOn w h⟩)
theorem gg_X11_ring_J6_bitCount_0f7a4 : GoodIn vX11_ring (va_wsS RX11 199 yJ6_bitCount_0f7a4 vJ6_bitCount_0f7a4) := goodIn_app (goodIn_r _ [19, 20, 21] (by decide +kernel) (by decide +kernel)) (fun w h => ⟨List.mem_cons_of_mem _ (List.mem_append_right _ (List.mem_append_right _ (List.mem_append_right _ (List.mem_append_right _ (List.mem_append_right _ (List.mem_append_right _ (List.mem_append_right _ (h)))))))), gs_J6_bitCount_0f7a4 w h⟩)
set_option maxHeartbeats 4000000 in
set_option maxRecDepth 100000 in
theorem s_X11_ring (l : Launch) (D : va_G) (cs : Nat → ClassId) (ad : Nat → Nat) (kS : kSt) (K : sK) (hKO : KO K) (hj : wJ ad 218) (g : Nat → va_E) (hW : WF (shp ad K) ad cs g) (dy : Int32) : sI l yX11_ring vX11_ring { frames := 4, cells := 0, slots := 0, locals := 93 } D cs ad kS [.ref (ad 0), .int dy] g (fun r g2 => WF (shp ad K) ad cs g2 ∧ (∀ j, j ≠ 13 ∧ j ≠ 14 ∧ j ≠ 15 ∧ (j < 3 + 14 ∨ 3 + 20 ≤ j) ∧ j ≠ 115 → g2 j = g j)) := by
  refine Met.startS (cc := cX11_ring) (maxL := 2) (ret := (some .int)) RX11 rfl (by decide) rfl (Nat.le_of_ble_eq_true rfl) ?_
  intro p e s m below meth c ls X Z hP hl
  have hx := X.1
  have hb := X.2.1
  have hS : va_S (wA ad 218) s.heap s.heap [] := va_S.rf
  have hA : ∀ i, i < 218 → wA ad 218 (ad i) := fun i h => ⟨i, h, rfl⟩
  have hfr : ∀ j, j ≠ 13 ∧ j ≠ 14 ∧ j ≠ 15 ∧ (j < 3 + 14 ∨ 3 + 20 ≤ j) ∧ j ≠ 115 → g j = g j := fun _ _ => rfl
  have hl : lv_has ls 2 [(0, .ref (ad 0)), (1, .int dy)] := hl
  refine lv_aload_n hx hb dX11_ring_0 rfl (lv_at hl 0 rfl) ?_
  refine lv_iload_n hx hb dX11_ring_1 rfl (lv_at hl 1 rfl) ?_
  obtain ⟨fsc_4, hgc_4, hOc_4⟩ := hW.obj (i := 0) (by decide) (sh_0 ad K)
  refine s_calli (q := (RX11, TX11, 14)) (As := [.int dy]) (rest := []) X Z (s_X11_isDay l D cs ad kS K hKO hj g hW dy) (cwV 1 X.2.2.2.2.1 gg_X11_ring_X11_isDay rfl rfl rfl (by decide +kernel) ⟨Nat.le_of_ble_eq_true rfl, Nat.le_of_ble_eq_true rfl⟩) (by decide) hgc_4 rfl hP hA hS.2.1 hS rfl hl.1 rfl (Nat.le_of_ble_eq_true rfl) dX11_ring_2 ⟨Nat.le_of_ble_eq_true rfl, Nat.le_of_ble_eq_true rfl⟩ (fun r_3 g_2 H locs hw_1 hP hS => ?_)
  obtain ⟨hw_1g, hw_1⟩ := hw_1
  rw [hw_1g] at hP
  refine lv_if_ne (tgt := 11) hx hb dX11_ring_5 (by decide) (fun hc_5 => ?_) (fun hc_5 => ?_)
  · have hhc_5 := n_ne (rfl : r_3.toInt = r_3.toInt) (by decide : (0 : Int32).toInt = 0) hc_5
    refine lv_aload_n hx hb dX11_ring_11 rfl (lv_at hl 0 rfl) ?_
    have hk_6 := hOc_4.ref 1 rfl
    refine q_get X iX11_ring_11 hP (by decide) hgc_4 rfl 1 (by decide) (List.mem_of_getElem? (i := 5) rfl) (v := .ref (ad 3)) hk_6 dX11_ring_12 ?_
    obtain ⟨fsc_7, hgc_7, hOc_7⟩ := hW.obj (i := 3) (by decide) (sh_3 ad K)
    have hk_8 := hOc_7.ref 17 rfl
    refine q_get X iX11_ring_6 hP (by decide) hgc_7 rfl 17 (by decide) (List.mem_of_getElem? (i := 6) rfl) (v := .ref (ad 13)) hk_8 dX11_ring_15 ?_
    refine lv_iconst (v := (-1)) hx hb dX11_ring_18 (by decide) ?_
    refine lv_iload_n hx hb dX11_ring_19 rfl (lv_at hl 1 rfl) ?_
    have hqk_9 : ((-1) : Int32).toInt = -1 := by decide
    obtain ⟨fsc_13, hgc_13, hOc_13⟩ := hW.obj (i := 13) (by decide) (sh_13 ad K)
    refine s_calli (q := (RX0, TX0, 5)) (As := [.int (-1), .int dy]) (rest := []) X Z (s_X0_add l D cs ad kS K hKO hj g hW 3 (-1) dy (by omega) (by omega) (by omega)) (cwV 2 X.2.2.2.2.1 gg_X11_ring_X0_add rfl rfl rfl (by decide +kernel) ⟨Nat.le_of_ble_eq_true rfl, Nat.le_of_ble_eq_true rfl⟩) (by decide) hgc_13 rfl hP hA hS.2.1 hS rfl hl.1 rfl (Nat.le_of_ble_eq_true rfl) dX11_ring_20 ⟨Nat.le_of_ble_eq_true rfl, Nat.le_of_ble_eq_true rfl⟩ (fun r_12 g_11 H locs hw_10 hP hS => ?_)
    obtain ⟨hw_10W, hw_10f, hw_10⟩ := hw_10
    have hfr_14 : ∀ j, j ≠ 13 ∧ j ≠ 14 ∧ j ≠ 15 ∧ (j < 3 + 14 ∨ 3 + 20 ≤ j) ∧ j ≠ 115 → g_11 j = g j := fun j hj => (hw_10f j (by omega)).trans (hfr j hj)
    have hg_15 := (hw_10f 0 (by omega)).trans hgc_4
    have hg_16 := (hw_10f 3 (by omega)).trans hgc_7
    refine lv_if_ne (tgt := 29) hx hb dX11_ring_23 (by decide) (fun hc_17 => ?_) (fun hc_17 => ?_)
    · have hhc_17 := n_ne (rfl : r_12.toInt = r_12.toInt) (by decide : (0 : Int32).toInt = 0) hc_17
      refine lv_aload_n hx hb dX11_ring_29 rfl (lv_at hl 0 rfl) ?_
      have hk_18 := hOc_4.ref 6 rfl
      refine q_get X iX11_ring_11 hP (by decide) hg_15 rfl 6 (by decide) (List.mem_of_getElem? (i := 11) rfl) (v := .ref (ad 114)) hk_18 dX11_ring_30 ?_
      refine lv_aload_n hx hb dX11_ring_33 rfl (lv_at hl 0 rfl) ?_
      refine q_get X iX11_ring_11 hP (by decide) hg_15 rfl 1 (by decide) (List.mem_of_getElem? (i := 5) rfl) (v := .ref (ad 3)) hk_6 dX11_ring_34 ?_
      obtain ⟨fsc_22, hgc_22, hOc_22⟩ := hw_10W.obj (i := 114) (by decide) (sh_114 ad K)
      refine s_callv (q := (RX10, TX10, 4)) (As := [.ref (ad 3)]) (rest := []) X Z (s_X10_passOver l D cs ad kS K hKO hj g_11 hw_10W 114 (by omega)) (cwV 1 X.2.2.2.2.1 gg_X11_ring_X10_passOver rfl rfl rfl (by decide +kernel) ⟨Nat.le_of_ble_eq_true rfl, Nat.le_of_ble_eq_true rfl⟩) (by decide) hgc_22 rfl hP hA hS.2.1 hS rfl hl.1 rfl (Nat.le_of_ble_eq_true rfl) dX11_ring_37 ⟨Nat.le_of_ble_eq_true rfl, Nat.le_of_ble_eq_true rfl⟩ (fun g_20 H locs hw_19 hP hS => ?_)
      obtain ⟨hw_19W, hw_19f⟩ := hw_19
      have hfr_23 : ∀ j, j ≠ 13 ∧ j ≠ 14 ∧ j ≠ 15 ∧ (j < 3 + 14 ∨ 3 + 20 ≤ j) ∧ j ≠ 115 → g_20 j = g j := fun j hj => (hw_19f j (by omega)).trans (hfr_14 j hj)
      have hg_24 := (hw_19f 0 (by omega)).trans hg_15
      have hg_25 := (hw_19f 3 (by omega)).trans hg_16
      have hg_26 := (hw_19f 114 (by omega)).trans hgc_22
      refine lv_aload_n hx hb dX11_ring_40 rfl (lv_at hl 0 rfl) ?_
      refine q_get X iX11_ring_11 hP (by decide) hg_24 rfl 6 (by decide) (List.mem_of_getElem? (i := 11) rfl) (v := .ref (ad 114)) hk_18 dX11_ring_41 ?_
      refine lv_aload_n hx hb dX11_ring_44 rfl (lv_at hl 0 rfl) ?_
      refine q_get X iX11_ring_11 hP (by decide) hg_24 rfl 1 (by decide) (List.mem_of_getElem? (i := 5) rfl) (v := .ref (ad 3)) hk_6 dX11_ring_45 ?_
      refine lv_iload_n hx hb dX11_ring_48 rfl (lv_at hl 1 rfl) ?_
      refine s_calli (q := (RX10, TX10, 4)) (As := [.ref (ad 3), .int dy]) (rest := []) X Z (s_X10_fallenOn l D cs ad kS K hKO hj g_20 hw_19W 114 dy (by omega)) (cwV 2 X.2.2.2.2.1 gg_X11_ring_X10_fallenOn rfl rfl rfl (by decide +kernel) ⟨Nat.le_of_ble_eq_true rfl, Nat.le_of_ble_eq_true rfl⟩) (by decide) hg_26 rfl hP hA hS.2.1 hS rfl hl.1 rfl (Nat.le_of_ble_eq_true rfl) dX11_ring_49 ⟨Nat.le_of_ble_eq_true rfl, Nat.le_of_ble_eq_true rfl⟩ (fun r_29 g_28 H locs hw_27 hP hS => ?_)
      rw [hw_27] at hP
      refine s_callSi (As := [.int r_29]) (rest := []) X Z (s_J6_bitCount_0f7a4 l D cs ad kS K hKO hj g_20 hw_19W r_29) (va_cwS 1 X.2.2.2.2.1 gg_X11_ring_J6_bitCount_0f7a4 rfl rfl rfl (by decide +kernel) ⟨Nat.le_of_ble_eq_true rfl, Nat.le_of_ble_eq_true rfl⟩) hP hA hS.2.1 hS rfl hl.1 rfl (Nat.le_of_ble_eq_true rfl) dX11_ring_52 ⟨Nat.le_of_ble_eq_true rfl, Nat.le_of_ble_eq_true rfl⟩ (fun r_32 g_31 H locs hw_30 hP hS => ?_)
      obtain ⟨hw_30g, hw_30⟩ := hw_30
      rw [hw_30g] at hP
      exact q_iret X hP hS ⟨hw_19W, hfr_23⟩ dX11_ring_55
    · have hhc_17 := n_eq (rfl : r_12.toInt = r_12.toInt) (by decide : (0 : Int32).toInt = 0) hc_17
      refine lv_bipush (v := (-5)) hx hb dX11_ring_26 (by decide) ?_
      exact q_iret X hP hS ⟨hw_10W, hfr_14⟩ dX11_ring_28
  · have hhc_5 := n_eq (rfl : r_3.toInt = r_3.toInt) (by decide : (0 : Int32).toInt = 0) hc_5
    refine lv_bipush (v := (-2)) hx hb dX11_ring_8 (by decide) ?_
    exact q_iret X hP hS ⟨hW, hfr⟩ dX11_ring_10

theorem dX11_undo_0 : decode cX11_undo 0 = .ok (.aload_n 0, 1) := by decide +kernel
theorem dX11_undo_1 : decode cX11_undo 1 = .ok (.invokevirtual 195, 3) := by decide +kernel
theorem dX11_undo_4 : decode cX11_undo 4 = .ok (.ifCond .ne 6, 3) := by decide +kernel
theorem dX11_undo_7 : decode cX11_undo 7 = .ok (.bipush (-2), 2) := by decide +kernel
theorem dX11_undo_9 : decode cX11_undo 9 = .ok (.ireturn, 1) := by decide +kernel
theorem dX11_undo_10 : decode cX11_undo 10 = .ok (.aload_n 0, 1) := by decide +kernel
theorem dX11_undo_11 : decode cX11_undo 11 = .ok (.getfield 19, 3) := by decide +kernel
theorem dX11_undo_14 : decode cX11_undo 14 = .ok (.getfield 340, 3) := by decide +kernel
theorem dX11_undo_17 : decode cX11_undo 17 = .ok (.invokevirtual 349, 3) := by decide +kernel
theorem dX11_undo_20 : decode cX11_undo 20 = .ok (.ifCond .ne 6, 3) := by decide +kernel
theorem dX11_undo_23 : decode cX11_undo 23 = .ok (.bipush (-5), 2) := by decide +kernel
theorem dX11_undo_25 : decode cX11_undo 25 = .ok (.ireturn, 1) := by decide +kernel
theorem dX11_undo_26 : decode cX11_undo 26 = .ok (.aload_n 0, 1) := by decide +kernel
theorem dX11_undo_27 : decode cX11_undo 27 = .ok (.getfield 44, 3) := by decide +kernel
theorem dX11_undo_30 : decode cX11_undo 30 = .ok (.aload_n 0, 1) := by decide +kernel
theorem dX11_undo_31 : decode cX11_undo 31 = .ok (.getfield 19, 3) := by decide +kernel
theorem dX11_undo_34 : decode cX11_undo 34 = .ok (.invokevirtual 109, 3) := by decide +kernel
theorem dX11_undo_37 : decode cX11_undo 37 = .ok (.aload_n 0, 1) := by decide +kernel
theorem dX11_undo_38 : decode cX11_undo 38 = .ok (.getfield 19, 3) := by decide +kernel
theorem dX11_undo_41 : decode cX11_undo 41 = .ok (.getfield 340, 3) := by decide +kernel
theorem dX11_undo_44 : decode cX11_undo 44 = .ok (.getfield 352, 3) := by decide +kernel
theorem dX11_undo_47 : decode cX11_undo 47 = .ok (.ireturn, 1) := by decide +kernel
noncomputable def vX11_undo : List Cond := .code yX11_undo cX11_undo 1 (some .int) :: (([.methodLink RX11 195 yX11_isTold, .instanceMethod yX11_isTold, .selects RX11 yX11_isTold yX11_isTold, .initialized RX11, .fieldLink RX11 19 "IcicleClock" "now" "LIcicleClock$Street;", .fieldLink RX11 340 "IcicleClock$Street" "acts" "LIcicleClock$Acts;", .methodLink RX11 349 yX0_takeBack, .instanceMethod yX0_takeBack, .selects RX0 yX0_takeBack yX0_takeBack, .initialized RX0, .fieldLink RX11 44 "IcicleClock" "winter" "LIcicleClock$Winter;", .methodLink RX11 109 yX10_passOver, .instanceMethod yX10_passOver, .selects RX10 yX10_passOver yX10_passOver, .initialized RX10, .fieldLink RX11 352 "IcicleClock$Acts" "done" "I"] : List Cond) ++ (wsX110 ++ (wsX60 ++ (wsX00 ++ (vX11_isTold ++ (vX0_takeBack ++ vX10_passOver))))))
theorem iX11_undo_11 : ∀ w ∈ wsX110, w ∈ vX11_undo := fun _ h => List.mem_cons_of_mem _ (List.mem_append_right _ (List.mem_append_left _ h))
theorem iX11_undo_6 : ∀ w ∈ wsX60, w ∈ vX11_undo := fun _ h => List.mem_cons_of_mem _ (List.mem_append_right _ (List.mem_append_right _ (List.mem_append_left _ h)))
theorem iX11_undo_0 : ∀ w ∈ wsX00, w ∈ vX11_undo := fun _ h => List.mem_cons_of_mem _ (List.mem_append_right _ (List.mem_append_right _ (List.mem_append_right _ (List.mem_append_left _ h))))
theorem gs_X11_undo : Gd vX11_undo := Gd.cons (by decide +kernel) (Gd.app (Gd.r (by decide +kernel)) (Gd.app gwX_11 (Gd.app gwX_6 (Gd.app gwX_0 (Gd.app gs_X11_isTold (Gd.app gs_X0_takeBack gs_X10_passOver))))))
theorem gg_X11_undo_X11_isTold : GoodIn vX11_undo (wsV RX11 195 RX11 yX11_isTold vX11_isTold) := goodIn_app (goodIn_r _ [1, 2, 3, 4] (by decide +kernel) (by decide +kernel)) (fun w h => ⟨List.mem_cons_of_mem _ (List.mem_append_right _ (List.mem_append_right _ (List.mem_append_right _ (List.mem_append_right _ (List.mem_append_left _ h))))), gs_X11_isTold w h⟩)
theorem gg_X11_undo_X0_takeBack : GoodIn vX11_undo (wsV RX11 349 RX0 yX0_takeBack vX0_takeBack) := goodIn_app (goodIn_r _ [7, 8, 9, 10] (by decide +kernel) (by decide +kernel)) (fun w h => ⟨List.mem_cons_of_mem _ (List.mem_append_right _ (List.mem_append_right _ (List.mem_append_right _ (List.mem_append_right _ (List.mem_append_right _ (List.mem_append_left _ h)))))), gs_X0_takeBack w h⟩)
theorem gg_X11_undo_X10_passOver : GoodIn vX11_undo (wsV RX11 109 RX10 yX10_passOver vX10_passOver) := goodIn_app (goodIn_r _ [12, 13, 14, 15] (by decide +kernel) (by decide +kernel)) (fun w h => ⟨List.mem_cons_of_mem _ (List.mem_append_right _ (List.mem_append_right _ (List.mem_append_right _ (List.mem_append_right _ (List.mem_append_right _ (List.mem_append_right _ (h))))))), gs_X10_passOver w h⟩)
set_option maxHeartbeats 4000000 in
set_option maxRecDepth 100000 in
theorem s_X11_undo (l : Launch) (D : va_G) (cs : Nat → ClassId) (ad : Nat → Nat) (kS : kSt) (K : sK) (hKO : KO K) (hj : wJ ad 218) (g : Nat → va_E) (hW : WF (shp ad K) ad cs g) : sI l yX11_undo vX11_undo { frames := 4, cells := 0, slots := 0, locals := 93 } D cs ad kS [.ref (ad 0)] g (fun r g2 => WF (shp ad K) ad cs g2 ∧ (∀ j, j ≠ 13 ∧ (j < 3 + 14 ∨ 3 + 20 ≤ j) ∧ j ≠ 115 → g2 j = g j)) := by
  refine Met.startS (cc := cX11_undo) (maxL := 1) (ret := (some .int)) RX11 rfl (by decide) rfl (Nat.le_of_ble_eq_true rfl) ?_
  intro p e s m below meth c ls X Z hP hl
  have hx := X.1
  have hb := X.2.1
  have hS : va_S (wA ad 218) s.heap s.heap [] := va_S.rf
  have hA : ∀ i, i < 218 → wA ad 218 (ad i) := fun i h => ⟨i, h, rfl⟩
  have hfr : ∀ j, j ≠ 13 ∧ (j < 3 + 14 ∨ 3 + 20 ≤ j) ∧ j ≠ 115 → g j = g j := fun _ _ => rfl
  have hl : lv_has ls 1 [(0, .ref (ad 0))] := hl
  refine lv_aload_n hx hb dX11_undo_0 rfl (lv_at hl 0 rfl) ?_
  obtain ⟨fsc_4, hgc_4, hOc_4⟩ := hW.obj (i := 0) (by decide) (sh_0 ad K)
  refine s_calli (q := (RX11, TX11, 14)) (As := []) (rest := []) X Z (s_X11_isTold l D cs ad kS K hKO hj g hW) (cwV 0 X.2.2.2.2.1 gg_X11_undo_X11_isTold rfl rfl rfl (by decide +kernel) ⟨Nat.le_of_ble_eq_true rfl, Nat.le_of_ble_eq_true rfl⟩) (by decide) hgc_4 rfl hP hA hS.2.1 hS rfl hl.1 rfl (Nat.le_of_ble_eq_true rfl) dX11_undo_1 ⟨Nat.le_of_ble_eq_true rfl, Nat.le_of_ble_eq_true rfl⟩ (fun r_3 g_2 H locs hw_1 hP hS => ?_)
  obtain ⟨hw_1g, hw_1⟩ := hw_1
  rw [hw_1g] at hP
  refine lv_if_ne (tgt := 10) hx hb dX11_undo_4 (by decide) (fun hc_5 => ?_) (fun hc_5 => ?_)
  · have hhc_5 := n_ne (rfl : r_3.toInt = r_3.toInt) (by decide : (0 : Int32).toInt = 0) hc_5
    refine lv_aload_n hx hb dX11_undo_10 rfl (lv_at hl 0 rfl) ?_
    have hk_6 := hOc_4.ref 1 rfl
    refine q_get X iX11_undo_11 hP (by decide) hgc_4 rfl 1 (by decide) (List.mem_of_getElem? (i := 5) rfl) (v := .ref (ad 3)) hk_6 dX11_undo_11 ?_
    obtain ⟨fsc_7, hgc_7, hOc_7⟩ := hW.obj (i := 3) (by decide) (sh_3 ad K)
    have hk_8 := hOc_7.ref 17 rfl
    refine q_get X iX11_undo_6 hP (by decide) hgc_7 rfl 17 (by decide) (List.mem_of_getElem? (i := 6) rfl) (v := .ref (ad 13)) hk_8 dX11_undo_14 ?_
    obtain ⟨fsc_12, hgc_12, hOc_12⟩ := hW.obj (i := 13) (by decide) (sh_13 ad K)
    refine s_calli (q := (RX0, TX0, 5)) (As := []) (rest := []) X Z (s_X0_takeBack l D cs ad kS K hKO hj g hW 3 (by omega)) (cwV 0 X.2.2.2.2.1 gg_X11_undo_X0_takeBack rfl rfl rfl (by decide +kernel) ⟨Nat.le_of_ble_eq_true rfl, Nat.le_of_ble_eq_true rfl⟩) (by decide) hgc_12 rfl hP hA hS.2.1 hS rfl hl.1 rfl (Nat.le_of_ble_eq_true rfl) dX11_undo_17 ⟨Nat.le_of_ble_eq_true rfl, Nat.le_of_ble_eq_true rfl⟩ (fun r_11 g_10 H locs hw_9 hP hS => ?_)
    obtain ⟨hw_9W, hw_9f, hw_9⟩ := hw_9
    have hfr_13 : ∀ j, j ≠ 13 ∧ (j < 3 + 14 ∨ 3 + 20 ≤ j) ∧ j ≠ 115 → g_10 j = g j := fun j hj => (hw_9f j (by omega)).trans (hfr j hj)
    have hg_14 := (hw_9f 0 (by omega)).trans hgc_4
    have hg_15 := (hw_9f 3 (by omega)).trans hgc_7
    refine lv_if_ne (tgt := 26) hx hb dX11_undo_20 (by decide) (fun hc_16 => ?_) (fun hc_16 => ?_)
    · have hhc_16 := n_ne (rfl : r_11.toInt = r_11.toInt) (by decide : (0 : Int32).toInt = 0) hc_16
      refine lv_aload_n hx hb dX11_undo_26 rfl (lv_at hl 0 rfl) ?_
      have hk_17 := hOc_4.ref 6 rfl
      refine q_get X iX11_undo_11 hP (by decide) hg_14 rfl 6 (by decide) (List.mem_of_getElem? (i := 11) rfl) (v := .ref (ad 114)) hk_17 dX11_undo_27 ?_
      refine lv_aload_n hx hb dX11_undo_30 rfl (lv_at hl 0 rfl) ?_
      refine q_get X iX11_undo_11 hP (by decide) hg_14 rfl 1 (by decide) (List.mem_of_getElem? (i := 5) rfl) (v := .ref (ad 3)) hk_6 dX11_undo_31 ?_
      obtain ⟨fsc_21, hgc_21, hOc_21⟩ := hw_9W.obj (i := 114) (by decide) (sh_114 ad K)
      refine s_callv (q := (RX10, TX10, 4)) (As := [.ref (ad 3)]) (rest := []) X Z (s_X10_passOver l D cs ad kS K hKO hj g_10 hw_9W 114 (by omega)) (cwV 1 X.2.2.2.2.1 gg_X11_undo_X10_passOver rfl rfl rfl (by decide +kernel) ⟨Nat.le_of_ble_eq_true rfl, Nat.le_of_ble_eq_true rfl⟩) (by decide) hgc_21 rfl hP hA hS.2.1 hS rfl hl.1 rfl (Nat.le_of_ble_eq_true rfl) dX11_undo_34 ⟨Nat.le_of_ble_eq_true rfl, Nat.le_of_ble_eq_true rfl⟩ (fun g_19 H locs hw_18 hP hS => ?_)
      obtain ⟨hw_18W, hw_18f⟩ := hw_18
      have hfr_22 : ∀ j, j ≠ 13 ∧ (j < 3 + 14 ∨ 3 + 20 ≤ j) ∧ j ≠ 115 → g_19 j = g j := fun j hj => (hw_18f j (by omega)).trans (hfr_13 j hj)
      have hg_23 := (hw_18f 0 (by omega)).trans hg_14
      have hg_24 := (hw_18f 3 (by omega)).trans hg_15
      have hg_25 := (hw_18f 114 (by omega)).trans hgc_21
      refine lv_aload_n hx hb dX11_undo_37 rfl (lv_at hl 0 rfl) ?_
      refine q_get X iX11_undo_11 hP (by decide) hg_23 rfl 1 (by decide) (List.mem_of_getElem? (i := 5) rfl) (v := .ref (ad 3)) hk_6 dX11_undo_38 ?_
      refine q_get X iX11_undo_6 hP (by decide) hg_24 rfl 17 (by decide) (List.mem_of_getElem? (i := 6) rfl) (v := .ref (ad 13)) hk_8 dX11_undo_41 ?_
      obtain ⟨fsc_26, hgc_26, hOc_26⟩ := hw_18W.obj (i := 13) (by decide) (sh_13 ad K)
      obtain ⟨x_28, hk_27, hlx_28, hhx_28⟩ := hOc_26.int 0 rfl
      refine q_get X iX11_undo_0 hP (by decide) hgc_26 rfl 0 (by decide) (List.mem_of_getElem? (i := 16) rfl) (v := .int x_28) hk_27 dX11_undo_44 ?_
      exact q_iret X hP hS ⟨hw_18W, hfr_22⟩ dX11_undo_47
    · have hhc_16 := n_eq (rfl : r_11.toInt = r_11.toInt) (by decide : (0 : Int32).toInt = 0) hc_16
      refine lv_bipush (v := (-5)) hx hb dX11_undo_23 (by decide) ?_
      exact q_iret X hP hS ⟨hw_9W, hfr_13⟩ dX11_undo_25
  · have hhc_5 := n_eq (rfl : r_3.toInt = r_3.toInt) (by decide : (0 : Int32).toInt = 0) hc_5
    refine lv_bipush (v := (-2)) hx hb dX11_undo_7 (by decide) ?_
    exact q_iret X hP hS ⟨hW, hfr⟩ dX11_undo_9

theorem dX11_anew_0 : decode cX11_anew 0 = .ok (.aload_n 0, 1) := by decide +kernel
theorem dX11_anew_1 : decode cX11_anew 1 = .ok (.invokevirtual 195, 3) := by decide +kernel
theorem dX11_anew_4 : decode cX11_anew 4 = .ok (.ifCond .ne 6, 3) := by decide +kernel
theorem dX11_anew_7 : decode cX11_anew 7 = .ok (.bipush (-2), 2) := by decide +kernel
theorem dX11_anew_9 : decode cX11_anew 9 = .ok (.ireturn, 1) := by decide +kernel
theorem dX11_anew_10 : decode cX11_anew 10 = .ok (.aload_n 0, 1) := by decide +kernel
theorem dX11_anew_11 : decode cX11_anew 11 = .ok (.getfield 19, 3) := by decide +kernel
theorem dX11_anew_14 : decode cX11_anew 14 = .ok (.getfield 340, 3) := by decide +kernel
theorem dX11_anew_17 : decode cX11_anew 17 = .ok (.getfield 352, 3) := by decide +kernel
theorem dX11_anew_20 : decode cX11_anew 20 = .ok (.istore_n 1, 1) := by decide +kernel
theorem dX11_anew_21 : decode cX11_anew 21 = .ok (.aload_n 0, 1) := by decide +kernel
theorem dX11_anew_22 : decode cX11_anew 22 = .ok (.getfield 19, 3) := by decide +kernel
theorem dX11_anew_25 : decode cX11_anew 25 = .ok (.getfield 340, 3) := by decide +kernel
theorem dX11_anew_28 : decode cX11_anew 28 = .ok (.invokevirtual 355, 3) := by decide +kernel
theorem dX11_anew_31 : decode cX11_anew 31 = .ok (.aload_n 0, 1) := by decide +kernel
theorem dX11_anew_32 : decode cX11_anew 32 = .ok (.getfield 44, 3) := by decide +kernel
theorem dX11_anew_35 : decode cX11_anew 35 = .ok (.aload_n 0, 1) := by decide +kernel
theorem dX11_anew_36 : decode cX11_anew 36 = .ok (.getfield 19, 3) := by decide +kernel
theorem dX11_anew_39 : decode cX11_anew 39 = .ok (.invokevirtual 109, 3) := by decide +kernel
theorem dX11_anew_42 : decode cX11_anew 42 = .ok (.iload_n 1, 1) := by decide +kernel
theorem dX11_anew_43 : decode cX11_anew 43 = .ok (.ireturn, 1) := by decide +kernel
noncomputable def vX11_anew : List Cond := .code yX11_anew cX11_anew 2 (some .int) :: (([.methodLink RX11 195 yX11_isTold, .instanceMethod yX11_isTold, .selects RX11 yX11_isTold yX11_isTold, .initialized RX11, .fieldLink RX11 19 "IcicleClock" "now" "LIcicleClock$Street;", .fieldLink RX11 340 "IcicleClock$Street" "acts" "LIcicleClock$Acts;", .fieldLink RX11 352 "IcicleClock$Acts" "done" "I", .methodLink RX11 355 yX0_clear, .instanceMethod yX0_clear, .selects RX0 yX0_clear yX0_clear, .initialized RX0, .fieldLink RX11 44 "IcicleClock" "winter" "LIcicleClock$Winter;", .methodLink RX11 109 yX10_passOver, .instanceMethod yX10_passOver, .selects RX10 yX10_passOver yX10_passOver, .initialized RX10] : List Cond) ++ (wsX110 ++ (wsX60 ++ (wsX00 ++ (vX11_isTold ++ (vX0_clear ++ vX10_passOver))))))
theorem iX11_anew_11 : ∀ w ∈ wsX110, w ∈ vX11_anew := fun _ h => List.mem_cons_of_mem _ (List.mem_append_right _ (List.mem_append_left _ h))
theorem iX11_anew_6 : ∀ w ∈ wsX60, w ∈ vX11_anew := fun _ h => List.mem_cons_of_mem _ (List.mem_append_right _ (List.mem_append_right _ (List.mem_append_left _ h)))
theorem iX11_anew_0 : ∀ w ∈ wsX00, w ∈ vX11_anew := fun _ h => List.mem_cons_of_mem _ (List.mem_append_right _ (List.mem_append_right _ (List.mem_append_right _ (List.mem_append_left _ h))))
theorem gs_X11_anew : Gd vX11_anew := Gd.cons (by decide +kernel) (Gd.app (Gd.r (by decide +kernel)) (Gd.app gwX_11 (Gd.app gwX_6 (Gd.app gwX_0 (Gd.app gs_X11_isTold (Gd.app gs_X0_clear gs_X10_passOver))))))
theorem gg_X11_anew_X11_isTold : GoodIn vX11_anew (wsV RX11 195 RX11 yX11_isTold vX11_isTold) := goodIn_app (goodIn_r _ [1, 2, 3, 4] (by decide +kernel) (by decide +kernel)) (fun w h => ⟨List.mem_cons_of_mem _ (List.mem_append_right _ (List.mem_append_right _ (List.mem_append_right _ (List.mem_append_right _ (List.mem_append_left _ h))))), gs_X11_isTold w h⟩)
theorem gg_X11_anew_X0_clear : GoodIn vX11_anew (wsV RX11 355 RX0 yX0_clear vX0_clear) := goodIn_app (goodIn_r _ [8, 9, 10, 11] (by decide +kernel) (by decide +kernel)) (fun w h => ⟨List.mem_cons_of_mem _ (List.mem_append_right _ (List.mem_append_right _ (List.mem_append_right _ (List.mem_append_right _ (List.mem_append_right _ (List.mem_append_left _ h)))))), gs_X0_clear w h⟩)
theorem gg_X11_anew_X10_passOver : GoodIn vX11_anew (wsV RX11 109 RX10 yX10_passOver vX10_passOver) := goodIn_app (goodIn_r _ [13, 14, 15, 16] (by decide +kernel) (by decide +kernel)) (fun w h => ⟨List.mem_cons_of_mem _ (List.mem_append_right _ (List.mem_append_right _ (List.mem_append_right _ (List.mem_append_right _ (List.mem_append_right _ (List.mem_append_right _ (h))))))), gs_X10_passOver w h⟩)
set_option maxHeartbeats 4000000 in
set_option maxRecDepth 100000 in
theorem s_X11_anew (l : Launch) (D : va_G) (cs : Nat → ClassId) (ad : Nat → Nat) (kS : kSt) (K : sK) (hKO : KO K) (hj : wJ ad 218) (g : Nat → va_E) (hW : WF (shp ad K) ad cs g) : sI l yX11_anew vX11_anew { frames := 4, cells := 0, slots := 0, locals := 93 } D cs ad kS [.ref (ad 0)] g (fun r g2 => WF (shp ad K) ad cs g2 ∧ (∀ j, j ≠ 13 ∧ (j < 3 + 14 ∨ 3 + 20 ≤ j) ∧ j ≠ 115 → g2 j = g j)) := by
  refine Met.startS (cc := cX11_anew) (maxL := 2) (ret := (some .int)) RX11 rfl (by decide) rfl (Nat.le_of_ble_eq_true rfl) ?_
  intro p e s m below meth c ls X Z hP hl
  have hx := X.1
  have hb := X.2.1
  have hS : va_S (wA ad 218) s.heap s.heap [] := va_S.rf
  have hA : ∀ i, i < 218 → wA ad 218 (ad i) := fun i h => ⟨i, h, rfl⟩
  have hfr : ∀ j, j ≠ 13 ∧ (j < 3 + 14 ∨ 3 + 20 ≤ j) ∧ j ≠ 115 → g j = g j := fun _ _ => rfl
  have hl : lv_has ls 2 [(0, .ref (ad 0))] := hl
  refine lv_aload_n hx hb dX11_anew_0 rfl (lv_at hl 0 rfl) ?_
  obtain ⟨fsc_4, hgc_4, hOc_4⟩ := hW.obj (i := 0) (by decide) (sh_0 ad K)
  refine s_calli (q := (RX11, TX11, 14)) (As := []) (rest := []) X Z (s_X11_isTold l D cs ad kS K hKO hj g hW) (cwV 0 X.2.2.2.2.1 gg_X11_anew_X11_isTold rfl rfl rfl (by decide +kernel) ⟨Nat.le_of_ble_eq_true rfl, Nat.le_of_ble_eq_true rfl⟩) (by decide) hgc_4 rfl hP hA hS.2.1 hS rfl hl.1 rfl (Nat.le_of_ble_eq_true rfl) dX11_anew_1 ⟨Nat.le_of_ble_eq_true rfl, Nat.le_of_ble_eq_true rfl⟩ (fun r_3 g_2 H locs hw_1 hP hS => ?_)
  obtain ⟨hw_1g, hw_1⟩ := hw_1
  rw [hw_1g] at hP
  refine lv_if_ne (tgt := 10) hx hb dX11_anew_4 (by decide) (fun hc_5 => ?_) (fun hc_5 => ?_)
  · have hhc_5 := n_ne (rfl : r_3.toInt = r_3.toInt) (by decide : (0 : Int32).toInt = 0) hc_5
    refine lv_aload_n hx hb dX11_anew_10 rfl (lv_at hl 0 rfl) ?_
    have hk_6 := hOc_4.ref 1 rfl
    refine q_get X iX11_anew_11 hP (by decide) hgc_4 rfl 1 (by decide) (List.mem_of_getElem? (i := 5) rfl) (v := .ref (ad 3)) hk_6 dX11_anew_11 ?_
    obtain ⟨fsc_7, hgc_7, hOc_7⟩ := hW.obj (i := 3) (by decide) (sh_3 ad K)
    have hk_8 := hOc_7.ref 17 rfl
    refine q_get X iX11_anew_6 hP (by decide) hgc_7 rfl 17 (by decide) (List.mem_of_getElem? (i := 6) rfl) (v := .ref (ad 13)) hk_8 dX11_anew_14 ?_
    obtain ⟨fsc_9, hgc_9, hOc_9⟩ := hW.obj (i := 13) (by decide) (sh_13 ad K)
    obtain ⟨x_11, hk_10, hlx_11, hhx_11⟩ := hOc_9.int 0 rfl
    refine q_get X iX11_anew_0 hP (by decide) hgc_9 rfl 0 (by decide) (List.mem_of_getElem? (i := 7) rfl) (v := .int x_11) hk_10 dX11_anew_17 ?_
    refine lv_istore_n (lv' := [(1, .int x_11), (0, .ref (ad 0))]) hx hb dX11_anew_20 rfl hl (by decide) rfl (fun ls hl => ?_)
    refine lv_aload_n hx hb dX11_anew_21 rfl (lv_at hl 1 rfl) ?_
    refine q_get X iX11_anew_11 hP (by decide) hgc_4 rfl 1 (by decide) (List.mem_of_getElem? (i := 5) rfl) (v := .ref (ad 3)) hk_6 dX11_anew_22 ?_
    refine q_get X iX11_anew_6 hP (by decide) hgc_7 rfl 17 (by decide) (List.mem_of_getElem? (i := 6) rfl) (v := .ref (ad 13)) hk_8 dX11_anew_25 ?_
    refine s_callv (q := (RX0, TX0, 5)) (As := []) (rest := []) X Z (s_X0_clear l D cs ad kS K hKO hj g hW 3 (by omega)) (cwV 0 X.2.2.2.2.1 gg_X11_anew_X0_clear rfl rfl rfl (by decide +kernel) ⟨Nat.le_of_ble_eq_true rfl, Nat.le_of_ble_eq_true rfl⟩) (by decide) hgc_9 rfl hP hA hS.2.1 hS rfl hl.1 rfl (Nat.le_of_ble_eq_true rfl) dX11_anew_28 ⟨Nat.le_of_ble_eq_true rfl, Nat.le_of_ble_eq_true rfl⟩ (fun g_13 H locs hw_12 hP hS => ?_)
    obtain ⟨hw_12W, hw_12f⟩ := hw_12
    have hfr_15 : ∀ j, j ≠ 13 ∧ (j < 3 + 14 ∨ 3 + 20 ≤ j) ∧ j ≠ 115 → g_13 j = g j := fun j hj => (hw_12f j (by omega)).trans (hfr j hj)
    have hg_16 := (hw_12f 0 (by omega)).trans hgc_4
    have hg_17 := (hw_12f 3 (by omega)).trans hgc_7
    refine lv_aload_n hx hb dX11_anew_31 rfl (lv_at hl 1 rfl) ?_
    have hk_18 := hOc_4.ref 6 rfl
    refine q_get X iX11_anew_11 hP (by decide) hg_16 rfl 6 (by decide) (List.mem_of_getElem? (i := 12) rfl) (v := .ref (ad 114)) hk_18 dX11_anew_32 ?_
    refine lv_aload_n hx hb dX11_anew_35 rfl (lv_at hl 1 rfl) ?_
    refine q_get X iX11_anew_11 hP (by decide) hg_16 rfl 1 (by decide) (List.mem_of_getElem? (i := 5) rfl) (v := .ref (ad 3)) hk_6 dX11_anew_36 ?_
    obtain ⟨fsc_22, hgc_22, hOc_22⟩ := hw_12W.obj (i := 114) (by decide) (sh_114 ad K)
    refine s_callv (q := (RX10, TX10, 4)) (As := [.ref (ad 3)]) (rest := []) X Z (s_X10_passOver l D cs ad kS K hKO hj g_13 hw_12W 114 (by omega)) (cwV 1 X.2.2.2.2.1 gg_X11_anew_X10_passOver rfl rfl rfl (by decide +kernel) ⟨Nat.le_of_ble_eq_true rfl, Nat.le_of_ble_eq_true rfl⟩) (by decide) hgc_22 rfl hP hA hS.2.1 hS rfl hl.1 rfl (Nat.le_of_ble_eq_true rfl) dX11_anew_39 ⟨Nat.le_of_ble_eq_true rfl, Nat.le_of_ble_eq_true rfl⟩ (fun g_20 H locs hw_19 hP hS => ?_)
    obtain ⟨hw_19W, hw_19f⟩ := hw_19
    have hfr_23 : ∀ j, j ≠ 13 ∧ (j < 3 + 14 ∨ 3 + 20 ≤ j) ∧ j ≠ 115 → g_20 j = g j := fun j hj => (hw_19f j (by omega)).trans (hfr_15 j hj)
    have hg_24 := (hw_19f 0 (by omega)).trans hg_16
    have hg_25 := (hw_19f 3 (by omega)).trans hg_17
    have hg_26 := (hw_19f 114 (by omega)).trans hgc_22
    refine lv_iload_n hx hb dX11_anew_42 rfl (lv_at hl 0 rfl) ?_
    exact q_iret X hP hS ⟨hw_19W, hfr_23⟩ dX11_anew_43
  · have hhc_5 := n_eq (rfl : r_3.toInt = r_3.toInt) (by decide : (0 : Int32).toInt = 0) hc_5
    refine lv_bipush (v := (-2)) hx hb dX11_anew_7 (by decide) ?_
    exact q_iret X hP hS ⟨hW, hfr⟩ dX11_anew_9

theorem dX11_hung_0 : decode cX11_hung 0 = .ok (.aload_n 0, 1) := by decide +kernel
theorem dX11_hung_1 : decode cX11_hung 1 = .ok (.iload_n 1, 1) := by decide +kernel
theorem dX11_hung_2 : decode cX11_hung 2 = .ok (.invokevirtual 136, 3) := by decide +kernel
theorem dX11_hung_5 : decode cX11_hung 5 = .ok (.ifCond .eq 14, 3) := by decide +kernel
theorem dX11_hung_8 : decode cX11_hung 8 = .ok (.iload_n 2, 1) := by decide +kernel
theorem dX11_hung_9 : decode cX11_hung 9 = .ok (.iconst 1, 1) := by decide +kernel
theorem dX11_hung_10 : decode cX11_hung 10 = .ok (.if_icmp .lt 9, 3) := by decide +kernel
theorem dX11_hung_13 : decode cX11_hung 13 = .ok (.iload_n 2, 1) := by decide +kernel
theorem dX11_hung_14 : decode cX11_hung 14 = .ok (.bipush 99, 2) := by decide +kernel
theorem dX11_hung_16 : decode cX11_hung 16 = .ok (.if_icmp .le 6, 3) := by decide +kernel
theorem dX11_hung_22 : decode cX11_hung 22 = .ok (.aload_n 0, 1) := by decide +kernel
theorem dX11_hung_23 : decode cX11_hung 23 = .ok (.getfield 19, 3) := by decide +kernel
theorem dX11_hung_26 : decode cX11_hung 26 = .ok (.getfield 340, 3) := by decide +kernel
theorem dX11_hung_29 : decode cX11_hung 29 = .ok (.getfield 352, 3) := by decide +kernel
theorem dX11_hung_32 : decode cX11_hung 32 = .ok (.ifCond .le 6, 3) := by decide +kernel
theorem dX11_hung_35 : decode cX11_hung 35 = .ok (.bipush (-5), 2) := by decide +kernel
theorem dX11_hung_37 : decode cX11_hung 37 = .ok (.ireturn, 1) := by decide +kernel
theorem dX11_hung_38 : decode cX11_hung 38 = .ok (.aload_n 0, 1) := by decide +kernel
theorem dX11_hung_39 : decode cX11_hung 39 = .ok (.getfield 19, 3) := by decide +kernel
theorem dX11_hung_42 : decode cX11_hung 42 = .ok (.getfield 170, 3) := by decide +kernel
theorem dX11_hung_45 : decode cX11_hung 45 = .ok (.iload_n 1, 1) := by decide +kernel
theorem dX11_hung_46 : decode cX11_hung 46 = .ok (.iaload, 1) := by decide +kernel
theorem dX11_hung_47 : decode cX11_hung 47 = .ok (.istore_n 3, 1) := by decide +kernel
theorem dX11_hung_48 : decode cX11_hung 48 = .ok (.aload_n 0, 1) := by decide +kernel
theorem dX11_hung_49 : decode cX11_hung 49 = .ok (.getfield 19, 3) := by decide +kernel
theorem dX11_hung_52 : decode cX11_hung 52 = .ok (.getfield 170, 3) := by decide +kernel
theorem dX11_hung_55 : decode cX11_hung 55 = .ok (.iload_n 1, 1) := by decide +kernel
theorem dX11_hung_56 : decode cX11_hung 56 = .ok (.iload_n 2, 1) := by decide +kernel
theorem dX11_hung_57 : decode cX11_hung 57 = .ok (.iastore, 1) := by decide +kernel
theorem dX11_hung_58 : decode cX11_hung 58 = .ok (.aload_n 0, 1) := by decide +kernel
theorem dX11_hung_59 : decode cX11_hung 59 = .ok (.getfield 44, 3) := by decide +kernel
theorem dX11_hung_62 : decode cX11_hung 62 = .ok (.aload_n 0, 1) := by decide +kernel
theorem dX11_hung_63 : decode cX11_hung 63 = .ok (.getfield 19, 3) := by decide +kernel
theorem dX11_hung_66 : decode cX11_hung 66 = .ok (.invokevirtual 109, 3) := by decide +kernel
theorem dX11_hung_69 : decode cX11_hung 69 = .ok (.iload_n 3, 1) := by decide +kernel
theorem dX11_hung_70 : decode cX11_hung 70 = .ok (.ireturn, 1) := by decide +kernel
theorem dX11_hung_19 : decode cX11_hung 19 = .ok (.bipush (-2), 2) := by decide +kernel
theorem dX11_hung_21 : decode cX11_hung 21 = .ok (.ireturn, 1) := by decide +kernel
noncomputable def vX11_hung : List Cond := .code yX11_hung cX11_hung 4 (some .int) :: (([.methodLink RX11 136 yX11_isIcicle, .instanceMethod yX11_isIcicle, .selects RX11 yX11_isIcicle yX11_isIcicle, .initialized RX11, .fieldLink RX11 19 "IcicleClock" "now" "LIcicleClock$Street;", .fieldLink RX11 340 "IcicleClock$Street" "acts" "LIcicleClock$Acts;", .fieldLink RX11 352 "IcicleClock$Acts" "done" "I", .fieldLink RX11 170 "IcicleClock$Street" "lengthHung" "[I", .fieldLink RX11 44 "IcicleClock" "winter" "LIcicleClock$Winter;", .methodLink RX11 109 yX10_passOver, .instanceMethod yX10_passOver, .selects RX10 yX10_passOver yX10_passOver, .initialized RX10] : List Cond) ++ (wsX110 ++ (wsX60 ++ (wsX00 ++ (vX11_isIcicle ++ vX10_passOver)))))
theorem iX11_hung_11 : ∀ w ∈ wsX110, w ∈ vX11_hung := fun _ h => List.mem_cons_of_mem _ (List.mem_append_right _ (List.mem_append_left _ h))
theorem iX11_hung_6 : ∀ w ∈ wsX60, w ∈ vX11_hung := fun _ h => List.mem_cons_of_mem _ (List.mem_append_right _ (List.mem_append_right _ (List.mem_append_left _ h)))
theorem iX11_hung_0 : ∀ w ∈ wsX00, w ∈ vX11_hung := fun _ h => List.mem_cons_of_mem _ (List.mem_append_right _ (List.mem_append_right _ (List.mem_append_right _ (List.mem_append_left _ h))))
theorem gs_X11_hung : Gd vX11_hung := Gd.cons (by decide +kernel) (Gd.app (Gd.r (by decide +kernel)) (Gd.app gwX_11 (Gd.app gwX_6 (Gd.app gwX_0 (Gd.app gs_X11_isIcicle gs_X10_passOver)))))
theorem gg_X11_hung_X11_isIcicle : GoodIn vX11_hung (wsV RX11 136 RX11 yX11_isIcicle vX11_isIcicle) := goodIn_app (goodIn_r _ [1, 2, 3, 4] (by decide +kernel) (by decide +kernel)) (fun w h => ⟨List.mem_cons_of_mem _ (List.mem_append_right _ (List.mem_append_right _ (List.mem_append_right _ (List.mem_append_right _ (List.mem_append_left _ h))))), gs_X11_isIcicle w h⟩)
theorem gg_X11_hung_X10_passOver : GoodIn vX11_hung (wsV RX11 109 RX10 yX10_passOver vX10_passOver) := goodIn_app (goodIn_r _ [10, 11, 12, 13] (by decide +kernel) (by decide +kernel)) (fun w h => ⟨List.mem_cons_of_mem _ (List.mem_append_right _ (List.mem_append_right _ (List.mem_append_right _ (List.mem_append_right _ (List.mem_append_right _ (h)))))), gs_X10_passOver w h⟩)
set_option maxHeartbeats 4000000 in
set_option maxRecDepth 100000 in
theorem s_X11_hung (l : Launch) (D : va_G) (cs : Nat → ClassId) (ad : Nat → Nat) (kS : kSt) (K : sK) (hKO : KO K) (hj : wJ ad 218) (g : Nat → va_E) (hW : WF (shp ad K) ad cs g) (ic : Int32) (nn : Int32) : sI l yX11_hung vX11_hung { frames := 4, cells := 0, slots := 0, locals := 93 } D cs ad kS [.ref (ad 0), .int ic, .int nn] g (fun r g2 => WF (shp ad K) ad cs g2 ∧ (∀ j, j ≠ 9 ∧ j ≠ 115 → g2 j = g j)) := by
  refine Met.startS (cc := cX11_hung) (maxL := 4) (ret := (some .int)) RX11 rfl (by decide) rfl (Nat.le_of_ble_eq_true rfl) ?_
  intro p e s m below meth c ls X Z hP hl
  have hx := X.1
  have hb := X.2.1
  have hS : va_S (wA ad 218) s.heap s.heap [] := va_S.rf
  have hA : ∀ i, i < 218 → wA ad 218 (ad i) := fun i h => ⟨i, h, rfl⟩
  have hfr : ∀ j, j ≠ 9 ∧ j ≠ 115 → g j = g j := fun _ _ => rfl
  have hl : lv_has ls 4 [(0, .ref (ad 0)), (1, .int ic), (2, .int nn)] := hl
  refine lv_aload_n hx hb dX11_hung_0 rfl (lv_at hl 0 rfl) ?_
  refine lv_iload_n hx hb dX11_hung_1 rfl (lv_at hl 1 rfl) ?_
  obtain ⟨fsc_4, hgc_4, hOc_4⟩ := hW.obj (i := 0) (by decide) (sh_0 ad K)
  refine s_calli (q := (RX11, TX11, 14)) (As := [.int ic]) (rest := []) X Z (s_X11_isIcicle l D cs ad kS K hKO hj g hW ic) (cwV 1 X.2.2.2.2.1 gg_X11_hung_X11_isIcicle rfl rfl rfl (by decide +kernel) ⟨Nat.le_of_ble_eq_true rfl, Nat.le_of_ble_eq_true rfl⟩) (by decide) hgc_4 rfl hP hA hS.2.1 hS rfl hl.1 rfl (Nat.le_of_ble_eq_true rfl) dX11_hung_2 ⟨Nat.le_of_ble_eq_true rfl, Nat.le_of_ble_eq_true rfl⟩ (fun r_3 g_2 H locs hw_1 hP hS => ?_)
  obtain ⟨hw_1g, hw_1⟩ := hw_1
  rw [hw_1g] at hP
  have HJ19 : ∀ (G19 : Nat → va_E) (H : Heap) (locs : List Loc) (ls : Array Slot), WF (shp ad K) ad cs G19 → (∀ j, j ≠ 9 ∧ j ≠ 115 → G19 j = g j) → G19 0 = .inr (11, fsc_4) → va_P D vwCl (wL ad G19 218) H → va_S (wA ad 218) s.heap H locs → lv_has ls 4 [] → W p l e ({ frames := 4, cells := 0, slots := 0, locals := 93 } : Room) s m ([.ref (ad 0), .int ic, .int nn] : List Value).toArray below meth c H locs 0 0 (MQ below (qI D ad 218 (fun r g2 => WF (shp ad K) ad cs g2 ∧ (∀ j, j ≠ 9 ∧ j ≠ 115 → g2 j = g j))) ([.ref (ad 0), .int ic, .int nn] : List Value).toArray s 0 0 (wA ad 218)) (F0 m 19 ls []) := by
    intro G19 H locs ls hW19 hfr19 hg19_0 hP hS hl
    refine lv_bipush (v := (-2)) hx hb dX11_hung_19 (by decide) ?_
    exact q_iret X hP hS ⟨hW19, hfr19⟩ dX11_hung_21
  refine lv_if_eq (tgt := 19) hx hb dX11_hung_5 (by decide) (fun hc_5 => ?_) (fun hc_5 => ?_)
  · have hhc_5 := n_eq (rfl : r_3.toInt = r_3.toInt) (by decide : (0 : Int32).toInt = 0) hc_5
    exact HJ19 g _ _ ls hW hfr hgc_4 hP hS (lv_sub hl [] rfl)
  · have hhc_5 := n_ne (rfl : r_3.toInt = r_3.toInt) (by decide : (0 : Int32).toInt = 0) hc_5
    refine lv_iload_n hx hb dX11_hung_8 rfl (lv_at hl 2 rfl) ?_
    refine lv_iconst (v := 1) hx hb dX11_hung_9 (by decide) ?_
    refine lv_icmp_lt (tgt := 19) hx hb dX11_hung_10 (by decide) (fun hc_6 => ?_) (fun hc_6 => ?_)
    · have hhc_6 := n_lt (rfl : nn.toInt = nn.toInt) (by decide : (1 : Int32).toInt = 1) hc_6
      exact HJ19 g _ _ ls hW hfr hgc_4 hP hS (lv_sub hl [] rfl)
    · have hhc_6 := n_nlt (rfl : nn.toInt = nn.toInt) (by decide : (1 : Int32).toInt = 1) hc_6
      refine lv_iload_n hx hb dX11_hung_13 rfl (lv_at hl 2 rfl) ?_
      refine lv_bipush (v := 99) hx hb dX11_hung_14 (by decide) ?_
      refine lv_icmp_le (tgt := 22) hx hb dX11_hung_16 (by decide) (fun hc_7 => ?_) (fun hc_7 => ?_)
      · have hhc_7 := n_le (rfl : nn.toInt = nn.toInt) (by decide : (99 : Int32).toInt = 99) hc_7
        refine lv_aload_n hx hb dX11_hung_22 rfl (lv_at hl 0 rfl) ?_
        have hk_8 := hOc_4.ref 1 rfl
        refine q_get X iX11_hung_11 hP (by decide) hgc_4 rfl 1 (by decide) (List.mem_of_getElem? (i := 5) rfl) (v := .ref (ad 3)) hk_8 dX11_hung_23 ?_
        obtain ⟨fsc_9, hgc_9, hOc_9⟩ := hW.obj (i := 3) (by decide) (sh_3 ad K)
        have hk_10 := hOc_9.ref 17 rfl
        refine q_get X iX11_hung_6 hP (by decide) hgc_9 rfl 17 (by decide) (List.mem_of_getElem? (i := 6) rfl) (v := .ref (ad 13)) hk_10 dX11_hung_26 ?_
        obtain ⟨fsc_11, hgc_11, hOc_11⟩ := hW.obj (i := 13) (by decide) (sh_13 ad K)
        obtain ⟨x_13, hk_12, hlx_13, hhx_13⟩ := hOc_11.int 0 rfl
        refine q_get X iX11_hung_0 hP (by decide) hgc_11 rfl 0 (by decide) (List.mem_of_getElem? (i := 7) rfl) (v := .int x_13) hk_12 dX11_hung_29 ?_
        refine lv_if_le (tgt := 38) hx hb dX11_hung_32 (by decide) (fun hc_14 => ?_) (fun hc_14 => ?_)
        · have hhc_14 := n_le (rfl : x_13.toInt = x_13.toInt) (by decide : (0 : Int32).toInt = 0) hc_14
          refine lv_aload_n hx hb dX11_hung_38 rfl (lv_at hl 0 rfl) ?_
          refine q_get X iX11_hung_11 hP (by decide) hgc_4 rfl 1 (by decide) (List.mem_of_getElem? (i := 5) rfl) (v := .ref (ad 3)) hk_8 dX11_hung_39 ?_
          have hk_15 := hOc_9.ref 13 rfl
          refine q_get X iX11_hung_6 hP (by decide) hgc_9 rfl 13 (by decide) (List.mem_of_getElem? (i := 8) rfl) (v := .ref (ad 9)) hk_15 dX11_hung_42 ?_
          refine lv_iload_n hx hb dX11_hung_45 rfl (lv_at hl 1 rfl) ?_
          obtain ⟨fc_16, hgc_16, hFc_16⟩ := hW.arr (i := 9) (by decide) (sh_9 ad K)
          refine q_iald X hP (by decide) hgc_16 (n_in (rfl : ic.toInt = ic.toInt) (by omega) (by omega)) dX11_hung_46 ?_
          refine lv_topi (fun z_17 ez_17 => ?_)
          refine lv_istore_n (lv' := [(3, .int z_17), (0, .ref (ad 0)), (1, .int ic), (2, .int nn)]) hx hb dX11_hung_47 rfl hl (by decide) rfl (fun ls hl => ?_)
          refine lv_aload_n hx hb dX11_hung_48 rfl (lv_at hl 1 rfl) ?_
          refine q_get X iX11_hung_11 hP (by decide) hgc_4 rfl 1 (by decide) (List.mem_of_getElem? (i := 5) rfl) (v := .ref (ad 3)) hk_8 dX11_hung_49 ?_
          refine q_get X iX11_hung_6 hP (by decide) hgc_9 rfl 13 (by decide) (List.mem_of_getElem? (i := 8) rfl) (v := .ref (ad 9)) hk_15 dX11_hung_52 ?_
          refine lv_iload_n hx hb dX11_hung_55 rfl (lv_at hl 2 rfl) ?_
          refine lv_iload_n hx hb dX11_hung_56 rfl (lv_at hl 3 rfl) ?_
          refine s_iast X hP hj hA hS (by decide) hgc_16 (n_in (rfl : ic.toInt = ic.toInt) (by omega) (by omega)) dX11_hung_57 hW (sh_9 ad K) (hFc_16.put trivial) (fun fc_18 gc_18 H locs ec_18 hFc_18 hgc_18 hfc_18 hWc_18 hP hS => ?_)
          have hg_20 := (hfc_18 0 (by decide)).trans hgc_4
          have hg_21 := (hfc_18 3 (by decide)).trans hgc_9
          have hg_22 := (hfc_18 13 (by decide)).trans hgc_11
          have hfr_19 : ∀ j, j ≠ 9 ∧ j ≠ 115 → gc_18 j = g j := fun j hj => (hfc_18 j (by omega)).trans (hfr j hj)
          refine lv_aload_n hx hb dX11_hung_58 rfl (lv_at hl 1 rfl) ?_
          have hk_23 := hOc_4.ref 6 rfl
          refine q_get X iX11_hung_11 hP (by decide) hg_20 rfl 6 (by decide) (List.mem_of_getElem? (i := 9) rfl) (v := .ref (ad 114)) hk_23 dX11_hung_59 ?_
          refine lv_aload_n hx hb dX11_hung_62 rfl (lv_at hl 1 rfl) ?_
          refine q_get X iX11_hung_11 hP (by decide) hg_20 rfl 1 (by decide) (List.mem_of_getElem? (i := 5) rfl) (v := .ref (ad 3)) hk_8 dX11_hung_63 ?_
          obtain ⟨fsc_27, hgc_27, hOc_27⟩ := hWc_18.obj (i := 114) (by decide) (sh_114 ad K)
          refine s_callv (q := (RX10, TX10, 4)) (As := [.ref (ad 3)]) (rest := []) X Z (s_X10_passOver l D cs ad kS K hKO hj gc_18 hWc_18 114 (by omega)) (cwV 1 X.2.2.2.2.1 gg_X11_hung_X10_passOver rfl rfl rfl (by decide +kernel) ⟨Nat.le_of_ble_eq_true rfl, Nat.le_of_ble_eq_true rfl⟩) (by decide) hgc_27 rfl hP hA hS.2.1 hS rfl hl.1 rfl (Nat.le_of_ble_eq_true rfl) dX11_hung_66 ⟨Nat.le_of_ble_eq_true rfl, Nat.le_of_ble_eq_true rfl⟩ (fun g_25 H locs hw_24 hP hS => ?_)
          obtain ⟨hw_24W, hw_24f⟩ := hw_24
          have hfr_28 : ∀ j, j ≠ 9 ∧ j ≠ 115 → g_25 j = g j := fun j hj => (hw_24f j (by omega)).trans (hfr_19 j hj)
          have hg_29 := (hw_24f 0 (by omega)).trans hg_20
          have hg_30 := (hw_24f 3 (by omega)).trans hg_21
          have hg_31 := (hw_24f 13 (by omega)).trans hg_22
          have hg_32 := (hw_24f 9 (by omega)).trans hgc_18
          have hg_33 := (hw_24f 114 (by omega)).trans hgc_27
          refine lv_iload_n hx hb dX11_hung_69 rfl (lv_at hl 0 rfl) ?_
          exact q_iret X hP hS ⟨hw_24W, hfr_28⟩ dX11_hung_70
        · have hhc_14 := n_nle (rfl : x_13.toInt = x_13.toInt) (by decide : (0 : Int32).toInt = 0) hc_14
          refine lv_bipush (v := (-5)) hx hb dX11_hung_35 (by decide) ?_
          exact q_iret X hP hS ⟨hW, hfr⟩ dX11_hung_37
      · have hhc_7 := n_nle (rfl : nn.toInt = nn.toInt) (by decide : (99 : Int32).toInt = 99) hc_7
        exact HJ19 g _ _ ls hW hfr hgc_4 hP hS (lv_sub hl [] rfl)

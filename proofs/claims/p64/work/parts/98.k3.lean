theorem dX12_row_0 : decode cX12_row 0 = .ok (.iload_n 1, 1) := by decide +kernel
theorem dX12_row_1 : decode cX12_row 1 = .ok (.invokestatic 307, 3) := by decide +kernel
theorem dX12_row_4 : decode cX12_row 4 = .ok (.ifCond .eq 21, 3) := by decide +kernel
theorem dX12_row_7 : decode cX12_row 7 = .ok (.iload_n 2, 1) := by decide +kernel
theorem dX12_row_8 : decode cX12_row 8 = .ok (.i2l, 1) := by decide +kernel
theorem dX12_row_9 : decode cX12_row 9 = .ok (.lconst 0, 1) := by decide +kernel
theorem dX12_row_10 : decode cX12_row 10 = .ok (.ldc2_w 431, 3) := by decide +kernel
theorem dX12_row_13 : decode cX12_row 13 = .ok (.invokestatic 82, 3) := by decide +kernel
theorem dX12_row_16 : decode cX12_row 16 = .ok (.ifCond .eq 9, 3) := by decide +kernel
theorem dX12_row_19 : decode cX12_row 19 = .ok (.iload_n 3, 1) := by decide +kernel
theorem dX12_row_20 : decode cX12_row 20 = .ok (.bipush 60, 2) := by decide +kernel
theorem dX12_row_22 : decode cX12_row 22 = .ok (.if_icmp .le 6, 3) := by decide +kernel
theorem dX12_row_28 : decode cX12_row 28 = .ok (.iload_n 3, 1) := by decide +kernel
theorem dX12_row_29 : decode cX12_row 29 = .ok (.ifCond .ge 6, 3) := by decide +kernel
theorem dX12_row_32 : decode cX12_row 32 = .ok (.bipush (-3), 2) := by decide +kernel
theorem dX12_row_34 : decode cX12_row 34 = .ok (.ireturn, 1) := by decide +kernel
theorem dX12_row_35 : decode cX12_row 35 = .ok (.aload_n 0, 1) := by decide +kernel
theorem dX12_row_36 : decode cX12_row 36 = .ok (.getfield 65, 3) := by decide +kernel
theorem dX12_row_39 : decode cX12_row 39 = .ok (.iload_n 1, 1) := by decide +kernel
theorem dX12_row_40 : decode cX12_row 40 = .ok (.iload_n 3, 1) := by decide +kernel
theorem dX12_row_41 : decode cX12_row 41 = .ok (.iastore, 1) := by decide +kernel
theorem dX12_row_42 : decode cX12_row 42 = .ok (.aload_n 0, 1) := by decide +kernel
theorem dX12_row_43 : decode cX12_row 43 = .ok (.getfield 68, 3) := by decide +kernel
theorem dX12_row_46 : decode cX12_row 46 = .ok (.iload_n 1, 1) := by decide +kernel
theorem dX12_row_47 : decode cX12_row 47 = .ok (.iload_n 2, 1) := by decide +kernel
theorem dX12_row_48 : decode cX12_row 48 = .ok (.iastore, 1) := by decide +kernel
theorem dX12_row_49 : decode cX12_row 49 = .ok (.iconst 0, 1) := by decide +kernel
theorem dX12_row_50 : decode cX12_row 50 = .ok (.istore 4, 2) := by decide +kernel
theorem dX12_row_52 : decode cX12_row 52 = .ok (.iload 4, 2) := by decide +kernel
theorem dX12_row_54 : decode cX12_row 54 = .ok (.bipush 60, 2) := by decide +kernel
theorem dX12_row_56 : decode cX12_row 56 = .ok (.if_icmp .ge 22, 3) := by decide +kernel
theorem dX12_row_59 : decode cX12_row 59 = .ok (.aload_n 0, 1) := by decide +kernel
theorem dX12_row_60 : decode cX12_row 60 = .ok (.getfield 71, 3) := by decide +kernel
theorem dX12_row_63 : decode cX12_row 63 = .ok (.bipush 60, 2) := by decide +kernel
theorem dX12_row_65 : decode cX12_row 65 = .ok (.iload_n 1, 1) := by decide +kernel
theorem dX12_row_66 : decode cX12_row 66 = .ok (.imul, 1) := by decide +kernel
theorem dX12_row_67 : decode cX12_row 67 = .ok (.iload 4, 2) := by decide +kernel
theorem dX12_row_69 : decode cX12_row 69 = .ok (.iadd, 1) := by decide +kernel
theorem dX12_row_70 : decode cX12_row 70 = .ok (.lconst 0, 1) := by decide +kernel
theorem dX12_row_71 : decode cX12_row 71 = .ok (.lastore, 1) := by decide +kernel
theorem dX12_row_72 : decode cX12_row 72 = .ok (.iinc 4 1, 3) := by decide +kernel
theorem dX12_row_75 : decode cX12_row 75 = .ok (.goto (-23), 3) := by decide +kernel
theorem dX12_row_78 : decode cX12_row 78 = .ok (.iconst 0, 1) := by decide +kernel
theorem dX12_row_79 : decode cX12_row 79 = .ok (.ireturn, 1) := by decide +kernel
theorem dX12_row_25 : decode cX12_row 25 = .ok (.bipush (-2), 2) := by decide +kernel
theorem dX12_row_27 : decode cX12_row 27 = .ok (.ireturn, 1) := by decide +kernel
noncomputable def vX12_row : List Cond := .code yX12_row cX12_row 5 (some .int) :: (([.methodLink RX12 307 yX12_isSlot, .static yX12_isSlot, .initialized RX12, .constantLong RX12 431 (3), .methodLink RX12 82 yX12_in, .static yX12_in, .fieldLink RX12 65 "IcicleClockModel" "many" "[I", .fieldLink RX12 68 "IcicleClockModel" "width" "[I", .fieldLink RX12 71 "IcicleClockModel" "numbers" "[J"] : List Cond) ++ (wsX120 ++ (vX12_isSlot ++ vX12_in)))
theorem iX12_row_12 : ∀ w ∈ wsX120, w ∈ vX12_row := fun _ h => List.mem_cons_of_mem _ (List.mem_append_right _ (List.mem_append_left _ h))
theorem gs_X12_row : Gd vX12_row := Gd.cons (by decide +kernel) (Gd.app (Gd.r (by decide +kernel)) (Gd.app gwX_12 (Gd.app gs_X12_isSlot gs_X12_in)))
theorem gg_X12_row_X12_isSlot : GoodIn vX12_row (wsS RX12 307 yX12_isSlot vX12_isSlot) := goodIn_app (goodIn_r _ [1, 2, 3] (by decide +kernel) (by decide +kernel)) (fun w h => ⟨List.mem_cons_of_mem _ (List.mem_append_right _ (List.mem_append_right _ (List.mem_append_left _ h))), gs_X12_isSlot w h⟩)
theorem gg_X12_row_X12_in : GoodIn vX12_row (wsS RX12 82 yX12_in vX12_in) := goodIn_app (goodIn_r _ [5, 6, 3] (by decide +kernel) (by decide +kernel)) (fun w h => ⟨List.mem_cons_of_mem _ (List.mem_append_right _ (List.mem_append_right _ (List.mem_append_right _ (h)))), gs_X12_in w h⟩)
set_option maxHeartbeats 4000000 in
set_option maxRecDepth 100000 in
theorem s_X12_row (l : Launch) (D : va_G) (cs : Nat → ClassId) (ad : Nat → Nat) (kS : kSt) (K : sK) (hKO : KO K) (hj : wJ ad 218) (g : Nat → va_E) (hW : WF (shp ad K) ad cs g) (sl : Int32) (wd : Int32) (nn : Int32) : sI l yX12_row vX12_row { frames := 2, cells := 0, slots := 0, locals := 45 } D cs ad kS [.ref (ad 197), .int sl, .int wd, .int nn] g (fun r g2 => ((r.toInt = 0 → WF (shp ad (kWidR (kMany (K) sl.toNatClampNeg nn) sl.toNatClampNeg wd)) ad cs g2) ∧ (r.toInt ≠ 0 → WF (shp ad (K)) ad cs g2)) ∧ (∀ j, j ≠ 214 ∧ j ≠ 215 ∧ j ≠ 216 → g2 j = g j) ∧ ((sl.toInt < 0 ∨ 3 < sl.toInt ∨ wd.toInt < 0 ∨ 3 < wd.toInt ∨ 60 < nn.toInt → r.toInt = -2) ∧ (0 ≤ sl.toInt ∧ sl.toInt ≤ 3 ∧ 0 ≤ wd.toInt ∧ wd.toInt ≤ 3 ∧ nn.toInt < 0 → r.toInt = -3) ∧ (0 ≤ sl.toInt ∧ sl.toInt ≤ 3 ∧ 0 ≤ wd.toInt ∧ wd.toInt ≤ 3 ∧ 0 ≤ nn.toInt ∧ nn.toInt ≤ 60 → r.toInt = 0))) := by
  refine Met.startS (cc := cX12_row) (maxL := 5) (ret := (some .int)) RX12 rfl (by decide) rfl (Nat.le_of_ble_eq_true rfl) ?_
  intro p e s m below meth c ls X Z hP hl
  have hx := X.1
  have hb := X.2.1
  have hS : va_S (wA ad 218) s.heap s.heap [] := va_S.rf
  have hA : ∀ i, i < 218 → wA ad 218 (ad i) := fun i h => ⟨i, h, rfl⟩
  have hfr : ∀ j, j ≠ 214 ∧ j ≠ 215 ∧ j ≠ 216 → g j = g j := fun _ _ => rfl
  have hl : lv_has ls 5 [(0, .ref (ad 197)), (1, .int sl), (2, .int wd), (3, .int nn)] := hl
  refine lv_iload_n hx hb dX12_row_0 rfl (lv_at hl 1 rfl) ?_
  refine s_callSi (As := [.int sl]) (rest := []) X Z (s_X12_isSlot l D cs ad kS K hKO hj g hW sl) (cwS 1 X.2.2.2.2.1 gg_X12_row_X12_isSlot rfl rfl rfl (by decide +kernel) ⟨Nat.le_of_ble_eq_true rfl, Nat.le_of_ble_eq_true rfl⟩) hP hA hS.2.1 hS rfl hl.1 rfl (Nat.le_of_ble_eq_true rfl) dX12_row_1 ⟨Nat.le_of_ble_eq_true rfl, Nat.le_of_ble_eq_true rfl⟩ (fun r_3 g_2 H locs hw_1 hP hS => ?_)
  obtain ⟨hw_1g, hw_1⟩ := hw_1
  rw [hw_1g] at hP
  have HJ25 : ∀ (G25 : Nat → va_E) (H : Heap) (locs : List Loc) (ls : Array Slot), (sl.toInt < 0 ∨ 3 < sl.toInt ∨ wd.toInt < 0 ∨ 3 < wd.toInt ∨ 60 < nn.toInt) → WF (shp ad K) ad cs G25 → (∀ j, j ≠ 214 ∧ j ≠ 215 ∧ j ≠ 216 → G25 j = g j) → va_P D vwCl (wL ad G25 218) H → va_S (wA ad 218) s.heap H locs → lv_has ls 5 [] → W p l e ({ frames := 2, cells := 0, slots := 0, locals := 45 } : Room) s m ([.ref (ad 197), .int sl, .int wd, .int nn] : List Value).toArray below meth c H locs 0 0 (MQ below (qI D ad 218 (fun r g2 => ((r.toInt = 0 → WF (shp ad (kWidR (kMany (K) sl.toNatClampNeg nn) sl.toNatClampNeg wd)) ad cs g2) ∧ (r.toInt ≠ 0 → WF (shp ad (K)) ad cs g2)) ∧ (∀ j, j ≠ 214 ∧ j ≠ 215 ∧ j ≠ 216 → g2 j = g j) ∧ ((sl.toInt < 0 ∨ 3 < sl.toInt ∨ wd.toInt < 0 ∨ 3 < wd.toInt ∨ 60 < nn.toInt → r.toInt = -2) ∧ (0 ≤ sl.toInt ∧ sl.toInt ≤ 3 ∧ 0 ≤ wd.toInt ∧ wd.toInt ≤ 3 ∧ nn.toInt < 0 → r.toInt = -3) ∧ (0 ≤ sl.toInt ∧ sl.toInt ≤ 3 ∧ 0 ≤ wd.toInt ∧ wd.toInt ≤ 3 ∧ 0 ≤ nn.toInt ∧ nn.toInt ≤ 60 → r.toInt = 0)))) ([.ref (ad 197), .int sl, .int wd, .int nn] : List Value).toArray s 0 0 (wA ad 218)) (F0 m 25 ls []) := by
    intro G25 H locs ls he25_0 hW25 hfr25 hP hS hl
    refine lv_bipush (v := (-2)) hx hb dX12_row_25 (by decide) ?_
    have hw0 : ((-2) : Int32).toInt = -2 := by decide
    have hr0 : ((-2) : Int32).toInt = -2 := by decide
    exact q_iret X hP hS ⟨⟨fun q => by exfalso; omega, fun _ => hW25⟩, hfr25, ⟨fun q0 => by omega, fun q0 => by omega, fun q0 => by omega⟩⟩ dX12_row_27
  refine lv_if_eq (tgt := 25) hx hb dX12_row_4 (by decide) (fun hc_4 => ?_) (fun hc_4 => ?_)
  · have hhc_4 := n_eq (rfl : r_3.toInt = r_3.toInt) (by decide : (0 : Int32).toInt = 0) hc_4
    exact HJ25 g _ _ ls (by omega) hW hfr hP hS (lv_sub hl [] rfl)
  · have hhc_4 := n_ne (rfl : r_3.toInt = r_3.toInt) (by decide : (0 : Int32).toInt = 0) hc_4
    refine lv_iload_n hx hb dX12_row_7 rfl (lv_at hl 2 rfl) ?_
    refine lv_i2l hx hb dX12_row_8 rfl ?_
    refine lv_topl (fun z_5 ez_5 => ?_)
    have hz_5 : z_5.toInt = wd.toInt := ez_5 ▸ j_of rfl
    have := n_hi wd
    have := n_lo wd
    refine lv_lconst (v := 0) hx hb dX12_row_9 (by decide) ?_
    refine lv_ldc2 (v := 3) hx hb X.2.2.2.2.2.1 (X.2.2.2.2.1 _ (List.mem_of_getElem? (i := 4) rfl)) dX12_row_10 ?_
    refine s_callSi (As := [.long z_5, .long 0, .long 3]) (rest := []) X Z (s_X12_in l D cs ad kS K hKO hj g hW z_5 0 3) (cwS 3 X.2.2.2.2.1 gg_X12_row_X12_in rfl rfl rfl (by decide +kernel) ⟨Nat.le_of_ble_eq_true rfl, Nat.le_of_ble_eq_true rfl⟩) hP hA hS.2.1 hS rfl hl.1 rfl (Nat.le_of_ble_eq_true rfl) dX12_row_13 ⟨Nat.le_of_ble_eq_true rfl, Nat.le_of_ble_eq_true rfl⟩ (fun r_8 g_7 H locs hw_6 hP hS => ?_)
    obtain ⟨hw_6g, hw_6⟩ := hw_6
    rw [hw_6g] at hP
    have hqk_9 : (0 : Int64).toInt = 0 := by decide
    have hqk_10 : (3 : Int64).toInt = 3 := by decide
    refine lv_if_eq (tgt := 25) hx hb dX12_row_16 (by decide) (fun hc_11 => ?_) (fun hc_11 => ?_)
    · have hhc_11 := n_eq (rfl : r_8.toInt = r_8.toInt) (by decide : (0 : Int32).toInt = 0) hc_11
      exact HJ25 g _ _ ls (by omega) hW hfr hP hS (lv_sub hl [] rfl)
    · have hhc_11 := n_ne (rfl : r_8.toInt = r_8.toInt) (by decide : (0 : Int32).toInt = 0) hc_11
      refine lv_iload_n hx hb dX12_row_19 rfl (lv_at hl 3 rfl) ?_
      refine lv_bipush (v := 60) hx hb dX12_row_20 (by decide) ?_
      refine lv_icmp_le (tgt := 28) hx hb dX12_row_22 (by decide) (fun hc_12 => ?_) (fun hc_12 => ?_)
      · have hhc_12 := n_le (rfl : nn.toInt = nn.toInt) (by decide : (60 : Int32).toInt = 60) hc_12
        refine lv_iload_n hx hb dX12_row_28 rfl (lv_at hl 3 rfl) ?_
        refine lv_if_ge (tgt := 35) hx hb dX12_row_29 (by decide) (fun hc_13 => ?_) (fun hc_13 => ?_)
        · have hhc_13 := n_le (by decide : (0 : Int32).toInt = 0) (rfl : nn.toInt = nn.toInt) hc_13
          refine lv_aload_n hx hb dX12_row_35 rfl (lv_at hl 0 rfl) ?_
          obtain ⟨fsc_14, hgc_14, hOc_14⟩ := hW.obj (i := 197) (by decide) (sh_197 ad K)
          have hk_15 := hOc_14.ref 36 rfl
          refine q_get X iX12_row_12 hP (by decide) hgc_14 rfl 36 (by decide) (List.mem_of_getElem? (i := 7) rfl) (v := .ref (ad 214)) hk_15 dX12_row_36 ?_
          refine lv_iload_n hx hb dX12_row_39 rfl (lv_at hl 1 rfl) ?_
          refine lv_iload_n hx hb dX12_row_40 rfl (lv_at hl 3 rfl) ?_
          obtain ⟨fc_16, hgc_16, hFc_16⟩ := hW.arr (i := 214) (by decide) (sh_214 ad K)
          refine s_iastK (Sh' := shp ad (kMany K sl.toNatClampNeg nn)) X hP hj hA hS (by decide) hgc_16 (n_in (rfl : sl.toInt = sl.toInt) (by omega) (by omega)) dX12_row_41 hW sx_many (sh_214 ad _) (rP.upK hFc_16) (fun fc_17 gc_17 H locs ec_17 hFc_17 hgc_17 hfc_17 hWc_17 hP hS => ?_)
          have hKOKn_18 : KO (kMany K sl.toNatClampNeg nn) := hKO.many (by omega) (by omega)
          have hg_20 := (hfc_17 197 (by decide)).trans hgc_14
          have hfr_19 : ∀ j, j ≠ 214 ∧ j ≠ 215 ∧ j ≠ 216 → gc_17 j = g j := fun j hj => (hfc_17 j (by omega)).trans (hfr j hj)
          refine lv_aload_n hx hb dX12_row_42 rfl (lv_at hl 0 rfl) ?_
          have hk_21 := hOc_14.ref 37 rfl
          refine q_get X iX12_row_12 hP (by decide) hg_20 rfl 37 (by decide) (List.mem_of_getElem? (i := 8) rfl) (v := .ref (ad 215)) hk_21 dX12_row_43 ?_
          refine lv_iload_n hx hb dX12_row_46 rfl (lv_at hl 1 rfl) ?_
          refine lv_iload_n hx hb dX12_row_47 rfl (lv_at hl 2 rfl) ?_
          obtain ⟨fc_22, hgc_22, hFc_22⟩ := hWc_17.arr (i := 215) (by decide) (sh_215 ad (kMany K sl.toNatClampNeg nn))
          refine s_iastK (Sh' := shp ad (kWidR (kMany K sl.toNatClampNeg nn) sl.toNatClampNeg wd)) X hP hj hA hS (by decide) hgc_22 (n_in (rfl : sl.toInt = sl.toInt) (by omega) (by omega)) dX12_row_48 hWc_17 sx_widR (sh_215 ad _) (rP.upK hFc_22) (fun fc_23 gc_23 H locs ec_23 hFc_23 hgc_23 hfc_23 hWc_23 hP hS => ?_)
          have hKOKn_24 : KO (kWidR (kMany K sl.toNatClampNeg nn) sl.toNatClampNeg wd) := hKOKn_18.widR (by omega) (by omega)
          have hg_26 := (hfc_23 197 (by decide)).trans hg_20
          have hg_27 := (hfc_23 214 (by decide)).trans hgc_17
          have hfr_25 : ∀ j, j ≠ 214 ∧ j ≠ 215 ∧ j ≠ 216 → gc_23 j = g j := fun j hj => (hfc_23 j (by omega)).trans (hfr_19 j hj)
          refine lv_iconst (v := 0) hx hb dX12_row_49 (by decide) ?_
          refine lv_istore (lv' := [(4, .int 0), (0, .ref (ad 197)), (1, .int sl), (2, .int wd), (3, .int nn)]) hx hb dX12_row_50 hl (by decide) rfl (fun ls hl => ?_)
          have HL52 : ∀ (n52 : Nat) (v52_4 : Int32) (G52 : Nat → va_E) (H : Heap) (locs : List Loc) (ls : Array Slot), (60 - v52_4.toInt).toNat < n52 → (0 ≤ v52_4.toInt ∧ v52_4.toInt ≤ 60) → WF (shp ad (kWidR (kMany K sl.toNatClampNeg nn) sl.toNatClampNeg wd)) ad cs G52 → (∀ j, j ≠ 214 ∧ j ≠ 215 ∧ j ≠ 216 → G52 j = g j) → va_P D vwCl (wL ad G52 218) H → va_S (wA ad 218) s.heap H locs → lv_has ls 5 [(4, .int v52_4), (0, .ref (ad 197)), (1, .int sl)] → W p l e ({ frames := 2, cells := 0, slots := 0, locals := 45 } : Room) s m ([.ref (ad 197), .int sl, .int wd, .int nn] : List Value).toArray below meth c H locs 0 0 (MQ below (qI D ad 218 (fun r g2 => ((r.toInt = 0 → WF (shp ad (kWidR (kMany (K) sl.toNatClampNeg nn) sl.toNatClampNeg wd)) ad cs g2) ∧ (r.toInt ≠ 0 → WF (shp ad (K)) ad cs g2)) ∧ (∀ j, j ≠ 214 ∧ j ≠ 215 ∧ j ≠ 216 → g2 j = g j) ∧ ((sl.toInt < 0 ∨ 3 < sl.toInt ∨ wd.toInt < 0 ∨ 3 < wd.toInt ∨ 60 < nn.toInt → r.toInt = -2) ∧ (0 ≤ sl.toInt ∧ sl.toInt ≤ 3 ∧ 0 ≤ wd.toInt ∧ wd.toInt ≤ 3 ∧ nn.toInt < 0 → r.toInt = -3) ∧ (0 ≤ sl.toInt ∧ sl.toInt ≤ 3 ∧ 0 ≤ wd.toInt ∧ wd.toInt ≤ 3 ∧ 0 ≤ nn.toInt ∧ nn.toInt ≤ 60 → r.toInt = 0)))) ([.ref (ad 197), .int sl, .int wd, .int nn] : List Value).toArray s 0 0 (wA ad 218)) (F0 m 52 ls []) := by
            intro n52
            induction n52 with
            | zero =>
              intro v52_4 G52 H locs ls hm52 hv52_0 hW52 hfr52 hP hS hl
              exact absurd hm52 (Nat.not_lt_zero _)
            | succ n52 ih52 =>
              intro v52_4 G52 H locs ls hm52 hv52_0 hW52 hfr52 hP hS hl
              refine lv_iload hx hb dX12_row_52 (lv_at hl 0 rfl) ?_
              refine lv_bipush (v := 60) hx hb dX12_row_54 (by decide) ?_
              refine lv_icmp_ge (tgt := 78) hx hb dX12_row_56 (by decide) (fun hc_28 => ?_) (fun hc_28 => ?_)
              · have hhc_28 := n_le (by decide : (60 : Int32).toInt = 60) (rfl : v52_4.toInt = v52_4.toInt) hc_28
                refine lv_iconst (v := 0) hx hb dX12_row_78 (by decide) ?_
                have hw0 : (0 : Int32).toInt = 0 := by decide
                have hr0 : (0 : Int32).toInt = 0 := by decide
                exact q_iret X hP hS ⟨⟨fun _ => hW52, fun q => by exfalso; omega⟩, hfr52, ⟨fun q0 => by omega, fun q0 => by omega, fun q0 => by omega⟩⟩ dX12_row_79
              · have hhc_28 := n_nle (by decide : (60 : Int32).toInt = 60) (rfl : v52_4.toInt = v52_4.toInt) hc_28
                refine lv_aload_n hx hb dX12_row_59 rfl (lv_at hl 1 rfl) ?_
                obtain ⟨fsc_29, hgc_29, hOc_29⟩ := hW52.obj (i := 197) (by decide) (sh_197 ad (kWidR (kMany K sl.toNatClampNeg nn) sl.toNatClampNeg wd))
                have hk_30 := hOc_29.ref 38 rfl
                refine q_get X iX12_row_12 hP (by decide) hgc_29 rfl 38 (by decide) (List.mem_of_getElem? (i := 9) rfl) (v := .ref (ad 216)) hk_30 dX12_row_60 ?_
                refine lv_bipush (v := 60) hx hb dX12_row_63 (by decide) ?_
                refine lv_iload_n hx hb dX12_row_65 rfl (lv_at hl 2 rfl) ?_
                refine lv_imul hx hb dX12_row_66 ?_
                refine lv_topi (fun z_31 ez_31 => ?_)
                have hz_31 : z_31.toInt = 60 * sl.toInt := n_mul (by decide : (60 : Int32).toInt = 60) (rfl : sl.toInt = sl.toInt) ez_31 (by omega) (by omega)
                refine lv_iload hx hb dX12_row_67 (lv_at hl 0 rfl) ?_
                refine lv_iadd hx hb dX12_row_69 ?_
                refine lv_topi (fun z_32 ez_32 => ?_)
                have hz_32 : z_32.toInt = z_31.toInt + v52_4.toInt := n_add (rfl : z_31.toInt = z_31.toInt) (rfl : v52_4.toInt = v52_4.toInt) ez_32 (by omega) (by omega)
                refine lv_lconst (v := 0) hx hb dX12_row_70 (by decide) ?_
                obtain ⟨fc_33, hgc_33, hFc_33⟩ := hW52.arj (i := 216) (by decide) (sh_216 ad (kWidR (kMany K sl.toNatClampNeg nn) sl.toNatClampNeg wd))
                refine s_last X hP hj hA hS (by decide) hgc_33 (n_in (rfl : z_32.toInt = z_32.toInt) (by omega) (by omega)) dX12_row_71 hW52 (sh_216 ad (kWidR (kMany K sl.toNatClampNeg nn) sl.toNatClampNeg wd)) (hFc_33.put trivial) (fun fc_34 gc_34 H locs ec_34 hFc_34 hgc_34 hfc_34 hWc_34 hP hS => ?_)
                have hg_36 := (hfc_34 197 (by decide)).trans hgc_29
                have hfr_35 : ∀ j, j ≠ 214 ∧ j ≠ 215 ∧ j ≠ 216 → gc_34 j = g j := fun j hj => (hfc_34 j (by omega)).trans (hfr52 j hj)
                obtain ⟨x_37, ex_37⟩ : ∃ y : Int32, y = v52_4 + 1 := ⟨_, rfl⟩
                have hx_37 : x_37.toInt = v52_4.toInt + 1 := n_add rfl (by decide : (1 : Int32).toInt = 1) ex_37 (by omega) (by omega)
                refine lv_iinc (v := x_37) (lv' := [(4, .int x_37), (0, .ref (ad 197)), (1, .int sl)]) hx hb dX12_row_72 hl (k := 0) rfl (by rw [ex_37]; rfl) (by decide) rfl (fun ls hl => ?_)
                refine lv_goto (tgt := 52) hx hb dX12_row_75 (by decide) ?_
                exact ih52 x_37 gc_34 _ _ ls (by omega) (by omega) hWc_34 hfr_35 hP hS (lv_sub hl [0, 1, 2] rfl)
          have hiv52_4 : (0 : Int32).toInt = 0 := by decide
          exact HL52 _ 0 gc_23 _ _ ls (Nat.lt_succ_self _) (by omega) hWc_23 hfr_25 hP hS (lv_sub hl [0, 1, 2] rfl)
        · have hhc_13 := n_nle (by decide : (0 : Int32).toInt = 0) (rfl : nn.toInt = nn.toInt) hc_13
          refine lv_bipush (v := (-3)) hx hb dX12_row_32 (by decide) ?_
          have hw0 : ((-3) : Int32).toInt = -3 := by decide
          have hr0 : ((-3) : Int32).toInt = -3 := by decide
          exact q_iret X hP hS ⟨⟨fun q => by exfalso; omega, fun _ => hW⟩, hfr, ⟨fun q0 => by omega, fun q0 => by omega, fun q0 => by omega⟩⟩ dX12_row_34
      · have hhc_12 := n_nle (rfl : nn.toInt = nn.toInt) (by decide : (60 : Int32).toInt = 60) hc_12
        exact HJ25 g _ _ ls (by omega) hW hfr hP hS (lv_sub hl [] rfl)

theorem dX12_write_0 : decode cX12_write 0 = .ok (.iload_n 1, 1) := by decide +kernel
theorem dX12_write_1 : decode cX12_write 1 = .ok (.invokestatic 307, 3) := by decide +kernel
theorem dX12_write_4 : decode cX12_write 4 = .ok (.ifCond .ne 6, 3) := by decide +kernel
theorem dX12_write_7 : decode cX12_write 7 = .ok (.bipush (-2), 2) := by decide +kernel
theorem dX12_write_9 : decode cX12_write 9 = .ok (.ireturn, 1) := by decide +kernel
theorem dX12_write_10 : decode cX12_write 10 = .ok (.aload_n 0, 1) := by decide +kernel
theorem dX12_write_11 : decode cX12_write 11 = .ok (.getfield 65, 3) := by decide +kernel
theorem dX12_write_14 : decode cX12_write 14 = .ok (.iload_n 1, 1) := by decide +kernel
theorem dX12_write_15 : decode cX12_write 15 = .ok (.iaload, 1) := by decide +kernel
theorem dX12_write_16 : decode cX12_write 16 = .ok (.iconst (-1), 1) := by decide +kernel
theorem dX12_write_17 : decode cX12_write 17 = .ok (.if_icmp .ne 6, 3) := by decide +kernel
theorem dX12_write_20 : decode cX12_write 20 = .ok (.bipush (-6), 2) := by decide +kernel
theorem dX12_write_22 : decode cX12_write 22 = .ok (.ireturn, 1) := by decide +kernel
theorem dX12_write_23 : decode cX12_write 23 = .ok (.iload_n 2, 1) := by decide +kernel
theorem dX12_write_24 : decode cX12_write 24 = .ok (.i2l, 1) := by decide +kernel
theorem dX12_write_25 : decode cX12_write 25 = .ok (.lconst 0, 1) := by decide +kernel
theorem dX12_write_26 : decode cX12_write 26 = .ok (.aload_n 0, 1) := by decide +kernel
theorem dX12_write_27 : decode cX12_write 27 = .ok (.getfield 65, 3) := by decide +kernel
theorem dX12_write_30 : decode cX12_write 30 = .ok (.iload_n 1, 1) := by decide +kernel
theorem dX12_write_31 : decode cX12_write 31 = .ok (.iaload, 1) := by decide +kernel
theorem dX12_write_32 : decode cX12_write 32 = .ok (.iconst 1, 1) := by decide +kernel
theorem dX12_write_33 : decode cX12_write 33 = .ok (.isub, 1) := by decide +kernel
theorem dX12_write_34 : decode cX12_write 34 = .ok (.i2l, 1) := by decide +kernel
theorem dX12_write_35 : decode cX12_write 35 = .ok (.invokestatic 82, 3) := by decide +kernel
theorem dX12_write_38 : decode cX12_write 38 = .ok (.ifCond .ne 6, 3) := by decide +kernel
theorem dX12_write_41 : decode cX12_write 41 = .ok (.bipush (-7), 2) := by decide +kernel
theorem dX12_write_43 : decode cX12_write 43 = .ok (.ireturn, 1) := by decide +kernel
theorem dX12_write_44 : decode cX12_write 44 = .ok (.aload_n 0, 1) := by decide +kernel
theorem dX12_write_45 : decode cX12_write 45 = .ok (.getfield 71, 3) := by decide +kernel
theorem dX12_write_48 : decode cX12_write 48 = .ok (.bipush 60, 2) := by decide +kernel
theorem dX12_write_50 : decode cX12_write 50 = .ok (.iload_n 1, 1) := by decide +kernel
theorem dX12_write_51 : decode cX12_write 51 = .ok (.imul, 1) := by decide +kernel
theorem dX12_write_52 : decode cX12_write 52 = .ok (.iload_n 2, 1) := by decide +kernel
theorem dX12_write_53 : decode cX12_write 53 = .ok (.iadd, 1) := by decide +kernel
theorem dX12_write_54 : decode cX12_write 54 = .ok (.lload_n 3, 1) := by decide +kernel
theorem dX12_write_55 : decode cX12_write 55 = .ok (.aload_n 0, 1) := by decide +kernel
theorem dX12_write_56 : decode cX12_write 56 = .ok (.getfield 68, 3) := by decide +kernel
theorem dX12_write_59 : decode cX12_write 59 = .ok (.iload_n 1, 1) := by decide +kernel
theorem dX12_write_60 : decode cX12_write 60 = .ok (.iaload, 1) := by decide +kernel
theorem dX12_write_61 : decode cX12_write 61 = .ok (.invokestatic 433, 3) := by decide +kernel
theorem dX12_write_64 : decode cX12_write 64 = .ok (.lastore, 1) := by decide +kernel
theorem dX12_write_65 : decode cX12_write 65 = .ok (.iconst 0, 1) := by decide +kernel
theorem dX12_write_66 : decode cX12_write 66 = .ok (.ireturn, 1) := by decide +kernel
noncomputable def vX12_write : List Cond := .code yX12_write cX12_write 5 (some .int) :: (([.methodLink RX12 307 yX12_isSlot, .static yX12_isSlot, .initialized RX12, .fieldLink RX12 65 "IcicleClockModel" "many" "[I", .methodLink RX12 82 yX12_in, .static yX12_in, .fieldLink RX12 71 "IcicleClockModel" "numbers" "[J", .fieldLink RX12 68 "IcicleClockModel" "width" "[I", .methodLink RX12 433 yX12_cut, .static yX12_cut] : List Cond) ++ (wsX120 ++ (vX12_isSlot ++ (vX12_in ++ vX12_cut))))
theorem iX12_write_12 : ∀ w ∈ wsX120, w ∈ vX12_write := fun _ h => List.mem_cons_of_mem _ (List.mem_append_right _ (List.mem_append_left _ h))
theorem gs_X12_write : Gd vX12_write := Gd.cons (by decide +kernel) (Gd.app (Gd.r (by decide +kernel)) (Gd.app gwX_12 (Gd.app gs_X12_isSlot (Gd.app gs_X12_in gs_X12_cut))))
theorem gg_X12_write_X12_isSlot : GoodIn vX12_write (wsS RX12 307 yX12_isSlot vX12_isSlot) := goodIn_app (goodIn_r _ [1, 2, 3] (by decide +kernel) (by decide +kernel)) (fun w h => ⟨List.mem_cons_of_mem _ (List.mem_append_right _ (List.mem_append_right _ (List.mem_append_left _ h))), gs_X12_isSlot w h⟩)
theorem gg_X12_write_X12_in : GoodIn vX12_write (wsS RX12 82 yX12_in vX12_in) := goodIn_app (goodIn_r _ [5, 6, 3] (by decide +kernel) (by decide +kernel)) (fun w h => ⟨List.mem_cons_of_mem _ (List.mem_append_right _ (List.mem_append_right _ (List.mem_append_right _ (List.mem_append_left _ h)))), gs_X12_in w h⟩)
theorem gg_X12_write_X12_cut : GoodIn vX12_write (wsS RX12 433 yX12_cut vX12_cut) := goodIn_app (goodIn_r _ [9, 10, 3] (by decide +kernel) (by decide +kernel)) (fun w h => ⟨List.mem_cons_of_mem _ (List.mem_append_right _ (List.mem_append_right _ (List.mem_append_right _ (List.mem_append_right _ (h))))), gs_X12_cut w h⟩)
set_option maxHeartbeats 4000000 in
set_option maxRecDepth 100000 in
theorem s_X12_write (l : Launch) (D : va_G) (cs : Nat → ClassId) (ad : Nat → Nat) (kS : kSt) (K : sK) (hKO : KO K) (hj : wJ ad 218) (g : Nat → va_E) (hW : WF (shp ad K) ad cs g) (sl : Int32) (ix : Int32) (vv : Int64) : sI l yX12_write vX12_write { frames := 2, cells := 0, slots := 0, locals := 45 } D cs ad kS [.ref (ad 197), .int sl, .int ix, .long vv] g (fun r g2 => WF (shp ad K) ad cs g2 ∧ (∀ j, j ≠ 216 → g2 j = g j) ∧ ((sl.toInt < 0 ∨ 3 < sl.toInt → r.toInt = -2) ∧ (0 ≤ sl.toInt ∧ sl.toInt ≤ 3 → (K.2.2.2.2.1 sl.toNatClampNeg).toInt = -1 → r.toInt = -6) ∧ (0 ≤ sl.toInt ∧ sl.toInt ≤ 3 → ¬ (K.2.2.2.2.1 sl.toNatClampNeg).toInt = -1 → ix.toInt < 0 ∨ (K.2.2.2.2.1 sl.toNatClampNeg).toInt ≤ ix.toInt → r.toInt = -7) ∧ (0 ≤ sl.toInt ∧ sl.toInt ≤ 3 → ¬ (K.2.2.2.2.1 sl.toNatClampNeg).toInt = -1 → 0 ≤ ix.toInt ∧ ix.toInt < (K.2.2.2.2.1 sl.toNatClampNeg).toInt → r.toInt = 0))) := by
  refine Met.startS (cc := cX12_write) (maxL := 5) (ret := (some .int)) RX12 rfl (by decide) rfl (Nat.le_of_ble_eq_true rfl) ?_
  intro p e s m below meth c ls X Z hP hl
  have hx := X.1
  have hb := X.2.1
  have hS : va_S (wA ad 218) s.heap s.heap [] := va_S.rf
  have hA : ∀ i, i < 218 → wA ad 218 (ad i) := fun i h => ⟨i, h, rfl⟩
  have hfr : ∀ j, j ≠ 216 → g j = g j := fun _ _ => rfl
  have hl : lv_has ls 5 [(0, .ref (ad 197)), (1, .int sl), (2, .int ix), (3, .long vv)] := hl
  refine lv_iload_n hx hb dX12_write_0 rfl (lv_at hl 1 rfl) ?_
  refine s_callSi (As := [.int sl]) (rest := []) X Z (s_X12_isSlot l D cs ad kS K hKO hj g hW sl) (cwS 1 X.2.2.2.2.1 gg_X12_write_X12_isSlot rfl rfl rfl (by decide +kernel) ⟨Nat.le_of_ble_eq_true rfl, Nat.le_of_ble_eq_true rfl⟩) hP hA hS.2.1 hS rfl hl.1 rfl (Nat.le_of_ble_eq_true rfl) dX12_write_1 ⟨Nat.le_of_ble_eq_true rfl, Nat.le_of_ble_eq_true rfl⟩ (fun r_3 g_2 H locs hw_1 hP hS => ?_)
  obtain ⟨hw_1g, hw_1⟩ := hw_1
  rw [hw_1g] at hP
  refine lv_if_ne (tgt := 10) hx hb dX12_write_4 (by decide) (fun hc_4 => ?_) (fun hc_4 => ?_)
  · have hhc_4 := n_ne (rfl : r_3.toInt = r_3.toInt) (by decide : (0 : Int32).toInt = 0) hc_4
    refine lv_aload_n hx hb dX12_write_10 rfl (lv_at hl 0 rfl) ?_
    obtain ⟨fsc_5, hgc_5, hOc_5⟩ := hW.obj (i := 197) (by decide) (sh_197 ad K)
    have hk_6 := hOc_5.ref 36 rfl
    refine q_get X iX12_write_12 hP (by decide) hgc_5 rfl 36 (by decide) (List.mem_of_getElem? (i := 4) rfl) (v := .ref (ad 214)) hk_6 dX12_write_11 ?_
    refine lv_iload_n hx hb dX12_write_14 rfl (lv_at hl 1 rfl) ?_
    obtain ⟨fc_7, hgc_7, hFc_7⟩ := hW.arr (i := 214) (by decide) (sh_214 ad K)
    refine q_iald X hP (by decide) hgc_7 (n_in (rfl : sl.toInt = sl.toInt) (by omega) (by omega)) dX12_write_15 ?_
    refine lv_topi (fun z_8 ez_8 => ?_)
    have hqz_8 : z_8.toInt = (K.2.2.2.2.1 (sl.toNatClampNeg)).toInt := ez_8 ▸ hFc_7 _
    have hcz_8 := n_cl (rfl : sl.toInt = sl.toInt) (by omega)
    have hKOz_8 := hKO (sl.toNatClampNeg)
    have hz_8 : -1 ≤ z_8.toInt ∧ z_8.toInt ≤ 60 := by omega
    refine lv_iconst (v := (-1)) hx hb dX12_write_16 (by decide) ?_
    refine lv_icmp_ne (tgt := 23) hx hb dX12_write_17 (by decide) (fun hc_9 => ?_) (fun hc_9 => ?_)
    · have hhc_9 := n_ne (rfl : z_8.toInt = z_8.toInt) (by decide : (-1 : Int32).toInt = -1) hc_9
      refine lv_iload_n hx hb dX12_write_23 rfl (lv_at hl 2 rfl) ?_
      refine lv_i2l hx hb dX12_write_24 rfl ?_
      refine lv_topl (fun z_10 ez_10 => ?_)
      have hz_10 : z_10.toInt = ix.toInt := ez_10 ▸ j_of rfl
      have := n_hi ix
      have := n_lo ix
      refine lv_lconst (v := 0) hx hb dX12_write_25 (by decide) ?_
      refine lv_aload_n hx hb dX12_write_26 rfl (lv_at hl 0 rfl) ?_
      refine q_get X iX12_write_12 hP (by decide) hgc_5 rfl 36 (by decide) (List.mem_of_getElem? (i := 4) rfl) (v := .ref (ad 214)) hk_6 dX12_write_27 ?_
      refine lv_iload_n hx hb dX12_write_30 rfl (lv_at hl 1 rfl) ?_
      refine q_iald X hP (by decide) hgc_7 (n_in (rfl : sl.toInt = sl.toInt) (by omega) (by omega)) dX12_write_31 ?_
      refine lv_topi (fun z_11 ez_11 => ?_)
      have hqz_11 : z_11.toInt = (K.2.2.2.2.1 (sl.toNatClampNeg)).toInt := ez_11 ▸ hFc_7 _
      have hcz_11 := n_cl (rfl : sl.toInt = sl.toInt) (by omega)
      have hKOz_11 := hKO (sl.toNatClampNeg)
      have hz_11 : -1 ≤ z_11.toInt ∧ z_11.toInt ≤ 60 := by omega
      have hsz_11 : z_11.toInt = z_8.toInt := by rw [ez_11, ez_8]
      refine lv_iconst (v := 1) hx hb dX12_write_32 (by decide) ?_
      refine lv_isub hx hb dX12_write_33 ?_
      refine lv_topi (fun z_12 ez_12 => ?_)
      have hz_12 : z_12.toInt = z_11.toInt - 1 := n_sub (rfl : z_11.toInt = z_11.toInt) (by decide : (1 : Int32).toInt = 1) ez_12 (by omega) (by omega)
      refine lv_i2l hx hb dX12_write_34 rfl ?_
      refine lv_topl (fun z_13 ez_13 => ?_)
      have hz_13 : z_13.toInt = z_12.toInt := ez_13 ▸ j_of rfl
      refine s_callSi (As := [.long z_10, .long 0, .long z_13]) (rest := []) X Z (s_X12_in l D cs ad kS K hKO hj g hW z_10 0 z_13) (cwS 3 X.2.2.2.2.1 gg_X12_write_X12_in rfl rfl rfl (by decide +kernel) ⟨Nat.le_of_ble_eq_true rfl, Nat.le_of_ble_eq_true rfl⟩) hP hA hS.2.1 hS rfl hl.1 rfl (Nat.le_of_ble_eq_true rfl) dX12_write_35 ⟨Nat.le_of_ble_eq_true rfl, Nat.le_of_ble_eq_true rfl⟩ (fun r_16 g_15 H locs hw_14 hP hS => ?_)
      obtain ⟨hw_14g, hw_14⟩ := hw_14
      rw [hw_14g] at hP
      have hqk_17 : (0 : Int64).toInt = 0 := by decide
      refine lv_if_ne (tgt := 44) hx hb dX12_write_38 (by decide) (fun hc_18 => ?_) (fun hc_18 => ?_)
      · have hhc_18 := n_ne (rfl : r_16.toInt = r_16.toInt) (by decide : (0 : Int32).toInt = 0) hc_18
        refine lv_aload_n hx hb dX12_write_44 rfl (lv_at hl 0 rfl) ?_
        have hk_19 := hOc_5.ref 38 rfl
        refine q_get X iX12_write_12 hP (by decide) hgc_5 rfl 38 (by decide) (List.mem_of_getElem? (i := 7) rfl) (v := .ref (ad 216)) hk_19 dX12_write_45 ?_
        refine lv_bipush (v := 60) hx hb dX12_write_48 (by decide) ?_
        refine lv_iload_n hx hb dX12_write_50 rfl (lv_at hl 1 rfl) ?_
        refine lv_imul hx hb dX12_write_51 ?_
        refine lv_topi (fun z_20 ez_20 => ?_)
        have hz_20 : z_20.toInt = 60 * sl.toInt := n_mul (by decide : (60 : Int32).toInt = 60) (rfl : sl.toInt = sl.toInt) ez_20 (by omega) (by omega)
        refine lv_iload_n hx hb dX12_write_52 rfl (lv_at hl 2 rfl) ?_
        refine lv_iadd hx hb dX12_write_53 ?_
        refine lv_topi (fun z_21 ez_21 => ?_)
        have hz_21 : z_21.toInt = z_20.toInt + ix.toInt := n_add (rfl : z_20.toInt = z_20.toInt) (rfl : ix.toInt = ix.toInt) ez_21 (by omega) (by omega)
        refine lv_lload_n hx hb dX12_write_54 rfl (lv_at hl 3 rfl) ?_
        refine lv_aload_n hx hb dX12_write_55 rfl (lv_at hl 0 rfl) ?_
        have hk_22 := hOc_5.ref 37 rfl
        refine q_get X iX12_write_12 hP (by decide) hgc_5 rfl 37 (by decide) (List.mem_of_getElem? (i := 8) rfl) (v := .ref (ad 215)) hk_22 dX12_write_56 ?_
        refine lv_iload_n hx hb dX12_write_59 rfl (lv_at hl 1 rfl) ?_
        obtain ⟨fc_23, hgc_23, hFc_23⟩ := hW.arr (i := 215) (by decide) (sh_215 ad K)
        refine q_iald X hP (by decide) hgc_23 (n_in (rfl : sl.toInt = sl.toInt) (by omega) (by omega)) dX12_write_60 ?_
        refine lv_topi (fun z_24 ez_24 => ?_)
        have hqz_24 : z_24.toInt = (K.2.2.2.2.2.1 (sl.toNatClampNeg)).toInt := ez_24 ▸ hFc_23 _
        have hcz_24 := n_cl (rfl : sl.toInt = sl.toInt) (by omega)
        have hKOz_24 := hKO (sl.toNatClampNeg)
        have hz_24 : 0 ≤ z_24.toInt ∧ z_24.toInt ≤ 3 := by omega
        refine s_callSj (As := [.long vv, .int z_24]) (rest := [.int z_21, .ref (ad 216)]) X Z (s_X12_cut l D cs ad kS K hKO hj g hW vv z_24) (cwS 2 X.2.2.2.2.1 gg_X12_write_X12_cut rfl rfl rfl (by decide +kernel) ⟨Nat.le_of_ble_eq_true rfl, Nat.le_of_ble_eq_true rfl⟩) hP hA hS.2.1 hS rfl hl.1 rfl (Nat.le_of_ble_eq_true rfl) dX12_write_61 ⟨Nat.le_of_ble_eq_true rfl, Nat.le_of_ble_eq_true rfl⟩ (fun r_27 g_26 H locs hw_25 hP hS => ?_)
        rw [hw_25] at hP
        obtain ⟨fc_28, hgc_28, hFc_28⟩ := hW.arj (i := 216) (by decide) (sh_216 ad K)
        refine s_last X hP hj hA hS (by decide) hgc_28 (n_in (rfl : z_21.toInt = z_21.toInt) (by omega) (by omega)) dX12_write_64 hW (sh_216 ad K) (hFc_28.put trivial) (fun fc_29 gc_29 H locs ec_29 hFc_29 hgc_29 hfc_29 hWc_29 hP hS => ?_)
        have hg_31 := (hfc_29 197 (by decide)).trans hgc_5
        have hg_32 := (hfc_29 214 (by decide)).trans hgc_7
        have hg_33 := (hfc_29 215 (by decide)).trans hgc_23
        have hfr_30 : ∀ j, j ≠ 216 → gc_29 j = g j := fun j hj => (hfc_29 j (by omega)).trans (hfr j hj)
        refine lv_iconst (v := 0) hx hb dX12_write_65 (by decide) ?_
        have hr0 : (0 : Int32).toInt = 0 := by decide
        exact q_iret X hP hS ⟨hWc_29, hfr_30, ⟨fun q0 => by omega, fun q0 q1 => by omega, fun q0 q1 q2 => by omega, fun q0 q1 q2 => by omega⟩⟩ dX12_write_66
      · have hhc_18 := n_eq (rfl : r_16.toInt = r_16.toInt) (by decide : (0 : Int32).toInt = 0) hc_18
        refine lv_bipush (v := (-7)) hx hb dX12_write_41 (by decide) ?_
        have hr0 : ((-7) : Int32).toInt = -7 := by decide
        exact q_iret X hP hS ⟨hW, hfr, ⟨fun q0 => by omega, fun q0 q1 => by omega, fun q0 q1 q2 => by omega, fun q0 q1 q2 => by omega⟩⟩ dX12_write_43
    · have hhc_9 := n_eq (rfl : z_8.toInt = z_8.toInt) (by decide : (-1 : Int32).toInt = -1) hc_9
      refine lv_bipush (v := (-6)) hx hb dX12_write_20 (by decide) ?_
      have hr0 : ((-6) : Int32).toInt = -6 := by decide
      exact q_iret X hP hS ⟨hW, hfr, ⟨fun q0 => by omega, fun q0 q1 => by omega, fun q0 q1 q2 => by omega, fun q0 q1 q2 => by omega⟩⟩ dX12_write_22
  · have hhc_4 := n_eq (rfl : r_3.toInt = r_3.toInt) (by decide : (0 : Int32).toInt = 0) hc_4
    refine lv_bipush (v := (-2)) hx hb dX12_write_7 (by decide) ?_
    have hr0 : ((-2) : Int32).toInt = -2 := by decide
    exact q_iret X hP hS ⟨hW, hfr, ⟨fun q0 => by omega, fun q0 q1 => by omega, fun q0 q1 q2 => by omega, fun q0 q1 q2 => by omega⟩⟩ dX12_write_9

theorem dX12_paste_0 : decode cX12_paste 0 = .ok (.iload_n 1, 1) := by decide +kernel
theorem dX12_paste_1 : decode cX12_paste 1 = .ok (.invokestatic 307, 3) := by decide +kernel
theorem dX12_paste_4 : decode cX12_paste 4 = .ok (.ifCond .eq 10, 3) := by decide +kernel
theorem dX12_paste_7 : decode cX12_paste 7 = .ok (.iload_n 3, 1) := by decide +kernel
theorem dX12_paste_8 : decode cX12_paste 8 = .ok (.invokestatic 307, 3) := by decide +kernel
theorem dX12_paste_11 : decode cX12_paste 11 = .ok (.ifCond .ne 6, 3) := by decide +kernel
theorem dX12_paste_17 : decode cX12_paste 17 = .ok (.aload_n 0, 1) := by decide +kernel
theorem dX12_paste_18 : decode cX12_paste 18 = .ok (.getfield 65, 3) := by decide +kernel
theorem dX12_paste_21 : decode cX12_paste 21 = .ok (.iload_n 1, 1) := by decide +kernel
theorem dX12_paste_22 : decode cX12_paste 22 = .ok (.iaload, 1) := by decide +kernel
theorem dX12_paste_23 : decode cX12_paste 23 = .ok (.iconst (-1), 1) := by decide +kernel
theorem dX12_paste_24 : decode cX12_paste 24 = .ok (.if_icmp .eq 13, 3) := by decide +kernel
theorem dX12_paste_27 : decode cX12_paste 27 = .ok (.aload_n 0, 1) := by decide +kernel
theorem dX12_paste_28 : decode cX12_paste 28 = .ok (.getfield 65, 3) := by decide +kernel
theorem dX12_paste_31 : decode cX12_paste 31 = .ok (.iload_n 3, 1) := by decide +kernel
theorem dX12_paste_32 : decode cX12_paste 32 = .ok (.iaload, 1) := by decide +kernel
theorem dX12_paste_33 : decode cX12_paste 33 = .ok (.iconst (-1), 1) := by decide +kernel
theorem dX12_paste_34 : decode cX12_paste 34 = .ok (.if_icmp .ne 6, 3) := by decide +kernel
theorem dX12_paste_40 : decode cX12_paste 40 = .ok (.aload_n 0, 1) := by decide +kernel
theorem dX12_paste_41 : decode cX12_paste 41 = .ok (.getfield 68, 3) := by decide +kernel
theorem dX12_paste_44 : decode cX12_paste 44 = .ok (.iload_n 1, 1) := by decide +kernel
theorem dX12_paste_45 : decode cX12_paste 45 = .ok (.iaload, 1) := by decide +kernel
theorem dX12_paste_46 : decode cX12_paste 46 = .ok (.aload_n 0, 1) := by decide +kernel
theorem dX12_paste_47 : decode cX12_paste 47 = .ok (.getfield 68, 3) := by decide +kernel
theorem dX12_paste_50 : decode cX12_paste 50 = .ok (.iload_n 3, 1) := by decide +kernel
theorem dX12_paste_51 : decode cX12_paste 51 = .ok (.iaload, 1) := by decide +kernel
theorem dX12_paste_52 : decode cX12_paste 52 = .ok (.if_icmp .eq 6, 3) := by decide +kernel
theorem dX12_paste_55 : decode cX12_paste 55 = .ok (.bipush (-8), 2) := by decide +kernel
theorem dX12_paste_57 : decode cX12_paste 57 = .ok (.ireturn, 1) := by decide +kernel
theorem dX12_paste_58 : decode cX12_paste 58 = .ok (.iload_n 2, 1) := by decide +kernel
theorem dX12_paste_59 : decode cX12_paste 59 = .ok (.ifCond .lt 48, 3) := by decide +kernel
theorem dX12_paste_62 : decode cX12_paste 62 = .ok (.iload 4, 2) := by decide +kernel
theorem dX12_paste_64 : decode cX12_paste 64 = .ok (.ifCond .lt 43, 3) := by decide +kernel
theorem dX12_paste_67 : decode cX12_paste 67 = .ok (.iload 5, 2) := by decide +kernel
theorem dX12_paste_69 : decode cX12_paste 69 = .ok (.ifCond .lt 38, 3) := by decide +kernel
theorem dX12_paste_72 : decode cX12_paste 72 = .ok (.iload_n 2, 1) := by decide +kernel
theorem dX12_paste_73 : decode cX12_paste 73 = .ok (.i2l, 1) := by decide +kernel
theorem dX12_paste_74 : decode cX12_paste 74 = .ok (.iload 5, 2) := by decide +kernel
theorem dX12_paste_76 : decode cX12_paste 76 = .ok (.i2l, 1) := by decide +kernel
theorem dX12_paste_77 : decode cX12_paste 77 = .ok (.ladd, 1) := by decide +kernel
theorem dX12_paste_78 : decode cX12_paste 78 = .ok (.aload_n 0, 1) := by decide +kernel
theorem dX12_paste_79 : decode cX12_paste 79 = .ok (.getfield 65, 3) := by decide +kernel
theorem dX12_paste_82 : decode cX12_paste 82 = .ok (.iload_n 1, 1) := by decide +kernel
theorem dX12_paste_83 : decode cX12_paste 83 = .ok (.iaload, 1) := by decide +kernel
theorem dX12_paste_84 : decode cX12_paste 84 = .ok (.i2l, 1) := by decide +kernel
theorem dX12_paste_85 : decode cX12_paste 85 = .ok (.lcmp, 1) := by decide +kernel
theorem dX12_paste_86 : decode cX12_paste 86 = .ok (.ifCond .gt 21, 3) := by decide +kernel
theorem dX12_paste_89 : decode cX12_paste 89 = .ok (.iload 4, 2) := by decide +kernel
theorem dX12_paste_91 : decode cX12_paste 91 = .ok (.i2l, 1) := by decide +kernel
theorem dX12_paste_92 : decode cX12_paste 92 = .ok (.iload 5, 2) := by decide +kernel
theorem dX12_paste_94 : decode cX12_paste 94 = .ok (.i2l, 1) := by decide +kernel
theorem dX12_paste_95 : decode cX12_paste 95 = .ok (.ladd, 1) := by decide +kernel
theorem dX12_paste_96 : decode cX12_paste 96 = .ok (.aload_n 0, 1) := by decide +kernel
theorem dX12_paste_97 : decode cX12_paste 97 = .ok (.getfield 65, 3) := by decide +kernel
theorem dX12_paste_100 : decode cX12_paste 100 = .ok (.iload_n 3, 1) := by decide +kernel
theorem dX12_paste_101 : decode cX12_paste 101 = .ok (.iaload, 1) := by decide +kernel
theorem dX12_paste_102 : decode cX12_paste 102 = .ok (.i2l, 1) := by decide +kernel
theorem dX12_paste_103 : decode cX12_paste 103 = .ok (.lcmp, 1) := by decide +kernel
theorem dX12_paste_104 : decode cX12_paste 104 = .ok (.ifCond .le 6, 3) := by decide +kernel
theorem dX12_paste_110 : decode cX12_paste 110 = .ok (.iconst 0, 1) := by decide +kernel
theorem dX12_paste_111 : decode cX12_paste 111 = .ok (.istore 6, 2) := by decide +kernel
theorem dX12_paste_113 : decode cX12_paste 113 = .ok (.iload 6, 2) := by decide +kernel
theorem dX12_paste_115 : decode cX12_paste 115 = .ok (.iload 5, 2) := by decide +kernel
theorem dX12_paste_117 : decode cX12_paste 117 = .ok (.if_icmp .ge 30, 3) := by decide +kernel
theorem dX12_paste_120 : decode cX12_paste 120 = .ok (.aload_n 0, 1) := by decide +kernel
theorem dX12_paste_121 : decode cX12_paste 121 = .ok (.getfield 74, 3) := by decide +kernel
theorem dX12_paste_124 : decode cX12_paste 124 = .ok (.iload 6, 2) := by decide +kernel
theorem dX12_paste_126 : decode cX12_paste 126 = .ok (.aload_n 0, 1) := by decide +kernel
theorem dX12_paste_127 : decode cX12_paste 127 = .ok (.getfield 71, 3) := by decide +kernel
theorem dX12_paste_130 : decode cX12_paste 130 = .ok (.bipush 60, 2) := by decide +kernel
theorem dX12_paste_132 : decode cX12_paste 132 = .ok (.iload_n 1, 1) := by decide +kernel
theorem dX12_paste_133 : decode cX12_paste 133 = .ok (.imul, 1) := by decide +kernel
theorem dX12_paste_134 : decode cX12_paste 134 = .ok (.iload_n 2, 1) := by decide +kernel
theorem dX12_paste_135 : decode cX12_paste 135 = .ok (.iadd, 1) := by decide +kernel
theorem dX12_paste_136 : decode cX12_paste 136 = .ok (.iload 6, 2) := by decide +kernel
theorem dX12_paste_138 : decode cX12_paste 138 = .ok (.iadd, 1) := by decide +kernel
theorem dX12_paste_139 : decode cX12_paste 139 = .ok (.laload, 1) := by decide +kernel
theorem dX12_paste_140 : decode cX12_paste 140 = .ok (.lastore, 1) := by decide +kernel
theorem dX12_paste_141 : decode cX12_paste 141 = .ok (.iinc 6 1, 3) := by decide +kernel
theorem dX12_paste_144 : decode cX12_paste 144 = .ok (.goto (-31), 3) := by decide +kernel
theorem dX12_paste_147 : decode cX12_paste 147 = .ok (.iconst 0, 1) := by decide +kernel
theorem dX12_paste_148 : decode cX12_paste 148 = .ok (.istore 6, 2) := by decide +kernel
theorem dX12_paste_150 : decode cX12_paste 150 = .ok (.iload 6, 2) := by decide +kernel
theorem dX12_paste_152 : decode cX12_paste 152 = .ok (.iload 5, 2) := by decide +kernel
theorem dX12_paste_154 : decode cX12_paste 154 = .ok (.if_icmp .ge 31, 3) := by decide +kernel
theorem dX12_paste_157 : decode cX12_paste 157 = .ok (.aload_n 0, 1) := by decide +kernel
theorem dX12_paste_158 : decode cX12_paste 158 = .ok (.getfield 71, 3) := by decide +kernel
theorem dX12_paste_161 : decode cX12_paste 161 = .ok (.bipush 60, 2) := by decide +kernel
theorem dX12_paste_163 : decode cX12_paste 163 = .ok (.iload_n 3, 1) := by decide +kernel
theorem dX12_paste_164 : decode cX12_paste 164 = .ok (.imul, 1) := by decide +kernel
theorem dX12_paste_165 : decode cX12_paste 165 = .ok (.iload 4, 2) := by decide +kernel
theorem dX12_paste_167 : decode cX12_paste 167 = .ok (.iadd, 1) := by decide +kernel
theorem dX12_paste_168 : decode cX12_paste 168 = .ok (.iload 6, 2) := by decide +kernel
theorem dX12_paste_170 : decode cX12_paste 170 = .ok (.iadd, 1) := by decide +kernel
theorem dX12_paste_171 : decode cX12_paste 171 = .ok (.aload_n 0, 1) := by decide +kernel
theorem dX12_paste_172 : decode cX12_paste 172 = .ok (.getfield 74, 3) := by decide +kernel
theorem dX12_paste_175 : decode cX12_paste 175 = .ok (.iload 6, 2) := by decide +kernel
theorem dX12_paste_177 : decode cX12_paste 177 = .ok (.laload, 1) := by decide +kernel
theorem dX12_paste_178 : decode cX12_paste 178 = .ok (.lastore, 1) := by decide +kernel
theorem dX12_paste_179 : decode cX12_paste 179 = .ok (.iinc 6 1, 3) := by decide +kernel
theorem dX12_paste_182 : decode cX12_paste 182 = .ok (.goto (-32), 3) := by decide +kernel
theorem dX12_paste_185 : decode cX12_paste 185 = .ok (.iconst 0, 1) := by decide +kernel
theorem dX12_paste_186 : decode cX12_paste 186 = .ok (.ireturn, 1) := by decide +kernel
theorem dX12_paste_107 : decode cX12_paste 107 = .ok (.bipush (-7), 2) := by decide +kernel
theorem dX12_paste_109 : decode cX12_paste 109 = .ok (.ireturn, 1) := by decide +kernel
theorem dX12_paste_37 : decode cX12_paste 37 = .ok (.bipush (-6), 2) := by decide +kernel
theorem dX12_paste_39 : decode cX12_paste 39 = .ok (.ireturn, 1) := by decide +kernel
theorem dX12_paste_14 : decode cX12_paste 14 = .ok (.bipush (-2), 2) := by decide +kernel
theorem dX12_paste_16 : decode cX12_paste 16 = .ok (.ireturn, 1) := by decide +kernel
noncomputable def vX12_paste : List Cond := .code yX12_paste cX12_paste 7 (some .int) :: (([.methodLink RX12 307 yX12_isSlot, .static yX12_isSlot, .initialized RX12, .fieldLink RX12 65 "IcicleClockModel" "many" "[I", .fieldLink RX12 68 "IcicleClockModel" "width" "[I", .fieldLink RX12 74 "IcicleClockModel" "moving" "[J", .fieldLink RX12 71 "IcicleClockModel" "numbers" "[J"] : List Cond) ++ (wsX120 ++ vX12_isSlot))
theorem iX12_paste_12 : ∀ w ∈ wsX120, w ∈ vX12_paste := fun _ h => List.mem_cons_of_mem _ (List.mem_append_right _ (List.mem_append_left _ h))
theorem gs_X12_paste : Gd vX12_paste := Gd.cons (by decide +kernel) (Gd.app (Gd.r (by decide +kernel)) (Gd.app gwX_12 gs_X12_isSlot))
theorem gg_X12_paste_X12_isSlot : GoodIn vX12_paste (wsS RX12 307 yX12_isSlot vX12_isSlot) := goodIn_app (goodIn_r _ [1, 2, 3] (by decide +kernel) (by decide +kernel)) (fun w h => ⟨List.mem_cons_of_mem _ (List.mem_append_right _ (List.mem_append_right _ (h))), gs_X12_isSlot w h⟩)
set_option maxHeartbeats 4000000 in
set_option maxRecDepth 100000 in
theorem s_X12_paste (l : Launch) (D : va_G) (cs : Nat → ClassId) (ad : Nat → Nat) (kS : kSt) (K : sK) (hKO : KO K) (hj : wJ ad 218) (g : Nat → va_E) (hW : WF (shp ad K) ad cs g) (sl : Int32) (ix : Int32) (tt : Int32) (kk : Int32) (nn : Int32) : sI l yX12_paste vX12_paste { frames := 2, cells := 0, slots := 0, locals := 45 } D cs ad kS [.ref (ad 197), .int sl, .int ix, .int tt, .int kk, .int nn] g (fun r g2 => WF (shp ad K) ad cs g2 ∧ (∀ j, j ≠ 216 ∧ j ≠ 217 → g2 j = g j) ∧ ((sl.toInt < 0 ∨ 3 < sl.toInt ∨ tt.toInt < 0 ∨ 3 < tt.toInt → r.toInt = -2) ∧ (0 ≤ sl.toInt ∧ sl.toInt ≤ 3 ∧ 0 ≤ tt.toInt ∧ tt.toInt ≤ 3 → (K.2.2.2.2.1 sl.toNatClampNeg).toInt = -1 ∨ (K.2.2.2.2.1 tt.toNatClampNeg).toInt = -1 → r.toInt = -6) ∧ (0 ≤ sl.toInt ∧ sl.toInt ≤ 3 ∧ 0 ≤ tt.toInt ∧ tt.toInt ≤ 3 → ¬ (K.2.2.2.2.1 sl.toNatClampNeg).toInt = -1 → ¬ (K.2.2.2.2.1 tt.toNatClampNeg).toInt = -1 → (K.2.2.2.2.2.1 sl.toNatClampNeg).toInt ≠ (K.2.2.2.2.2.1 tt.toNatClampNeg).toInt → r.toInt = -8) ∧ (0 ≤ sl.toInt ∧ sl.toInt ≤ 3 ∧ 0 ≤ tt.toInt ∧ tt.toInt ≤ 3 → ¬ (K.2.2.2.2.1 sl.toNatClampNeg).toInt = -1 → ¬ (K.2.2.2.2.1 tt.toNatClampNeg).toInt = -1 → (K.2.2.2.2.2.1 sl.toNatClampNeg).toInt = (K.2.2.2.2.2.1 tt.toNatClampNeg).toInt → (ix.toInt < 0 ∨ kk.toInt < 0 ∨ nn.toInt < 0 ∨ (K.2.2.2.2.1 sl.toNatClampNeg).toInt < ix.toInt + nn.toInt ∨ (K.2.2.2.2.1 tt.toNatClampNeg).toInt < kk.toInt + nn.toInt) → r.toInt = -7) ∧ (0 ≤ sl.toInt ∧ sl.toInt ≤ 3 ∧ 0 ≤ tt.toInt ∧ tt.toInt ≤ 3 → ¬ (K.2.2.2.2.1 sl.toNatClampNeg).toInt = -1 → ¬ (K.2.2.2.2.1 tt.toNatClampNeg).toInt = -1 → (K.2.2.2.2.2.1 sl.toNatClampNeg).toInt = (K.2.2.2.2.2.1 tt.toNatClampNeg).toInt → ¬ (ix.toInt < 0 ∨ kk.toInt < 0 ∨ nn.toInt < 0 ∨ (K.2.2.2.2.1 sl.toNatClampNeg).toInt < ix.toInt + nn.toInt ∨ (K.2.2.2.2.1 tt.toNatClampNeg).toInt < kk.toInt + nn.toInt) → r.toInt = 0))) := by
  refine Met.startS (cc := cX12_paste) (maxL := 7) (ret := (some .int)) RX12 rfl (by decide) rfl (Nat.le_of_ble_eq_true rfl) ?_
  intro p e s m below meth c ls X Z hP hl
  have hx := X.1
  have hb := X.2.1
  have hS : va_S (wA ad 218) s.heap s.heap [] := va_S.rf
  have hA : ∀ i, i < 218 → wA ad 218 (ad i) := fun i h => ⟨i, h, rfl⟩
  have hfr : ∀ j, j ≠ 216 ∧ j ≠ 217 → g j = g j := fun _ _ => rfl
  have hl : lv_has ls 7 [(0, .ref (ad 197)), (1, .int sl), (2, .int ix), (3, .int tt), (4, .int kk), (5, .int nn)] := hl
  refine lv_iload_n hx hb dX12_paste_0 rfl (lv_at hl 1 rfl) ?_
  refine s_callSi (As := [.int sl]) (rest := []) X Z (s_X12_isSlot l D cs ad kS K hKO hj g hW sl) (cwS 1 X.2.2.2.2.1 gg_X12_paste_X12_isSlot rfl rfl rfl (by decide +kernel) ⟨Nat.le_of_ble_eq_true rfl, Nat.le_of_ble_eq_true rfl⟩) hP hA hS.2.1 hS rfl hl.1 rfl (Nat.le_of_ble_eq_true rfl) dX12_paste_1 ⟨Nat.le_of_ble_eq_true rfl, Nat.le_of_ble_eq_true rfl⟩ (fun r_3 g_2 H locs hw_1 hP hS => ?_)
  obtain ⟨hw_1g, hw_1⟩ := hw_1
  rw [hw_1g] at hP
  have HJ14 : ∀ (G14 : Nat → va_E) (H : Heap) (locs : List Loc) (ls : Array Slot), (sl.toInt < 0 ∨ 3 < sl.toInt ∨ tt.toInt < 0 ∨ 3 < tt.toInt) → WF (shp ad K) ad cs G14 → (∀ j, j ≠ 216 ∧ j ≠ 217 → G14 j = g j) → va_P D vwCl (wL ad G14 218) H → va_S (wA ad 218) s.heap H locs → lv_has ls 7 [] → W p l e ({ frames := 2, cells := 0, slots := 0, locals := 45 } : Room) s m ([.ref (ad 197), .int sl, .int ix, .int tt, .int kk, .int nn] : List Value).toArray below meth c H locs 0 0 (MQ below (qI D ad 218 (fun r g2 => WF (shp ad K) ad cs g2 ∧ (∀ j, j ≠ 216 ∧ j ≠ 217 → g2 j = g j) ∧ ((sl.toInt < 0 ∨ 3 < sl.toInt ∨ tt.toInt < 0 ∨ 3 < tt.toInt → r.toInt = -2) ∧ (0 ≤ sl.toInt ∧ sl.toInt ≤ 3 ∧ 0 ≤ tt.toInt ∧ tt.toInt ≤ 3 → (K.2.2.2.2.1 sl.toNatClampNeg).toInt = -1 ∨ (K.2.2.2.2.1 tt.toNatClampNeg).toInt = -1 → r.toInt = -6) ∧ (0 ≤ sl.toInt ∧ sl.toInt ≤ 3 ∧ 0 ≤ tt.toInt ∧ tt.toInt ≤ 3 → ¬ (K.2.2.2.2.1 sl.toNatClampNeg).toInt = -1 → ¬ (K.2.2.2.2.1 tt.toNatClampNeg).toInt = -1 → (K.2.2.2.2.2.1 sl.toNatClampNeg).toInt ≠ (K.2.2.2.2.2.1 tt.toNatClampNeg).toInt → r.toInt = -8) ∧ (0 ≤ sl.toInt ∧ sl.toInt ≤ 3 ∧ 0 ≤ tt.toInt ∧ tt.toInt ≤ 3 → ¬ (K.2.2.2.2.1 sl.toNatClampNeg).toInt = -1 → ¬ (K.2.2.2.2.1 tt.toNatClampNeg).toInt = -1 → (K.2.2.2.2.2.1 sl.toNatClampNeg).toInt = (K.2.2.2.2.2.1 tt.toNatClampNeg).toInt → (ix.toInt < 0 ∨ kk.toInt < 0 ∨ nn.toInt < 0 ∨ (K.2.2.2.2.1 sl.toNatClampNeg).toInt < ix.toInt + nn.toInt ∨ (K.2.2.2.2.1 tt.toNatClampNeg).toInt < kk.toInt + nn.toInt) → r.toInt = -7) ∧ (0 ≤ sl.toInt ∧ sl.toInt ≤ 3 ∧ 0 ≤ tt.toInt ∧ tt.toInt ≤ 3 → ¬ (K.2.2.2.2.1 sl.toNatClampNeg).toInt = -1 → ¬ (K.2.2.2.2.1 tt.toNatClampNeg).toInt = -1 → (K.2.2.2.2.2.1 sl.toNatClampNeg).toInt = (K.2.2.2.2.2.1 tt.toNatClampNeg).toInt → ¬ (ix.toInt < 0 ∨ kk.toInt < 0 ∨ nn.toInt < 0 ∨ (K.2.2.2.2.1 sl.toNatClampNeg).toInt < ix.toInt + nn.toInt ∨ (K.2.2.2.2.1 tt.toNatClampNeg).toInt < kk.toInt + nn.toInt) → r.toInt = 0)))) ([.ref (ad 197), .int sl, .int ix, .int tt, .int kk, .int nn] : List Value).toArray s 0 0 (wA ad 218)) (F0 m 14 ls []) := by
    intro G14 H locs ls he14_0 hW14 hfr14 hP hS hl
    try clear hw_1
    refine lv_bipush (v := (-2)) hx hb dX12_paste_14 (by decide) ?_
    have hr0 : ((-2) : Int32).toInt = -2 := by decide
    exact q_iret X hP hS ⟨hW14, hfr14, ⟨fun q0 => by omega, fun q0 q1 => by omega, fun q0 q1 q2 q3 => by omega, fun q0 q1 q2 q3 q4 => by omega, fun q0 q1 q2 q3 q4 => by omega⟩⟩ dX12_paste_16
  refine lv_if_eq (tgt := 14) hx hb dX12_paste_4 (by decide) (fun hc_4 => ?_) (fun hc_4 => ?_)
  · have hhc_4 := n_eq (rfl : r_3.toInt = r_3.toInt) (by decide : (0 : Int32).toInt = 0) hc_4
    exact HJ14 g _ _ ls (by omega) hW hfr hP hS (lv_sub hl [] rfl)
  · have hhc_4 := n_ne (rfl : r_3.toInt = r_3.toInt) (by decide : (0 : Int32).toInt = 0) hc_4
    refine lv_iload_n hx hb dX12_paste_7 rfl (lv_at hl 3 rfl) ?_
    refine s_callSi (As := [.int tt]) (rest := []) X Z (s_X12_isSlot l D cs ad kS K hKO hj g hW tt) (cwS 1 X.2.2.2.2.1 gg_X12_paste_X12_isSlot rfl rfl rfl (by decide +kernel) ⟨Nat.le_of_ble_eq_true rfl, Nat.le_of_ble_eq_true rfl⟩) hP hA hS.2.1 hS rfl hl.1 rfl (Nat.le_of_ble_eq_true rfl) dX12_paste_8 ⟨Nat.le_of_ble_eq_true rfl, Nat.le_of_ble_eq_true rfl⟩ (fun r_7 g_6 H locs hw_5 hP hS => ?_)
    obtain ⟨hw_5g, hw_5⟩ := hw_5
    rw [hw_5g] at hP
    refine lv_if_ne (tgt := 17) hx hb dX12_paste_11 (by decide) (fun hc_8 => ?_) (fun hc_8 => ?_)
    · have hhc_8 := n_ne (rfl : r_7.toInt = r_7.toInt) (by decide : (0 : Int32).toInt = 0) hc_8
      have hti_9 : 0 ≤ sl.toInt ∧ sl.toInt ≤ 3 := by omega
      have hti_10 : 0 ≤ tt.toInt ∧ tt.toInt ≤ 3 := by omega
      try clear hw_1
      try clear hhc_4
      try clear hw_5
      try clear hhc_8
      refine lv_aload_n hx hb dX12_paste_17 rfl (lv_at hl 0 rfl) ?_
      obtain ⟨fsc_11, hgc_11, hOc_11⟩ := hW.obj (i := 197) (by decide) (sh_197 ad K)
      have hk_12 := hOc_11.ref 36 rfl
      refine q_get X iX12_paste_12 hP (by decide) hgc_11 rfl 36 (by decide) (List.mem_of_getElem? (i := 4) rfl) (v := .ref (ad 214)) hk_12 dX12_paste_18 ?_
      refine lv_iload_n hx hb dX12_paste_21 rfl (lv_at hl 1 rfl) ?_
      obtain ⟨fc_13, hgc_13, hFc_13⟩ := hW.arr (i := 214) (by decide) (sh_214 ad K)
      refine q_iald X hP (by decide) hgc_13 (n_in (rfl : sl.toInt = sl.toInt) (by omega) (by omega)) dX12_paste_22 ?_
      refine lv_topi (fun z_14 ez_14 => ?_)
      have hqz_14 : z_14.toInt = (K.2.2.2.2.1 (sl.toNatClampNeg)).toInt := ez_14 ▸ hFc_13 _
      have hcz_14 := n_cl (rfl : sl.toInt = sl.toInt) (by omega)
      have hKOz_14 := hKO (sl.toNatClampNeg)
      have hz_14 : -1 ≤ z_14.toInt ∧ z_14.toInt ≤ 60 := by omega
      refine lv_iconst (v := (-1)) hx hb dX12_paste_23 (by decide) ?_
      have HJ37 : ∀ (G37 : Nat → va_E) (H : Heap) (locs : List Loc) (ls : Array Slot), ((K.2.2.2.2.1 sl.toNatClampNeg).toInt = -1 ∨ (K.2.2.2.2.1 tt.toNatClampNeg).toInt = -1) → WF (shp ad K) ad cs G37 → (∀ j, j ≠ 216 ∧ j ≠ 217 → G37 j = g j) → G37 197 = .inr (12, fsc_11) → G37 214 = .inl (cs 1, 4, .inl fc_13) → va_P D vwCl (wL ad G37 218) H → va_S (wA ad 218) s.heap H locs → lv_has ls 7 [] → W p l e ({ frames := 2, cells := 0, slots := 0, locals := 45 } : Room) s m ([.ref (ad 197), .int sl, .int ix, .int tt, .int kk, .int nn] : List Value).toArray below meth c H locs 0 0 (MQ below (qI D ad 218 (fun r g2 => WF (shp ad K) ad cs g2 ∧ (∀ j, j ≠ 216 ∧ j ≠ 217 → g2 j = g j) ∧ ((sl.toInt < 0 ∨ 3 < sl.toInt ∨ tt.toInt < 0 ∨ 3 < tt.toInt → r.toInt = -2) ∧ (0 ≤ sl.toInt ∧ sl.toInt ≤ 3 ∧ 0 ≤ tt.toInt ∧ tt.toInt ≤ 3 → (K.2.2.2.2.1 sl.toNatClampNeg).toInt = -1 ∨ (K.2.2.2.2.1 tt.toNatClampNeg).toInt = -1 → r.toInt = -6) ∧ (0 ≤ sl.toInt ∧ sl.toInt ≤ 3 ∧ 0 ≤ tt.toInt ∧ tt.toInt ≤ 3 → ¬ (K.2.2.2.2.1 sl.toNatClampNeg).toInt = -1 → ¬ (K.2.2.2.2.1 tt.toNatClampNeg).toInt = -1 → (K.2.2.2.2.2.1 sl.toNatClampNeg).toInt ≠ (K.2.2.2.2.2.1 tt.toNatClampNeg).toInt → r.toInt = -8) ∧ (0 ≤ sl.toInt ∧ sl.toInt ≤ 3 ∧ 0 ≤ tt.toInt ∧ tt.toInt ≤ 3 → ¬ (K.2.2.2.2.1 sl.toNatClampNeg).toInt = -1 → ¬ (K.2.2.2.2.1 tt.toNatClampNeg).toInt = -1 → (K.2.2.2.2.2.1 sl.toNatClampNeg).toInt = (K.2.2.2.2.2.1 tt.toNatClampNeg).toInt → (ix.toInt < 0 ∨ kk.toInt < 0 ∨ nn.toInt < 0 ∨ (K.2.2.2.2.1 sl.toNatClampNeg).toInt < ix.toInt + nn.toInt ∨ (K.2.2.2.2.1 tt.toNatClampNeg).toInt < kk.toInt + nn.toInt) → r.toInt = -7) ∧ (0 ≤ sl.toInt ∧ sl.toInt ≤ 3 ∧ 0 ≤ tt.toInt ∧ tt.toInt ≤ 3 → ¬ (K.2.2.2.2.1 sl.toNatClampNeg).toInt = -1 → ¬ (K.2.2.2.2.1 tt.toNatClampNeg).toInt = -1 → (K.2.2.2.2.2.1 sl.toNatClampNeg).toInt = (K.2.2.2.2.2.1 tt.toNatClampNeg).toInt → ¬ (ix.toInt < 0 ∨ kk.toInt < 0 ∨ nn.toInt < 0 ∨ (K.2.2.2.2.1 sl.toNatClampNeg).toInt < ix.toInt + nn.toInt ∨ (K.2.2.2.2.1 tt.toNatClampNeg).toInt < kk.toInt + nn.toInt) → r.toInt = 0)))) ([.ref (ad 197), .int sl, .int ix, .int tt, .int kk, .int nn] : List Value).toArray s 0 0 (wA ad 218)) (F0 m 37 ls []) := by
        intro G37 H locs ls he37_0 hW37 hfr37 hg37_0 hg37_1 hP hS hl
        try clear hw_1
        try clear hhc_4
        try clear hw_5
        try clear hhc_8
        refine lv_bipush (v := (-6)) hx hb dX12_paste_37 (by decide) ?_
        have hr0 : ((-6) : Int32).toInt = -6 := by decide
        exact q_iret X hP hS ⟨hW37, hfr37, ⟨fun q0 => by omega, fun q0 q1 => by omega, fun q0 q1 q2 q3 => by omega, fun q0 q1 q2 q3 q4 => by omega, fun q0 q1 q2 q3 q4 => by omega⟩⟩ dX12_paste_39
      refine lv_icmp_eq (tgt := 37) hx hb dX12_paste_24 (by decide) (fun hc_15 => ?_) (fun hc_15 => ?_)
      · have hhc_15 := n_eq (rfl : z_14.toInt = z_14.toInt) (by decide : (-1 : Int32).toInt = -1) hc_15
        exact HJ37 g _ _ ls (by omega) hW hfr hgc_11 hgc_13 hP hS (lv_sub hl [] rfl)
      · have hhc_15 := n_ne (rfl : z_14.toInt = z_14.toInt) (by decide : (-1 : Int32).toInt = -1) hc_15
        refine lv_aload_n hx hb dX12_paste_27 rfl (lv_at hl 0 rfl) ?_
        refine q_get X iX12_paste_12 hP (by decide) hgc_11 rfl 36 (by decide) (List.mem_of_getElem? (i := 4) rfl) (v := .ref (ad 214)) hk_12 dX12_paste_28 ?_
        refine lv_iload_n hx hb dX12_paste_31 rfl (lv_at hl 3 rfl) ?_
        refine q_iald X hP (by decide) hgc_13 (n_in (rfl : tt.toInt = tt.toInt) (by omega) (by omega)) dX12_paste_32 ?_
        refine lv_topi (fun z_16 ez_16 => ?_)
        have hqz_16 : z_16.toInt = (K.2.2.2.2.1 (tt.toNatClampNeg)).toInt := ez_16 ▸ hFc_13 _
        have hcz_16 := n_cl (rfl : tt.toInt = tt.toInt) (by omega)
        have hKOz_16 := hKO (tt.toNatClampNeg)
        have hz_16 : -1 ≤ z_16.toInt ∧ z_16.toInt ≤ 60 := by omega
        refine lv_iconst (v := (-1)) hx hb dX12_paste_33 (by decide) ?_
        refine lv_icmp_ne (tgt := 40) hx hb dX12_paste_34 (by decide) (fun hc_17 => ?_) (fun hc_17 => ?_)
        · have hhc_17 := n_ne (rfl : z_16.toInt = z_16.toInt) (by decide : (-1 : Int32).toInt = -1) hc_17
          have hti_18 : 0 ≤ (K.2.2.2.2.1 sl.toNatClampNeg).toInt := by omega
          have hti_19 : 0 ≤ (K.2.2.2.2.1 tt.toNatClampNeg).toInt := by omega
          try clear hw_1
          try clear hhc_4
          try clear hw_5
          try clear hhc_8
          try clear hhc_15
          try clear hhc_17
          refine lv_aload_n hx hb dX12_paste_40 rfl (lv_at hl 0 rfl) ?_
          have hk_20 := hOc_11.ref 37 rfl
          refine q_get X iX12_paste_12 hP (by decide) hgc_11 rfl 37 (by decide) (List.mem_of_getElem? (i := 5) rfl) (v := .ref (ad 215)) hk_20 dX12_paste_41 ?_
          refine lv_iload_n hx hb dX12_paste_44 rfl (lv_at hl 1 rfl) ?_
          obtain ⟨fc_21, hgc_21, hFc_21⟩ := hW.arr (i := 215) (by decide) (sh_215 ad K)
          refine q_iald X hP (by decide) hgc_21 (n_in (rfl : sl.toInt = sl.toInt) (by omega) (by omega)) dX12_paste_45 ?_
          refine lv_topi (fun z_22 ez_22 => ?_)
          have hqz_22 : z_22.toInt = (K.2.2.2.2.2.1 (sl.toNatClampNeg)).toInt := ez_22 ▸ hFc_21 _
          have hcz_22 := n_cl (rfl : sl.toInt = sl.toInt) (by omega)
          have hKOz_22 := hKO (sl.toNatClampNeg)
          have hz_22 : 0 ≤ z_22.toInt ∧ z_22.toInt ≤ 3 := by omega
          refine lv_aload_n hx hb dX12_paste_46 rfl (lv_at hl 0 rfl) ?_
          refine q_get X iX12_paste_12 hP (by decide) hgc_11 rfl 37 (by decide) (List.mem_of_getElem? (i := 5) rfl) (v := .ref (ad 215)) hk_20 dX12_paste_47 ?_
          refine lv_iload_n hx hb dX12_paste_50 rfl (lv_at hl 3 rfl) ?_
          refine q_iald X hP (by decide) hgc_21 (n_in (rfl : tt.toInt = tt.toInt) (by omega) (by omega)) dX12_paste_51 ?_
          refine lv_topi (fun z_23 ez_23 => ?_)
          have hqz_23 : z_23.toInt = (K.2.2.2.2.2.1 (tt.toNatClampNeg)).toInt := ez_23 ▸ hFc_21 _
          have hcz_23 := n_cl (rfl : tt.toInt = tt.toInt) (by omega)
          have hKOz_23 := hKO (tt.toNatClampNeg)
          have hz_23 : 0 ≤ z_23.toInt ∧ z_23.toInt ≤ 3 := by omega
          refine lv_icmp_eq (tgt := 58) hx hb dX12_paste_52 (by decide) (fun hc_24 => ?_) (fun hc_24 => ?_)
          · have hhc_24 := n_eq (rfl : z_22.toInt = z_22.toInt) (rfl : z_23.toInt = z_23.toInt) hc_24
            have hti_25 : (K.2.2.2.2.2.1 sl.toNatClampNeg).toInt = (K.2.2.2.2.2.1 tt.toNatClampNeg).toInt := by omega
            try clear hw_1
            try clear hhc_4
            try clear hw_5
            try clear hhc_8
            try clear hhc_15
            try clear hhc_17
            try clear hhc_24
            refine lv_iload_n hx hb dX12_paste_58 rfl (lv_at hl 2 rfl) ?_
            have HJ107 : ∀ (G107 : Nat → va_E) (H : Heap) (locs : List Loc) (ls : Array Slot), (ix.toInt < 0 ∨ kk.toInt < 0 ∨ nn.toInt < 0 ∨ (K.2.2.2.2.1 sl.toNatClampNeg).toInt < ix.toInt + nn.toInt ∨ (K.2.2.2.2.1 tt.toNatClampNeg).toInt < kk.toInt + nn.toInt) → WF (shp ad K) ad cs G107 → (∀ j, j ≠ 216 ∧ j ≠ 217 → G107 j = g j) → G107 197 = .inr (12, fsc_11) → G107 214 = .inl (cs 1, 4, .inl fc_13) → G107 215 = .inl (cs 1, 4, .inl fc_21) → va_P D vwCl (wL ad G107 218) H → va_S (wA ad 218) s.heap H locs → lv_has ls 7 [] → W p l e ({ frames := 2, cells := 0, slots := 0, locals := 45 } : Room) s m ([.ref (ad 197), .int sl, .int ix, .int tt, .int kk, .int nn] : List Value).toArray below meth c H locs 0 0 (MQ below (qI D ad 218 (fun r g2 => WF (shp ad K) ad cs g2 ∧ (∀ j, j ≠ 216 ∧ j ≠ 217 → g2 j = g j) ∧ ((sl.toInt < 0 ∨ 3 < sl.toInt ∨ tt.toInt < 0 ∨ 3 < tt.toInt → r.toInt = -2) ∧ (0 ≤ sl.toInt ∧ sl.toInt ≤ 3 ∧ 0 ≤ tt.toInt ∧ tt.toInt ≤ 3 → (K.2.2.2.2.1 sl.toNatClampNeg).toInt = -1 ∨ (K.2.2.2.2.1 tt.toNatClampNeg).toInt = -1 → r.toInt = -6) ∧ (0 ≤ sl.toInt ∧ sl.toInt ≤ 3 ∧ 0 ≤ tt.toInt ∧ tt.toInt ≤ 3 → ¬ (K.2.2.2.2.1 sl.toNatClampNeg).toInt = -1 → ¬ (K.2.2.2.2.1 tt.toNatClampNeg).toInt = -1 → (K.2.2.2.2.2.1 sl.toNatClampNeg).toInt ≠ (K.2.2.2.2.2.1 tt.toNatClampNeg).toInt → r.toInt = -8) ∧ (0 ≤ sl.toInt ∧ sl.toInt ≤ 3 ∧ 0 ≤ tt.toInt ∧ tt.toInt ≤ 3 → ¬ (K.2.2.2.2.1 sl.toNatClampNeg).toInt = -1 → ¬ (K.2.2.2.2.1 tt.toNatClampNeg).toInt = -1 → (K.2.2.2.2.2.1 sl.toNatClampNeg).toInt = (K.2.2.2.2.2.1 tt.toNatClampNeg).toInt → (ix.toInt < 0 ∨ kk.toInt < 0 ∨ nn.toInt < 0 ∨ (K.2.2.2.2.1 sl.toNatClampNeg).toInt < ix.toInt + nn.toInt ∨ (K.2.2.2.2.1 tt.toNatClampNeg).toInt < kk.toInt + nn.toInt) → r.toInt = -7) ∧ (0 ≤ sl.toInt ∧ sl.toInt ≤ 3 ∧ 0 ≤ tt.toInt ∧ tt.toInt ≤ 3 → ¬ (K.2.2.2.2.1 sl.toNatClampNeg).toInt = -1 → ¬ (K.2.2.2.2.1 tt.toNatClampNeg).toInt = -1 → (K.2.2.2.2.2.1 sl.toNatClampNeg).toInt = (K.2.2.2.2.2.1 tt.toNatClampNeg).toInt → ¬ (ix.toInt < 0 ∨ kk.toInt < 0 ∨ nn.toInt < 0 ∨ (K.2.2.2.2.1 sl.toNatClampNeg).toInt < ix.toInt + nn.toInt ∨ (K.2.2.2.2.1 tt.toNatClampNeg).toInt < kk.toInt + nn.toInt) → r.toInt = 0)))) ([.ref (ad 197), .int sl, .int ix, .int tt, .int kk, .int nn] : List Value).toArray s 0 0 (wA ad 218)) (F0 m 107 ls []) := by
              intro G107 H locs ls he107_0 hW107 hfr107 hg107_0 hg107_1 hg107_2 hP hS hl
              try clear hw_1
              try clear hhc_4
              try clear hw_5
              try clear hhc_8
              try clear hhc_15
              try clear hhc_17
              try clear hhc_24
              refine lv_bipush (v := (-7)) hx hb dX12_paste_107 (by decide) ?_
              have hr0 : ((-7) : Int32).toInt = -7 := by decide
              exact q_iret X hP hS ⟨hW107, hfr107, ⟨fun q0 => by omega, fun q0 q1 => by omega, fun q0 q1 q2 q3 => by omega, fun q0 q1 q2 q3 q4 => by omega, fun q0 q1 q2 q3 q4 => by omega⟩⟩ dX12_paste_109
            refine lv_if_lt (tgt := 107) hx hb dX12_paste_59 (by decide) (fun hc_26 => ?_) (fun hc_26 => ?_)
            · have hhc_26 := n_lt (rfl : ix.toInt = ix.toInt) (by decide : (0 : Int32).toInt = 0) hc_26
              exact HJ107 g _ _ ls (by omega) hW hfr hgc_11 hgc_13 hgc_21 hP hS (lv_sub hl [] rfl)
            · have hhc_26 := n_nlt (rfl : ix.toInt = ix.toInt) (by decide : (0 : Int32).toInt = 0) hc_26
              refine lv_iload hx hb dX12_paste_62 (lv_at hl 4 rfl) ?_
              refine lv_if_lt (tgt := 107) hx hb dX12_paste_64 (by decide) (fun hc_27 => ?_) (fun hc_27 => ?_)
              · have hhc_27 := n_lt (rfl : kk.toInt = kk.toInt) (by decide : (0 : Int32).toInt = 0) hc_27
                exact HJ107 g _ _ ls (by omega) hW hfr hgc_11 hgc_13 hgc_21 hP hS (lv_sub hl [] rfl)
              · have hhc_27 := n_nlt (rfl : kk.toInt = kk.toInt) (by decide : (0 : Int32).toInt = 0) hc_27
                refine lv_iload hx hb dX12_paste_67 (lv_at hl 5 rfl) ?_
                refine lv_if_lt (tgt := 107) hx hb dX12_paste_69 (by decide) (fun hc_28 => ?_) (fun hc_28 => ?_)
                · have hhc_28 := n_lt (rfl : nn.toInt = nn.toInt) (by decide : (0 : Int32).toInt = 0) hc_28
                  exact HJ107 g _ _ ls (by omega) hW hfr hgc_11 hgc_13 hgc_21 hP hS (lv_sub hl [] rfl)
                · have hhc_28 := n_nlt (rfl : nn.toInt = nn.toInt) (by decide : (0 : Int32).toInt = 0) hc_28
                  refine lv_iload_n hx hb dX12_paste_72 rfl (lv_at hl 2 rfl) ?_
                  refine lv_i2l hx hb dX12_paste_73 rfl ?_
                  refine lv_topl (fun z_29 ez_29 => ?_)
                  have hz_29 : z_29.toInt = ix.toInt := ez_29 ▸ j_of rfl
                  have := n_hi ix
                  refine lv_iload hx hb dX12_paste_74 (lv_at hl 5 rfl) ?_
                  refine lv_i2l hx hb dX12_paste_76 rfl ?_
                  refine lv_topl (fun z_30 ez_30 => ?_)
                  have hz_30 : z_30.toInt = nn.toInt := ez_30 ▸ j_of rfl
                  have := n_hi nn
                  refine lv_ladd hx hb dX12_paste_77 ?_
                  refine lv_topl (fun z_31 ez_31 => ?_)
                  have hz_31 : z_31.toInt = z_29.toInt + z_30.toInt := j_add (rfl : z_29.toInt = z_29.toInt) (rfl : z_30.toInt = z_30.toInt) ez_31 (by omega) (by omega)
                  refine lv_aload_n hx hb dX12_paste_78 rfl (lv_at hl 0 rfl) ?_
                  refine q_get X iX12_paste_12 hP (by decide) hgc_11 rfl 36 (by decide) (List.mem_of_getElem? (i := 4) rfl) (v := .ref (ad 214)) hk_12 dX12_paste_79 ?_
                  refine lv_iload_n hx hb dX12_paste_82 rfl (lv_at hl 1 rfl) ?_
                  refine q_iald X hP (by decide) hgc_13 (n_in (rfl : sl.toInt = sl.toInt) (by omega) (by omega)) dX12_paste_83 ?_
                  refine lv_topi (fun z_32 ez_32 => ?_)
                  have hqz_32 : z_32.toInt = (K.2.2.2.2.1 (sl.toNatClampNeg)).toInt := ez_32 ▸ hFc_13 _
                  have hcz_32 := n_cl (rfl : sl.toInt = sl.toInt) (by omega)
                  have hKOz_32 := hKO (sl.toNatClampNeg)
                  have hz_32 : -1 ≤ z_32.toInt ∧ z_32.toInt ≤ 60 := by omega
                  have hsz_32 : z_32.toInt = z_14.toInt := by rw [ez_32, ez_14]
                  refine lv_i2l hx hb dX12_paste_84 rfl ?_
                  refine lv_topl (fun z_33 ez_33 => ?_)
                  have hz_33 : z_33.toInt = z_32.toInt := ez_33 ▸ j_of rfl
                  refine W.lcmp hx hb dX12_paste_85 ?_
                  refine lv_if_gt (tgt := 107) hx hb dX12_paste_86 (by decide) (fun hc_34 => ?_) (fun hc_34 => ?_)
                  · have hhc_34 := j_cgt (rfl : z_31.toInt = z_31.toInt) (rfl : z_33.toInt = z_33.toInt) hc_34
                    exact HJ107 g _ _ ls (by omega) hW hfr hgc_11 hgc_13 hgc_21 hP hS (lv_sub hl [] rfl)
                  · have hhc_34 := j_cle (rfl : z_31.toInt = z_31.toInt) (rfl : z_33.toInt = z_33.toInt) hc_34
                    refine lv_iload hx hb dX12_paste_89 (lv_at hl 4 rfl) ?_
                    refine lv_i2l hx hb dX12_paste_91 rfl ?_
                    refine lv_topl (fun z_35 ez_35 => ?_)
                    have hz_35 : z_35.toInt = kk.toInt := ez_35 ▸ j_of rfl
                    have := n_hi kk
                    refine lv_iload hx hb dX12_paste_92 (lv_at hl 5 rfl) ?_
                    refine lv_i2l hx hb dX12_paste_94 rfl ?_
                    refine lv_topl (fun z_36 ez_36 => ?_)
                    have hz_36 : z_36.toInt = nn.toInt := ez_36 ▸ j_of rfl
                    have := n_hi nn
                    refine lv_ladd hx hb dX12_paste_95 ?_
                    refine lv_topl (fun z_37 ez_37 => ?_)
                    have hz_37 : z_37.toInt = z_35.toInt + z_36.toInt := j_add (rfl : z_35.toInt = z_35.toInt) (rfl : z_36.toInt = z_36.toInt) ez_37 (by omega) (by omega)
                    refine lv_aload_n hx hb dX12_paste_96 rfl (lv_at hl 0 rfl) ?_
                    refine q_get X iX12_paste_12 hP (by decide) hgc_11 rfl 36 (by decide) (List.mem_of_getElem? (i := 4) rfl) (v := .ref (ad 214)) hk_12 dX12_paste_97 ?_
                    refine lv_iload_n hx hb dX12_paste_100 rfl (lv_at hl 3 rfl) ?_
                    refine q_iald X hP (by decide) hgc_13 (n_in (rfl : tt.toInt = tt.toInt) (by omega) (by omega)) dX12_paste_101 ?_
                    refine lv_topi (fun z_38 ez_38 => ?_)
                    have hqz_38 : z_38.toInt = (K.2.2.2.2.1 (tt.toNatClampNeg)).toInt := ez_38 ▸ hFc_13 _
                    have hcz_38 := n_cl (rfl : tt.toInt = tt.toInt) (by omega)
                    have hKOz_38 := hKO (tt.toNatClampNeg)
                    have hz_38 : -1 ≤ z_38.toInt ∧ z_38.toInt ≤ 60 := by omega
                    have hsz_38 : z_38.toInt = z_16.toInt := by rw [ez_38, ez_16]
                    refine lv_i2l hx hb dX12_paste_102 rfl ?_
                    refine lv_topl (fun z_39 ez_39 => ?_)
                    have hz_39 : z_39.toInt = z_38.toInt := ez_39 ▸ j_of rfl
                    refine W.lcmp hx hb dX12_paste_103 ?_
                    refine lv_if_le (tgt := 110) hx hb dX12_paste_104 (by decide) (fun hc_40 => ?_) (fun hc_40 => ?_)
                    · have hhc_40 := j_cleP (rfl : z_37.toInt = z_37.toInt) (rfl : z_39.toInt = z_39.toInt) hc_40
                      have hti_41 : 0 ≤ ix.toInt ∧ 0 ≤ nn.toInt ∧ ix.toInt + nn.toInt ≤ (K.2.2.2.2.1 sl.toNatClampNeg).toInt := by omega
                      have hti_42 : 0 ≤ kk.toInt ∧ kk.toInt + nn.toInt ≤ (K.2.2.2.2.1 tt.toNatClampNeg).toInt := by omega
                      try clear hw_1
                      try clear hhc_4
                      try clear hw_5
                      try clear hhc_8
                      try clear hhc_15
                      try clear hhc_17
                      try clear hhc_24
                      try clear hhc_26
                      try clear hhc_27
                      try clear hhc_28
                      try clear hhc_34
                      try clear hhc_40
                      have hbix : 0 ≤ ix.toInt ∧ ix.toInt ≤ 60 := by omega
                      have hbkk : 0 ≤ kk.toInt ∧ kk.toInt ≤ 60 := by omega
                      have hbnn : 0 ≤ nn.toInt ∧ nn.toInt ≤ 60 := by omega
                      refine lv_iconst (v := 0) hx hb dX12_paste_110 (by decide) ?_
                      refine lv_istore (lv' := [(6, .int 0), (0, .ref (ad 197)), (1, .int sl), (2, .int ix), (3, .int tt), (4, .int kk), (5, .int nn)]) hx hb dX12_paste_111 hl (by decide) rfl (fun ls hl => ?_)
                      have HL113 : ∀ (n113 : Nat) (v113_6 : Int32) (G113 : Nat → va_E) (H : Heap) (locs : List Loc) (ls : Array Slot), (60 - v113_6.toInt).toNat < n113 → (0 ≤ v113_6.toInt ∧ v113_6.toInt ≤ 60) → WF (shp ad K) ad cs G113 → (∀ j, j ≠ 216 ∧ j ≠ 217 → G113 j = g j) → va_P D vwCl (wL ad G113 218) H → va_S (wA ad 218) s.heap H locs → lv_has ls 7 [(6, .int v113_6), (0, .ref (ad 197)), (1, .int sl), (2, .int ix), (3, .int tt), (4, .int kk), (5, .int nn)] → W p l e ({ frames := 2, cells := 0, slots := 0, locals := 45 } : Room) s m ([.ref (ad 197), .int sl, .int ix, .int tt, .int kk, .int nn] : List Value).toArray below meth c H locs 0 0 (MQ below (qI D ad 218 (fun r g2 => WF (shp ad K) ad cs g2 ∧ (∀ j, j ≠ 216 ∧ j ≠ 217 → g2 j = g j) ∧ ((sl.toInt < 0 ∨ 3 < sl.toInt ∨ tt.toInt < 0 ∨ 3 < tt.toInt → r.toInt = -2) ∧ (0 ≤ sl.toInt ∧ sl.toInt ≤ 3 ∧ 0 ≤ tt.toInt ∧ tt.toInt ≤ 3 → (K.2.2.2.2.1 sl.toNatClampNeg).toInt = -1 ∨ (K.2.2.2.2.1 tt.toNatClampNeg).toInt = -1 → r.toInt = -6) ∧ (0 ≤ sl.toInt ∧ sl.toInt ≤ 3 ∧ 0 ≤ tt.toInt ∧ tt.toInt ≤ 3 → ¬ (K.2.2.2.2.1 sl.toNatClampNeg).toInt = -1 → ¬ (K.2.2.2.2.1 tt.toNatClampNeg).toInt = -1 → (K.2.2.2.2.2.1 sl.toNatClampNeg).toInt ≠ (K.2.2.2.2.2.1 tt.toNatClampNeg).toInt → r.toInt = -8) ∧ (0 ≤ sl.toInt ∧ sl.toInt ≤ 3 ∧ 0 ≤ tt.toInt ∧ tt.toInt ≤ 3 → ¬ (K.2.2.2.2.1 sl.toNatClampNeg).toInt = -1 → ¬ (K.2.2.2.2.1 tt.toNatClampNeg).toInt = -1 → (K.2.2.2.2.2.1 sl.toNatClampNeg).toInt = (K.2.2.2.2.2.1 tt.toNatClampNeg).toInt → (ix.toInt < 0 ∨ kk.toInt < 0 ∨ nn.toInt < 0 ∨ (K.2.2.2.2.1 sl.toNatClampNeg).toInt < ix.toInt + nn.toInt ∨ (K.2.2.2.2.1 tt.toNatClampNeg).toInt < kk.toInt + nn.toInt) → r.toInt = -7) ∧ (0 ≤ sl.toInt ∧ sl.toInt ≤ 3 ∧ 0 ≤ tt.toInt ∧ tt.toInt ≤ 3 → ¬ (K.2.2.2.2.1 sl.toNatClampNeg).toInt = -1 → ¬ (K.2.2.2.2.1 tt.toNatClampNeg).toInt = -1 → (K.2.2.2.2.2.1 sl.toNatClampNeg).toInt = (K.2.2.2.2.2.1 tt.toNatClampNeg).toInt → ¬ (ix.toInt < 0 ∨ kk.toInt < 0 ∨ nn.toInt < 0 ∨ (K.2.2.2.2.1 sl.toNatClampNeg).toInt < ix.toInt + nn.toInt ∨ (K.2.2.2.2.1 tt.toNatClampNeg).toInt < kk.toInt + nn.toInt) → r.toInt = 0)))) ([.ref (ad 197), .int sl, .int ix, .int tt, .int kk, .int nn] : List Value).toArray s 0 0 (wA ad 218)) (F0 m 113 ls []) := by
                        intro n113
                        induction n113 with
                        | zero =>
                          intro v113_6 G113 H locs ls hm113 hv113_0 hW113 hfr113 hP hS hl
                          exact absurd hm113 (Nat.not_lt_zero _)
                        | succ n113 ih113 =>
                          intro v113_6 G113 H locs ls hm113 hv113_0 hW113 hfr113 hP hS hl
                          refine lv_iload hx hb dX12_paste_113 (lv_at hl 0 rfl) ?_
                          refine lv_iload hx hb dX12_paste_115 (lv_at hl 6 rfl) ?_
                          refine lv_icmp_ge (tgt := 147) hx hb dX12_paste_117 (by decide) (fun hc_43 => ?_) (fun hc_43 => ?_)
                          · have hhc_43 := n_le (rfl : nn.toInt = nn.toInt) (rfl : v113_6.toInt = v113_6.toInt) hc_43
                            refine lv_iconst (v := 0) hx hb dX12_paste_147 (by decide) ?_
                            refine lv_istore (lv' := [(6, .int 0), (0, .ref (ad 197)), (1, .int sl), (2, .int ix), (3, .int tt), (4, .int kk), (5, .int nn)]) hx hb dX12_paste_148 hl (by decide) rfl (fun ls hl => ?_)
                            have HL150 : ∀ (n150 : Nat) (v150_6 : Int32) (G150 : Nat → va_E) (H : Heap) (locs : List Loc) (ls : Array Slot), (60 - v150_6.toInt).toNat < n150 → (0 ≤ v150_6.toInt ∧ v150_6.toInt ≤ 60) → WF (shp ad K) ad cs G150 → (∀ j, j ≠ 216 ∧ j ≠ 217 → G150 j = g j) → va_P D vwCl (wL ad G150 218) H → va_S (wA ad 218) s.heap H locs → lv_has ls 7 [(6, .int v150_6), (0, .ref (ad 197)), (3, .int tt), (4, .int kk), (5, .int nn)] → W p l e ({ frames := 2, cells := 0, slots := 0, locals := 45 } : Room) s m ([.ref (ad 197), .int sl, .int ix, .int tt, .int kk, .int nn] : List Value).toArray below meth c H locs 0 0 (MQ below (qI D ad 218 (fun r g2 => WF (shp ad K) ad cs g2 ∧ (∀ j, j ≠ 216 ∧ j ≠ 217 → g2 j = g j) ∧ ((sl.toInt < 0 ∨ 3 < sl.toInt ∨ tt.toInt < 0 ∨ 3 < tt.toInt → r.toInt = -2) ∧ (0 ≤ sl.toInt ∧ sl.toInt ≤ 3 ∧ 0 ≤ tt.toInt ∧ tt.toInt ≤ 3 → (K.2.2.2.2.1 sl.toNatClampNeg).toInt = -1 ∨ (K.2.2.2.2.1 tt.toNatClampNeg).toInt = -1 → r.toInt = -6) ∧ (0 ≤ sl.toInt ∧ sl.toInt ≤ 3 ∧ 0 ≤ tt.toInt ∧ tt.toInt ≤ 3 → ¬ (K.2.2.2.2.1 sl.toNatClampNeg).toInt = -1 → ¬ (K.2.2.2.2.1 tt.toNatClampNeg).toInt = -1 → (K.2.2.2.2.2.1 sl.toNatClampNeg).toInt ≠ (K.2.2.2.2.2.1 tt.toNatClampNeg).toInt → r.toInt = -8) ∧ (0 ≤ sl.toInt ∧ sl.toInt ≤ 3 ∧ 0 ≤ tt.toInt ∧ tt.toInt ≤ 3 → ¬ (K.2.2.2.2.1 sl.toNatClampNeg).toInt = -1 → ¬ (K.2.2.2.2.1 tt.toNatClampNeg).toInt = -1 → (K.2.2.2.2.2.1 sl.toNatClampNeg).toInt = (K.2.2.2.2.2.1 tt.toNatClampNeg).toInt → (ix.toInt < 0 ∨ kk.toInt < 0 ∨ nn.toInt < 0 ∨ (K.2.2.2.2.1 sl.toNatClampNeg).toInt < ix.toInt + nn.toInt ∨ (K.2.2.2.2.1 tt.toNatClampNeg).toInt < kk.toInt + nn.toInt) → r.toInt = -7) ∧ (0 ≤ sl.toInt ∧ sl.toInt ≤ 3 ∧ 0 ≤ tt.toInt ∧ tt.toInt ≤ 3 → ¬ (K.2.2.2.2.1 sl.toNatClampNeg).toInt = -1 → ¬ (K.2.2.2.2.1 tt.toNatClampNeg).toInt = -1 → (K.2.2.2.2.2.1 sl.toNatClampNeg).toInt = (K.2.2.2.2.2.1 tt.toNatClampNeg).toInt → ¬ (ix.toInt < 0 ∨ kk.toInt < 0 ∨ nn.toInt < 0 ∨ (K.2.2.2.2.1 sl.toNatClampNeg).toInt < ix.toInt + nn.toInt ∨ (K.2.2.2.2.1 tt.toNatClampNeg).toInt < kk.toInt + nn.toInt) → r.toInt = 0)))) ([.ref (ad 197), .int sl, .int ix, .int tt, .int kk, .int nn] : List Value).toArray s 0 0 (wA ad 218)) (F0 m 150 ls []) := by
                              intro n150
                              induction n150 with
                              | zero =>
                                intro v150_6 G150 H locs ls hm150 hv150_0 hW150 hfr150 hP hS hl
                                exact absurd hm150 (Nat.not_lt_zero _)
                              | succ n150 ih150 =>
                                intro v150_6 G150 H locs ls hm150 hv150_0 hW150 hfr150 hP hS hl
                                refine lv_iload hx hb dX12_paste_150 (lv_at hl 0 rfl) ?_
                                refine lv_iload hx hb dX12_paste_152 (lv_at hl 4 rfl) ?_
                                refine lv_icmp_ge (tgt := 185) hx hb dX12_paste_154 (by decide) (fun hc_44 => ?_) (fun hc_44 => ?_)
                                · have hhc_44 := n_le (rfl : nn.toInt = nn.toInt) (rfl : v150_6.toInt = v150_6.toInt) hc_44
                                  refine lv_iconst (v := 0) hx hb dX12_paste_185 (by decide) ?_
                                  have hr0 : (0 : Int32).toInt = 0 := by decide
                                  exact q_iret X hP hS ⟨hW150, hfr150, ⟨fun q0 => by omega, fun q0 q1 => by omega, fun q0 q1 q2 q3 => by omega, fun q0 q1 q2 q3 q4 => by omega, fun q0 q1 q2 q3 q4 => by omega⟩⟩ dX12_paste_186
                                · have hhc_44 := n_nle (rfl : nn.toInt = nn.toInt) (rfl : v150_6.toInt = v150_6.toInt) hc_44
                                  refine lv_aload_n hx hb dX12_paste_157 rfl (lv_at hl 1 rfl) ?_
                                  obtain ⟨fsc_45, hgc_45, hOc_45⟩ := hW150.obj (i := 197) (by decide) (sh_197 ad K)
                                  have hk_46 := hOc_45.ref 38 rfl
                                  refine q_get X iX12_paste_12 hP (by decide) hgc_45 rfl 38 (by decide) (List.mem_of_getElem? (i := 7) rfl) (v := .ref (ad 216)) hk_46 dX12_paste_158 ?_
                                  refine lv_bipush (v := 60) hx hb dX12_paste_161 (by decide) ?_
                                  refine lv_iload_n hx hb dX12_paste_163 rfl (lv_at hl 2 rfl) ?_
                                  refine lv_imul hx hb dX12_paste_164 ?_
                                  refine lv_topi (fun z_47 ez_47 => ?_)
                                  have hz_47 : z_47.toInt = 60 * tt.toInt := n_mul (by decide : (60 : Int32).toInt = 60) (rfl : tt.toInt = tt.toInt) ez_47 (by omega) (by omega)
                                  refine lv_iload hx hb dX12_paste_165 (lv_at hl 3 rfl) ?_
                                  refine lv_iadd hx hb dX12_paste_167 ?_
                                  refine lv_topi (fun z_48 ez_48 => ?_)
                                  have hz_48 : z_48.toInt = z_47.toInt + kk.toInt := n_add (rfl : z_47.toInt = z_47.toInt) (rfl : kk.toInt = kk.toInt) ez_48 (by omega) (by omega)
                                  refine lv_iload hx hb dX12_paste_168 (lv_at hl 0 rfl) ?_
                                  refine lv_iadd hx hb dX12_paste_170 ?_
                                  refine lv_topi (fun z_49 ez_49 => ?_)
                                  have hz_49 : z_49.toInt = z_48.toInt + v150_6.toInt := n_add (rfl : z_48.toInt = z_48.toInt) (rfl : v150_6.toInt = v150_6.toInt) ez_49 (by omega) (by omega)
                                  refine lv_aload_n hx hb dX12_paste_171 rfl (lv_at hl 1 rfl) ?_
                                  have hk_50 := hOc_45.ref 39 rfl
                                  refine q_get X iX12_paste_12 hP (by decide) hgc_45 rfl 39 (by decide) (List.mem_of_getElem? (i := 6) rfl) (v := .ref (ad 217)) hk_50 dX12_paste_172 ?_
                                  refine lv_iload hx hb dX12_paste_175 (lv_at hl 0 rfl) ?_
                                  obtain ⟨fc_51, hgc_51, hFc_51⟩ := hW150.arj (i := 217) (by decide) (sh_217 ad K)
                                  refine q_lald X hP (by decide) hgc_51 (n_in (rfl : v150_6.toInt = v150_6.toInt) (by omega) (by omega)) dX12_paste_177 ?_
                                  refine lv_topl (fun z_52 ez_52 => ?_)
                                  obtain ⟨fc_53, hgc_53, hFc_53⟩ := hW150.arj (i := 216) (by decide) (sh_216 ad K)
                                  refine s_last X hP hj hA hS (by decide) hgc_53 (n_in (rfl : z_49.toInt = z_49.toInt) (by omega) (by omega)) dX12_paste_178 hW150 (sh_216 ad K) (hFc_53.put trivial) (fun fc_54 gc_54 H locs ec_54 hFc_54 hgc_54 hfc_54 hWc_54 hP hS => ?_)
                                  have hg_56 := (hfc_54 197 (by decide)).trans hgc_45
                                  have hg_57 := (hfc_54 217 (by decide)).trans hgc_51
                                  have hfr_55 : ∀ j, j ≠ 216 ∧ j ≠ 217 → gc_54 j = g j := fun j hj => (hfc_54 j (by first | exact hj | exact hj.1 | exact hj.2 | exact hj.2.1 | exact hj.2.2 | omega)).trans (hfr150 j hj)
                                  obtain ⟨x_58, ex_58⟩ : ∃ y : Int32, y = v150_6 + 1 := ⟨_, rfl⟩
                                  have hx_58 : x_58.toInt = v150_6.toInt + 1 := n_add rfl (by decide : (1 : Int32).toInt = 1) ex_58 (by omega) (by omega)
                                  refine lv_iinc (v := x_58) (lv' := [(6, .int x_58), (0, .ref (ad 197)), (3, .int tt), (4, .int kk), (5, .int nn)]) hx hb dX12_paste_179 hl (k := 0) rfl (by rw [ex_58]; rfl) (by decide) rfl (fun ls hl => ?_)
                                  refine lv_goto (tgt := 150) hx hb dX12_paste_182 (by decide) ?_
                                  exact ih150 x_58 gc_54 _ _ ls (by omega) (by omega) hWc_54 hfr_55 hP hS (lv_sub hl [0, 1, 2, 3, 4] rfl)
                            have hiv150_6 : (0 : Int32).toInt = 0 := by decide
                            exact HL150 _ 0 G113 _ _ ls (Nat.lt_succ_self _) (by omega) hW113 hfr113 hP hS (lv_sub hl [0, 1, 4, 5, 6] rfl)
                          · have hhc_43 := n_nle (rfl : nn.toInt = nn.toInt) (rfl : v113_6.toInt = v113_6.toInt) hc_43
                            refine lv_aload_n hx hb dX12_paste_120 rfl (lv_at hl 1 rfl) ?_
                            obtain ⟨fsc_59, hgc_59, hOc_59⟩ := hW113.obj (i := 197) (by decide) (sh_197 ad K)
                            have hk_60 := hOc_59.ref 39 rfl
                            refine q_get X iX12_paste_12 hP (by decide) hgc_59 rfl 39 (by decide) (List.mem_of_getElem? (i := 6) rfl) (v := .ref (ad 217)) hk_60 dX12_paste_121 ?_
                            refine lv_iload hx hb dX12_paste_124 (lv_at hl 0 rfl) ?_
                            refine lv_aload_n hx hb dX12_paste_126 rfl (lv_at hl 1 rfl) ?_
                            have hk_61 := hOc_59.ref 38 rfl
                            refine q_get X iX12_paste_12 hP (by decide) hgc_59 rfl 38 (by decide) (List.mem_of_getElem? (i := 7) rfl) (v := .ref (ad 216)) hk_61 dX12_paste_127 ?_
                            refine lv_bipush (v := 60) hx hb dX12_paste_130 (by decide) ?_
                            refine lv_iload_n hx hb dX12_paste_132 rfl (lv_at hl 2 rfl) ?_
                            refine lv_imul hx hb dX12_paste_133 ?_
                            refine lv_topi (fun z_62 ez_62 => ?_)
                            have hz_62 : z_62.toInt = 60 * sl.toInt := n_mul (by decide : (60 : Int32).toInt = 60) (rfl : sl.toInt = sl.toInt) ez_62 (by omega) (by omega)
                            refine lv_iload_n hx hb dX12_paste_134 rfl (lv_at hl 3 rfl) ?_
                            refine lv_iadd hx hb dX12_paste_135 ?_
                            refine lv_topi (fun z_63 ez_63 => ?_)
                            have hz_63 : z_63.toInt = z_62.toInt + ix.toInt := n_add (rfl : z_62.toInt = z_62.toInt) (rfl : ix.toInt = ix.toInt) ez_63 (by omega) (by omega)
                            refine lv_iload hx hb dX12_paste_136 (lv_at hl 0 rfl) ?_
                            refine lv_iadd hx hb dX12_paste_138 ?_
                            refine lv_topi (fun z_64 ez_64 => ?_)
                            have hz_64 : z_64.toInt = z_63.toInt + v113_6.toInt := n_add (rfl : z_63.toInt = z_63.toInt) (rfl : v113_6.toInt = v113_6.toInt) ez_64 (by omega) (by omega)
                            obtain ⟨fc_65, hgc_65, hFc_65⟩ := hW113.arj (i := 216) (by decide) (sh_216 ad K)
                            refine q_lald X hP (by decide) hgc_65 (n_in (rfl : z_64.toInt = z_64.toInt) (by omega) (by omega)) dX12_paste_139 ?_
                            refine lv_topl (fun z_66 ez_66 => ?_)
                            obtain ⟨fc_67, hgc_67, hFc_67⟩ := hW113.arj (i := 217) (by decide) (sh_217 ad K)
                            refine s_last X hP hj hA hS (by decide) hgc_67 (n_in (rfl : v113_6.toInt = v113_6.toInt) (by omega) (by omega)) dX12_paste_140 hW113 (sh_217 ad K) (hFc_67.put trivial) (fun fc_68 gc_68 H locs ec_68 hFc_68 hgc_68 hfc_68 hWc_68 hP hS => ?_)
                            have hg_70 := (hfc_68 197 (by decide)).trans hgc_59
                            have hg_71 := (hfc_68 216 (by decide)).trans hgc_65
                            have hfr_69 : ∀ j, j ≠ 216 ∧ j ≠ 217 → gc_68 j = g j := fun j hj => (hfc_68 j (by first | exact hj | exact hj.1 | exact hj.2 | exact hj.2.1 | exact hj.2.2 | omega)).trans (hfr113 j hj)
                            obtain ⟨x_72, ex_72⟩ : ∃ y : Int32, y = v113_6 + 1 := ⟨_, rfl⟩
                            have hx_72 : x_72.toInt = v113_6.toInt + 1 := n_add rfl (by decide : (1 : Int32).toInt = 1) ex_72 (by omega) (by omega)
                            refine lv_iinc (v := x_72) (lv' := [(6, .int x_72), (0, .ref (ad 197)), (1, .int sl), (2, .int ix), (3, .int tt), (4, .int kk), (5, .int nn)]) hx hb dX12_paste_141 hl (k := 0) rfl (by rw [ex_72]; rfl) (by decide) rfl (fun ls hl => ?_)
                            refine lv_goto (tgt := 113) hx hb dX12_paste_144 (by decide) ?_
                            exact ih113 x_72 gc_68 _ _ ls (by omega) (by omega) hWc_68 hfr_69 hP hS (lv_sub hl [0, 1, 2, 3, 4, 5, 6] rfl)
                      have hiv113_6 : (0 : Int32).toInt = 0 := by decide
                      exact HL113 _ 0 g _ _ ls (Nat.lt_succ_self _) (by omega) hW hfr hP hS (lv_sub hl [0, 1, 2, 3, 4, 5, 6] rfl)
                    · have hhc_40 := j_cgtN (rfl : z_37.toInt = z_37.toInt) (rfl : z_39.toInt = z_39.toInt) hc_40
                      exact HJ107 g _ _ ls (by omega) hW hfr hgc_11 hgc_13 hgc_21 hP hS (lv_sub hl [] rfl)
          · have hhc_24 := n_ne (rfl : z_22.toInt = z_22.toInt) (rfl : z_23.toInt = z_23.toInt) hc_24
            refine lv_bipush (v := (-8)) hx hb dX12_paste_55 (by decide) ?_
            have hr0 : ((-8) : Int32).toInt = -8 := by decide
            exact q_iret X hP hS ⟨hW, hfr, ⟨fun q0 => by omega, fun q0 q1 => by omega, fun q0 q1 q2 q3 => by omega, fun q0 q1 q2 q3 q4 => by omega, fun q0 q1 q2 q3 q4 => by omega⟩⟩ dX12_paste_57
        · have hhc_17 := n_eq (rfl : z_16.toInt = z_16.toInt) (by decide : (-1 : Int32).toInt = -1) hc_17
          exact HJ37 g _ _ ls (by omega) hW hfr hgc_11 hgc_13 hP hS (lv_sub hl [] rfl)
    · have hhc_8 := n_eq (rfl : r_7.toInt = r_7.toInt) (by decide : (0 : Int32).toInt = 0) hc_8
      exact HJ14 g _ _ ls (by omega) hW hfr hP hS (lv_sub hl [] rfl)

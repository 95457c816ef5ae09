set_option maxHeartbeats 4000000 in
set_option maxRecDepth 100000 in
theorem s_X5_coversF (l : Launch) (D : va_G) (cs : Nat → ClassId) (ad : Nat → Nat) (kS : kSt) (K : sK) (hKO : KO K) (hj : wJ ad 218) (g : Nat → va_E) (hW : WF (shp ad K) ad cs g) (jj : Nat) (fr : Int32) (nn : Int32) (hp0 : jj < 4) : sI l yX5_covers vX5_covers { frames := 0, cells := 0, slots := 0, locals := 0 } D cs ad kS [.ref (ad (106 + 2 * jj)), .int fr, .int nn] g (fun r g2 => g2 = g ∧ (0 ≤ r.toInt ∧ r.toInt ≤ 1 ∧ (r.toInt ≠ 0 → 0 ≤ fr.toInt ∧ 0 ≤ nn.toInt ∧ fr.toInt + nn.toInt ≤ (K.2.2.2.1 jj).toInt) ∧ (r.toInt = 0 → fr.toInt < 0 ∨ nn.toInt < 0 ∨ (K.2.2.2.1 jj).toInt < fr.toInt + nn.toInt))) := by
  refine Met.startS (cc := cX5_covers) (maxL := 3) (ret := (some .boolean)) RX5 rfl (by decide) rfl (Nat.le_of_ble_eq_true rfl) ?_
  intro p e s m below meth c ls X Z hP hl
  have hx := X.1
  have hb := X.2.1
  have hS : va_S (wA ad 218) s.heap s.heap [] := va_S.rf
  have hA : ∀ i, i < 218 → wA ad 218 (ad i) := fun i h => ⟨i, h, rfl⟩
  have hj_jj := hp0
  have hl : lv_has ls 3 [(0, .ref (ad (106 + 2 * jj))), (1, .int fr), (2, .int nn)] := hl
  refine lv_iload_n hx hb dX5_covers_0 rfl (lv_at hl 1 rfl) ?_
  have HJ30 : ∀ (H : Heap) (locs : List Loc) (ls : Array Slot), (fr.toInt < 0 ∨ nn.toInt < 0 ∨ (K.2.2.2.1 jj).toInt < fr.toInt + nn.toInt) → va_P D vwCl (wL ad g 218) H → va_S (wA ad 218) s.heap H locs → lv_has ls 3 [] → W p l e ({ frames := 0, cells := 0, slots := 0, locals := 0 } : Room) s m ([.ref (ad (106 + 2 * jj)), .int fr, .int nn] : List Value).toArray below meth c H locs 0 0 (MQ below (qI D ad 218 (fun r g2 => g2 = g ∧ (0 ≤ r.toInt ∧ r.toInt ≤ 1 ∧ (r.toInt ≠ 0 → 0 ≤ fr.toInt ∧ 0 ≤ nn.toInt ∧ fr.toInt + nn.toInt ≤ (K.2.2.2.1 jj).toInt) ∧ (r.toInt = 0 → fr.toInt < 0 ∨ nn.toInt < 0 ∨ (K.2.2.2.1 jj).toInt < fr.toInt + nn.toInt)))) ([.ref (ad (106 + 2 * jj)), .int fr, .int nn] : List Value).toArray s 0 0 (wA ad 218)) (F0 m 30 ls []) := by
    intro H locs ls he30_0 hP hS hl
    refine lv_iconst (v := 0) hx hb dX5_covers_30 (by decide) ?_
    have hr0 : (0 : Int32).toInt = 0 := by decide
    exact q_zret X hP hS rfl ⟨rfl, ⟨by omega, by omega, fun q0 => by omega, fun q0 => by omega⟩⟩ dX5_covers_31
  refine lv_if_lt (tgt := 30) hx hb dX5_covers_1 (by decide) (fun hc_1 => ?_) (fun hc_1 => ?_)
  · have hhc_1 := n_lt (rfl : fr.toInt = fr.toInt) (by decide : (0 : Int32).toInt = 0) hc_1
    exact HJ30 _ _ ls (by omega) hP hS (lv_sub hl [] rfl)
  · have hhc_1 := n_nlt (rfl : fr.toInt = fr.toInt) (by decide : (0 : Int32).toInt = 0) hc_1
    refine lv_iload_n hx hb dX5_covers_4 rfl (lv_at hl 2 rfl) ?_
    refine lv_if_lt (tgt := 30) hx hb dX5_covers_5 (by decide) (fun hc_2 => ?_) (fun hc_2 => ?_)
    · have hhc_2 := n_lt (rfl : nn.toInt = nn.toInt) (by decide : (0 : Int32).toInt = 0) hc_2
      exact HJ30 _ _ ls (by omega) hP hS (lv_sub hl [] rfl)
    · have hhc_2 := n_nlt (rfl : nn.toInt = nn.toInt) (by decide : (0 : Int32).toInt = 0) hc_2
      refine lv_iload_n hx hb dX5_covers_8 rfl (lv_at hl 2 rfl) ?_
      refine lv_aload_n hx hb dX5_covers_9 rfl (lv_at hl 0 rfl) ?_
      obtain ⟨fsc_3, hgc_3, hOc_3⟩ := hW.obj (i := (106 + 2 * jj)) (by omega) (shJ_0 ad K hj_jj)
      obtain ⟨x_5, hk_4, hlx_5, hhx_5⟩ := hOc_3.int 3 rfl
      have hqx_5 := hKO jj
      refine q_get X iX5_covers_5 hP (by omega) hgc_3 rfl 3 (by decide) (List.mem_of_getElem? (i := 1) rfl) (v := .int x_5) hk_4 dX5_covers_10 ?_
      refine lv_icmp_gt (tgt := 30) hx hb dX5_covers_13 (by decide) (fun hc_6 => ?_) (fun hc_6 => ?_)
      · have hhc_6 := n_lt (rfl : x_5.toInt = x_5.toInt) (rfl : nn.toInt = nn.toInt) hc_6
        have := n_hi nn
        exact HJ30 _ _ ls (by omega) hP hS (lv_sub hl [] rfl)
      · have hhc_6 := n_nlt (rfl : x_5.toInt = x_5.toInt) (rfl : nn.toInt = nn.toInt) hc_6
        have := n_hi nn
        refine lv_iload_n hx hb dX5_covers_16 rfl (lv_at hl 1 rfl) ?_
        refine lv_aload_n hx hb dX5_covers_17 rfl (lv_at hl 0 rfl) ?_
        refine q_get X iX5_covers_5 hP (by omega) hgc_3 rfl 3 (by decide) (List.mem_of_getElem? (i := 1) rfl) (v := .int x_5) hk_4 dX5_covers_18 ?_
        refine lv_iload_n hx hb dX5_covers_21 rfl (lv_at hl 2 rfl) ?_
        refine lv_isub hx hb dX5_covers_22 ?_
        refine lv_topi (fun z_7 ez_7 => ?_)
        have hz_7 : z_7.toInt = x_5.toInt - nn.toInt := n_sub (rfl : x_5.toInt = x_5.toInt) (rfl : nn.toInt = nn.toInt) ez_7 (by omega) (by omega)
        refine lv_icmp_gt (tgt := 30) hx hb dX5_covers_23 (by decide) (fun hc_8 => ?_) (fun hc_8 => ?_)
        · have hhc_8 := n_lt (rfl : z_7.toInt = z_7.toInt) (rfl : fr.toInt = fr.toInt) hc_8
          have := n_hi fr
          exact HJ30 _ _ ls (by omega) hP hS (lv_sub hl [] rfl)
        · have hhc_8 := n_nlt (rfl : z_7.toInt = z_7.toInt) (rfl : fr.toInt = fr.toInt) hc_8
          have := n_hi fr
          refine lv_iconst (v := 1) hx hb dX5_covers_26 (by decide) ?_
          refine lv_goto (tgt := 31) hx hb dX5_covers_27 (by decide) ?_
          have hr0 : (1 : Int32).toInt = 1 := by decide
          exact q_zret X hP hS rfl ⟨rfl, ⟨by omega, by omega, fun q0 => by omega, fun q0 => by omega⟩⟩ dX5_covers_31

theorem dX11_paste_0 : decode cX11_paste 0 = .ok (.iload_n 1, 1) := by decide +kernel
theorem dX11_paste_1 : decode cX11_paste 1 = .ok (.invokestatic 377, 3) := by decide +kernel
theorem dX11_paste_4 : decode cX11_paste 4 = .ok (.ifCond .eq 10, 3) := by decide +kernel
theorem dX11_paste_7 : decode cX11_paste 7 = .ok (.iload_n 3, 1) := by decide +kernel
theorem dX11_paste_8 : decode cX11_paste 8 = .ok (.invokestatic 377, 3) := by decide +kernel
theorem dX11_paste_11 : decode cX11_paste 11 = .ok (.ifCond .ne 6, 3) := by decide +kernel
theorem dX11_paste_17 : decode cX11_paste 17 = .ok (.aload_n 0, 1) := by decide +kernel
theorem dX11_paste_18 : decode cX11_paste 18 = .ok (.getfield 36, 3) := by decide +kernel
theorem dX11_paste_21 : decode cX11_paste 21 = .ok (.iload_n 1, 1) := by decide +kernel
theorem dX11_paste_22 : decode cX11_paste 22 = .ok (.aaload, 1) := by decide +kernel
theorem dX11_paste_23 : decode cX11_paste 23 = .ok (.astore 6, 2) := by decide +kernel
theorem dX11_paste_25 : decode cX11_paste 25 = .ok (.aload_n 0, 1) := by decide +kernel
theorem dX11_paste_26 : decode cX11_paste 26 = .ok (.getfield 36, 3) := by decide +kernel
theorem dX11_paste_29 : decode cX11_paste 29 = .ok (.iload_n 3, 1) := by decide +kernel
theorem dX11_paste_30 : decode cX11_paste 30 = .ok (.aaload, 1) := by decide +kernel
theorem dX11_paste_31 : decode cX11_paste 31 = .ok (.astore 7, 2) := by decide +kernel
theorem dX11_paste_33 : decode cX11_paste 33 = .ok (.aload 6, 2) := by decide +kernel
theorem dX11_paste_35 : decode cX11_paste 35 = .ok (.getfield 384, 3) := by decide +kernel
theorem dX11_paste_38 : decode cX11_paste 38 = .ok (.ifCond .eq 11, 3) := by decide +kernel
theorem dX11_paste_41 : decode cX11_paste 41 = .ok (.aload 7, 2) := by decide +kernel
theorem dX11_paste_43 : decode cX11_paste 43 = .ok (.getfield 384, 3) := by decide +kernel
theorem dX11_paste_46 : decode cX11_paste 46 = .ok (.ifCond .ne 6, 3) := by decide +kernel
theorem dX11_paste_52 : decode cX11_paste 52 = .ok (.aload 6, 2) := by decide +kernel
theorem dX11_paste_54 : decode cX11_paste 54 = .ok (.getfield 398, 3) := by decide +kernel
theorem dX11_paste_57 : decode cX11_paste 57 = .ok (.aload 7, 2) := by decide +kernel
theorem dX11_paste_59 : decode cX11_paste 59 = .ok (.getfield 398, 3) := by decide +kernel
theorem dX11_paste_62 : decode cX11_paste 62 = .ok (.if_icmp .eq 6, 3) := by decide +kernel
theorem dX11_paste_65 : decode cX11_paste 65 = .ok (.bipush (-8), 2) := by decide +kernel
theorem dX11_paste_67 : decode cX11_paste 67 = .ok (.ireturn, 1) := by decide +kernel
theorem dX11_paste_68 : decode cX11_paste 68 = .ok (.aload 6, 2) := by decide +kernel
theorem dX11_paste_70 : decode cX11_paste 70 = .ok (.iload_n 2, 1) := by decide +kernel
theorem dX11_paste_71 : decode cX11_paste 71 = .ok (.iload 5, 2) := by decide +kernel
theorem dX11_paste_73 : decode cX11_paste 73 = .ok (.invokevirtual 401, 3) := by decide +kernel
theorem dX11_paste_76 : decode cX11_paste 76 = .ok (.ifCond .eq 15, 3) := by decide +kernel
theorem dX11_paste_79 : decode cX11_paste 79 = .ok (.aload 7, 2) := by decide +kernel
theorem dX11_paste_81 : decode cX11_paste 81 = .ok (.iload 4, 2) := by decide +kernel
theorem dX11_paste_83 : decode cX11_paste 83 = .ok (.iload 5, 2) := by decide +kernel
theorem dX11_paste_85 : decode cX11_paste 85 = .ok (.invokevirtual 401, 3) := by decide +kernel
theorem dX11_paste_88 : decode cX11_paste 88 = .ok (.ifCond .ne 6, 3) := by decide +kernel
theorem dX11_paste_94 : decode cX11_paste 94 = .ok (.aload 6, 2) := by decide +kernel
theorem dX11_paste_96 : decode cX11_paste 96 = .ok (.getfield 391, 3) := by decide +kernel
theorem dX11_paste_99 : decode cX11_paste 99 = .ok (.iload_n 2, 1) := by decide +kernel
theorem dX11_paste_100 : decode cX11_paste 100 = .ok (.aload 7, 2) := by decide +kernel
theorem dX11_paste_102 : decode cX11_paste 102 = .ok (.getfield 391, 3) := by decide +kernel
theorem dX11_paste_105 : decode cX11_paste 105 = .ok (.iload 4, 2) := by decide +kernel
theorem dX11_paste_107 : decode cX11_paste 107 = .ok (.iload 5, 2) := by decide +kernel
theorem dX11_paste_109 : decode cX11_paste 109 = .ok (.invokestatic 404, 3) := by decide +kernel
theorem dX11_paste_112 : decode cX11_paste 112 = .ok (.iconst 0, 1) := by decide +kernel
theorem dX11_paste_113 : decode cX11_paste 113 = .ok (.ireturn, 1) := by decide +kernel
theorem dX11_paste_91 : decode cX11_paste 91 = .ok (.bipush (-7), 2) := by decide +kernel
theorem dX11_paste_93 : decode cX11_paste 93 = .ok (.ireturn, 1) := by decide +kernel
theorem dX11_paste_49 : decode cX11_paste 49 = .ok (.bipush (-6), 2) := by decide +kernel
theorem dX11_paste_51 : decode cX11_paste 51 = .ok (.ireturn, 1) := by decide +kernel
theorem dX11_paste_14 : decode cX11_paste 14 = .ok (.bipush (-2), 2) := by decide +kernel
theorem dX11_paste_16 : decode cX11_paste 16 = .ok (.ireturn, 1) := by decide +kernel
noncomputable def vX11_paste : List Cond := .code yX11_paste cX11_paste 8 (some .int) :: (([.methodLink RX11 377 yX11_isSlot, .static yX11_isSlot, .initialized RX11, .fieldLink RX11 36 "IcicleClock" "slots" "[LIcicleClock$Slot;", .fieldLink RX11 384 "IcicleClock$Slot" "laid" "Z", .fieldLink RX11 398 "IcicleClock$Slot" "width" "I", .methodLink RX11 401 yX5_covers, .instanceMethod yX5_covers, .selects RX5 yX5_covers yX5_covers, .initialized RX5, .fieldLink RX11 391 "IcicleClock$Slot" "numbers" "[J", .methodLink RX11 404 arraycopyName, .native arraycopyName, .static arraycopyName, .initialized "java/lang/System"] : List Cond) ++ (wsX110 ++ (wsX50 ++ (vX11_isSlot ++ vX5_covers))))
theorem iX11_paste_11 : ∀ w ∈ wsX110, w ∈ vX11_paste := fun _ h => List.mem_cons_of_mem _ (List.mem_append_right _ (List.mem_append_left _ h))
theorem iX11_paste_5 : ∀ w ∈ wsX50, w ∈ vX11_paste := fun _ h => List.mem_cons_of_mem _ (List.mem_append_right _ (List.mem_append_right _ (List.mem_append_left _ h)))
theorem gs_X11_paste : Gd vX11_paste := Gd.cons (by decide +kernel) (Gd.app (Gd.r (by decide +kernel)) (Gd.app gwX_11 (Gd.app gwX_5 (Gd.app gs_X11_isSlot gs_X5_covers))))
theorem gg_X11_paste_X11_isSlot : GoodIn vX11_paste (wsS RX11 377 yX11_isSlot vX11_isSlot) := goodIn_app (goodIn_r _ [1, 2, 3] (by decide +kernel) (by decide +kernel)) (fun w h => ⟨List.mem_cons_of_mem _ (List.mem_append_right _ (List.mem_append_right _ (List.mem_append_right _ (List.mem_append_left _ h)))), gs_X11_isSlot w h⟩)
theorem gg_X11_paste_X5_covers : GoodIn vX11_paste (wsV RX11 401 RX5 yX5_covers vX5_covers) := goodIn_app (goodIn_r _ [7, 8, 9, 10] (by decide +kernel) (by decide +kernel)) (fun w h => ⟨List.mem_cons_of_mem _ (List.mem_append_right _ (List.mem_append_right _ (List.mem_append_right _ (List.mem_append_right _ (h))))), gs_X5_covers w h⟩)
set_option maxHeartbeats 4000000 in
set_option maxRecDepth 100000 in
theorem s_X11_paste (l : Launch) (D : va_G) (cs : Nat → ClassId) (ad : Nat → Nat) (kS : kSt) (K : sK) (hKO : KO K) (hj : wJ ad 218) (g : Nat → va_E) (hW : WF (shp ad K) ad cs g) (sl : Int32) (ix : Int32) (tt : Int32) (kk : Int32) (nn : Int32) : sI l yX11_paste vX11_paste { frames := 1, cells := 0, slots := 0, locals := 22 } D cs ad kS [.ref (ad 0), .int sl, .int ix, .int tt, .int kk, .int nn] g (fun r g2 => WF (shp ad K) ad cs g2 ∧ (∀ j, j ≠ 107 ∧ j ≠ 109 ∧ j ≠ 111 ∧ j ≠ 113 → g2 j = g j) ∧ ((sl.toInt < 0 ∨ 3 < sl.toInt ∨ tt.toInt < 0 ∨ 3 < tt.toInt → r.toInt = -2) ∧ (0 ≤ sl.toInt ∧ sl.toInt ≤ 3 ∧ 0 ≤ tt.toInt ∧ tt.toInt ≤ 3 → (K.2.1 sl.toNatClampNeg).toInt = 0 ∨ (K.2.1 tt.toNatClampNeg).toInt = 0 → r.toInt = -6) ∧ (0 ≤ sl.toInt ∧ sl.toInt ≤ 3 ∧ 0 ≤ tt.toInt ∧ tt.toInt ≤ 3 → ¬ (K.2.1 sl.toNatClampNeg).toInt = 0 → ¬ (K.2.1 tt.toNatClampNeg).toInt = 0 → (K.2.2.1 sl.toNatClampNeg).toInt ≠ (K.2.2.1 tt.toNatClampNeg).toInt → r.toInt = -8) ∧ (0 ≤ sl.toInt ∧ sl.toInt ≤ 3 ∧ 0 ≤ tt.toInt ∧ tt.toInt ≤ 3 → ¬ (K.2.1 sl.toNatClampNeg).toInt = 0 → ¬ (K.2.1 tt.toNatClampNeg).toInt = 0 → (K.2.2.1 sl.toNatClampNeg).toInt = (K.2.2.1 tt.toNatClampNeg).toInt → (ix.toInt < 0 ∨ kk.toInt < 0 ∨ nn.toInt < 0 ∨ (K.2.2.2.1 sl.toNatClampNeg).toInt < ix.toInt + nn.toInt ∨ (K.2.2.2.1 tt.toNatClampNeg).toInt < kk.toInt + nn.toInt) → r.toInt = -7) ∧ (0 ≤ sl.toInt ∧ sl.toInt ≤ 3 ∧ 0 ≤ tt.toInt ∧ tt.toInt ≤ 3 → ¬ (K.2.1 sl.toNatClampNeg).toInt = 0 → ¬ (K.2.1 tt.toNatClampNeg).toInt = 0 → (K.2.2.1 sl.toNatClampNeg).toInt = (K.2.2.1 tt.toNatClampNeg).toInt → ¬ (ix.toInt < 0 ∨ kk.toInt < 0 ∨ nn.toInt < 0 ∨ (K.2.2.2.1 sl.toNatClampNeg).toInt < ix.toInt + nn.toInt ∨ (K.2.2.2.1 tt.toNatClampNeg).toInt < kk.toInt + nn.toInt) → r.toInt = 0))) := by
  refine Met.startS (cc := cX11_paste) (maxL := 8) (ret := (some .int)) RX11 rfl (by decide) rfl (Nat.le_of_ble_eq_true rfl) ?_
  intro p e s m below meth c ls X Z hP hl
  have hx := X.1
  have hb := X.2.1
  have hS : va_S (wA ad 218) s.heap s.heap [] := va_S.rf
  have hA : ∀ i, i < 218 → wA ad 218 (ad i) := fun i h => ⟨i, h, rfl⟩
  have hfr : ∀ j, j ≠ 107 ∧ j ≠ 109 ∧ j ≠ 111 ∧ j ≠ 113 → g j = g j := fun _ _ => rfl
  have hl : lv_has ls 8 [(0, .ref (ad 0)), (1, .int sl), (2, .int ix), (3, .int tt), (4, .int kk), (5, .int nn)] := hl
  refine lv_iload_n hx hb dX11_paste_0 rfl (lv_at hl 1 rfl) ?_
  refine s_callSi (As := [.int sl]) (rest := []) X Z (s_X11_isSlotF l D cs ad kS K hKO hj g hW sl) (cwS 1 X.2.2.2.2.1 gg_X11_paste_X11_isSlot rfl rfl rfl (by decide +kernel) ⟨Nat.le_of_ble_eq_true rfl, Nat.le_of_ble_eq_true rfl⟩) hP hA hS.2.1 hS rfl hl.1 rfl (Nat.le_of_ble_eq_true rfl) dX11_paste_1 ⟨Nat.le_of_ble_eq_true rfl, Nat.le_of_ble_eq_true rfl⟩ (fun r_3 g_2 H locs hw_1 hP hS => ?_)
  obtain ⟨hw_1g, hw_1⟩ := hw_1
  rw [hw_1g] at hP
  have HJ14 : ∀ (G14 : Nat → va_E) (H : Heap) (locs : List Loc) (ls : Array Slot), (sl.toInt < 0 ∨ 3 < sl.toInt ∨ tt.toInt < 0 ∨ 3 < tt.toInt) → WF (shp ad K) ad cs G14 → (∀ j, j ≠ 107 ∧ j ≠ 109 ∧ j ≠ 111 ∧ j ≠ 113 → G14 j = g j) → va_P D vwCl (wL ad G14 218) H → va_S (wA ad 218) s.heap H locs → lv_has ls 8 [] → W p l e ({ frames := 1, cells := 0, slots := 0, locals := 22 } : Room) s m ([.ref (ad 0), .int sl, .int ix, .int tt, .int kk, .int nn] : List Value).toArray below meth c H locs 0 0 (MQ below (qI D ad 218 (fun r g2 => WF (shp ad K) ad cs g2 ∧ (∀ j, j ≠ 107 ∧ j ≠ 109 ∧ j ≠ 111 ∧ j ≠ 113 → g2 j = g j) ∧ ((sl.toInt < 0 ∨ 3 < sl.toInt ∨ tt.toInt < 0 ∨ 3 < tt.toInt → r.toInt = -2) ∧ (0 ≤ sl.toInt ∧ sl.toInt ≤ 3 ∧ 0 ≤ tt.toInt ∧ tt.toInt ≤ 3 → (K.2.1 sl.toNatClampNeg).toInt = 0 ∨ (K.2.1 tt.toNatClampNeg).toInt = 0 → r.toInt = -6) ∧ (0 ≤ sl.toInt ∧ sl.toInt ≤ 3 ∧ 0 ≤ tt.toInt ∧ tt.toInt ≤ 3 → ¬ (K.2.1 sl.toNatClampNeg).toInt = 0 → ¬ (K.2.1 tt.toNatClampNeg).toInt = 0 → (K.2.2.1 sl.toNatClampNeg).toInt ≠ (K.2.2.1 tt.toNatClampNeg).toInt → r.toInt = -8) ∧ (0 ≤ sl.toInt ∧ sl.toInt ≤ 3 ∧ 0 ≤ tt.toInt ∧ tt.toInt ≤ 3 → ¬ (K.2.1 sl.toNatClampNeg).toInt = 0 → ¬ (K.2.1 tt.toNatClampNeg).toInt = 0 → (K.2.2.1 sl.toNatClampNeg).toInt = (K.2.2.1 tt.toNatClampNeg).toInt → (ix.toInt < 0 ∨ kk.toInt < 0 ∨ nn.toInt < 0 ∨ (K.2.2.2.1 sl.toNatClampNeg).toInt < ix.toInt + nn.toInt ∨ (K.2.2.2.1 tt.toNatClampNeg).toInt < kk.toInt + nn.toInt) → r.toInt = -7) ∧ (0 ≤ sl.toInt ∧ sl.toInt ≤ 3 ∧ 0 ≤ tt.toInt ∧ tt.toInt ≤ 3 → ¬ (K.2.1 sl.toNatClampNeg).toInt = 0 → ¬ (K.2.1 tt.toNatClampNeg).toInt = 0 → (K.2.2.1 sl.toNatClampNeg).toInt = (K.2.2.1 tt.toNatClampNeg).toInt → ¬ (ix.toInt < 0 ∨ kk.toInt < 0 ∨ nn.toInt < 0 ∨ (K.2.2.2.1 sl.toNatClampNeg).toInt < ix.toInt + nn.toInt ∨ (K.2.2.2.1 tt.toNatClampNeg).toInt < kk.toInt + nn.toInt) → r.toInt = 0)))) ([.ref (ad 0), .int sl, .int ix, .int tt, .int kk, .int nn] : List Value).toArray s 0 0 (wA ad 218)) (F0 m 14 ls []) := by
    intro G14 H locs ls he14_0 hW14 hfr14 hP hS hl
    try clear hw_1
    refine lv_bipush (v := (-2)) hx hb dX11_paste_14 (by decide) ?_
    have hr0 : ((-2) : Int32).toInt = -2 := by decide
    exact q_iret X hP hS ⟨hW14, hfr14, ⟨fun q0 => by omega, fun q0 q1 => by omega, fun q0 q1 q2 q3 => by omega, fun q0 q1 q2 q3 q4 => by omega, fun q0 q1 q2 q3 q4 => by omega⟩⟩ dX11_paste_16
  refine lv_if_eq (tgt := 14) hx hb dX11_paste_4 (by decide) (fun hc_4 => ?_) (fun hc_4 => ?_)
  · have hhc_4 := n_eq (rfl : r_3.toInt = r_3.toInt) (by decide : (0 : Int32).toInt = 0) hc_4
    exact HJ14 g _ _ ls (by omega) hW hfr hP hS (lv_sub hl [] rfl)
  · have hhc_4 := n_ne (rfl : r_3.toInt = r_3.toInt) (by decide : (0 : Int32).toInt = 0) hc_4
    refine lv_iload_n hx hb dX11_paste_7 rfl (lv_at hl 3 rfl) ?_
    refine s_callSi (As := [.int tt]) (rest := []) X Z (s_X11_isSlotF l D cs ad kS K hKO hj g hW tt) (cwS 1 X.2.2.2.2.1 gg_X11_paste_X11_isSlot rfl rfl rfl (by decide +kernel) ⟨Nat.le_of_ble_eq_true rfl, Nat.le_of_ble_eq_true rfl⟩) hP hA hS.2.1 hS rfl hl.1 rfl (Nat.le_of_ble_eq_true rfl) dX11_paste_8 ⟨Nat.le_of_ble_eq_true rfl, Nat.le_of_ble_eq_true rfl⟩ (fun r_7 g_6 H locs hw_5 hP hS => ?_)
    obtain ⟨hw_5g, hw_5⟩ := hw_5
    rw [hw_5g] at hP
    refine lv_if_ne (tgt := 17) hx hb dX11_paste_11 (by decide) (fun hc_8 => ?_) (fun hc_8 => ?_)
    · have hhc_8 := n_ne (rfl : r_7.toInt = r_7.toInt) (by decide : (0 : Int32).toInt = 0) hc_8
      have hti_9 : 0 ≤ sl.toInt ∧ sl.toInt ≤ 3 := by omega
      have hti_10 : 0 ≤ tt.toInt ∧ tt.toInt ≤ 3 := by omega
      try clear hw_1
      try clear hhc_4
      try clear hw_5
      try clear hhc_8
      refine lv_aload_n hx hb dX11_paste_17 rfl (lv_at hl 0 rfl) ?_
      obtain ⟨fsc_11, hgc_11, hOc_11⟩ := hW.obj (i := 0) (by decide) (sh_0 ad K)
      have hk_12 := hOc_11.ref 5 rfl
      refine q_get X iX11_paste_11 hP (by decide) hgc_11 rfl 5 (by decide) (List.mem_of_getElem? (i := 4) rfl) (v := .ref (ad 105)) hk_12 dX11_paste_18 ?_
      refine lv_iload_n hx hb dX11_paste_21 rfl (lv_at hl 1 rfl) ?_
      obtain ⟨fc_13, hgc_13, hFc_13⟩ := hW.aref (i := 105) (by decide) (sh_105 ad K)
      obtain ⟨e_14, h_e_14, e_e_14⟩ : ∃ q : Nat, q < 4 ∧ sl.toNatClampNeg = q := ⟨_, by have := n_cl (rfl : sl.toInt = sl.toInt) (by omega); omega, rfl⟩
      refine s_aald X hP 4 rfl rfl (by decide) hgc_13 (n_in (rfl : sl.toInt = sl.toInt) (by omega) (by omega)) (v := ad (106 + 2 * e_14)) (by rw [e_e_14]; exact hFc_13 _ h_e_14) dX11_paste_22 ?_
      have hj_e_14 := h_e_14
      have hkeq_15 : (K.2.1 sl.toNatClampNeg).toInt = (K.2.1 e_14).toInt := by rw [e_e_14]
      have hkeq_16 : (K.2.2.1 sl.toNatClampNeg).toInt = (K.2.2.1 e_14).toInt := by rw [e_e_14]
      have hkeq_17 : (K.2.2.2.1 sl.toNatClampNeg).toInt = (K.2.2.2.1 e_14).toInt := by rw [e_e_14]
      refine lv_astore (lv' := [(6, .ref (ad (106 + 2 * e_14))), (0, .ref (ad 0)), (1, .int sl), (2, .int ix), (3, .int tt), (4, .int kk), (5, .int nn)]) hx hb dX11_paste_23 hl (by decide) rfl (fun ls hl => ?_)
      refine lv_aload_n hx hb dX11_paste_25 rfl (lv_at hl 1 rfl) ?_
      refine q_get X iX11_paste_11 hP (by decide) hgc_11 rfl 5 (by decide) (List.mem_of_getElem? (i := 4) rfl) (v := .ref (ad 105)) hk_12 dX11_paste_26 ?_
      refine lv_iload_n hx hb dX11_paste_29 rfl (lv_at hl 4 rfl) ?_
      obtain ⟨e_18, h_e_18, e_e_18⟩ : ∃ q : Nat, q < 4 ∧ tt.toNatClampNeg = q := ⟨_, by have := n_cl (rfl : tt.toInt = tt.toInt) (by omega); omega, rfl⟩
      refine s_aald X hP 4 rfl rfl (by decide) hgc_13 (n_in (rfl : tt.toInt = tt.toInt) (by omega) (by omega)) (v := ad (106 + 2 * e_18)) (by rw [e_e_18]; exact hFc_13 _ h_e_18) dX11_paste_30 ?_
      have hj_e_18 := h_e_18
      have hkeq_19 : (K.2.1 tt.toNatClampNeg).toInt = (K.2.1 e_18).toInt := by rw [e_e_18]
      have hkeq_20 : (K.2.2.1 tt.toNatClampNeg).toInt = (K.2.2.1 e_18).toInt := by rw [e_e_18]
      have hkeq_21 : (K.2.2.2.1 tt.toNatClampNeg).toInt = (K.2.2.2.1 e_18).toInt := by rw [e_e_18]
      refine lv_astore (lv' := [(7, .ref (ad (106 + 2 * e_18))), (6, .ref (ad (106 + 2 * e_14))), (0, .ref (ad 0)), (1, .int sl), (2, .int ix), (3, .int tt), (4, .int kk), (5, .int nn)]) hx hb dX11_paste_31 hl (by decide) rfl (fun ls hl => ?_)
      refine lv_aload hx hb dX11_paste_33 (lv_at hl 1 rfl) ?_
      obtain ⟨fsc_22, hgc_22, hOc_22⟩ := hW.obj (i := (106 + 2 * e_14)) (by omega) (shJ_0 ad K hj_e_14)
      obtain ⟨x_24, hk_23, hlx_24, hhx_24⟩ := hOc_22.int 1 rfl
      have hqx_24 := hKO e_14
      refine q_get X iX11_paste_5 hP (by omega) hgc_22 rfl 1 (by decide) (List.mem_of_getElem? (i := 5) rfl) (v := .int x_24) hk_23 dX11_paste_35 ?_
      have HJ49 : ∀ (G49 : Nat → va_E) (H : Heap) (locs : List Loc) (ls : Array Slot), ((K.2.1 sl.toNatClampNeg).toInt = 0 ∨ (K.2.1 tt.toNatClampNeg).toInt = 0) → WF (shp ad K) ad cs G49 → (∀ j, j ≠ 107 ∧ j ≠ 109 ∧ j ≠ 111 ∧ j ≠ 113 → G49 j = g j) → G49 0 = .inr (11, fsc_11) → G49 105 = .inl (cs 4, 4, .inr (.inr (.inr (.inr fc_13)))) → va_P D vwCl (wL ad G49 218) H → va_S (wA ad 218) s.heap H locs → lv_has ls 8 [] → W p l e ({ frames := 1, cells := 0, slots := 0, locals := 22 } : Room) s m ([.ref (ad 0), .int sl, .int ix, .int tt, .int kk, .int nn] : List Value).toArray below meth c H locs 0 0 (MQ below (qI D ad 218 (fun r g2 => WF (shp ad K) ad cs g2 ∧ (∀ j, j ≠ 107 ∧ j ≠ 109 ∧ j ≠ 111 ∧ j ≠ 113 → g2 j = g j) ∧ ((sl.toInt < 0 ∨ 3 < sl.toInt ∨ tt.toInt < 0 ∨ 3 < tt.toInt → r.toInt = -2) ∧ (0 ≤ sl.toInt ∧ sl.toInt ≤ 3 ∧ 0 ≤ tt.toInt ∧ tt.toInt ≤ 3 → (K.2.1 sl.toNatClampNeg).toInt = 0 ∨ (K.2.1 tt.toNatClampNeg).toInt = 0 → r.toInt = -6) ∧ (0 ≤ sl.toInt ∧ sl.toInt ≤ 3 ∧ 0 ≤ tt.toInt ∧ tt.toInt ≤ 3 → ¬ (K.2.1 sl.toNatClampNeg).toInt = 0 → ¬ (K.2.1 tt.toNatClampNeg).toInt = 0 → (K.2.2.1 sl.toNatClampNeg).toInt ≠ (K.2.2.1 tt.toNatClampNeg).toInt → r.toInt = -8) ∧ (0 ≤ sl.toInt ∧ sl.toInt ≤ 3 ∧ 0 ≤ tt.toInt ∧ tt.toInt ≤ 3 → ¬ (K.2.1 sl.toNatClampNeg).toInt = 0 → ¬ (K.2.1 tt.toNatClampNeg).toInt = 0 → (K.2.2.1 sl.toNatClampNeg).toInt = (K.2.2.1 tt.toNatClampNeg).toInt → (ix.toInt < 0 ∨ kk.toInt < 0 ∨ nn.toInt < 0 ∨ (K.2.2.2.1 sl.toNatClampNeg).toInt < ix.toInt + nn.toInt ∨ (K.2.2.2.1 tt.toNatClampNeg).toInt < kk.toInt + nn.toInt) → r.toInt = -7) ∧ (0 ≤ sl.toInt ∧ sl.toInt ≤ 3 ∧ 0 ≤ tt.toInt ∧ tt.toInt ≤ 3 → ¬ (K.2.1 sl.toNatClampNeg).toInt = 0 → ¬ (K.2.1 tt.toNatClampNeg).toInt = 0 → (K.2.2.1 sl.toNatClampNeg).toInt = (K.2.2.1 tt.toNatClampNeg).toInt → ¬ (ix.toInt < 0 ∨ kk.toInt < 0 ∨ nn.toInt < 0 ∨ (K.2.2.2.1 sl.toNatClampNeg).toInt < ix.toInt + nn.toInt ∨ (K.2.2.2.1 tt.toNatClampNeg).toInt < kk.toInt + nn.toInt) → r.toInt = 0)))) ([.ref (ad 0), .int sl, .int ix, .int tt, .int kk, .int nn] : List Value).toArray s 0 0 (wA ad 218)) (F0 m 49 ls []) := by
        intro G49 H locs ls he49_0 hW49 hfr49 hg49_0 hg49_1 hP hS hl
        try clear hw_1
        try clear hhc_4
        try clear hw_5
        try clear hhc_8
        refine lv_bipush (v := (-6)) hx hb dX11_paste_49 (by decide) ?_
        have hr0 : ((-6) : Int32).toInt = -6 := by decide
        exact q_iret X hP hS ⟨hW49, hfr49, ⟨fun q0 => by omega, fun q0 q1 => by omega, fun q0 q1 q2 q3 => by omega, fun q0 q1 q2 q3 q4 => by omega, fun q0 q1 q2 q3 q4 => by omega⟩⟩ dX11_paste_51
      refine lv_if_eq (tgt := 49) hx hb dX11_paste_38 (by decide) (fun hc_25 => ?_) (fun hc_25 => ?_)
      · have hhc_25 := n_eq (rfl : x_24.toInt = x_24.toInt) (by decide : (0 : Int32).toInt = 0) hc_25
        exact HJ49 g _ _ ls (by omega) hW hfr hgc_11 hgc_13 hP hS (lv_sub hl [] rfl)
      · have hhc_25 := n_ne (rfl : x_24.toInt = x_24.toInt) (by decide : (0 : Int32).toInt = 0) hc_25
        refine lv_aload hx hb dX11_paste_41 (lv_at hl 0 rfl) ?_
        obtain ⟨fsc_26, hgc_26, hOc_26⟩ := hW.obj (i := (106 + 2 * e_18)) (by omega) (shJ_0 ad K hj_e_18)
        obtain ⟨x_28, hk_27, hlx_28, hhx_28⟩ := hOc_26.int 1 rfl
        have hqx_28 := hKO e_18
        refine q_get X iX11_paste_5 hP (by omega) hgc_26 rfl 1 (by decide) (List.mem_of_getElem? (i := 5) rfl) (v := .int x_28) hk_27 dX11_paste_43 ?_
        refine lv_if_ne (tgt := 52) hx hb dX11_paste_46 (by decide) (fun hc_29 => ?_) (fun hc_29 => ?_)
        · have hhc_29 := n_ne (rfl : x_28.toInt = x_28.toInt) (by decide : (0 : Int32).toInt = 0) hc_29
          have hti_30 : 1 ≤ (K.2.1 sl.toNatClampNeg).toInt := by omega
          have hti_31 : 1 ≤ (K.2.1 tt.toNatClampNeg).toInt := by omega
          try clear hw_1
          try clear hhc_4
          try clear hw_5
          try clear hhc_8
          try clear hhc_25
          try clear hhc_29
          refine lv_aload hx hb dX11_paste_52 (lv_at hl 1 rfl) ?_
          obtain ⟨x_33, hk_32, hlx_33, hhx_33⟩ := hOc_22.int 2 rfl
          have hqx_33 := hKO e_14
          refine q_get X iX11_paste_5 hP (by omega) hgc_22 rfl 2 (by decide) (List.mem_of_getElem? (i := 6) rfl) (v := .int x_33) hk_32 dX11_paste_54 ?_
          refine lv_aload hx hb dX11_paste_57 (lv_at hl 0 rfl) ?_
          obtain ⟨x_35, hk_34, hlx_35, hhx_35⟩ := hOc_26.int 2 rfl
          have hqx_35 := hKO e_18
          refine q_get X iX11_paste_5 hP (by omega) hgc_26 rfl 2 (by decide) (List.mem_of_getElem? (i := 6) rfl) (v := .int x_35) hk_34 dX11_paste_59 ?_
          refine lv_icmp_eq (tgt := 68) hx hb dX11_paste_62 (by decide) (fun hc_36 => ?_) (fun hc_36 => ?_)
          · have hhc_36 := n_eq (rfl : x_33.toInt = x_33.toInt) (rfl : x_35.toInt = x_35.toInt) hc_36
            have hti_37 : (K.2.2.1 sl.toNatClampNeg).toInt = (K.2.2.1 tt.toNatClampNeg).toInt := by omega
            try clear hw_1
            try clear hhc_4
            try clear hw_5
            try clear hhc_8
            try clear hhc_25
            try clear hhc_29
            try clear hhc_36
            refine lv_aload hx hb dX11_paste_68 (lv_at hl 1 rfl) ?_
            refine lv_iload_n hx hb dX11_paste_70 rfl (lv_at hl 4 rfl) ?_
            refine lv_iload hx hb dX11_paste_71 (lv_at hl 7 rfl) ?_
            refine s_calli (q := (RX5, TX5, 4)) (As := [.int ix, .int nn]) (rest := []) X Z (s_X5_coversF l D cs ad kS K hKO hj g hW e_14 ix nn (by omega)) (cwV 2 X.2.2.2.2.1 gg_X11_paste_X5_covers rfl rfl rfl (by decide +kernel) ⟨Nat.le_of_ble_eq_true rfl, Nat.le_of_ble_eq_true rfl⟩) (by omega) hgc_22 rfl hP hA hS.2.1 hS rfl hl.1 rfl (Nat.le_of_ble_eq_true rfl) dX11_paste_73 ⟨Nat.le_of_ble_eq_true rfl, Nat.le_of_ble_eq_true rfl⟩ (fun r_40 g_39 H locs hw_38 hP hS => ?_)
            obtain ⟨hw_38g, hw_38⟩ := hw_38
            rw [hw_38g] at hP
            have HJ91 : ∀ (G91 : Nat → va_E) (H : Heap) (locs : List Loc) (ls : Array Slot), (ix.toInt < 0 ∨ kk.toInt < 0 ∨ nn.toInt < 0 ∨ (K.2.2.2.1 sl.toNatClampNeg).toInt < ix.toInt + nn.toInt ∨ (K.2.2.2.1 tt.toNatClampNeg).toInt < kk.toInt + nn.toInt) → WF (shp ad K) ad cs G91 → (∀ j, j ≠ 107 ∧ j ≠ 109 ∧ j ≠ 111 ∧ j ≠ 113 → G91 j = g j) → G91 0 = .inr (11, fsc_11) → G91 105 = .inl (cs 4, 4, .inr (.inr (.inr (.inr fc_13)))) → va_P D vwCl (wL ad G91 218) H → va_S (wA ad 218) s.heap H locs → lv_has ls 8 [] → W p l e ({ frames := 1, cells := 0, slots := 0, locals := 22 } : Room) s m ([.ref (ad 0), .int sl, .int ix, .int tt, .int kk, .int nn] : List Value).toArray below meth c H locs 0 0 (MQ below (qI D ad 218 (fun r g2 => WF (shp ad K) ad cs g2 ∧ (∀ j, j ≠ 107 ∧ j ≠ 109 ∧ j ≠ 111 ∧ j ≠ 113 → g2 j = g j) ∧ ((sl.toInt < 0 ∨ 3 < sl.toInt ∨ tt.toInt < 0 ∨ 3 < tt.toInt → r.toInt = -2) ∧ (0 ≤ sl.toInt ∧ sl.toInt ≤ 3 ∧ 0 ≤ tt.toInt ∧ tt.toInt ≤ 3 → (K.2.1 sl.toNatClampNeg).toInt = 0 ∨ (K.2.1 tt.toNatClampNeg).toInt = 0 → r.toInt = -6) ∧ (0 ≤ sl.toInt ∧ sl.toInt ≤ 3 ∧ 0 ≤ tt.toInt ∧ tt.toInt ≤ 3 → ¬ (K.2.1 sl.toNatClampNeg).toInt = 0 → ¬ (K.2.1 tt.toNatClampNeg).toInt = 0 → (K.2.2.1 sl.toNatClampNeg).toInt ≠ (K.2.2.1 tt.toNatClampNeg).toInt → r.toInt = -8) ∧ (0 ≤ sl.toInt ∧ sl.toInt ≤ 3 ∧ 0 ≤ tt.toInt ∧ tt.toInt ≤ 3 → ¬ (K.2.1 sl.toNatClampNeg).toInt = 0 → ¬ (K.2.1 tt.toNatClampNeg).toInt = 0 → (K.2.2.1 sl.toNatClampNeg).toInt = (K.2.2.1 tt.toNatClampNeg).toInt → (ix.toInt < 0 ∨ kk.toInt < 0 ∨ nn.toInt < 0 ∨ (K.2.2.2.1 sl.toNatClampNeg).toInt < ix.toInt + nn.toInt ∨ (K.2.2.2.1 tt.toNatClampNeg).toInt < kk.toInt + nn.toInt) → r.toInt = -7) ∧ (0 ≤ sl.toInt ∧ sl.toInt ≤ 3 ∧ 0 ≤ tt.toInt ∧ tt.toInt ≤ 3 → ¬ (K.2.1 sl.toNatClampNeg).toInt = 0 → ¬ (K.2.1 tt.toNatClampNeg).toInt = 0 → (K.2.2.1 sl.toNatClampNeg).toInt = (K.2.2.1 tt.toNatClampNeg).toInt → ¬ (ix.toInt < 0 ∨ kk.toInt < 0 ∨ nn.toInt < 0 ∨ (K.2.2.2.1 sl.toNatClampNeg).toInt < ix.toInt + nn.toInt ∨ (K.2.2.2.1 tt.toNatClampNeg).toInt < kk.toInt + nn.toInt) → r.toInt = 0)))) ([.ref (ad 0), .int sl, .int ix, .int tt, .int kk, .int nn] : List Value).toArray s 0 0 (wA ad 218)) (F0 m 91 ls []) := by
              intro G91 H locs ls he91_0 hW91 hfr91 hg91_0 hg91_1 hP hS hl
              try clear hw_1
              try clear hhc_4
              try clear hw_5
              try clear hhc_8
              try clear hhc_25
              try clear hhc_29
              try clear hhc_36
              try clear hw_38
              refine lv_bipush (v := (-7)) hx hb dX11_paste_91 (by decide) ?_
              have hr0 : ((-7) : Int32).toInt = -7 := by decide
              exact q_iret X hP hS ⟨hW91, hfr91, ⟨fun q0 => by omega, fun q0 q1 => by omega, fun q0 q1 q2 q3 => by omega, fun q0 q1 q2 q3 q4 => by omega, fun q0 q1 q2 q3 q4 => by omega⟩⟩ dX11_paste_93
            refine lv_if_eq (tgt := 91) hx hb dX11_paste_76 (by decide) (fun hc_41 => ?_) (fun hc_41 => ?_)
            · have hhc_41 := n_eq (rfl : r_40.toInt = r_40.toInt) (by decide : (0 : Int32).toInt = 0) hc_41
              exact HJ91 g _ _ ls (by omega) hW hfr hgc_11 hgc_13 hP hS (lv_sub hl [] rfl)
            · have hhc_41 := n_ne (rfl : r_40.toInt = r_40.toInt) (by decide : (0 : Int32).toInt = 0) hc_41
              refine lv_aload hx hb dX11_paste_79 (lv_at hl 0 rfl) ?_
              refine lv_iload hx hb dX11_paste_81 (lv_at hl 6 rfl) ?_
              refine lv_iload hx hb dX11_paste_83 (lv_at hl 7 rfl) ?_
              refine s_calli (q := (RX5, TX5, 4)) (As := [.int kk, .int nn]) (rest := []) X Z (s_X5_coversF l D cs ad kS K hKO hj g hW e_18 kk nn (by omega)) (cwV 2 X.2.2.2.2.1 gg_X11_paste_X5_covers rfl rfl rfl (by decide +kernel) ⟨Nat.le_of_ble_eq_true rfl, Nat.le_of_ble_eq_true rfl⟩) (by omega) hgc_26 rfl hP hA hS.2.1 hS rfl hl.1 rfl (Nat.le_of_ble_eq_true rfl) dX11_paste_85 ⟨Nat.le_of_ble_eq_true rfl, Nat.le_of_ble_eq_true rfl⟩ (fun r_44 g_43 H locs hw_42 hP hS => ?_)
              obtain ⟨hw_42g, hw_42⟩ := hw_42
              rw [hw_42g] at hP
              refine lv_if_ne (tgt := 94) hx hb dX11_paste_88 (by decide) (fun hc_45 => ?_) (fun hc_45 => ?_)
              · have hhc_45 := n_ne (rfl : r_44.toInt = r_44.toInt) (by decide : (0 : Int32).toInt = 0) hc_45
                have hti_46 : 0 ≤ ix.toInt ∧ 0 ≤ nn.toInt ∧ ix.toInt + nn.toInt ≤ (K.2.2.2.1 sl.toNatClampNeg).toInt := by omega
                have hti_47 : 0 ≤ kk.toInt ∧ kk.toInt + nn.toInt ≤ (K.2.2.2.1 tt.toNatClampNeg).toInt := by omega
                try clear hw_1
                try clear hhc_4
                try clear hw_5
                try clear hhc_8
                try clear hhc_25
                try clear hhc_29
                try clear hhc_36
                try clear hw_38
                try clear hhc_41
                try clear hw_42
                try clear hhc_45
                refine lv_aload hx hb dX11_paste_94 (lv_at hl 1 rfl) ?_
                have hk_48 := hOc_22.ref 0 rfl
                refine q_get X iX11_paste_5 hP (by omega) hgc_22 rfl 0 (by decide) (List.mem_of_getElem? (i := 11) rfl) (v := .ref (ad (107 + 2 * e_14))) hk_48 dX11_paste_96 ?_
                refine lv_iload_n hx hb dX11_paste_99 rfl (lv_at hl 4 rfl) ?_
                refine lv_aload hx hb dX11_paste_100 (lv_at hl 0 rfl) ?_
                have hk_49 := hOc_26.ref 0 rfl
                refine q_get X iX11_paste_5 hP (by omega) hgc_26 rfl 0 (by decide) (List.mem_of_getElem? (i := 11) rfl) (v := .ref (ad (107 + 2 * e_18))) hk_49 dX11_paste_102 ?_
                refine lv_iload hx hb dX11_paste_105 (lv_at hl 6 rfl) ?_
                refine lv_iload hx hb dX11_paste_107 (lv_at hl 7 rfl) ?_
                obtain ⟨fc_50, hgc_50, hFc_50⟩ := hW.arj (i := (107 + 2 * e_14)) (by omega) (shJ_1 ad K hj_e_14)
                obtain ⟨fc_51, hgc_51, hFc_51⟩ := hW.arj (i := (107 + 2 * e_18)) (by omega) (shJ_1 ad K hj_e_18)
                refine s_copyj X hl.1 (List.mem_of_getElem? (i := 12) rfl) (List.mem_of_getElem? (i := 13) rfl) (List.mem_of_getElem? (i := 14) rfl) (List.mem_of_getElem? (i := 15) rfl) hP hj hA hS 2 rfl rfl (by omega) (by omega) hgc_50 hgc_51 (c_nn (rfl : ix.toInt = ix.toInt) (by omega)) (c_nn (rfl : kk.toInt = kk.toInt) (by omega)) (c_nn (rfl : nn.toInt = nn.toInt) (by omega)) (c_le (rfl : ix.toInt = ix.toInt) (rfl : nn.toInt = nn.toInt) (by omega) (by omega) (by omega)) (c_le (rfl : kk.toInt = kk.toInt) (rfl : nn.toInt = nn.toInt) (by omega) (by omega) (by omega)) (fun _ _ => rfl) (Nat.le_of_ble_eq_true rfl) (Nat.le_of_ble_eq_true rfl) dX11_paste_109 hW (shJ_1 ad K hj_e_18) (rQ.cpy hFc_50 hFc_51 (fun _ _ h => h)) (fun fc_52 gc_52 H locs hFc_52 hgc_52 hfc_52 hWc_52 hP hS => ?_)
                have hg_54 := (hfc_52 0 (by omega)).trans hgc_11
                have hg_55 := (hfc_52 105 (by omega)).trans hgc_13
                have hg_56 := (hfc_52 (106 + 2 * e_14) (by omega)).trans hgc_22
                have hg_57 := (hfc_52 (106 + 2 * e_18) (by omega)).trans hgc_26
                have hfr_53 : ∀ j, j ≠ 107 ∧ j ≠ 109 ∧ j ≠ 111 ∧ j ≠ 113 → gc_52 j = g j := fun j hj => (hfc_52 j (by first | exact hj | exact hj.1 | exact hj.2 | exact hj.2.1 | exact hj.2.2 | omega)).trans (hfr j hj)
                refine lv_iconst (v := 0) hx hb dX11_paste_112 (by decide) ?_
                have hr0 : (0 : Int32).toInt = 0 := by decide
                exact q_iret X hP hS ⟨hWc_52, hfr_53, ⟨fun q0 => by omega, fun q0 q1 => by omega, fun q0 q1 q2 q3 => by omega, fun q0 q1 q2 q3 q4 => by omega, fun q0 q1 q2 q3 q4 => by omega⟩⟩ dX11_paste_113
              · have hhc_45 := n_eq (rfl : r_44.toInt = r_44.toInt) (by decide : (0 : Int32).toInt = 0) hc_45
                exact HJ91 g _ _ ls (by omega) hW hfr hgc_11 hgc_13 hP hS (lv_sub hl [] rfl)
          · have hhc_36 := n_ne (rfl : x_33.toInt = x_33.toInt) (rfl : x_35.toInt = x_35.toInt) hc_36
            refine lv_bipush (v := (-8)) hx hb dX11_paste_65 (by decide) ?_
            have hr0 : ((-8) : Int32).toInt = -8 := by decide
            exact q_iret X hP hS ⟨hW, hfr, ⟨fun q0 => by omega, fun q0 q1 => by omega, fun q0 q1 q2 q3 => by omega, fun q0 q1 q2 q3 q4 => by omega, fun q0 q1 q2 q3 q4 => by omega⟩⟩ dX11_paste_67
        · have hhc_29 := n_eq (rfl : x_28.toInt = x_28.toInt) (by decide : (0 : Int32).toInt = 0) hc_29
          exact HJ49 g _ _ ls (by omega) hW hfr hgc_11 hgc_13 hP hS (lv_sub hl [] rfl)
    · have hhc_8 := n_eq (rfl : r_7.toInt = r_7.toInt) (by decide : (0 : Int32).toInt = 0) hc_8
      exact HJ14 g _ _ ls (by omega) hW hfr hP hS (lv_sub hl [] rfl)

theorem dX12_image_0 : decode cX12_image 0 = .ok (.iload_n 1, 1) := by decide +kernel
theorem dX12_image_1 : decode cX12_image 1 = .ok (.i2l, 1) := by decide +kernel
theorem dX12_image_2 : decode cX12_image 2 = .ok (.lconst 0, 1) := by decide +kernel
theorem dX12_image_3 : decode cX12_image 3 = .ok (.ldc2_w 80, 3) := by decide +kernel
theorem dX12_image_6 : decode cX12_image 6 = .ok (.invokestatic 82, 3) := by decide +kernel
theorem dX12_image_9 : decode cX12_image 9 = .ok (.ifCond .ne 6, 3) := by decide +kernel
theorem dX12_image_12 : decode cX12_image 12 = .ok (.bipush (-2), 2) := by decide +kernel
theorem dX12_image_14 : decode cX12_image 14 = .ok (.ireturn, 1) := by decide +kernel
theorem dX12_image_15 : decode cX12_image 15 = .ok (.iconst 0, 1) := by decide +kernel
theorem dX12_image_16 : decode cX12_image 16 = .ok (.istore_n 2, 1) := by decide +kernel
theorem dX12_image_17 : decode cX12_image 17 = .ok (.iload_n 2, 1) := by decide +kernel
theorem dX12_image_18 : decode cX12_image 18 = .ok (.bipush 118, 2) := by decide +kernel
theorem dX12_image_20 : decode cX12_image 20 = .ok (.if_icmp .ge 26, 3) := by decide +kernel
theorem dX12_image_23 : decode cX12_image 23 = .ok (.aload_n 0, 1) := by decide +kernel
theorem dX12_image_24 : decode cX12_image 24 = .ok (.getfield 13, 3) := by decide +kernel
theorem dX12_image_27 : decode cX12_image 27 = .ok (.bipush 118, 2) := by decide +kernel
theorem dX12_image_29 : decode cX12_image 29 = .ok (.iload_n 1, 1) := by decide +kernel
theorem dX12_image_30 : decode cX12_image 30 = .ok (.imul, 1) := by decide +kernel
theorem dX12_image_31 : decode cX12_image 31 = .ok (.iload_n 2, 1) := by decide +kernel
theorem dX12_image_32 : decode cX12_image 32 = .ok (.iadd, 1) := by decide +kernel
theorem dX12_image_33 : decode cX12_image 33 = .ok (.aload_n 0, 1) := by decide +kernel
theorem dX12_image_34 : decode cX12_image 34 = .ok (.getfield 9, 3) := by decide +kernel
theorem dX12_image_37 : decode cX12_image 37 = .ok (.iload_n 2, 1) := by decide +kernel
theorem dX12_image_38 : decode cX12_image 38 = .ok (.iaload, 1) := by decide +kernel
theorem dX12_image_39 : decode cX12_image 39 = .ok (.iastore, 1) := by decide +kernel
theorem dX12_image_40 : decode cX12_image 40 = .ok (.iinc 2 1, 3) := by decide +kernel
theorem dX12_image_43 : decode cX12_image 43 = .ok (.goto (-26), 3) := by decide +kernel
theorem dX12_image_46 : decode cX12_image 46 = .ok (.aload_n 0, 1) := by decide +kernel
theorem dX12_image_47 : decode cX12_image 47 = .ok (.getfield 16, 3) := by decide +kernel
theorem dX12_image_50 : decode cX12_image 50 = .ok (.iload_n 1, 1) := by decide +kernel
theorem dX12_image_51 : decode cX12_image 51 = .ok (.iconst 1, 1) := by decide +kernel
theorem dX12_image_52 : decode cX12_image 52 = .ok (.bastore, 1) := by decide +kernel
theorem dX12_image_53 : decode cX12_image 53 = .ok (.iconst 0, 1) := by decide +kernel
theorem dX12_image_54 : decode cX12_image 54 = .ok (.ireturn, 1) := by decide +kernel
noncomputable def vX12_image : List Cond := .code yX12_image cX12_image 3 (some .int) :: (([.constantLong RX12 80 (2), .methodLink RX12 82 yX12_in, .static yX12_in, .initialized RX12, .fieldLink RX12 13 "IcicleClockModel" "images" "[I", .fieldLink RX12 9 "IcicleClockModel" "world" "[I", .fieldLink RX12 16 "IcicleClockModel" "hasImage" "[Z"] : List Cond) ++ (wsX120 ++ vX12_in))
theorem iX12_image_12 : ∀ w ∈ wsX120, w ∈ vX12_image := fun _ h => List.mem_cons_of_mem _ (List.mem_append_right _ (List.mem_append_left _ h))
theorem gs_X12_image : Gd vX12_image := Gd.cons (by decide +kernel) (Gd.app (Gd.r (by decide +kernel)) (Gd.app gwX_12 gs_X12_in))
theorem gg_X12_image_X12_in : GoodIn vX12_image (wsS RX12 82 yX12_in vX12_in) := goodIn_app (goodIn_r _ [2, 3, 4] (by decide +kernel) (by decide +kernel)) (fun w h => ⟨List.mem_cons_of_mem _ (List.mem_append_right _ (List.mem_append_right _ (h))), gs_X12_in w h⟩)
set_option maxHeartbeats 4000000 in
set_option maxRecDepth 100000 in
theorem s_X12_image (l : Launch) (D : va_G) (cs : Nat → ClassId) (ad : Nat → Nat) (kS : kSt) (K : sK) (hKO : KO K) (hj : wJ ad 218) (g : Nat → va_E) (hW : WF (shp ad K) ad cs g) (kk : Int32) : sI l yX12_image vX12_image { frames := 1, cells := 0, slots := 0, locals := 25 } D cs ad kS [.ref (ad 197), .int kk] g (fun r g2 => ((r.toInt = 0 → WF (shp ad (kHas (K) kk.toNatClampNeg 1)) ad cs g2) ∧ (r.toInt ≠ 0 → WF (shp ad (K)) ad cs g2)) ∧ (∀ j, j ≠ 199 ∧ j ≠ 200 → g2 j = g j) ∧ ((0 ≤ kk.toInt ∧ kk.toInt ≤ 2 → r.toInt = 0) ∧ (kk.toInt < 0 ∨ 2 < kk.toInt → r.toInt = -2))) := by
  refine Met.startS (cc := cX12_image) (maxL := 3) (ret := (some .int)) RX12 rfl (by decide) rfl (Nat.le_of_ble_eq_true rfl) ?_
  intro p e s m below meth c ls X Z hP hl
  have hx := X.1
  have hb := X.2.1
  have hS : va_S (wA ad 218) s.heap s.heap [] := va_S.rf
  have hA : ∀ i, i < 218 → wA ad 218 (ad i) := fun i h => ⟨i, h, rfl⟩
  have hfr : ∀ j, j ≠ 199 ∧ j ≠ 200 → g j = g j := fun _ _ => rfl
  have hl : lv_has ls 3 [(0, .ref (ad 197)), (1, .int kk)] := hl
  refine lv_iload_n hx hb dX12_image_0 rfl (lv_at hl 1 rfl) ?_
  refine lv_i2l hx hb dX12_image_1 rfl ?_
  refine lv_topl (fun z_1 ez_1 => ?_)
  have hz_1 : z_1.toInt = kk.toInt := ez_1 ▸ j_of rfl
  have := n_hi kk
  have := n_lo kk
  refine lv_lconst (v := 0) hx hb dX12_image_2 (by decide) ?_
  refine lv_ldc2 (v := 2) hx hb X.2.2.2.2.2.1 (X.2.2.2.2.1 _ (List.mem_of_getElem? (i := 1) rfl)) dX12_image_3 ?_
  refine s_callSi (As := [.long z_1, .long 0, .long 2]) (rest := []) X Z (s_X12_in l D cs ad kS K hKO hj g hW z_1 0 2) (cwS 3 X.2.2.2.2.1 gg_X12_image_X12_in rfl rfl rfl (by decide +kernel) ⟨Nat.le_of_ble_eq_true rfl, Nat.le_of_ble_eq_true rfl⟩) hP hA hS.2.1 hS rfl hl.1 rfl (Nat.le_of_ble_eq_true rfl) dX12_image_6 ⟨Nat.le_of_ble_eq_true rfl, Nat.le_of_ble_eq_true rfl⟩ (fun r_4 g_3 H locs hw_2 hP hS => ?_)
  obtain ⟨hw_2g, hw_2⟩ := hw_2
  rw [hw_2g] at hP
  have hqk_5 : (0 : Int64).toInt = 0 := by decide
  have hqk_6 : (2 : Int64).toInt = 2 := by decide
  refine lv_if_ne (tgt := 15) hx hb dX12_image_9 (by decide) (fun hc_7 => ?_) (fun hc_7 => ?_)
  · have hhc_7 := n_ne (rfl : r_4.toInt = r_4.toInt) (by decide : (0 : Int32).toInt = 0) hc_7
    refine lv_iconst (v := 0) hx hb dX12_image_15 (by decide) ?_
    refine lv_istore_n (lv' := [(2, .int 0), (0, .ref (ad 197)), (1, .int kk)]) hx hb dX12_image_16 rfl hl (by decide) rfl (fun ls hl => ?_)
    have HL17 : ∀ (n17 : Nat) (v17_2 : Int32) (G17 : Nat → va_E) (H : Heap) (locs : List Loc) (ls : Array Slot), (118 - v17_2.toInt).toNat < n17 → (0 ≤ v17_2.toInt ∧ v17_2.toInt ≤ 118) → WF (shp ad K) ad cs G17 → (∀ j, j ≠ 199 ∧ j ≠ 200 → G17 j = g j) → va_P D vwCl (wL ad G17 218) H → va_S (wA ad 218) s.heap H locs → lv_has ls 3 [(2, .int v17_2), (0, .ref (ad 197)), (1, .int kk)] → W p l e ({ frames := 1, cells := 0, slots := 0, locals := 25 } : Room) s m ([.ref (ad 197), .int kk] : List Value).toArray below meth c H locs 0 0 (MQ below (qI D ad 218 (fun r g2 => ((r.toInt = 0 → WF (shp ad (kHas (K) kk.toNatClampNeg 1)) ad cs g2) ∧ (r.toInt ≠ 0 → WF (shp ad (K)) ad cs g2)) ∧ (∀ j, j ≠ 199 ∧ j ≠ 200 → g2 j = g j) ∧ ((0 ≤ kk.toInt ∧ kk.toInt ≤ 2 → r.toInt = 0) ∧ (kk.toInt < 0 ∨ 2 < kk.toInt → r.toInt = -2)))) ([.ref (ad 197), .int kk] : List Value).toArray s 0 0 (wA ad 218)) (F0 m 17 ls []) := by
      intro n17
      induction n17 with
      | zero =>
        intro v17_2 G17 H locs ls hm17 hv17_0 hW17 hfr17 hP hS hl
        exact absurd hm17 (Nat.not_lt_zero _)
      | succ n17 ih17 =>
        intro v17_2 G17 H locs ls hm17 hv17_0 hW17 hfr17 hP hS hl
        refine lv_iload_n hx hb dX12_image_17 rfl (lv_at hl 0 rfl) ?_
        refine lv_bipush (v := 118) hx hb dX12_image_18 (by decide) ?_
        refine lv_icmp_ge (tgt := 46) hx hb dX12_image_20 (by decide) (fun hc_8 => ?_) (fun hc_8 => ?_)
        · have hhc_8 := n_le (by decide : (118 : Int32).toInt = 118) (rfl : v17_2.toInt = v17_2.toInt) hc_8
          refine lv_aload_n hx hb dX12_image_46 rfl (lv_at hl 1 rfl) ?_
          obtain ⟨fsc_9, hgc_9, hOc_9⟩ := hW17.obj (i := 197) (by decide) (sh_197 ad K)
          have hk_10 := hOc_9.ref 3 rfl
          refine q_get X iX12_image_12 hP (by decide) hgc_9 rfl 3 (by decide) (List.mem_of_getElem? (i := 7) rfl) (v := .ref (ad 200)) hk_10 dX12_image_47 ?_
          refine lv_iload_n hx hb dX12_image_50 rfl (lv_at hl 2 rfl) ?_
          refine lv_iconst (v := 1) hx hb dX12_image_51 (by decide) ?_
          obtain ⟨fc_11, hgc_11, hFc_11⟩ := hW17.arr (i := 200) (by decide) (sh_200 ad K)
          refine s_zastK (Sh' := shp ad (kHas K kk.toNatClampNeg 1)) X hP hj hA hS (by decide) hgc_11 (n_in (rfl : kk.toInt = kk.toInt) (by omega) (by omega)) dX12_image_52 hW17 sx_has (sh_200 ad _) (by rw [show vp_nar .boolean (1 : Int32) = 1 by decide]; exact rP.upK hFc_11) (fun fc_12 gc_12 H locs ec_12 hFc_12 hgc_12 hfc_12 hWc_12 hP hS => ?_)
          have hKOKn_13 : KO (kHas K kk.toNatClampNeg 1) := hKO.has (by decide) (by decide)
          have hg_15 := (hfc_12 197 (by decide)).trans hgc_9
          have hfr_14 : ∀ j, j ≠ 199 ∧ j ≠ 200 → gc_12 j = g j := fun j hj => (hfc_12 j (by omega)).trans (hfr17 j hj)
          refine lv_iconst (v := 0) hx hb dX12_image_53 (by decide) ?_
          have hw0 : (0 : Int32).toInt = 0 := by decide
          have hr0 : (0 : Int32).toInt = 0 := by decide
          exact q_iret X hP hS ⟨⟨fun _ => hWc_12, fun q => by exfalso; omega⟩, hfr_14, (by omega)⟩ dX12_image_54
        · have hhc_8 := n_nle (by decide : (118 : Int32).toInt = 118) (rfl : v17_2.toInt = v17_2.toInt) hc_8
          refine lv_aload_n hx hb dX12_image_23 rfl (lv_at hl 1 rfl) ?_
          obtain ⟨fsc_16, hgc_16, hOc_16⟩ := hW17.obj (i := 197) (by decide) (sh_197 ad K)
          have hk_17 := hOc_16.ref 2 rfl
          refine q_get X iX12_image_12 hP (by decide) hgc_16 rfl 2 (by decide) (List.mem_of_getElem? (i := 5) rfl) (v := .ref (ad 199)) hk_17 dX12_image_24 ?_
          refine lv_bipush (v := 118) hx hb dX12_image_27 (by decide) ?_
          refine lv_iload_n hx hb dX12_image_29 rfl (lv_at hl 2 rfl) ?_
          refine lv_imul hx hb dX12_image_30 ?_
          refine lv_topi (fun z_18 ez_18 => ?_)
          have hz_18 : z_18.toInt = 118 * kk.toInt := n_mul (by decide : (118 : Int32).toInt = 118) (rfl : kk.toInt = kk.toInt) ez_18 (by omega) (by omega)
          refine lv_iload_n hx hb dX12_image_31 rfl (lv_at hl 0 rfl) ?_
          refine lv_iadd hx hb dX12_image_32 ?_
          refine lv_topi (fun z_19 ez_19 => ?_)
          have hz_19 : z_19.toInt = z_18.toInt + v17_2.toInt := n_add (rfl : z_18.toInt = z_18.toInt) (rfl : v17_2.toInt = v17_2.toInt) ez_19 (by omega) (by omega)
          refine lv_aload_n hx hb dX12_image_33 rfl (lv_at hl 1 rfl) ?_
          have hk_20 := hOc_16.ref 1 rfl
          refine q_get X iX12_image_12 hP (by decide) hgc_16 rfl 1 (by decide) (List.mem_of_getElem? (i := 6) rfl) (v := .ref (ad 198)) hk_20 dX12_image_34 ?_
          refine lv_iload_n hx hb dX12_image_37 rfl (lv_at hl 0 rfl) ?_
          obtain ⟨fc_21, hgc_21, hFc_21⟩ := hW17.arr (i := 198) (by decide) (sh_198 ad K)
          refine q_iald X hP (by decide) hgc_21 (n_in (rfl : v17_2.toInt = v17_2.toInt) (by omega) (by omega)) dX12_image_38 ?_
          refine lv_topi (fun z_22 ez_22 => ?_)
          have hqz_22 : wq (v17_2.toNatClampNeg) z_22.toInt := ez_22 ▸ hFc_21 _
          have hcz_22 := n_cl (rfl : v17_2.toInt = v17_2.toInt) (by omega)
          obtain ⟨fc_23, hgc_23, hFc_23⟩ := hW17.arr (i := 199) (by decide) (sh_199 ad K)
          have hc_39 := n_cl (rfl : z_19.toInt = z_19.toInt) (by omega)
          have hu_25 : wq (z_19.toNatClampNeg % 118) (z_22 : Int32).toInt := by rw [show z_19.toNatClampNeg % 118 = v17_2.toNatClampNeg by omega]; exact hqz_22
          refine s_iast X hP hj hA hS (by decide) hgc_23 (n_in (rfl : z_19.toInt = z_19.toInt) (by omega) (by omega)) dX12_image_39 hW17 (sh_199 ad K) (hFc_23.put hu_25) (fun fc_24 gc_24 H locs ec_24 hFc_24 hgc_24 hfc_24 hWc_24 hP hS => ?_)
          have hg_27 := (hfc_24 197 (by decide)).trans hgc_16
          have hg_28 := (hfc_24 198 (by decide)).trans hgc_21
          have hfr_26 : ∀ j, j ≠ 199 ∧ j ≠ 200 → gc_24 j = g j := fun j hj => (hfc_24 j (by omega)).trans (hfr17 j hj)
          obtain ⟨x_29, ex_29⟩ : ∃ y : Int32, y = v17_2 + 1 := ⟨_, rfl⟩
          have hx_29 : x_29.toInt = v17_2.toInt + 1 := n_add rfl (by decide : (1 : Int32).toInt = 1) ex_29 (by omega) (by omega)
          refine lv_iinc (v := x_29) (lv' := [(2, .int x_29), (0, .ref (ad 197)), (1, .int kk)]) hx hb dX12_image_40 hl (k := 0) rfl (by rw [ex_29]; rfl) (by decide) rfl (fun ls hl => ?_)
          refine lv_goto (tgt := 17) hx hb dX12_image_43 (by decide) ?_
          exact ih17 x_29 gc_24 _ _ ls (by omega) (by omega) hWc_24 hfr_26 hP hS (lv_sub hl [0, 1, 2] rfl)
    have hiv17_2 : (0 : Int32).toInt = 0 := by decide
    exact HL17 _ 0 g _ _ ls (Nat.lt_succ_self _) (by omega) hW hfr hP hS (lv_sub hl [0, 1, 2] rfl)
  · have hhc_7 := n_eq (rfl : r_4.toInt = r_4.toInt) (by decide : (0 : Int32).toInt = 0) hc_7
    refine lv_bipush (v := (-2)) hx hb dX12_image_12 (by decide) ?_
    have hw0 : ((-2) : Int32).toInt = -2 := by decide
    have hr0 : ((-2) : Int32).toInt = -2 := by decide
    exact q_iret X hP hS ⟨⟨fun q => by exfalso; omega, fun _ => hW⟩, hfr, (by omega)⟩ dX12_image_14

theorem dX12_back_0 : decode cX12_back 0 = .ok (.iload_n 1, 1) := by decide +kernel
theorem dX12_back_1 : decode cX12_back 1 = .ok (.i2l, 1) := by decide +kernel
theorem dX12_back_2 : decode cX12_back 2 = .ok (.lconst 0, 1) := by decide +kernel
theorem dX12_back_3 : decode cX12_back 3 = .ok (.ldc2_w 80, 3) := by decide +kernel
theorem dX12_back_6 : decode cX12_back 6 = .ok (.invokestatic 82, 3) := by decide +kernel
theorem dX12_back_9 : decode cX12_back 9 = .ok (.ifCond .ne 6, 3) := by decide +kernel
theorem dX12_back_12 : decode cX12_back 12 = .ok (.bipush (-2), 2) := by decide +kernel
theorem dX12_back_14 : decode cX12_back 14 = .ok (.ireturn, 1) := by decide +kernel
theorem dX12_back_15 : decode cX12_back 15 = .ok (.aload_n 0, 1) := by decide +kernel
theorem dX12_back_16 : decode cX12_back 16 = .ok (.getfield 16, 3) := by decide +kernel
theorem dX12_back_19 : decode cX12_back 19 = .ok (.iload_n 1, 1) := by decide +kernel
theorem dX12_back_20 : decode cX12_back 20 = .ok (.baload, 1) := by decide +kernel
theorem dX12_back_21 : decode cX12_back 21 = .ok (.ifCond .ne 6, 3) := by decide +kernel
theorem dX12_back_24 : decode cX12_back 24 = .ok (.bipush (-6), 2) := by decide +kernel
theorem dX12_back_26 : decode cX12_back 26 = .ok (.ireturn, 1) := by decide +kernel
theorem dX12_back_27 : decode cX12_back 27 = .ok (.iconst 0, 1) := by decide +kernel
theorem dX12_back_28 : decode cX12_back 28 = .ok (.istore_n 2, 1) := by decide +kernel
theorem dX12_back_29 : decode cX12_back 29 = .ok (.iload_n 2, 1) := by decide +kernel
theorem dX12_back_30 : decode cX12_back 30 = .ok (.bipush 118, 2) := by decide +kernel
theorem dX12_back_32 : decode cX12_back 32 = .ok (.if_icmp .ge 26, 3) := by decide +kernel
theorem dX12_back_35 : decode cX12_back 35 = .ok (.aload_n 0, 1) := by decide +kernel
theorem dX12_back_36 : decode cX12_back 36 = .ok (.getfield 9, 3) := by decide +kernel
theorem dX12_back_39 : decode cX12_back 39 = .ok (.iload_n 2, 1) := by decide +kernel
theorem dX12_back_40 : decode cX12_back 40 = .ok (.aload_n 0, 1) := by decide +kernel
theorem dX12_back_41 : decode cX12_back 41 = .ok (.getfield 13, 3) := by decide +kernel
theorem dX12_back_44 : decode cX12_back 44 = .ok (.bipush 118, 2) := by decide +kernel
theorem dX12_back_46 : decode cX12_back 46 = .ok (.iload_n 1, 1) := by decide +kernel
theorem dX12_back_47 : decode cX12_back 47 = .ok (.imul, 1) := by decide +kernel
theorem dX12_back_48 : decode cX12_back 48 = .ok (.iload_n 2, 1) := by decide +kernel
theorem dX12_back_49 : decode cX12_back 49 = .ok (.iadd, 1) := by decide +kernel
theorem dX12_back_50 : decode cX12_back 50 = .ok (.iaload, 1) := by decide +kernel
theorem dX12_back_51 : decode cX12_back 51 = .ok (.iastore, 1) := by decide +kernel
theorem dX12_back_52 : decode cX12_back 52 = .ok (.iinc 2 1, 3) := by decide +kernel
theorem dX12_back_55 : decode cX12_back 55 = .ok (.goto (-26), 3) := by decide +kernel
theorem dX12_back_58 : decode cX12_back 58 = .ok (.iconst 0, 1) := by decide +kernel
theorem dX12_back_59 : decode cX12_back 59 = .ok (.ireturn, 1) := by decide +kernel
noncomputable def vX12_back : List Cond := .code yX12_back cX12_back 3 (some .int) :: (([.constantLong RX12 80 (2), .methodLink RX12 82 yX12_in, .static yX12_in, .initialized RX12, .fieldLink RX12 16 "IcicleClockModel" "hasImage" "[Z", .fieldLink RX12 9 "IcicleClockModel" "world" "[I", .fieldLink RX12 13 "IcicleClockModel" "images" "[I"] : List Cond) ++ (wsX120 ++ vX12_in))
theorem iX12_back_12 : ∀ w ∈ wsX120, w ∈ vX12_back := fun _ h => List.mem_cons_of_mem _ (List.mem_append_right _ (List.mem_append_left _ h))
theorem gs_X12_back : Gd vX12_back := Gd.cons (by decide +kernel) (Gd.app (Gd.r (by decide +kernel)) (Gd.app gwX_12 gs_X12_in))
theorem gg_X12_back_X12_in : GoodIn vX12_back (wsS RX12 82 yX12_in vX12_in) := goodIn_app (goodIn_r _ [2, 3, 4] (by decide +kernel) (by decide +kernel)) (fun w h => ⟨List.mem_cons_of_mem _ (List.mem_append_right _ (List.mem_append_right _ (h))), gs_X12_in w h⟩)
set_option maxHeartbeats 4000000 in
set_option maxRecDepth 100000 in
theorem s_X12_back (l : Launch) (D : va_G) (cs : Nat → ClassId) (ad : Nat → Nat) (kS : kSt) (K : sK) (hKO : KO K) (hj : wJ ad 218) (g : Nat → va_E) (hW : WF (shp ad K) ad cs g) (kk : Int32) : sI l yX12_back vX12_back { frames := 1, cells := 0, slots := 0, locals := 25 } D cs ad kS [.ref (ad 197), .int kk] g (fun r g2 => WF (shp ad K) ad cs g2 ∧ (∀ j, j ≠ 198 → g2 j = g j) ∧ ((kk.toInt < 0 ∨ 2 < kk.toInt → r.toInt = -2) ∧ (0 ≤ kk.toInt ∧ kk.toInt ≤ 2 → (K.2.2.2.2.2.2 kk.toNatClampNeg).toInt = 0 → r.toInt = -6) ∧ (0 ≤ kk.toInt ∧ kk.toInt ≤ 2 → (K.2.2.2.2.2.2 kk.toNatClampNeg).toInt ≠ 0 → r.toInt = 0))) := by
  refine Met.startS (cc := cX12_back) (maxL := 3) (ret := (some .int)) RX12 rfl (by decide) rfl (Nat.le_of_ble_eq_true rfl) ?_
  intro p e s m below meth c ls X Z hP hl
  have hx := X.1
  have hb := X.2.1
  have hS : va_S (wA ad 218) s.heap s.heap [] := va_S.rf
  have hA : ∀ i, i < 218 → wA ad 218 (ad i) := fun i h => ⟨i, h, rfl⟩
  have hfr : ∀ j, j ≠ 198 → g j = g j := fun _ _ => rfl
  have hl : lv_has ls 3 [(0, .ref (ad 197)), (1, .int kk)] := hl
  refine lv_iload_n hx hb dX12_back_0 rfl (lv_at hl 1 rfl) ?_
  refine lv_i2l hx hb dX12_back_1 rfl ?_
  refine lv_topl (fun z_1 ez_1 => ?_)
  have hz_1 : z_1.toInt = kk.toInt := ez_1 ▸ j_of rfl
  have := n_hi kk
  have := n_lo kk
  refine lv_lconst (v := 0) hx hb dX12_back_2 (by decide) ?_
  refine lv_ldc2 (v := 2) hx hb X.2.2.2.2.2.1 (X.2.2.2.2.1 _ (List.mem_of_getElem? (i := 1) rfl)) dX12_back_3 ?_
  refine s_callSi (As := [.long z_1, .long 0, .long 2]) (rest := []) X Z (s_X12_in l D cs ad kS K hKO hj g hW z_1 0 2) (cwS 3 X.2.2.2.2.1 gg_X12_back_X12_in rfl rfl rfl (by decide +kernel) ⟨Nat.le_of_ble_eq_true rfl, Nat.le_of_ble_eq_true rfl⟩) hP hA hS.2.1 hS rfl hl.1 rfl (Nat.le_of_ble_eq_true rfl) dX12_back_6 ⟨Nat.le_of_ble_eq_true rfl, Nat.le_of_ble_eq_true rfl⟩ (fun r_4 g_3 H locs hw_2 hP hS => ?_)
  obtain ⟨hw_2g, hw_2⟩ := hw_2
  rw [hw_2g] at hP
  have hqk_5 : (0 : Int64).toInt = 0 := by decide
  have hqk_6 : (2 : Int64).toInt = 2 := by decide
  refine lv_if_ne (tgt := 15) hx hb dX12_back_9 (by decide) (fun hc_7 => ?_) (fun hc_7 => ?_)
  · have hhc_7 := n_ne (rfl : r_4.toInt = r_4.toInt) (by decide : (0 : Int32).toInt = 0) hc_7
    refine lv_aload_n hx hb dX12_back_15 rfl (lv_at hl 0 rfl) ?_
    obtain ⟨fsc_8, hgc_8, hOc_8⟩ := hW.obj (i := 197) (by decide) (sh_197 ad K)
    have hk_9 := hOc_8.ref 3 rfl
    refine q_get X iX12_back_12 hP (by decide) hgc_8 rfl 3 (by decide) (List.mem_of_getElem? (i := 5) rfl) (v := .ref (ad 200)) hk_9 dX12_back_16 ?_
    refine lv_iload_n hx hb dX12_back_19 rfl (lv_at hl 1 rfl) ?_
    obtain ⟨fc_10, hgc_10, hFc_10⟩ := hW.arr (i := 200) (by decide) (sh_200 ad K)
    refine q_zald X hP (by decide) hgc_10 (n_in (rfl : kk.toInt = kk.toInt) (by omega) (by omega)) dX12_back_20 ?_
    refine lv_topi (fun z_11 ez_11 => ?_)
    have hqz_11 : z_11.toInt = (K.2.2.2.2.2.2 (kk.toNatClampNeg)).toInt := ez_11 ▸ hFc_10 _
    have hcz_11 := n_cl (rfl : kk.toInt = kk.toInt) (by omega)
    have hKOz_11 := hKO (kk.toNatClampNeg)
    have hz_11 : 0 ≤ z_11.toInt ∧ z_11.toInt ≤ 1 := by omega
    refine lv_if_ne (tgt := 27) hx hb dX12_back_21 (by decide) (fun hc_12 => ?_) (fun hc_12 => ?_)
    · have hhc_12 := n_ne (rfl : z_11.toInt = z_11.toInt) (by decide : (0 : Int32).toInt = 0) hc_12
      refine lv_iconst (v := 0) hx hb dX12_back_27 (by decide) ?_
      refine lv_istore_n (lv' := [(2, .int 0), (0, .ref (ad 197)), (1, .int kk)]) hx hb dX12_back_28 rfl hl (by decide) rfl (fun ls hl => ?_)
      have HL29 : ∀ (n29 : Nat) (v29_2 : Int32) (G29 : Nat → va_E) (H : Heap) (locs : List Loc) (ls : Array Slot), (118 - v29_2.toInt).toNat < n29 → (0 ≤ v29_2.toInt ∧ v29_2.toInt ≤ 118) → WF (shp ad K) ad cs G29 → (∀ j, j ≠ 198 → G29 j = g j) → va_P D vwCl (wL ad G29 218) H → va_S (wA ad 218) s.heap H locs → lv_has ls 3 [(2, .int v29_2), (0, .ref (ad 197)), (1, .int kk)] → W p l e ({ frames := 1, cells := 0, slots := 0, locals := 25 } : Room) s m ([.ref (ad 197), .int kk] : List Value).toArray below meth c H locs 0 0 (MQ below (qI D ad 218 (fun r g2 => WF (shp ad K) ad cs g2 ∧ (∀ j, j ≠ 198 → g2 j = g j) ∧ ((kk.toInt < 0 ∨ 2 < kk.toInt → r.toInt = -2) ∧ (0 ≤ kk.toInt ∧ kk.toInt ≤ 2 → (K.2.2.2.2.2.2 kk.toNatClampNeg).toInt = 0 → r.toInt = -6) ∧ (0 ≤ kk.toInt ∧ kk.toInt ≤ 2 → (K.2.2.2.2.2.2 kk.toNatClampNeg).toInt ≠ 0 → r.toInt = 0)))) ([.ref (ad 197), .int kk] : List Value).toArray s 0 0 (wA ad 218)) (F0 m 29 ls []) := by
        intro n29
        induction n29 with
        | zero =>
          intro v29_2 G29 H locs ls hm29 hv29_0 hW29 hfr29 hP hS hl
          exact absurd hm29 (Nat.not_lt_zero _)
        | succ n29 ih29 =>
          intro v29_2 G29 H locs ls hm29 hv29_0 hW29 hfr29 hP hS hl
          refine lv_iload_n hx hb dX12_back_29 rfl (lv_at hl 0 rfl) ?_
          refine lv_bipush (v := 118) hx hb dX12_back_30 (by decide) ?_
          refine lv_icmp_ge (tgt := 58) hx hb dX12_back_32 (by decide) (fun hc_13 => ?_) (fun hc_13 => ?_)
          · have hhc_13 := n_le (by decide : (118 : Int32).toInt = 118) (rfl : v29_2.toInt = v29_2.toInt) hc_13
            refine lv_iconst (v := 0) hx hb dX12_back_58 (by decide) ?_
            have hr0 : (0 : Int32).toInt = 0 := by decide
            exact q_iret X hP hS ⟨hW29, hfr29, ⟨fun q0 => by omega, fun q0 q1 => by omega, fun q0 q1 => by omega⟩⟩ dX12_back_59
          · have hhc_13 := n_nle (by decide : (118 : Int32).toInt = 118) (rfl : v29_2.toInt = v29_2.toInt) hc_13
            refine lv_aload_n hx hb dX12_back_35 rfl (lv_at hl 1 rfl) ?_
            obtain ⟨fsc_14, hgc_14, hOc_14⟩ := hW29.obj (i := 197) (by decide) (sh_197 ad K)
            have hk_15 := hOc_14.ref 1 rfl
            refine q_get X iX12_back_12 hP (by decide) hgc_14 rfl 1 (by decide) (List.mem_of_getElem? (i := 6) rfl) (v := .ref (ad 198)) hk_15 dX12_back_36 ?_
            refine lv_iload_n hx hb dX12_back_39 rfl (lv_at hl 0 rfl) ?_
            refine lv_aload_n hx hb dX12_back_40 rfl (lv_at hl 1 rfl) ?_
            have hk_16 := hOc_14.ref 2 rfl
            refine q_get X iX12_back_12 hP (by decide) hgc_14 rfl 2 (by decide) (List.mem_of_getElem? (i := 7) rfl) (v := .ref (ad 199)) hk_16 dX12_back_41 ?_
            refine lv_bipush (v := 118) hx hb dX12_back_44 (by decide) ?_
            refine lv_iload_n hx hb dX12_back_46 rfl (lv_at hl 2 rfl) ?_
            refine lv_imul hx hb dX12_back_47 ?_
            refine lv_topi (fun z_17 ez_17 => ?_)
            have hz_17 : z_17.toInt = 118 * kk.toInt := n_mul (by decide : (118 : Int32).toInt = 118) (rfl : kk.toInt = kk.toInt) ez_17 (by omega) (by omega)
            refine lv_iload_n hx hb dX12_back_48 rfl (lv_at hl 0 rfl) ?_
            refine lv_iadd hx hb dX12_back_49 ?_
            refine lv_topi (fun z_18 ez_18 => ?_)
            have hz_18 : z_18.toInt = z_17.toInt + v29_2.toInt := n_add (rfl : z_17.toInt = z_17.toInt) (rfl : v29_2.toInt = v29_2.toInt) ez_18 (by omega) (by omega)
            obtain ⟨fc_19, hgc_19, hFc_19⟩ := hW29.arr (i := 199) (by decide) (sh_199 ad K)
            refine q_iald X hP (by decide) hgc_19 (n_in (rfl : z_18.toInt = z_18.toInt) (by omega) (by omega)) dX12_back_50 ?_
            refine lv_topi (fun z_20 ez_20 => ?_)
            have hqz_20 : wq (z_18.toNatClampNeg % 118) z_20.toInt := ez_20 ▸ hFc_19 _
            have hcz_20 := n_cl (rfl : z_18.toInt = z_18.toInt) (by omega)
            obtain ⟨fc_21, hgc_21, hFc_21⟩ := hW29.arr (i := 198) (by decide) (sh_198 ad K)
            have hc_51 := n_cl (rfl : v29_2.toInt = v29_2.toInt) (by omega)
            have hu_23 : wq (v29_2.toNatClampNeg) (z_20 : Int32).toInt := by rw [show v29_2.toNatClampNeg = z_18.toNatClampNeg % 118 by omega]; exact hqz_20
            refine s_iast X hP hj hA hS (by decide) hgc_21 (n_in (rfl : v29_2.toInt = v29_2.toInt) (by omega) (by omega)) dX12_back_51 hW29 (sh_198 ad K) (hFc_21.put hu_23) (fun fc_22 gc_22 H locs ec_22 hFc_22 hgc_22 hfc_22 hWc_22 hP hS => ?_)
            have hg_25 := (hfc_22 197 (by decide)).trans hgc_14
            have hg_26 := (hfc_22 199 (by decide)).trans hgc_19
            have hfr_24 : ∀ j, j ≠ 198 → gc_22 j = g j := fun j hj => (hfc_22 j (by omega)).trans (hfr29 j hj)
            obtain ⟨x_27, ex_27⟩ : ∃ y : Int32, y = v29_2 + 1 := ⟨_, rfl⟩
            have hx_27 : x_27.toInt = v29_2.toInt + 1 := n_add rfl (by decide : (1 : Int32).toInt = 1) ex_27 (by omega) (by omega)
            refine lv_iinc (v := x_27) (lv' := [(2, .int x_27), (0, .ref (ad 197)), (1, .int kk)]) hx hb dX12_back_52 hl (k := 0) rfl (by rw [ex_27]; rfl) (by decide) rfl (fun ls hl => ?_)
            refine lv_goto (tgt := 29) hx hb dX12_back_55 (by decide) ?_
            exact ih29 x_27 gc_22 _ _ ls (by omega) (by omega) hWc_22 hfr_24 hP hS (lv_sub hl [0, 1, 2] rfl)
      have hiv29_2 : (0 : Int32).toInt = 0 := by decide
      exact HL29 _ 0 g _ _ ls (Nat.lt_succ_self _) (by omega) hW hfr hP hS (lv_sub hl [0, 1, 2] rfl)
    · have hhc_12 := n_eq (rfl : z_11.toInt = z_11.toInt) (by decide : (0 : Int32).toInt = 0) hc_12
      refine lv_bipush (v := (-6)) hx hb dX12_back_24 (by decide) ?_
      have hr0 : ((-6) : Int32).toInt = -6 := by decide
      exact q_iret X hP hS ⟨hW, hfr, ⟨fun q0 => by omega, fun q0 q1 => by omega, fun q0 q1 => by omega⟩⟩ dX12_back_26
  · have hhc_7 := n_eq (rfl : r_4.toInt = r_4.toInt) (by decide : (0 : Int32).toInt = 0) hc_7
    refine lv_bipush (v := (-2)) hx hb dX12_back_12 (by decide) ?_
    have hr0 : ((-2) : Int32).toInt = -2 := by decide
    exact q_iret X hP hS ⟨hW, hfr, ⟨fun q0 => by omega, fun q0 q1 => by omega, fun q0 q1 => by omega⟩⟩ dX12_back_14

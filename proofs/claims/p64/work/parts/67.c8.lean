theorem dX3_note_0 : decode cX3_note 0 = .ok (.aload_n 0, 1) := by decide +kernel
theorem dX3_note_1 : decode cX3_note 1 = .ok (.getfield 9, 3) := by decide +kernel
theorem dX3_note_4 : decode cX3_note 4 = .ok (.iload_n 1, 1) := by decide +kernel
theorem dX3_note_5 : decode cX3_note 5 = .ok (.iaload, 1) := by decide +kernel
theorem dX3_note_6 : decode cX3_note 6 = .ok (.bipush (-2), 2) := by decide +kernel
theorem dX3_note_8 : decode cX3_note 8 = .ok (.if_icmp .eq 18, 3) := by decide +kernel
theorem dX3_note_11 : decode cX3_note 11 = .ok (.aload_n 0, 1) := by decide +kernel
theorem dX3_note_12 : decode cX3_note 12 = .ok (.getfield 9, 3) := by decide +kernel
theorem dX3_note_15 : decode cX3_note 15 = .ok (.iload_n 1, 1) := by decide +kernel
theorem dX3_note_16 : decode cX3_note 16 = .ok (.iaload, 1) := by decide +kernel
theorem dX3_note_17 : decode cX3_note 17 = .ok (.iload_n 2, 1) := by decide +kernel
theorem dX3_note_18 : decode cX3_note 18 = .ok (.if_icmp .eq 8, 3) := by decide +kernel
theorem dX3_note_21 : decode cX3_note 21 = .ok (.aload_n 0, 1) := by decide +kernel
theorem dX3_note_22 : decode cX3_note 22 = .ok (.iconst 1, 1) := by decide +kernel
theorem dX3_note_23 : decode cX3_note 23 = .ok (.putfield 21, 3) := by decide +kernel
theorem dX3_note_26 : decode cX3_note 26 = .ok (.aload_n 0, 1) := by decide +kernel
theorem dX3_note_27 : decode cX3_note 27 = .ok (.getfield 9, 3) := by decide +kernel
theorem dX3_note_30 : decode cX3_note 30 = .ok (.iload_n 1, 1) := by decide +kernel
theorem dX3_note_31 : decode cX3_note 31 = .ok (.iload_n 2, 1) := by decide +kernel
theorem dX3_note_32 : decode cX3_note 32 = .ok (.iastore, 1) := by decide +kernel
theorem dX3_note_33 : decode cX3_note 33 = .ok (.return_, 1) := by decide +kernel
noncomputable def vX3_note : List Cond := .code yX3_note cX3_note 3 none :: (([.fieldLink RX3 9 "IcicleClock$Seen" "fall" "[I", .fieldLink RX3 21 "IcicleClock$Seen" "torn" "Z"] : List Cond) ++ wsX30)
theorem iX3_note_3 : ∀ w ∈ wsX30, w ∈ vX3_note := fun _ h => List.mem_cons_of_mem _ (List.mem_append_right _ (h))
theorem gs_X3_note : Gd vX3_note := Gd.cons (by decide +kernel) (Gd.app (Gd.r (by decide +kernel)) gwX_3)
set_option maxHeartbeats 4000000 in
set_option maxRecDepth 100000 in
theorem s_X3_note (l : Launch) (D : va_G) (cs : Nat → ClassId) (ad : Nat → Nat) (kS : kSt) (K : sK) (hKO : KO K) (hj : wJ ad 218) (g : Nat → va_E) (hW : WF (shp ad K) ad cs g) (ic : Int32) (dy : Int32) (hp0 : 0 ≤ ic.toInt ∧ ic.toInt ≤ 7) : sV l yX3_note vX3_note { frames := 0, cells := 0, slots := 0, locals := 0 } D cs ad kS [.ref (ad 118), .int ic, .int dy] g (fun g2 => WF (shp ad K) ad cs g2 ∧ (∀ j, j ≠ 118 ∧ j ≠ 119 → g2 j = g j)) := by
  refine Met.startS (cc := cX3_note) (maxL := 3) (ret := none) RX3 rfl (by decide) rfl (Nat.le_of_ble_eq_true rfl) ?_
  intro p e s m below meth c ls X Z hP hl
  have hx := X.1
  have hb := X.2.1
  have hS : va_S (wA ad 218) s.heap s.heap [] := va_S.rf
  have hA : ∀ i, i < 218 → wA ad 218 (ad i) := fun i h => ⟨i, h, rfl⟩
  have hfr : ∀ j, j ≠ 118 ∧ j ≠ 119 → g j = g j := fun _ _ => rfl
  have hl : lv_has ls 3 [(0, .ref (ad 118)), (1, .int ic), (2, .int dy)] := hl
  refine lv_aload_n hx hb dX3_note_0 rfl (lv_at hl 0 rfl) ?_
  obtain ⟨fsc_1, hgc_1, hOc_1⟩ := hW.obj (i := 118) (by decide) (sh_118 ad K)
  have hk_2 := hOc_1.ref 0 rfl
  refine q_get X iX3_note_3 hP (by decide) hgc_1 rfl 0 (by decide) (List.mem_of_getElem? (i := 1) rfl) (v := .ref (ad 119)) hk_2 dX3_note_1 ?_
  refine lv_iload_n hx hb dX3_note_4 rfl (lv_at hl 1 rfl) ?_
  obtain ⟨fc_3, hgc_3, hFc_3⟩ := hW.arr (i := 119) (by decide) (sh_119 ad K)
  refine q_iald X hP (by decide) hgc_3 (n_in (rfl : ic.toInt = ic.toInt) (by omega) (by omega)) dX3_note_5 ?_
  refine lv_topi (fun z_4 ez_4 => ?_)
  refine lv_bipush (v := (-2)) hx hb dX3_note_6 (by decide) ?_
  have HJ26 : ∀ (G26 : Nat → va_E) (H : Heap) (locs : List Loc) (ls : Array Slot), WF (shp ad K) ad cs G26 → (∀ j, j ≠ 118 ∧ j ≠ 119 → G26 j = g j) → G26 119 = .inl (cs 1, 8, .inl fc_3) → va_P D vwCl (wL ad G26 218) H → va_S (wA ad 218) s.heap H locs → lv_has ls 3 [(0, .ref (ad 118)), (1, .int ic), (2, .int dy)] → W p l e ({ frames := 0, cells := 0, slots := 0, locals := 0 } : Room) s m ([.ref (ad 118), .int ic, .int dy] : List Value).toArray below meth c H locs 0 0 (MQ below (qV D ad 218 (fun g2 => WF (shp ad K) ad cs g2 ∧ (∀ j, j ≠ 118 ∧ j ≠ 119 → g2 j = g j))) ([.ref (ad 118), .int ic, .int dy] : List Value).toArray s 0 0 (wA ad 218)) (F0 m 26 ls []) := by
    intro G26 H locs ls hW26 hfr26 hg26_0 hP hS hl
    refine lv_aload_n hx hb dX3_note_26 rfl (lv_at hl 0 rfl) ?_
    obtain ⟨fsc_5, hgc_5, hOc_5⟩ := hW26.obj (i := 118) (by decide) (sh_118 ad K)
    have hk_6 := hOc_5.ref 0 rfl
    refine q_get X iX3_note_3 hP (by decide) hgc_5 rfl 0 (by decide) (List.mem_of_getElem? (i := 1) rfl) (v := .ref (ad 119)) hk_6 dX3_note_27 ?_
    refine lv_iload_n hx hb dX3_note_30 rfl (lv_at hl 1 rfl) ?_
    refine lv_iload_n hx hb dX3_note_31 rfl (lv_at hl 2 rfl) ?_
    refine s_iast X hP hj hA hS (by decide) hg26_0 (n_in (rfl : ic.toInt = ic.toInt) (by omega) (by omega)) dX3_note_32 hW26 (sh_119 ad K) (hFc_3.put trivial) (fun fc_7 gc_7 H locs ec_7 hFc_7 hgc_7 hfc_7 hWc_7 hP hS => ?_)
    have hg_9 := (hfc_7 118 (by decide)).trans hgc_5
    have hfr_8 : ∀ j, j ≠ 118 ∧ j ≠ 119 → gc_7 j = g j := fun j hj => (hfc_7 j (by omega)).trans (hfr26 j hj)
    exact q_vret X hP hS ⟨hWc_7, hfr_8⟩ dX3_note_33
  refine lv_icmp_eq (tgt := 26) hx hb dX3_note_8 (by decide) (fun hc_10 => ?_) (fun hc_10 => ?_)
  · have hhc_10 := n_eq (rfl : z_4.toInt = z_4.toInt) (by decide : (-2 : Int32).toInt = -2) hc_10
    exact HJ26 g _ _ ls hW hfr hgc_3 hP hS (lv_sub hl [0, 1, 2] rfl)
  · have hhc_10 := n_ne (rfl : z_4.toInt = z_4.toInt) (by decide : (-2 : Int32).toInt = -2) hc_10
    refine lv_aload_n hx hb dX3_note_11 rfl (lv_at hl 0 rfl) ?_
    refine q_get X iX3_note_3 hP (by decide) hgc_1 rfl 0 (by decide) (List.mem_of_getElem? (i := 1) rfl) (v := .ref (ad 119)) hk_2 dX3_note_12 ?_
    refine lv_iload_n hx hb dX3_note_15 rfl (lv_at hl 1 rfl) ?_
    refine q_iald X hP (by decide) hgc_3 (n_in (rfl : ic.toInt = ic.toInt) (by omega) (by omega)) dX3_note_16 ?_
    refine lv_topi (fun z_11 ez_11 => ?_)
    have hsz_11 : z_11.toInt = z_4.toInt := by rw [ez_11, ez_4]
    refine lv_iload_n hx hb dX3_note_17 rfl (lv_at hl 2 rfl) ?_
    refine lv_icmp_eq (tgt := 26) hx hb dX3_note_18 (by decide) (fun hc_12 => ?_) (fun hc_12 => ?_)
    · have hhc_12 := n_eq (rfl : z_11.toInt = z_11.toInt) (rfl : dy.toInt = dy.toInt) hc_12
      exact HJ26 g _ _ ls hW hfr hgc_3 hP hS (lv_sub hl [0, 1, 2] rfl)
    · have hhc_12 := n_ne (rfl : z_11.toInt = z_11.toInt) (rfl : dy.toInt = dy.toInt) hc_12
      refine lv_aload_n hx hb dX3_note_21 rfl (lv_at hl 0 rfl) ?_
      refine lv_iconst (v := 1) hx hb dX3_note_22 (by decide) ?_
      refine s_put X iX3_note_3 tyX3 tyX3_ok nmX3 hP hj hA hS (by decide) hgc_1 rfl 1 (by decide) (List.mem_of_getElem? (i := 2) rfl) rfl (ty := .boolean) (v := .int 1) (by decide +kernel) rfl rfl dX3_note_23 hW (sh_118 ad K) hOc_1 rfl ⟨1, rfl, n_lo _, n_hi _⟩ (fun fsc_13 gc_13 H locs hOc_13 hkc_13 hnc_13 hgc_13 hfc_13 hWc_13 hP hS => ?_)
      have hk_14 := (hnc_13 0 (by decide)).trans hk_2
      have hg_16 := (hfc_13 119 (by decide)).trans hgc_3
      have hfr_15 : ∀ j, j ≠ 118 ∧ j ≠ 119 → gc_13 j = g j := fun j hj => (hfc_13 j (by omega)).trans (hfr j hj)
      exact HJ26 gc_13 _ _ ls hWc_13 hfr_15 hg_16 hP hS (lv_sub hl [0, 1, 2] rfl)

theorem dX3_read_0 : decode cX3_read 0 = .ok (.aload_n 0, 1) := by decide +kernel
theorem dX3_read_1 : decode cX3_read 1 = .ok (.getfield 9, 3) := by decide +kernel
theorem dX3_read_4 : decode cX3_read 4 = .ok (.bipush (-2), 2) := by decide +kernel
theorem dX3_read_6 : decode cX3_read 6 = .ok (.invokestatic 15, 3) := by decide +kernel
theorem dX3_read_9 : decode cX3_read 9 = .ok (.aload_n 0, 1) := by decide +kernel
theorem dX3_read_10 : decode cX3_read 10 = .ok (.iconst 0, 1) := by decide +kernel
theorem dX3_read_11 : decode cX3_read 11 = .ok (.putfield 21, 3) := by decide +kernel
theorem dX3_read_14 : decode cX3_read 14 = .ok (.aload_n 1, 1) := by decide +kernel
theorem dX3_read_15 : decode cX3_read 15 = .ok (.getfield 25, 3) := by decide +kernel
theorem dX3_read_18 : decode cX3_read 18 = .ok (.iconst 2, 1) := by decide +kernel
theorem dX3_read_19 : decode cX3_read 19 = .ok (.irem, 1) := by decide +kernel
theorem dX3_read_20 : decode cX3_read 20 = .ok (.ifCond .eq 5, 3) := by decide +kernel
theorem dX3_read_23 : decode cX3_read 23 = .ok (.iconst 0, 1) := by decide +kernel
theorem dX3_read_24 : decode cX3_read 24 = .ok (.ireturn, 1) := by decide +kernel
theorem dX3_read_25 : decode cX3_read 25 = .ok (.iconst 0, 1) := by decide +kernel
theorem dX3_read_26 : decode cX3_read 26 = .ok (.istore 4, 2) := by decide +kernel
theorem dX3_read_28 : decode cX3_read 28 = .ok (.iload 4, 2) := by decide +kernel
theorem dX3_read_30 : decode cX3_read 30 = .ok (.iconst 1, 1) := by decide +kernel
theorem dX3_read_31 : decode cX3_read 31 = .ok (.iadd, 1) := by decide +kernel
theorem dX3_read_32 : decode cX3_read 32 = .ok (.aload_n 1, 1) := by decide +kernel
theorem dX3_read_33 : decode cX3_read 33 = .ok (.getfield 25, 3) := by decide +kernel
theorem dX3_read_36 : decode cX3_read 36 = .ok (.if_icmp .ge 73, 3) := by decide +kernel
theorem dX3_read_39 : decode cX3_read 39 = .ok (.aload_n 1, 1) := by decide +kernel
theorem dX3_read_40 : decode cX3_read 40 = .ok (.getfield 31, 3) := by decide +kernel
theorem dX3_read_43 : decode cX3_read 43 = .ok (.iload 4, 2) := by decide +kernel
theorem dX3_read_45 : decode cX3_read 45 = .ok (.laload, 1) := by decide +kernel
theorem dX3_read_46 : decode cX3_read 46 = .ok (.lstore 5, 2) := by decide +kernel
theorem dX3_read_48 : decode cX3_read 48 = .ok (.aload_n 1, 1) := by decide +kernel
theorem dX3_read_49 : decode cX3_read 49 = .ok (.getfield 31, 3) := by decide +kernel
theorem dX3_read_52 : decode cX3_read 52 = .ok (.iload 4, 2) := by decide +kernel
theorem dX3_read_54 : decode cX3_read 54 = .ok (.iconst 1, 1) := by decide +kernel
theorem dX3_read_55 : decode cX3_read 55 = .ok (.iadd, 1) := by decide +kernel
theorem dX3_read_56 : decode cX3_read 56 = .ok (.laload, 1) := by decide +kernel
theorem dX3_read_57 : decode cX3_read 57 = .ok (.lstore 7, 2) := by decide +kernel
theorem dX3_read_59 : decode cX3_read 59 = .ok (.lload 5, 2) := by decide +kernel
theorem dX3_read_61 : decode cX3_read 61 = .ok (.lconst 0, 1) := by decide +kernel
theorem dX3_read_62 : decode cX3_read 62 = .ok (.lcmp, 1) := by decide +kernel
theorem dX3_read_63 : decode cX3_read 63 = .ok (.ifCond .lt 28, 3) := by decide +kernel
theorem dX3_read_66 : decode cX3_read 66 = .ok (.lload 5, 2) := by decide +kernel
theorem dX3_read_68 : decode cX3_read 68 = .ok (.iload_n 2, 1) := by decide +kernel
theorem dX3_read_69 : decode cX3_read 69 = .ok (.i2l, 1) := by decide +kernel
theorem dX3_read_70 : decode cX3_read 70 = .ok (.lcmp, 1) := by decide +kernel
theorem dX3_read_71 : decode cX3_read 71 = .ok (.ifCond .ge 20, 3) := by decide +kernel
theorem dX3_read_74 : decode cX3_read 74 = .ok (.lload 7, 2) := by decide +kernel
theorem dX3_read_76 : decode cX3_read 76 = .ok (.ldc2_w 35, 3) := by decide +kernel
theorem dX3_read_79 : decode cX3_read 79 = .ok (.lcmp, 1) := by decide +kernel
theorem dX3_read_80 : decode cX3_read 80 = .ok (.ifCond .lt 11, 3) := by decide +kernel
theorem dX3_read_83 : decode cX3_read 83 = .ok (.lload 7, 2) := by decide +kernel
theorem dX3_read_85 : decode cX3_read 85 = .ok (.iload_n 3, 1) := by decide +kernel
theorem dX3_read_86 : decode cX3_read 86 = .ok (.i2l, 1) := by decide +kernel
theorem dX3_read_87 : decode cX3_read 87 = .ok (.lcmp, 1) := by decide +kernel
theorem dX3_read_88 : decode cX3_read 88 = .ok (.ifCond .lt 5, 3) := by decide +kernel
theorem dX3_read_93 : decode cX3_read 93 = .ok (.aload_n 0, 1) := by decide +kernel
theorem dX3_read_94 : decode cX3_read 94 = .ok (.lload 5, 2) := by decide +kernel
theorem dX3_read_96 : decode cX3_read 96 = .ok (.l2i, 1) := by decide +kernel
theorem dX3_read_97 : decode cX3_read 97 = .ok (.lload 7, 2) := by decide +kernel
theorem dX3_read_99 : decode cX3_read 99 = .ok (.l2i, 1) := by decide +kernel
theorem dX3_read_100 : decode cX3_read 100 = .ok (.invokevirtual 37, 3) := by decide +kernel
theorem dX3_read_103 : decode cX3_read 103 = .ok (.iinc 4 2, 3) := by decide +kernel
theorem dX3_read_106 : decode cX3_read 106 = .ok (.goto (-78), 3) := by decide +kernel
theorem dX3_read_91 : decode cX3_read 91 = .ok (.iconst 0, 1) := by decide +kernel
theorem dX3_read_92 : decode cX3_read 92 = .ok (.ireturn, 1) := by decide +kernel
theorem dX3_read_109 : decode cX3_read 109 = .ok (.iconst 1, 1) := by decide +kernel
theorem dX3_read_110 : decode cX3_read 110 = .ok (.ireturn, 1) := by decide +kernel
noncomputable def vX3_read : List Cond := .code yX3_read cX3_read 9 (some .boolean) :: (([.fieldLink RX3 9 "IcicleClock$Seen" "fall" "[I", .methodLink RX3 15 yJ7_fill_53178, .static yJ7_fill_53178, .initialized RJ7, .fieldLink RX3 21 "IcicleClock$Seen" "torn" "Z", .fieldLink RX3 25 "IcicleClock$Slot" "held" "I", .fieldLink RX3 31 "IcicleClock$Slot" "numbers" "[J", .constantLong RX3 35 (-1), .methodLink RX3 37 yX3_note, .instanceMethod yX3_note, .selects RX3 yX3_note yX3_note, .initialized RX3] : List Cond) ++ (wsX30 ++ (wsX50 ++ (vJ7_fill_53178 ++ vX3_note))))
theorem iX3_read_3 : ∀ w ∈ wsX30, w ∈ vX3_read := fun _ h => List.mem_cons_of_mem _ (List.mem_append_right _ (List.mem_append_left _ h))
theorem iX3_read_5 : ∀ w ∈ wsX50, w ∈ vX3_read := fun _ h => List.mem_cons_of_mem _ (List.mem_append_right _ (List.mem_append_right _ (List.mem_append_left _ h)))
theorem gs_X3_read : Gd vX3_read := Gd.cons (by decide +kernel) (Gd.app (Gd.r (by decide +kernel)) (Gd.app gwX_3 (Gd.app gwX_5 (Gd.app gs_J7_fill_53178 gs_X3_note))))
theorem gg_X3_read_J7_fill_53178 : GoodIn vX3_read (va_wsS RX3 15 yJ7_fill_53178 vJ7_fill_53178) := goodIn_app (goodIn_r _ [2, 3, 4] (by decide +kernel) (by decide +kernel)) (fun w h => ⟨List.mem_cons_of_mem _ (List.mem_append_right _ (List.mem_append_right _ (List.mem_append_right _ (List.mem_append_left _ h)))), gs_J7_fill_53178 w h⟩)
theorem gg_X3_read_X3_note : GoodIn vX3_read (wsV RX3 37 RX3 yX3_note vX3_note) := goodIn_app (goodIn_r _ [9, 10, 11, 12] (by decide +kernel) (by decide +kernel)) (fun w h => ⟨List.mem_cons_of_mem _ (List.mem_append_right _ (List.mem_append_right _ (List.mem_append_right _ (List.mem_append_right _ (h))))), gs_X3_note w h⟩)
set_option maxHeartbeats 4000000 in
set_option maxRecDepth 100000 in
theorem s_X3_read (l : Launch) (D : va_G) (cs : Nat → ClassId) (ad : Nat → Nat) (kS : kSt) (K : sK) (hKO : KO K) (hj : wJ ad 218) (g : Nat → va_E) (hW : WF (shp ad K) ad cs g) (jj : Nat) (ics : Int32) (dys : Int32) (hp0 : jj < 4) (hp1 : 0 ≤ ics.toInt ∧ ics.toInt ≤ 8) : sI l yX3_read vX3_read { frames := 1, cells := 0, slots := 0, locals := 23 } D cs ad kS [.ref (ad 118), .ref (ad (106 + 2 * jj)), .int ics, .int dys] g (fun r g2 => WF (shp ad K) ad cs g2 ∧ (∀ j, j ≠ 118 ∧ j ≠ 119 → g2 j = g j) ∧ (0 ≤ r.toInt ∧ r.toInt ≤ 1)) := by
  refine Met.startS (cc := cX3_read) (maxL := 9) (ret := (some .boolean)) RX3 rfl (by decide) rfl (Nat.le_of_ble_eq_true rfl) ?_
  intro p e s m below meth c ls X Z hP hl
  have hx := X.1
  have hb := X.2.1
  have hS : va_S (wA ad 218) s.heap s.heap [] := va_S.rf
  have hA : ∀ i, i < 218 → wA ad 218 (ad i) := fun i h => ⟨i, h, rfl⟩
  have hfr : ∀ j, j ≠ 118 ∧ j ≠ 119 → g j = g j := fun _ _ => rfl
  have hj_jj := hp0
  have hl : lv_has ls 9 [(0, .ref (ad 118)), (1, .ref (ad (106 + 2 * jj))), (2, .int ics), (3, .int dys)] := hl
  refine lv_aload_n hx hb dX3_read_0 rfl (lv_at hl 0 rfl) ?_
  obtain ⟨fsc_1, hgc_1, hOc_1⟩ := hW.obj (i := 118) (by decide) (sh_118 ad K)
  have hk_2 := hOc_1.ref 0 rfl
  refine q_get X iX3_read_3 hP (by decide) hgc_1 rfl 0 (by decide) (List.mem_of_getElem? (i := 1) rfl) (v := .ref (ad 119)) hk_2 dX3_read_1 ?_
  refine lv_bipush (v := (-2)) hx hb dX3_read_4 (by decide) ?_
  refine s_callSv (As := [.ref (ad 119), .int (-2)]) (rest := []) X Z (s_fill_119 l D cs ad kS K hKO hj g hW (-2)) (va_cwS 2 X.2.2.2.2.1 gg_X3_read_J7_fill_53178 rfl rfl rfl (by decide +kernel) ⟨Nat.le_of_ble_eq_true rfl, Nat.le_of_ble_eq_true rfl⟩) hP hA hS.2.1 hS rfl hl.1 rfl (Nat.le_of_ble_eq_true rfl) dX3_read_6 ⟨Nat.le_of_ble_eq_true rfl, Nat.le_of_ble_eq_true rfl⟩ (fun g_4 H locs hw_3 hP hS => ?_)
  obtain ⟨hw_3W, hw_3f⟩ := hw_3
  have hfr_6 : ∀ j, j ≠ 118 ∧ j ≠ 119 → g_4 j = g j := fun j hj => (hw_3f j (by omega)).trans (hfr j hj)
  have hg_7 := (hw_3f 118 (by omega)).trans hgc_1
  refine lv_aload_n hx hb dX3_read_9 rfl (lv_at hl 0 rfl) ?_
  refine lv_iconst (v := 0) hx hb dX3_read_10 (by decide) ?_
  refine s_put X iX3_read_3 tyX3 tyX3_ok nmX3 hP hj hA hS (by decide) hg_7 rfl 1 (by decide) (List.mem_of_getElem? (i := 5) rfl) rfl (ty := .boolean) (v := .int 0) (by decide +kernel) rfl rfl dX3_read_11 hw_3W (sh_118 ad K) hOc_1 rfl ⟨0, rfl, n_lo _, n_hi _⟩ (fun fsc_8 gc_8 H locs hOc_8 hkc_8 hnc_8 hgc_8 hfc_8 hWc_8 hP hS => ?_)
  have hk_9 := (hnc_8 0 (by decide)).trans hk_2
  have hfr_10 : ∀ j, j ≠ 118 ∧ j ≠ 119 → gc_8 j = g j := fun j hj => (hfc_8 j (by omega)).trans (hfr_6 j hj)
  refine lv_aload_n hx hb dX3_read_14 rfl (lv_at hl 1 rfl) ?_
  obtain ⟨fsc_11, hgc_11, hOc_11⟩ := hWc_8.obj (i := (106 + 2 * jj)) (by omega) (shJ_0 ad K hj_jj)
  obtain ⟨x_13, hk_12, hlx_13, hhx_13⟩ := hOc_11.int 3 rfl
  have hqx_13 := hKO jj
  refine q_get X iX3_read_5 hP (by omega) hgc_11 rfl 3 (by decide) (List.mem_of_getElem? (i := 6) rfl) (v := .int x_13) hk_12 dX3_read_15 ?_
  refine lv_iconst (v := 2) hx hb dX3_read_18 (by decide) ?_
  refine lv_irem hx hb dX3_read_19 (by decide) ?_
  refine lv_topi (fun z_14 ez_14 => ?_)
  have hz_14 : z_14.toInt = x_13.toInt % 2 := n_rem (rfl : x_13.toInt = x_13.toInt) (by decide : (2 : Int32).toInt = 2) ez_14 (by omega) (by decide)
  refine lv_if_eq (tgt := 25) hx hb dX3_read_20 (by decide) (fun hc_15 => ?_) (fun hc_15 => ?_)
  · have hhc_15 := n_eq (rfl : z_14.toInt = z_14.toInt) (by decide : (0 : Int32).toInt = 0) hc_15
    refine lv_iconst (v := 0) hx hb dX3_read_25 (by decide) ?_
    refine lv_istore (lv' := [(4, .int 0), (0, .ref (ad 118)), (1, .ref (ad (106 + 2 * jj))), (2, .int ics), (3, .int dys)]) hx hb dX3_read_26 hl (by decide) rfl (fun ls hl => ?_)
    have HL28 : ∀ (n28 : Nat) (v28_4 : Int32) (G28 : Nat → va_E) (H : Heap) (locs : List Loc) (ls : Array Slot), (60 - v28_4.toInt).toNat < n28 → (0 ≤ v28_4.toInt ∧ v28_4.toInt ≤ 60) → WF (shp ad K) ad cs G28 → (∀ j, j ≠ 118 ∧ j ≠ 119 → G28 j = g j) → va_P D vwCl (wL ad G28 218) H → va_S (wA ad 218) s.heap H locs → lv_has ls 9 [(4, .int v28_4), (0, .ref (ad 118)), (1, .ref (ad (106 + 2 * jj))), (2, .int ics), (3, .int dys)] → W p l e ({ frames := 1, cells := 0, slots := 0, locals := 23 } : Room) s m ([.ref (ad 118), .ref (ad (106 + 2 * jj)), .int ics, .int dys] : List Value).toArray below meth c H locs 0 0 (MQ below (qI D ad 218 (fun r g2 => WF (shp ad K) ad cs g2 ∧ (∀ j, j ≠ 118 ∧ j ≠ 119 → g2 j = g j) ∧ (0 ≤ r.toInt ∧ r.toInt ≤ 1))) ([.ref (ad 118), .ref (ad (106 + 2 * jj)), .int ics, .int dys] : List Value).toArray s 0 0 (wA ad 218)) (F0 m 28 ls []) := by
      intro n28
      induction n28 with
      | zero =>
        intro v28_4 G28 H locs ls hm28 hv28_0 hW28 hfr28 hP hS hl
        exact absurd hm28 (Nat.not_lt_zero _)
      | succ n28 ih28 =>
        intro v28_4 G28 H locs ls hm28 hv28_0 hW28 hfr28 hP hS hl
        refine lv_iload hx hb dX3_read_28 (lv_at hl 0 rfl) ?_
        refine lv_iconst (v := 1) hx hb dX3_read_30 (by decide) ?_
        refine lv_iadd hx hb dX3_read_31 ?_
        refine lv_topi (fun z_16 ez_16 => ?_)
        have hz_16 : z_16.toInt = v28_4.toInt + 1 := n_add (rfl : v28_4.toInt = v28_4.toInt) (by decide : (1 : Int32).toInt = 1) ez_16 (by omega) (by omega)
        refine lv_aload_n hx hb dX3_read_32 rfl (lv_at hl 2 rfl) ?_
        obtain ⟨fsc_17, hgc_17, hOc_17⟩ := hW28.obj (i := (106 + 2 * jj)) (by omega) (shJ_0 ad K hj_jj)
        obtain ⟨x_19, hk_18, hlx_19, hhx_19⟩ := hOc_17.int 3 rfl
        have hqx_19 := hKO jj
        refine q_get X iX3_read_5 hP (by omega) hgc_17 rfl 3 (by decide) (List.mem_of_getElem? (i := 6) rfl) (v := .int x_19) hk_18 dX3_read_33 ?_
        refine lv_icmp_ge (tgt := 109) hx hb dX3_read_36 (by decide) (fun hc_20 => ?_) (fun hc_20 => ?_)
        · have hhc_20 := n_le (rfl : x_19.toInt = x_19.toInt) (rfl : z_16.toInt = z_16.toInt) hc_20
          refine lv_iconst (v := 1) hx hb dX3_read_109 (by decide) ?_
          have hr0 : (1 : Int32).toInt = 1 := by decide
          exact q_zret X hP hS rfl ⟨hW28, hfr28, (by omega)⟩ dX3_read_110
        · have hhc_20 := n_nle (rfl : x_19.toInt = x_19.toInt) (rfl : z_16.toInt = z_16.toInt) hc_20
          refine lv_aload_n hx hb dX3_read_39 rfl (lv_at hl 2 rfl) ?_
          have hk_21 := hOc_17.ref 0 rfl
          refine q_get X iX3_read_5 hP (by omega) hgc_17 rfl 0 (by decide) (List.mem_of_getElem? (i := 7) rfl) (v := .ref (ad (107 + 2 * jj))) hk_21 dX3_read_40 ?_
          refine lv_iload hx hb dX3_read_43 (lv_at hl 0 rfl) ?_
          obtain ⟨fc_22, hgc_22, hFc_22⟩ := hW28.arj (i := (107 + 2 * jj)) (by omega) (shJ_1 ad K hj_jj)
          refine q_lald X hP (by omega) hgc_22 (n_in (rfl : v28_4.toInt = v28_4.toInt) (by omega) (by omega)) dX3_read_45 ?_
          refine lv_topl (fun z_23 ez_23 => ?_)
          refine lv_lstore (lv' := [(5, .long z_23), (4, .int v28_4), (0, .ref (ad 118)), (1, .ref (ad (106 + 2 * jj))), (2, .int ics), (3, .int dys)]) hx hb dX3_read_46 hl (by decide) rfl (fun ls hl => ?_)
          refine lv_aload_n hx hb dX3_read_48 rfl (lv_at hl 3 rfl) ?_
          refine q_get X iX3_read_5 hP (by omega) hgc_17 rfl 0 (by decide) (List.mem_of_getElem? (i := 7) rfl) (v := .ref (ad (107 + 2 * jj))) hk_21 dX3_read_49 ?_
          refine lv_iload hx hb dX3_read_52 (lv_at hl 1 rfl) ?_
          refine lv_iconst (v := 1) hx hb dX3_read_54 (by decide) ?_
          refine lv_iadd hx hb dX3_read_55 ?_
          refine lv_topi (fun z_24 ez_24 => ?_)
          have hz_24 : z_24.toInt = v28_4.toInt + 1 := n_add (rfl : v28_4.toInt = v28_4.toInt) (by decide : (1 : Int32).toInt = 1) ez_24 (by omega) (by omega)
          refine q_lald X hP (by omega) hgc_22 (n_in (rfl : z_24.toInt = z_24.toInt) (by omega) (by omega)) dX3_read_56 ?_
          refine lv_topl (fun z_25 ez_25 => ?_)
          refine lv_lstore (lv' := [(7, .long z_25), (5, .long z_23), (4, .int v28_4), (0, .ref (ad 118)), (1, .ref (ad (106 + 2 * jj))), (2, .int ics), (3, .int dys)]) hx hb dX3_read_57 hl (by decide) rfl (fun ls hl => ?_)
          refine lv_lload hx hb dX3_read_59 (lv_at hl 1 rfl) ?_
          refine lv_lconst (v := 0) hx hb dX3_read_61 (by decide) ?_
          refine W.lcmp hx hb dX3_read_62 ?_
          have HJ91 : ∀ (G91 : Nat → va_E) (H : Heap) (locs : List Loc) (ls : Array Slot), WF (shp ad K) ad cs G91 → (∀ j, j ≠ 118 ∧ j ≠ 119 → G91 j = g j) → G91 (106 + 2 * jj) = .inr (5, fsc_17) → G91 (107 + 2 * jj) = .inl (cs 2, 60, .inr (.inl fc_22)) → va_P D vwCl (wL ad G91 218) H → va_S (wA ad 218) s.heap H locs → lv_has ls 9 [] → W p l e ({ frames := 1, cells := 0, slots := 0, locals := 23 } : Room) s m ([.ref (ad 118), .ref (ad (106 + 2 * jj)), .int ics, .int dys] : List Value).toArray below meth c H locs 0 0 (MQ below (qI D ad 218 (fun r g2 => WF (shp ad K) ad cs g2 ∧ (∀ j, j ≠ 118 ∧ j ≠ 119 → g2 j = g j) ∧ (0 ≤ r.toInt ∧ r.toInt ≤ 1))) ([.ref (ad 118), .ref (ad (106 + 2 * jj)), .int ics, .int dys] : List Value).toArray s 0 0 (wA ad 218)) (F0 m 91 ls []) := by
            intro G91 H locs ls hW91 hfr91 hg91_0 hg91_1 hP hS hl
            refine lv_iconst (v := 0) hx hb dX3_read_91 (by decide) ?_
            have hr0 : (0 : Int32).toInt = 0 := by decide
            exact q_zret X hP hS rfl ⟨hW91, hfr91, (by omega)⟩ dX3_read_92
          refine lv_if_lt (tgt := 91) hx hb dX3_read_63 (by decide) (fun hc_26 => ?_) (fun hc_26 => ?_)
          · have hhc_26 := j_clt (rfl : z_23.toInt = z_23.toInt) (by decide : (0 : Int64).toInt = 0) hc_26
            exact HJ91 G28 _ _ ls hW28 hfr28 hgc_17 hgc_22 hP hS (lv_sub hl [] rfl)
          · have hhc_26 := j_cge (rfl : z_23.toInt = z_23.toInt) (by decide : (0 : Int64).toInt = 0) hc_26
            refine lv_lload hx hb dX3_read_66 (lv_at hl 1 rfl) ?_
            refine lv_iload_n hx hb dX3_read_68 rfl (lv_at hl 5 rfl) ?_
            refine lv_i2l hx hb dX3_read_69 rfl ?_
            refine lv_topl (fun z_27 ez_27 => ?_)
            have hz_27 : z_27.toInt = ics.toInt := ez_27 ▸ j_of rfl
            refine W.lcmp hx hb dX3_read_70 ?_
            refine lv_if_ge (tgt := 91) hx hb dX3_read_71 (by decide) (fun hc_28 => ?_) (fun hc_28 => ?_)
            · have hhc_28 := j_cgeP (rfl : z_23.toInt = z_23.toInt) (rfl : z_27.toInt = z_27.toInt) hc_28
              exact HJ91 G28 _ _ ls hW28 hfr28 hgc_17 hgc_22 hP hS (lv_sub hl [] rfl)
            · have hhc_28 := j_cltN (rfl : z_23.toInt = z_23.toInt) (rfl : z_27.toInt = z_27.toInt) hc_28
              refine lv_lload hx hb dX3_read_74 (lv_at hl 0 rfl) ?_
              refine lv_ldc2 (v := (-1)) hx hb X.2.2.2.2.2.1 (X.2.2.2.2.1 _ (List.mem_of_getElem? (i := 8) rfl)) dX3_read_76 ?_
              refine W.lcmp hx hb dX3_read_79 ?_
              refine lv_if_lt (tgt := 91) hx hb dX3_read_80 (by decide) (fun hc_29 => ?_) (fun hc_29 => ?_)
              · have hhc_29 := j_clt (rfl : z_25.toInt = z_25.toInt) (by decide : (-1 : Int64).toInt = -1) hc_29
                exact HJ91 G28 _ _ ls hW28 hfr28 hgc_17 hgc_22 hP hS (lv_sub hl [] rfl)
              · have hhc_29 := j_cge (rfl : z_25.toInt = z_25.toInt) (by decide : (-1 : Int64).toInt = -1) hc_29
                refine lv_lload hx hb dX3_read_83 (lv_at hl 0 rfl) ?_
                refine lv_iload_n hx hb dX3_read_85 rfl (lv_at hl 6 rfl) ?_
                refine lv_i2l hx hb dX3_read_86 rfl ?_
                refine lv_topl (fun z_30 ez_30 => ?_)
                have hz_30 : z_30.toInt = dys.toInt := ez_30 ▸ j_of rfl
                have := n_hi dys
                have := n_lo dys
                refine W.lcmp hx hb dX3_read_87 ?_
                refine lv_if_lt (tgt := 93) hx hb dX3_read_88 (by decide) (fun hc_31 => ?_) (fun hc_31 => ?_)
                · have hhc_31 := j_clt (rfl : z_25.toInt = z_25.toInt) (rfl : z_30.toInt = z_30.toInt) hc_31
                  refine lv_aload_n hx hb dX3_read_93 rfl (lv_at hl 3 rfl) ?_
                  refine lv_lload hx hb dX3_read_94 (lv_at hl 1 rfl) ?_
                  refine lv_l2i hx hb dX3_read_96 rfl ?_
                  refine lv_topi (fun z_32 ez_32 => ?_)
                  have hz_32 : z_32.toInt = z_23.toInt := j_l2i (rfl : z_23.toInt = z_23.toInt) ez_32 (by omega) (by omega)
                  refine lv_lload hx hb dX3_read_97 (lv_at hl 0 rfl) ?_
                  refine lv_l2i hx hb dX3_read_99 rfl ?_
                  refine lv_topi (fun z_33 ez_33 => ?_)
                  have hz_33 : z_33.toInt = z_25.toInt := j_l2i (rfl : z_25.toInt = z_25.toInt) ez_33 (by omega) (by omega)
                  obtain ⟨fsc_37, hgc_37, hOc_37⟩ := hW28.obj (i := 118) (by decide) (sh_118 ad K)
                  refine s_callv (q := (RX3, TX3, 2)) (As := [.int z_32, .int z_33]) (rest := []) X Z (s_X3_note l D cs ad kS K hKO hj G28 hW28 z_32 z_33 (by omega)) (cwV 2 X.2.2.2.2.1 gg_X3_read_X3_note rfl rfl rfl (by decide +kernel) ⟨Nat.le_of_ble_eq_true rfl, Nat.le_of_ble_eq_true rfl⟩) (by decide) hgc_37 rfl hP hA hS.2.1 hS rfl hl.1 rfl (Nat.le_of_ble_eq_true rfl) dX3_read_100 ⟨Nat.le_of_ble_eq_true rfl, Nat.le_of_ble_eq_true rfl⟩ (fun g_35 H locs hw_34 hP hS => ?_)
                  obtain ⟨hw_34W, hw_34f⟩ := hw_34
                  have hfr_38 : ∀ j, j ≠ 118 ∧ j ≠ 119 → g_35 j = g j := fun j hj => (hw_34f j (by omega)).trans (hfr28 j hj)
                  have hg_39 := (hw_34f (106 + 2 * jj) (by omega)).trans hgc_17
                  have hg_40 := (hw_34f (107 + 2 * jj) (by omega)).trans hgc_22
                  obtain ⟨x_41, ex_41⟩ : ∃ y : Int32, y = v28_4 + 2 := ⟨_, rfl⟩
                  have hx_41 : x_41.toInt = v28_4.toInt + 2 := n_add rfl (by decide : (2 : Int32).toInt = 2) ex_41 (by omega) (by omega)
                  refine lv_iinc (v := x_41) (lv' := [(4, .int x_41), (7, .long z_25), (5, .long z_23), (0, .ref (ad 118)), (1, .ref (ad (106 + 2 * jj))), (2, .int ics), (3, .int dys)]) hx hb dX3_read_103 hl (k := 2) rfl (by rw [ex_41]; rfl) (by decide) rfl (fun ls hl => ?_)
                  refine lv_goto (tgt := 28) hx hb dX3_read_106 (by decide) ?_
                  exact ih28 x_41 g_35 _ _ ls (by omega) (by omega) hw_34W hfr_38 hP hS (lv_sub hl [0, 3, 4, 5, 6] rfl)
                · have hhc_31 := j_cge (rfl : z_25.toInt = z_25.toInt) (rfl : z_30.toInt = z_30.toInt) hc_31
                  exact HJ91 G28 _ _ ls hW28 hfr28 hgc_17 hgc_22 hP hS (lv_sub hl [] rfl)
    have hiv28_4 : (0 : Int32).toInt = 0 := by decide
    exact HL28 _ 0 gc_8 _ _ ls (Nat.lt_succ_self _) (by omega) hWc_8 hfr_10 hP hS (lv_sub hl [0, 1, 2, 3, 4] rfl)
  · have hhc_15 := n_ne (rfl : z_14.toInt = z_14.toInt) (by decide : (0 : Int32).toInt = 0) hc_15
    refine lv_iconst (v := 0) hx hb dX3_read_23 (by decide) ?_
    have hr0 : (0 : Int32).toInt = 0 := by decide
    exact q_zret X hP hS rfl ⟨hWc_8, hfr_10, (by omega)⟩ dX3_read_24

theorem dX3_fits_0 : decode cX3_fits 0 = .ok (.aload_n 0, 1) := by decide +kernel
theorem dX3_fits_1 : decode cX3_fits 1 = .ok (.getfield 21, 3) := by decide +kernel
theorem dX3_fits_4 : decode cX3_fits 4 = .ok (.ifCond .eq 5, 3) := by decide +kernel
theorem dX3_fits_7 : decode cX3_fits 7 = .ok (.iconst 0, 1) := by decide +kernel
theorem dX3_fits_8 : decode cX3_fits 8 = .ok (.ireturn, 1) := by decide +kernel
theorem dX3_fits_9 : decode cX3_fits 9 = .ok (.iconst 0, 1) := by decide +kernel
theorem dX3_fits_10 : decode cX3_fits 10 = .ok (.istore_n 3, 1) := by decide +kernel
theorem dX3_fits_11 : decode cX3_fits 11 = .ok (.iload_n 3, 1) := by decide +kernel
theorem dX3_fits_12 : decode cX3_fits 12 = .ok (.aload_n 1, 1) := by decide +kernel
theorem dX3_fits_13 : decode cX3_fits 13 = .ok (.getfield 41, 3) := by decide +kernel
theorem dX3_fits_16 : decode cX3_fits 16 = .ok (.if_icmp .ge 37, 3) := by decide +kernel
theorem dX3_fits_19 : decode cX3_fits 19 = .ok (.aload_n 0, 1) := by decide +kernel
theorem dX3_fits_20 : decode cX3_fits 20 = .ok (.getfield 9, 3) := by decide +kernel
theorem dX3_fits_23 : decode cX3_fits 23 = .ok (.iload_n 3, 1) := by decide +kernel
theorem dX3_fits_24 : decode cX3_fits 24 = .ok (.iaload, 1) := by decide +kernel
theorem dX3_fits_25 : decode cX3_fits 25 = .ok (.bipush (-2), 2) := by decide +kernel
theorem dX3_fits_27 : decode cX3_fits 27 = .ok (.if_icmp .eq 20, 3) := by decide +kernel
theorem dX3_fits_30 : decode cX3_fits 30 = .ok (.aload_n 0, 1) := by decide +kernel
theorem dX3_fits_31 : decode cX3_fits 31 = .ok (.getfield 9, 3) := by decide +kernel
theorem dX3_fits_34 : decode cX3_fits 34 = .ok (.iload_n 3, 1) := by decide +kernel
theorem dX3_fits_35 : decode cX3_fits 35 = .ok (.iaload, 1) := by decide +kernel
theorem dX3_fits_36 : decode cX3_fits 36 = .ok (.aload_n 2, 1) := by decide +kernel
theorem dX3_fits_37 : decode cX3_fits 37 = .ok (.getfield 46, 3) := by decide +kernel
theorem dX3_fits_40 : decode cX3_fits 40 = .ok (.iload_n 3, 1) := by decide +kernel
theorem dX3_fits_41 : decode cX3_fits 41 = .ok (.iaload, 1) := by decide +kernel
theorem dX3_fits_42 : decode cX3_fits 42 = .ok (.if_icmp .eq 5, 3) := by decide +kernel
theorem dX3_fits_45 : decode cX3_fits 45 = .ok (.iconst 0, 1) := by decide +kernel
theorem dX3_fits_46 : decode cX3_fits 46 = .ok (.ireturn, 1) := by decide +kernel
theorem dX3_fits_47 : decode cX3_fits 47 = .ok (.iinc 3 1, 3) := by decide +kernel
theorem dX3_fits_50 : decode cX3_fits 50 = .ok (.goto (-39), 3) := by decide +kernel
theorem dX3_fits_53 : decode cX3_fits 53 = .ok (.iconst 1, 1) := by decide +kernel
theorem dX3_fits_54 : decode cX3_fits 54 = .ok (.ireturn, 1) := by decide +kernel
noncomputable def vX3_fits : List Cond := .code yX3_fits cX3_fits 4 (some .boolean) :: (([.fieldLink RX3 21 "IcicleClock$Seen" "torn" "Z", .fieldLink RX3 41 "IcicleClock$Street" "icicles" "I", .fieldLink RX3 9 "IcicleClock$Seen" "fall" "[I", .fieldLink RX3 46 "IcicleClock$Winter" "fall" "[I"] : List Cond) ++ (wsX30 ++ (wsX60 ++ wsX100)))
theorem iX3_fits_3 : ∀ w ∈ wsX30, w ∈ vX3_fits := fun _ h => List.mem_cons_of_mem _ (List.mem_append_right _ (List.mem_append_left _ h))
theorem iX3_fits_6 : ∀ w ∈ wsX60, w ∈ vX3_fits := fun _ h => List.mem_cons_of_mem _ (List.mem_append_right _ (List.mem_append_right _ (List.mem_append_left _ h)))
theorem iX3_fits_10 : ∀ w ∈ wsX100, w ∈ vX3_fits := fun _ h => List.mem_cons_of_mem _ (List.mem_append_right _ (List.mem_append_right _ (List.mem_append_right _ (h))))
theorem gs_X3_fits : Gd vX3_fits := Gd.cons (by decide +kernel) (Gd.app (Gd.r (by decide +kernel)) (Gd.app gwX_3 (Gd.app gwX_6 gwX_10)))
set_option maxHeartbeats 4000000 in
set_option maxRecDepth 100000 in
theorem s_X3_fits (l : Launch) (D : va_G) (cs : Nat → ClassId) (ad : Nat → Nat) (kS : kSt) (K : sK) (hKO : KO K) (hj : wJ ad 218) (g : Nat → va_E) (hW : WF (shp ad K) ad cs g) (w : Nat) (hp0 : w = 114 ∨ w = 116) : sI l yX3_fits vX3_fits { frames := 0, cells := 0, slots := 0, locals := 0 } D cs ad kS [.ref (ad 118), .ref (ad 3), .ref (ad w)] g (fun r g2 => g2 = g ∧ (0 ≤ r.toInt ∧ r.toInt ≤ 1)) := by
  refine Met.startS (cc := cX3_fits) (maxL := 4) (ret := (some .boolean)) RX3 rfl (by decide) rfl (Nat.le_of_ble_eq_true rfl) ?_
  intro p e s m below meth c ls X Z hP hl
  have hx := X.1
  have hb := X.2.1
  have hS : va_S (wA ad 218) s.heap s.heap [] := va_S.rf
  have hA : ∀ i, i < 218 → wA ad 218 (ad i) := fun i h => ⟨i, h, rfl⟩
  have hw_w := hp0
  have hl : lv_has ls 4 [(0, .ref (ad 118)), (1, .ref (ad 3)), (2, .ref (ad w))] := hl
  refine lv_aload_n hx hb dX3_fits_0 rfl (lv_at hl 0 rfl) ?_
  obtain ⟨fsc_1, hgc_1, hOc_1⟩ := hW.obj (i := 118) (by decide) (sh_118 ad K)
  obtain ⟨x_3, hk_2, -⟩ := hOc_1.int 1 rfl
  refine q_get X iX3_fits_3 hP (by decide) hgc_1 rfl 1 (by decide) (List.mem_of_getElem? (i := 1) rfl) (v := .int x_3) hk_2 dX3_fits_1 ?_
  refine lv_if_eq (tgt := 9) hx hb dX3_fits_4 (by decide) (fun hc_4 => ?_) (fun hc_4 => ?_)
  · have hhc_4 := n_eq (rfl : x_3.toInt = x_3.toInt) (by decide : (0 : Int32).toInt = 0) hc_4
    refine lv_iconst (v := 0) hx hb dX3_fits_9 (by decide) ?_
    refine lv_istore_n (lv' := [(3, .int 0), (0, .ref (ad 118)), (1, .ref (ad 3)), (2, .ref (ad w))]) hx hb dX3_fits_10 rfl hl (by decide) rfl (fun ls hl => ?_)
    have HL11 : ∀ (n11 : Nat) (v11_3 : Int32) (H : Heap) (locs : List Loc) (ls : Array Slot), (8 - v11_3.toInt).toNat < n11 → (0 ≤ v11_3.toInt ∧ v11_3.toInt ≤ 8) → va_P D vwCl (wL ad g 218) H → va_S (wA ad 218) s.heap H locs → lv_has ls 4 [(3, .int v11_3), (0, .ref (ad 118)), (1, .ref (ad 3)), (2, .ref (ad w))] → W p l e ({ frames := 0, cells := 0, slots := 0, locals := 0 } : Room) s m ([.ref (ad 118), .ref (ad 3), .ref (ad w)] : List Value).toArray below meth c H locs 0 0 (MQ below (qI D ad 218 (fun r g2 => g2 = g ∧ (0 ≤ r.toInt ∧ r.toInt ≤ 1))) ([.ref (ad 118), .ref (ad 3), .ref (ad w)] : List Value).toArray s 0 0 (wA ad 218)) (F0 m 11 ls []) := by
      intro n11
      induction n11 with
      | zero =>
        intro v11_3 H locs ls hm11 hv11_0 hP hS hl
        exact absurd hm11 (Nat.not_lt_zero _)
      | succ n11 ih11 =>
        intro v11_3 H locs ls hm11 hv11_0 hP hS hl
        refine lv_iload_n hx hb dX3_fits_11 rfl (lv_at hl 0 rfl) ?_
        refine lv_aload_n hx hb dX3_fits_12 rfl (lv_at hl 2 rfl) ?_
        obtain ⟨fsc_5, hgc_5, hOc_5⟩ := hW.obj (i := 3) (by decide) (sh_3 ad K)
        obtain ⟨x_7, hk_6, hlx_7, hhx_7⟩ := hOc_5.int 5 rfl
        refine q_get X iX3_fits_6 hP (by decide) hgc_5 rfl 5 (by decide) (List.mem_of_getElem? (i := 2) rfl) (v := .int x_7) hk_6 dX3_fits_13 ?_
        refine lv_icmp_ge (tgt := 53) hx hb dX3_fits_16 (by decide) (fun hc_8 => ?_) (fun hc_8 => ?_)
        · have hhc_8 := n_le (rfl : x_7.toInt = x_7.toInt) (rfl : v11_3.toInt = v11_3.toInt) hc_8
          refine lv_iconst (v := 1) hx hb dX3_fits_53 (by decide) ?_
          have hr0 : (1 : Int32).toInt = 1 := by decide
          exact q_zret X hP hS rfl ⟨rfl, (by omega)⟩ dX3_fits_54
        · have hhc_8 := n_nle (rfl : x_7.toInt = x_7.toInt) (rfl : v11_3.toInt = v11_3.toInt) hc_8
          refine lv_aload_n hx hb dX3_fits_19 rfl (lv_at hl 1 rfl) ?_
          have hk_9 := hOc_1.ref 0 rfl
          refine q_get X iX3_fits_3 hP (by decide) hgc_1 rfl 0 (by decide) (List.mem_of_getElem? (i := 3) rfl) (v := .ref (ad 119)) hk_9 dX3_fits_20 ?_
          refine lv_iload_n hx hb dX3_fits_23 rfl (lv_at hl 0 rfl) ?_
          obtain ⟨fc_10, hgc_10, hFc_10⟩ := hW.arr (i := 119) (by decide) (sh_119 ad K)
          refine q_iald X hP (by decide) hgc_10 (n_in (rfl : v11_3.toInt = v11_3.toInt) (by omega) (by omega)) dX3_fits_24 ?_
          refine lv_topi (fun z_11 ez_11 => ?_)
          refine lv_bipush (v := (-2)) hx hb dX3_fits_25 (by decide) ?_
          have HJ47 : ∀ (H : Heap) (locs : List Loc) (ls : Array Slot), va_P D vwCl (wL ad g 218) H → va_S (wA ad 218) s.heap H locs → lv_has ls 4 [(3, .int v11_3), (0, .ref (ad 118)), (1, .ref (ad 3)), (2, .ref (ad w))] → W p l e ({ frames := 0, cells := 0, slots := 0, locals := 0 } : Room) s m ([.ref (ad 118), .ref (ad 3), .ref (ad w)] : List Value).toArray below meth c H locs 0 0 (MQ below (qI D ad 218 (fun r g2 => g2 = g ∧ (0 ≤ r.toInt ∧ r.toInt ≤ 1))) ([.ref (ad 118), .ref (ad 3), .ref (ad w)] : List Value).toArray s 0 0 (wA ad 218)) (F0 m 47 ls []) := by
            intro H locs ls hP hS hl
            obtain ⟨x_12, ex_12⟩ : ∃ y : Int32, y = v11_3 + 1 := ⟨_, rfl⟩
            have hx_12 : x_12.toInt = v11_3.toInt + 1 := n_add rfl (by decide : (1 : Int32).toInt = 1) ex_12 (by omega) (by omega)
            refine lv_iinc (v := x_12) (lv' := [(3, .int x_12), (0, .ref (ad 118)), (1, .ref (ad 3)), (2, .ref (ad w))]) hx hb dX3_fits_47 hl (k := 0) rfl (by rw [ex_12]; rfl) (by decide) rfl (fun ls hl => ?_)
            refine lv_goto (tgt := 11) hx hb dX3_fits_50 (by decide) ?_
            exact ih11 x_12 _ _ ls (by omega) (by omega) hP hS (lv_sub hl [0, 1, 2, 3] rfl)
          refine lv_icmp_eq (tgt := 47) hx hb dX3_fits_27 (by decide) (fun hc_13 => ?_) (fun hc_13 => ?_)
          · have hhc_13 := n_eq (rfl : z_11.toInt = z_11.toInt) (by decide : (-2 : Int32).toInt = -2) hc_13
            exact HJ47 _ _ ls hP hS (lv_sub hl [0, 1, 2, 3] rfl)
          · have hhc_13 := n_ne (rfl : z_11.toInt = z_11.toInt) (by decide : (-2 : Int32).toInt = -2) hc_13
            refine lv_aload_n hx hb dX3_fits_30 rfl (lv_at hl 1 rfl) ?_
            refine q_get X iX3_fits_3 hP (by decide) hgc_1 rfl 0 (by decide) (List.mem_of_getElem? (i := 3) rfl) (v := .ref (ad 119)) hk_9 dX3_fits_31 ?_
            refine lv_iload_n hx hb dX3_fits_34 rfl (lv_at hl 0 rfl) ?_
            refine q_iald X hP (by decide) hgc_10 (n_in (rfl : v11_3.toInt = v11_3.toInt) (by omega) (by omega)) dX3_fits_35 ?_
            refine lv_topi (fun z_14 ez_14 => ?_)
            have hsz_14 : z_14.toInt = z_11.toInt := by rw [ez_14, ez_11]
            refine lv_aload_n hx hb dX3_fits_36 rfl (lv_at hl 3 rfl) ?_
            obtain ⟨fsc_15, hgc_15, hOc_15⟩ := hW.obj (i := w) (by omega) (shW_0 ad K hw_w)
            have hk_16 := hOc_15.ref 3 rfl
            refine q_get X iX3_fits_10 hP (by omega) hgc_15 rfl 3 (by decide) (List.mem_of_getElem? (i := 4) rfl) (v := .ref (ad (w + 1))) hk_16 dX3_fits_37 ?_
            refine lv_iload_n hx hb dX3_fits_40 rfl (lv_at hl 0 rfl) ?_
            obtain ⟨fc_17, hgc_17, hFc_17⟩ := hW.arr (i := (w + 1)) (by omega) (shW_1 ad K hw_w)
            refine q_iald X hP (by omega) hgc_17 (n_in (rfl : v11_3.toInt = v11_3.toInt) (by omega) (by omega)) dX3_fits_41 ?_
            refine lv_topi (fun z_18 ez_18 => ?_)
            have hz_18 : (-1) ≤ z_18.toInt ∧ z_18.toInt ≤ 13 := ez_18 ▸ hFc_17 _
            refine lv_icmp_eq (tgt := 47) hx hb dX3_fits_42 (by decide) (fun hc_19 => ?_) (fun hc_19 => ?_)
            · have hhc_19 := n_eq (rfl : z_14.toInt = z_14.toInt) (rfl : z_18.toInt = z_18.toInt) hc_19
              exact HJ47 _ _ ls hP hS (lv_sub hl [0, 1, 2, 3] rfl)
            · have hhc_19 := n_ne (rfl : z_14.toInt = z_14.toInt) (rfl : z_18.toInt = z_18.toInt) hc_19
              refine lv_iconst (v := 0) hx hb dX3_fits_45 (by decide) ?_
              have hr0 : (0 : Int32).toInt = 0 := by decide
              exact q_zret X hP hS rfl ⟨rfl, (by omega)⟩ dX3_fits_46
    have hiv11_3 : (0 : Int32).toInt = 0 := by decide
    exact HL11 _ 0 _ _ ls (Nat.lt_succ_self _) (by omega) hP hS (lv_sub hl [0, 1, 2, 3] rfl)
  · have hhc_4 := n_ne (rfl : x_3.toInt = x_3.toInt) (by decide : (0 : Int32).toInt = 0) hc_4
    refine lv_iconst (v := 0) hx hb dX3_fits_7 (by decide) ?_
    have hr0 : (0 : Int32).toInt = 0 := by decide
    exact q_zret X hP hS rfl ⟨rfl, (by omega)⟩ dX3_fits_8

theorem dX11_refusal_0 : decode cX11_refusal 0 = .ok (.iload_n 1, 1) := by decide +kernel
theorem dX11_refusal_1 : decode cX11_refusal 1 = .ok (.invokestatic 377, 3) := by decide +kernel
theorem dX11_refusal_4 : decode cX11_refusal 4 = .ok (.ifCond .eq 14, 3) := by decide +kernel
theorem dX11_refusal_7 : decode cX11_refusal 7 = .ok (.aload_n 0, 1) := by decide +kernel
theorem dX11_refusal_8 : decode cX11_refusal 8 = .ok (.invokevirtual 195, 3) := by decide +kernel
theorem dX11_refusal_11 : decode cX11_refusal 11 = .ok (.ifCond .eq 7, 3) := by decide +kernel
theorem dX11_refusal_14 : decode cX11_refusal 14 = .ok (.iload_n 2, 1) := by decide +kernel
theorem dX11_refusal_15 : decode cX11_refusal 15 = .ok (.ifCond .ne 6, 3) := by decide +kernel
theorem dX11_refusal_21 : decode cX11_refusal 21 = .ok (.aload_n 0, 1) := by decide +kernel
theorem dX11_refusal_22 : decode cX11_refusal 22 = .ok (.getfield 36, 3) := by decide +kernel
theorem dX11_refusal_25 : decode cX11_refusal 25 = .ok (.iload_n 1, 1) := by decide +kernel
theorem dX11_refusal_26 : decode cX11_refusal 26 = .ok (.aaload, 1) := by decide +kernel
theorem dX11_refusal_27 : decode cX11_refusal 27 = .ok (.getfield 384, 3) := by decide +kernel
theorem dX11_refusal_30 : decode cX11_refusal 30 = .ok (.ifCond .ne 6, 3) := by decide +kernel
theorem dX11_refusal_33 : decode cX11_refusal 33 = .ok (.bipush (-6), 2) := by decide +kernel
theorem dX11_refusal_35 : decode cX11_refusal 35 = .ok (.ireturn, 1) := by decide +kernel
theorem dX11_refusal_36 : decode cX11_refusal 36 = .ok (.aload_n 0, 1) := by decide +kernel
theorem dX11_refusal_37 : decode cX11_refusal 37 = .ok (.getfield 54, 3) := by decide +kernel
theorem dX11_refusal_40 : decode cX11_refusal 40 = .ok (.aload_n 0, 1) := by decide +kernel
theorem dX11_refusal_41 : decode cX11_refusal 41 = .ok (.getfield 36, 3) := by decide +kernel
theorem dX11_refusal_44 : decode cX11_refusal 44 = .ok (.iload_n 1, 1) := by decide +kernel
theorem dX11_refusal_45 : decode cX11_refusal 45 = .ok (.aaload, 1) := by decide +kernel
theorem dX11_refusal_46 : decode cX11_refusal 46 = .ok (.aload_n 0, 1) := by decide +kernel
theorem dX11_refusal_47 : decode cX11_refusal 47 = .ok (.getfield 19, 3) := by decide +kernel
theorem dX11_refusal_50 : decode cX11_refusal 50 = .ok (.getfield 160, 3) := by decide +kernel
theorem dX11_refusal_53 : decode cX11_refusal 53 = .ok (.iload_n 3, 1) := by decide +kernel
theorem dX11_refusal_54 : decode cX11_refusal 54 = .ok (.invokevirtual 411, 3) := by decide +kernel
theorem dX11_refusal_57 : decode cX11_refusal 57 = .ok (.ifCond .eq 7, 3) := by decide +kernel
theorem dX11_refusal_60 : decode cX11_refusal 60 = .ok (.iconst 0, 1) := by decide +kernel
theorem dX11_refusal_61 : decode cX11_refusal 61 = .ok (.goto 5, 3) := by decide +kernel
theorem dX11_refusal_64 : decode cX11_refusal 64 = .ok (.bipush (-2), 2) := by decide +kernel
theorem dX11_refusal_66 : decode cX11_refusal 66 = .ok (.ireturn, 1) := by decide +kernel
theorem dX11_refusal_18 : decode cX11_refusal 18 = .ok (.bipush (-2), 2) := by decide +kernel
theorem dX11_refusal_20 : decode cX11_refusal 20 = .ok (.ireturn, 1) := by decide +kernel
noncomputable def vX11_refusal : List Cond := .code yX11_refusal cX11_refusal 4 (some .int) :: (([.methodLink RX11 377 yX11_isSlot, .static yX11_isSlot, .initialized RX11, .methodLink RX11 195 yX11_isTold, .instanceMethod yX11_isTold, .selects RX11 yX11_isTold yX11_isTold, .fieldLink RX11 36 "IcicleClock" "slots" "[LIcicleClock$Slot;", .fieldLink RX11 384 "IcicleClock$Slot" "laid" "Z", .fieldLink RX11 54 "IcicleClock" "seen" "LIcicleClock$Seen;", .fieldLink RX11 19 "IcicleClock" "now" "LIcicleClock$Street;", .fieldLink RX11 160 "IcicleClock$Street" "icicles" "I", .methodLink RX11 411 yX3_read, .instanceMethod yX3_read, .selects RX3 yX3_read yX3_read, .initialized RX3] : List Cond) ++ (wsX110 ++ (wsX50 ++ (wsX60 ++ (vX11_isSlot ++ (vX11_isTold ++ vX3_read))))))
theorem iX11_refusal_11 : ∀ w ∈ wsX110, w ∈ vX11_refusal := fun _ h => List.mem_cons_of_mem _ (List.mem_append_right _ (List.mem_append_left _ h))
theorem iX11_refusal_5 : ∀ w ∈ wsX50, w ∈ vX11_refusal := fun _ h => List.mem_cons_of_mem _ (List.mem_append_right _ (List.mem_append_right _ (List.mem_append_left _ h)))
theorem iX11_refusal_6 : ∀ w ∈ wsX60, w ∈ vX11_refusal := fun _ h => List.mem_cons_of_mem _ (List.mem_append_right _ (List.mem_append_right _ (List.mem_append_right _ (List.mem_append_left _ h))))
theorem gs_X11_refusal : Gd vX11_refusal := Gd.cons (by decide +kernel) (Gd.app (Gd.r (by decide +kernel)) (Gd.app gwX_11 (Gd.app gwX_5 (Gd.app gwX_6 (Gd.app gs_X11_isSlot (Gd.app gs_X11_isTold gs_X3_read))))))
theorem gg_X11_refusal_X11_isSlot : GoodIn vX11_refusal (wsS RX11 377 yX11_isSlot vX11_isSlot) := goodIn_app (goodIn_r _ [1, 2, 3] (by decide +kernel) (by decide +kernel)) (fun w h => ⟨List.mem_cons_of_mem _ (List.mem_append_right _ (List.mem_append_right _ (List.mem_append_right _ (List.mem_append_right _ (List.mem_append_left _ h))))), gs_X11_isSlot w h⟩)
theorem gg_X11_refusal_X11_isTold : GoodIn vX11_refusal (wsV RX11 195 RX11 yX11_isTold vX11_isTold) := goodIn_app (goodIn_r _ [4, 5, 6, 3] (by decide +kernel) (by decide +kernel)) (fun w h => ⟨List.mem_cons_of_mem _ (List.mem_append_right _ (List.mem_append_right _ (List.mem_append_right _ (List.mem_append_right _ (List.mem_append_right _ (List.mem_append_left _ h)))))), gs_X11_isTold w h⟩)
theorem gg_X11_refusal_X3_read : GoodIn vX11_refusal (wsV RX11 411 RX3 yX3_read vX3_read) := goodIn_app (goodIn_r _ [12, 13, 14, 15] (by decide +kernel) (by decide +kernel)) (fun w h => ⟨List.mem_cons_of_mem _ (List.mem_append_right _ (List.mem_append_right _ (List.mem_append_right _ (List.mem_append_right _ (List.mem_append_right _ (List.mem_append_right _ (h))))))), gs_X3_read w h⟩)
set_option maxHeartbeats 4000000 in
set_option maxRecDepth 100000 in
theorem s_X11_refusal (l : Launch) (D : va_G) (cs : Nat → ClassId) (ad : Nat → Nat) (kS : kSt) (K : sK) (hKO : KO K) (hj : wJ ad 218) (g : Nat → va_E) (hW : WF (shp ad K) ad cs g) (sl : Int32) (ot : Int32) (dys : Int32) : sI l yX11_refusal vX11_refusal { frames := 2, cells := 0, slots := 0, locals := 51 } D cs ad kS [.ref (ad 0), .int sl, .int ot, .int dys] g (fun r g2 => WF (shp ad K) ad cs g2 ∧ (∀ j, j ≠ 118 ∧ j ≠ 119 → g2 j = g j)) := by
  refine Met.startS (cc := cX11_refusal) (maxL := 4) (ret := (some .int)) RX11 rfl (by decide) rfl (Nat.le_of_ble_eq_true rfl) ?_
  intro p e s m below meth c ls X Z hP hl
  have hx := X.1
  have hb := X.2.1
  have hS : va_S (wA ad 218) s.heap s.heap [] := va_S.rf
  have hA : ∀ i, i < 218 → wA ad 218 (ad i) := fun i h => ⟨i, h, rfl⟩
  have hfr : ∀ j, j ≠ 118 ∧ j ≠ 119 → g j = g j := fun _ _ => rfl
  have hl : lv_has ls 4 [(0, .ref (ad 0)), (1, .int sl), (2, .int ot), (3, .int dys)] := hl
  refine lv_iload_n hx hb dX11_refusal_0 rfl (lv_at hl 1 rfl) ?_
  refine s_callSi (As := [.int sl]) (rest := []) X Z (s_X11_isSlot l D cs ad kS K hKO hj g hW sl) (cwS 1 X.2.2.2.2.1 gg_X11_refusal_X11_isSlot rfl rfl rfl (by decide +kernel) ⟨Nat.le_of_ble_eq_true rfl, Nat.le_of_ble_eq_true rfl⟩) hP hA hS.2.1 hS rfl hl.1 rfl (Nat.le_of_ble_eq_true rfl) dX11_refusal_1 ⟨Nat.le_of_ble_eq_true rfl, Nat.le_of_ble_eq_true rfl⟩ (fun r_3 g_2 H locs hw_1 hP hS => ?_)
  obtain ⟨hw_1g, hw_1⟩ := hw_1
  rw [hw_1g] at hP
  have HJ18 : ∀ (G18 : Nat → va_E) (H : Heap) (locs : List Loc) (ls : Array Slot), WF (shp ad K) ad cs G18 → (∀ j, j ≠ 118 ∧ j ≠ 119 → G18 j = g j) → va_P D vwCl (wL ad G18 218) H → va_S (wA ad 218) s.heap H locs → lv_has ls 4 [] → W p l e ({ frames := 2, cells := 0, slots := 0, locals := 51 } : Room) s m ([.ref (ad 0), .int sl, .int ot, .int dys] : List Value).toArray below meth c H locs 0 0 (MQ below (qI D ad 218 (fun r g2 => WF (shp ad K) ad cs g2 ∧ (∀ j, j ≠ 118 ∧ j ≠ 119 → g2 j = g j))) ([.ref (ad 0), .int sl, .int ot, .int dys] : List Value).toArray s 0 0 (wA ad 218)) (F0 m 18 ls []) := by
    intro G18 H locs ls hW18 hfr18 hP hS hl
    refine lv_bipush (v := (-2)) hx hb dX11_refusal_18 (by decide) ?_
    exact q_iret X hP hS ⟨hW18, hfr18⟩ dX11_refusal_20
  refine lv_if_eq (tgt := 18) hx hb dX11_refusal_4 (by decide) (fun hc_4 => ?_) (fun hc_4 => ?_)
  · have hhc_4 := n_eq (rfl : r_3.toInt = r_3.toInt) (by decide : (0 : Int32).toInt = 0) hc_4
    exact HJ18 g _ _ ls hW hfr hP hS (lv_sub hl [] rfl)
  · have hhc_4 := n_ne (rfl : r_3.toInt = r_3.toInt) (by decide : (0 : Int32).toInt = 0) hc_4
    refine lv_aload_n hx hb dX11_refusal_7 rfl (lv_at hl 0 rfl) ?_
    obtain ⟨fsc_8, hgc_8, hOc_8⟩ := hW.obj (i := 0) (by decide) (sh_0 ad K)
    refine s_calli (q := (RX11, TX11, 14)) (As := []) (rest := []) X Z (s_X11_isTold l D cs ad kS K hKO hj g hW) (cwV 0 X.2.2.2.2.1 gg_X11_refusal_X11_isTold rfl rfl rfl (by decide +kernel) ⟨Nat.le_of_ble_eq_true rfl, Nat.le_of_ble_eq_true rfl⟩) (by decide) hgc_8 rfl hP hA hS.2.1 hS rfl hl.1 rfl (Nat.le_of_ble_eq_true rfl) dX11_refusal_8 ⟨Nat.le_of_ble_eq_true rfl, Nat.le_of_ble_eq_true rfl⟩ (fun r_7 g_6 H locs hw_5 hP hS => ?_)
    obtain ⟨hw_5g, hw_5⟩ := hw_5
    rw [hw_5g] at hP
    refine lv_if_eq (tgt := 18) hx hb dX11_refusal_11 (by decide) (fun hc_9 => ?_) (fun hc_9 => ?_)
    · have hhc_9 := n_eq (rfl : r_7.toInt = r_7.toInt) (by decide : (0 : Int32).toInt = 0) hc_9
      exact HJ18 g _ _ ls hW hfr hP hS (lv_sub hl [] rfl)
    · have hhc_9 := n_ne (rfl : r_7.toInt = r_7.toInt) (by decide : (0 : Int32).toInt = 0) hc_9
      refine lv_iload_n hx hb dX11_refusal_14 rfl (lv_at hl 2 rfl) ?_
      refine lv_if_ne (tgt := 21) hx hb dX11_refusal_15 (by decide) (fun hc_10 => ?_) (fun hc_10 => ?_)
      · have hhc_10 := n_ne (rfl : ot.toInt = ot.toInt) (by decide : (0 : Int32).toInt = 0) hc_10
        refine lv_aload_n hx hb dX11_refusal_21 rfl (lv_at hl 0 rfl) ?_
        have hk_11 := hOc_8.ref 5 rfl
        refine q_get X iX11_refusal_11 hP (by decide) hgc_8 rfl 5 (by decide) (List.mem_of_getElem? (i := 7) rfl) (v := .ref (ad 105)) hk_11 dX11_refusal_22 ?_
        refine lv_iload_n hx hb dX11_refusal_25 rfl (lv_at hl 1 rfl) ?_
        obtain ⟨fc_12, hgc_12, hFc_12⟩ := hW.aref (i := 105) (by decide) (sh_105 ad K)
        obtain ⟨e_13, h_e_13, e_e_13⟩ : ∃ q : Nat, q < 4 ∧ sl.toNatClampNeg = q := ⟨_, by have := n_cl (rfl : sl.toInt = sl.toInt) (by omega); omega, rfl⟩
        refine s_aald X hP 4 rfl rfl (by decide) hgc_12 (n_in (rfl : sl.toInt = sl.toInt) (by omega) (by omega)) (v := ad (106 + 2 * e_13)) (by rw [e_e_13]; exact hFc_12 _ h_e_13) dX11_refusal_26 ?_
        have hj_e_13 := h_e_13
        obtain ⟨fsc_14, hgc_14, hOc_14⟩ := hW.obj (i := (106 + 2 * e_13)) (by omega) (shJ_0 ad K hj_e_13)
        obtain ⟨x_16, hk_15, hlx_16, hhx_16⟩ := hOc_14.int 1 rfl
        have hqx_16 := hKO e_13
        refine q_get X iX11_refusal_5 hP (by omega) hgc_14 rfl 1 (by decide) (List.mem_of_getElem? (i := 8) rfl) (v := .int x_16) hk_15 dX11_refusal_27 ?_
        refine lv_if_ne (tgt := 36) hx hb dX11_refusal_30 (by decide) (fun hc_17 => ?_) (fun hc_17 => ?_)
        · have hhc_17 := n_ne (rfl : x_16.toInt = x_16.toInt) (by decide : (0 : Int32).toInt = 0) hc_17
          refine lv_aload_n hx hb dX11_refusal_36 rfl (lv_at hl 0 rfl) ?_
          have hk_18 := hOc_8.ref 8 rfl
          refine q_get X iX11_refusal_11 hP (by decide) hgc_8 rfl 8 (by decide) (List.mem_of_getElem? (i := 9) rfl) (v := .ref (ad 118)) hk_18 dX11_refusal_37 ?_
          refine lv_aload_n hx hb dX11_refusal_40 rfl (lv_at hl 0 rfl) ?_
          refine q_get X iX11_refusal_11 hP (by decide) hgc_8 rfl 5 (by decide) (List.mem_of_getElem? (i := 7) rfl) (v := .ref (ad 105)) hk_11 dX11_refusal_41 ?_
          refine lv_iload_n hx hb dX11_refusal_44 rfl (lv_at hl 1 rfl) ?_
          obtain ⟨e_19, h_e_19, e_e_19⟩ : ∃ q : Nat, q < 4 ∧ sl.toNatClampNeg = q := ⟨_, by have := n_cl (rfl : sl.toInt = sl.toInt) (by omega); omega, rfl⟩
          refine s_aald X hP 4 rfl rfl (by decide) hgc_12 (n_in (rfl : sl.toInt = sl.toInt) (by omega) (by omega)) (v := ad (106 + 2 * e_19)) (by rw [e_e_19]; exact hFc_12 _ h_e_19) dX11_refusal_45 ?_
          have hj_e_19 := h_e_19
          refine lv_aload_n hx hb dX11_refusal_46 rfl (lv_at hl 0 rfl) ?_
          have hk_20 := hOc_8.ref 1 rfl
          refine q_get X iX11_refusal_11 hP (by decide) hgc_8 rfl 1 (by decide) (List.mem_of_getElem? (i := 10) rfl) (v := .ref (ad 3)) hk_20 dX11_refusal_47 ?_
          obtain ⟨fsc_21, hgc_21, hOc_21⟩ := hW.obj (i := 3) (by decide) (sh_3 ad K)
          obtain ⟨x_23, hk_22, hlx_23, hhx_23⟩ := hOc_21.int 5 rfl
          refine q_get X iX11_refusal_6 hP (by decide) hgc_21 rfl 5 (by decide) (List.mem_of_getElem? (i := 11) rfl) (v := .int x_23) hk_22 dX11_refusal_50 ?_
          refine lv_iload_n hx hb dX11_refusal_53 rfl (lv_at hl 3 rfl) ?_
          obtain ⟨fsc_27, hgc_27, hOc_27⟩ := hW.obj (i := 118) (by decide) (sh_118 ad K)
          refine s_calli (q := (RX3, TX3, 2)) (As := [.ref (ad (106 + 2 * e_19)), .int x_23, .int dys]) (rest := []) X Z (s_X3_read l D cs ad kS K hKO hj g hW e_19 x_23 dys (by omega) (by omega)) (cwV 3 X.2.2.2.2.1 gg_X11_refusal_X3_read rfl rfl rfl (by decide +kernel) ⟨Nat.le_of_ble_eq_true rfl, Nat.le_of_ble_eq_true rfl⟩) (by decide) hgc_27 rfl hP hA hS.2.1 hS rfl hl.1 rfl (Nat.le_of_ble_eq_true rfl) dX11_refusal_54 ⟨Nat.le_of_ble_eq_true rfl, Nat.le_of_ble_eq_true rfl⟩ (fun r_26 g_25 H locs hw_24 hP hS => ?_)
          obtain ⟨hw_24W, hw_24f, hw_24⟩ := hw_24
          have hfr_28 : ∀ j, j ≠ 118 ∧ j ≠ 119 → g_25 j = g j := fun j hj => (hw_24f j (by omega)).trans (hfr j hj)
          have hg_29 := (hw_24f 0 (by omega)).trans hgc_8
          have hg_30 := (hw_24f 105 (by omega)).trans hgc_12
          have hg_31 := (hw_24f (106 + 2 * e_13) (by omega)).trans hgc_14
          have hg_32 := (hw_24f 3 (by omega)).trans hgc_21
          refine lv_if_eq (tgt := 64) hx hb dX11_refusal_57 (by decide) (fun hc_33 => ?_) (fun hc_33 => ?_)
          · have hhc_33 := n_eq (rfl : r_26.toInt = r_26.toInt) (by decide : (0 : Int32).toInt = 0) hc_33
            refine lv_bipush (v := (-2)) hx hb dX11_refusal_64 (by decide) ?_
            exact q_iret X hP hS ⟨hw_24W, hfr_28⟩ dX11_refusal_66
          · have hhc_33 := n_ne (rfl : r_26.toInt = r_26.toInt) (by decide : (0 : Int32).toInt = 0) hc_33
            refine lv_iconst (v := 0) hx hb dX11_refusal_60 (by decide) ?_
            refine lv_goto (tgt := 66) hx hb dX11_refusal_61 (by decide) ?_
            exact q_iret X hP hS ⟨hw_24W, hfr_28⟩ dX11_refusal_66
        · have hhc_17 := n_eq (rfl : x_16.toInt = x_16.toInt) (by decide : (0 : Int32).toInt = 0) hc_17
          refine lv_bipush (v := (-6)) hx hb dX11_refusal_33 (by decide) ?_
          exact q_iret X hP hS ⟨hW, hfr⟩ dX11_refusal_35
      · have hhc_10 := n_eq (rfl : ot.toInt = ot.toInt) (by decide : (0 : Int32).toInt = 0) hc_10
        exact HJ18 g _ _ ls hW hfr hP hS (lv_sub hl [] rfl)

theorem dX11_weatherRefusal_0 : decode cX11_weatherRefusal 0 = .ok (.iload_n 2, 1) := by decide +kernel
theorem dX11_weatherRefusal_1 : decode cX11_weatherRefusal 1 = .ok (.iconst 1, 1) := by decide +kernel
theorem dX11_weatherRefusal_2 : decode cX11_weatherRefusal 2 = .ok (.if_icmp .lt 12, 3) := by decide +kernel
theorem dX11_weatherRefusal_5 : decode cX11_weatherRefusal 5 = .ok (.iload_n 2, 1) := by decide +kernel
theorem dX11_weatherRefusal_6 : decode cX11_weatherRefusal 6 = .ok (.iconst 5, 1) := by decide +kernel
theorem dX11_weatherRefusal_7 : decode cX11_weatherRefusal 7 = .ok (.if_icmp .gt 7, 3) := by decide +kernel
theorem dX11_weatherRefusal_10 : decode cX11_weatherRefusal 10 = .ok (.iconst 1, 1) := by decide +kernel
theorem dX11_weatherRefusal_11 : decode cX11_weatherRefusal 11 = .ok (.goto 4, 3) := by decide +kernel
theorem dX11_weatherRefusal_14 : decode cX11_weatherRefusal 14 = .ok (.iconst 0, 1) := by decide +kernel
theorem dX11_weatherRefusal_15 : decode cX11_weatherRefusal 15 = .ok (.istore 4, 2) := by decide +kernel
theorem dX11_weatherRefusal_17 : decode cX11_weatherRefusal 17 = .ok (.aload_n 0, 1) := by decide +kernel
theorem dX11_weatherRefusal_18 : decode cX11_weatherRefusal 18 = .ok (.iload_n 1, 1) := by decide +kernel
theorem dX11_weatherRefusal_19 : decode cX11_weatherRefusal 19 = .ok (.iload 4, 2) := by decide +kernel
theorem dX11_weatherRefusal_21 : decode cX11_weatherRefusal 21 = .ok (.ifCond .eq 11, 3) := by decide +kernel
theorem dX11_weatherRefusal_24 : decode cX11_weatherRefusal 24 = .ok (.iload_n 3, 1) := by decide +kernel
theorem dX11_weatherRefusal_25 : decode cX11_weatherRefusal 25 = .ok (.ifCond .eq 7, 3) := by decide +kernel
theorem dX11_weatherRefusal_28 : decode cX11_weatherRefusal 28 = .ok (.iconst 1, 1) := by decide +kernel
theorem dX11_weatherRefusal_29 : decode cX11_weatherRefusal 29 = .ok (.goto 4, 3) := by decide +kernel
theorem dX11_weatherRefusal_32 : decode cX11_weatherRefusal 32 = .ok (.iconst 0, 1) := by decide +kernel
theorem dX11_weatherRefusal_33 : decode cX11_weatherRefusal 33 = .ok (.iload_n 2, 1) := by decide +kernel
theorem dX11_weatherRefusal_34 : decode cX11_weatherRefusal 34 = .ok (.aload_n 0, 1) := by decide +kernel
theorem dX11_weatherRefusal_35 : decode cX11_weatherRefusal 35 = .ok (.getfield 19, 3) := by decide +kernel
theorem dX11_weatherRefusal_38 : decode cX11_weatherRefusal 38 = .ok (.getfield 177, 3) := by decide +kernel
theorem dX11_weatherRefusal_41 : decode cX11_weatherRefusal 41 = .ok (.invokestatic 220, 3) := by decide +kernel
theorem dX11_weatherRefusal_44 : decode cX11_weatherRefusal 44 = .ok (.invokevirtual 260, 3) := by decide +kernel
theorem dX11_weatherRefusal_47 : decode cX11_weatherRefusal 47 = .ok (.ireturn, 1) := by decide +kernel
noncomputable def vX11_weatherRefusal : List Cond := .code yX11_weatherRefusal cX11_weatherRefusal 5 (some .int) :: (([.fieldLink RX11 19 "IcicleClock" "now" "LIcicleClock$Street;", .fieldLink RX11 177 "IcicleClock$Street" "days" "I", .methodLink RX11 220 Lib.Math.min.name, .static Lib.Math.min.name, .initialized "java/lang/Math", .code Lib.Math.min.name Lib.Math.min.code 2 (some .int), .methodLink RX11 260 yX11_refusal, .instanceMethod yX11_refusal, .selects RX11 yX11_refusal yX11_refusal, .initialized RX11] : List Cond) ++ (wsX110 ++ (wsX60 ++ vX11_refusal)))
theorem iX11_weatherRefusal_11 : ∀ w ∈ wsX110, w ∈ vX11_weatherRefusal := fun _ h => List.mem_cons_of_mem _ (List.mem_append_right _ (List.mem_append_left _ h))
theorem iX11_weatherRefusal_6 : ∀ w ∈ wsX60, w ∈ vX11_weatherRefusal := fun _ h => List.mem_cons_of_mem _ (List.mem_append_right _ (List.mem_append_right _ (List.mem_append_left _ h)))
theorem gs_X11_weatherRefusal : Gd vX11_weatherRefusal := Gd.cons (by decide +kernel) (Gd.app (Gd.r (by decide +kernel)) (Gd.app gwX_11 (Gd.app gwX_6 gs_X11_refusal)))
theorem gg_X11_weatherRefusal_X11_refusal : GoodIn vX11_weatherRefusal (wsV RX11 260 RX11 yX11_refusal vX11_refusal) := goodIn_app (goodIn_r _ [7, 8, 9, 10] (by decide +kernel) (by decide +kernel)) (fun w h => ⟨List.mem_cons_of_mem _ (List.mem_append_right _ (List.mem_append_right _ (List.mem_append_right _ (h)))), gs_X11_refusal w h⟩)
set_option maxHeartbeats 4000000 in
set_option maxRecDepth 100000 in
theorem s_X11_weatherRefusal (l : Launch) (D : va_G) (cs : Nat → ClassId) (ad : Nat → Nat) (kS : kSt) (K : sK) (hKO : KO K) (hj : wJ ad 218) (g : Nat → va_E) (hW : WF (shp ad K) ad cs g) (sl : Int32) (nn : Int32) (ot : Int32) (hp0 : 0 ≤ ot.toInt ∧ ot.toInt ≤ 1) : sI l yX11_weatherRefusal vX11_weatherRefusal { frames := 3, cells := 0, slots := 0, locals := 74 } D cs ad kS [.ref (ad 0), .int sl, .int nn, .int ot] g (fun r g2 => WF (shp ad K) ad cs g2 ∧ (∀ j, j ≠ 118 ∧ j ≠ 119 → g2 j = g j)) := by
  refine Met.startS (cc := cX11_weatherRefusal) (maxL := 5) (ret := (some .int)) RX11 rfl (by decide) rfl (Nat.le_of_ble_eq_true rfl) ?_
  intro p e s m below meth c ls X Z hP hl
  have hx := X.1
  have hb := X.2.1
  have hS : va_S (wA ad 218) s.heap s.heap [] := va_S.rf
  have hA : ∀ i, i < 218 → wA ad 218 (ad i) := fun i h => ⟨i, h, rfl⟩
  have hfr : ∀ j, j ≠ 118 ∧ j ≠ 119 → g j = g j := fun _ _ => rfl
  have hl : lv_has ls 5 [(0, .ref (ad 0)), (1, .int sl), (2, .int nn), (3, .int ot)] := hl
  refine lv_iload_n hx hb dX11_weatherRefusal_0 rfl (lv_at hl 2 rfl) ?_
  refine lv_iconst (v := 1) hx hb dX11_weatherRefusal_1 (by decide) ?_
  have HJ14 : ∀ (G14 : Nat → va_E) (H : Heap) (locs : List Loc) (ls : Array Slot), WF (shp ad K) ad cs G14 → (∀ j, j ≠ 118 ∧ j ≠ 119 → G14 j = g j) → va_P D vwCl (wL ad G14 218) H → va_S (wA ad 218) s.heap H locs → lv_has ls 5 [(0, .ref (ad 0)), (1, .int sl), (2, .int nn), (3, .int ot)] → W p l e ({ frames := 3, cells := 0, slots := 0, locals := 74 } : Room) s m ([.ref (ad 0), .int sl, .int nn, .int ot] : List Value).toArray below meth c H locs 0 0 (MQ below (qI D ad 218 (fun r g2 => WF (shp ad K) ad cs g2 ∧ (∀ j, j ≠ 118 ∧ j ≠ 119 → g2 j = g j))) ([.ref (ad 0), .int sl, .int nn, .int ot] : List Value).toArray s 0 0 (wA ad 218)) (F0 m 14 ls []) := by
    intro G14 H locs ls hW14 hfr14 hP hS hl
    refine lv_iconst (v := 0) hx hb dX11_weatherRefusal_14 (by decide) ?_
    refine lv_istore (lv' := [(4, .int 0), (0, .ref (ad 0)), (1, .int sl), (2, .int nn), (3, .int ot)]) hx hb dX11_weatherRefusal_15 hl (by decide) rfl (fun ls hl => ?_)
    refine lv_aload_n hx hb dX11_weatherRefusal_17 rfl (lv_at hl 1 rfl) ?_
    refine lv_iload_n hx hb dX11_weatherRefusal_18 rfl (lv_at hl 2 rfl) ?_
    refine lv_iload hx hb dX11_weatherRefusal_19 (lv_at hl 0 rfl) ?_
    refine lv_if_eq (tgt := 32) hx hb dX11_weatherRefusal_21 (by decide) (fun _ => ?_) (fun h => absurd h (by decide))
    refine lv_iconst (v := 0) hx hb dX11_weatherRefusal_32 (by decide) ?_
    refine lv_iload_n hx hb dX11_weatherRefusal_33 rfl (lv_at hl 3 rfl) ?_
    refine lv_aload_n hx hb dX11_weatherRefusal_34 rfl (lv_at hl 1 rfl) ?_
    obtain ⟨fsc_1, hgc_1, hOc_1⟩ := hW14.obj (i := 0) (by decide) (sh_0 ad K)
    have hk_2 := hOc_1.ref 1 rfl
    refine q_get X iX11_weatherRefusal_11 hP (by decide) hgc_1 rfl 1 (by decide) (List.mem_of_getElem? (i := 1) rfl) (v := .ref (ad 3)) hk_2 dX11_weatherRefusal_35 ?_
    obtain ⟨fsc_3, hgc_3, hOc_3⟩ := hW14.obj (i := 3) (by decide) (sh_3 ad K)
    obtain ⟨x_5, hk_4, hlx_5, hhx_5⟩ := hOc_3.int 3 rfl
    refine q_get X iX11_weatherRefusal_6 hP (by decide) hgc_3 rfl 3 (by decide) (List.mem_of_getElem? (i := 2) rfl) (v := .int x_5) hk_4 dX11_weatherRefusal_38 ?_
    refine va_mmin hx hb (X.2.2.2.1.trans hl.1.symm) X.2.2.2.2.2.1 (X.2.2.2.2.1 _ (List.mem_of_getElem? (i := 3) rfl)) (X.2.2.2.2.1 _ (List.mem_of_getElem? (i := 4) rfl)) (X.2.2.2.2.1 _ (List.mem_of_getElem? (i := 5) rfl)) (X.2.2.2.2.1 _ (List.mem_of_getElem? (i := 6) rfl)) (Nat.le_of_ble_eq_true rfl) (Nat.le_of_ble_eq_true rfl) (Nat.le_of_ble_eq_true rfl) (Nat.le_of_ble_eq_true rfl) dX11_weatherRefusal_41 ?_
    refine lv_topi (fun z_6 ez_6 => ?_)
    have hz_6 := n_min (rfl : nn.toInt = nn.toInt) (rfl : x_5.toInt = x_5.toInt) ez_6
    refine s_calli (q := (RX11, TX11, 14)) (As := [.int sl, .int 0, .int z_6]) (rest := []) X Z (s_X11_refusal l D cs ad kS K hKO hj G14 hW14 sl 0 z_6) (cwV 3 X.2.2.2.2.1 gg_X11_weatherRefusal_X11_refusal rfl rfl rfl (by decide +kernel) ⟨Nat.le_of_ble_eq_true rfl, Nat.le_of_ble_eq_true rfl⟩) (by decide) hgc_1 rfl hP hA hS.2.1 hS rfl hl.1 rfl (Nat.le_of_ble_eq_true rfl) dX11_weatherRefusal_44 ⟨Nat.le_of_ble_eq_true rfl, Nat.le_of_ble_eq_true rfl⟩ (fun r_9 g_8 H locs hw_7 hP hS => ?_)
    obtain ⟨hw_7W, hw_7f⟩ := hw_7
    have hfr_10 : ∀ j, j ≠ 118 ∧ j ≠ 119 → g_8 j = g j := fun j hj => (hw_7f j (by omega)).trans (hfr14 j hj)
    have hg_11 := (hw_7f 0 (by omega)).trans hgc_1
    have hg_12 := (hw_7f 3 (by omega)).trans hgc_3
    exact q_iret X hP hS ⟨hw_7W, hfr_10⟩ dX11_weatherRefusal_47
  refine lv_icmp_lt (tgt := 14) hx hb dX11_weatherRefusal_2 (by decide) (fun hc_13 => ?_) (fun hc_13 => ?_)
  · have hhc_13 := n_lt (rfl : nn.toInt = nn.toInt) (by decide : (1 : Int32).toInt = 1) hc_13
    exact HJ14 g _ _ ls hW hfr hP hS (lv_sub hl [0, 1, 2, 3] rfl)
  · have hhc_13 := n_nlt (rfl : nn.toInt = nn.toInt) (by decide : (1 : Int32).toInt = 1) hc_13
    refine lv_iload_n hx hb dX11_weatherRefusal_5 rfl (lv_at hl 2 rfl) ?_
    refine lv_iconst (v := 5) hx hb dX11_weatherRefusal_6 (by decide) ?_
    refine lv_icmp_gt (tgt := 14) hx hb dX11_weatherRefusal_7 (by decide) (fun hc_14 => ?_) (fun hc_14 => ?_)
    · have hhc_14 := n_lt (by decide : (5 : Int32).toInt = 5) (rfl : nn.toInt = nn.toInt) hc_14
      exact HJ14 g _ _ ls hW hfr hP hS (lv_sub hl [0, 1, 2, 3] rfl)
    · have hhc_14 := n_nlt (by decide : (5 : Int32).toInt = 5) (rfl : nn.toInt = nn.toInt) hc_14
      refine lv_iconst (v := 1) hx hb dX11_weatherRefusal_10 (by decide) ?_
      refine lv_goto (tgt := 15) hx hb dX11_weatherRefusal_11 (by decide) ?_
      refine lv_istore (lv' := [(4, .int 1), (0, .ref (ad 0)), (1, .int sl), (2, .int nn), (3, .int ot)]) hx hb dX11_weatherRefusal_15 hl (by decide) rfl (fun ls hl => ?_)
      refine lv_aload_n hx hb dX11_weatherRefusal_17 rfl (lv_at hl 1 rfl) ?_
      refine lv_iload_n hx hb dX11_weatherRefusal_18 rfl (lv_at hl 2 rfl) ?_
      refine lv_iload hx hb dX11_weatherRefusal_19 (lv_at hl 0 rfl) ?_
      refine lv_if_eq (tgt := 32) hx hb dX11_weatherRefusal_21 (by decide) (fun h => absurd h (by decide)) (fun _ => ?_)
      refine lv_iload_n hx hb dX11_weatherRefusal_24 rfl (lv_at hl 4 rfl) ?_
      refine lv_if_eq (tgt := 32) hx hb dX11_weatherRefusal_25 (by decide) (fun hc_15 => ?_) (fun hc_15 => ?_)
      · have hhc_15 := n_eq (rfl : ot.toInt = ot.toInt) (by decide : (0 : Int32).toInt = 0) hc_15
        refine lv_iconst (v := 0) hx hb dX11_weatherRefusal_32 (by decide) ?_
        refine lv_iload_n hx hb dX11_weatherRefusal_33 rfl (lv_at hl 3 rfl) ?_
        refine lv_aload_n hx hb dX11_weatherRefusal_34 rfl (lv_at hl 1 rfl) ?_
        obtain ⟨fsc_16, hgc_16, hOc_16⟩ := hW.obj (i := 0) (by decide) (sh_0 ad K)
        have hk_17 := hOc_16.ref 1 rfl
        refine q_get X iX11_weatherRefusal_11 hP (by decide) hgc_16 rfl 1 (by decide) (List.mem_of_getElem? (i := 1) rfl) (v := .ref (ad 3)) hk_17 dX11_weatherRefusal_35 ?_
        obtain ⟨fsc_18, hgc_18, hOc_18⟩ := hW.obj (i := 3) (by decide) (sh_3 ad K)
        obtain ⟨x_20, hk_19, hlx_20, hhx_20⟩ := hOc_18.int 3 rfl
        refine q_get X iX11_weatherRefusal_6 hP (by decide) hgc_18 rfl 3 (by decide) (List.mem_of_getElem? (i := 2) rfl) (v := .int x_20) hk_19 dX11_weatherRefusal_38 ?_
        refine va_mmin hx hb (X.2.2.2.1.trans hl.1.symm) X.2.2.2.2.2.1 (X.2.2.2.2.1 _ (List.mem_of_getElem? (i := 3) rfl)) (X.2.2.2.2.1 _ (List.mem_of_getElem? (i := 4) rfl)) (X.2.2.2.2.1 _ (List.mem_of_getElem? (i := 5) rfl)) (X.2.2.2.2.1 _ (List.mem_of_getElem? (i := 6) rfl)) (Nat.le_of_ble_eq_true rfl) (Nat.le_of_ble_eq_true rfl) (Nat.le_of_ble_eq_true rfl) (Nat.le_of_ble_eq_true rfl) dX11_weatherRefusal_41 ?_
        refine lv_topi (fun z_21 ez_21 => ?_)
        have hz_21 := n_min (rfl : nn.toInt = nn.toInt) (rfl : x_20.toInt = x_20.toInt) ez_21
        refine s_calli (q := (RX11, TX11, 14)) (As := [.int sl, .int 0, .int z_21]) (rest := []) X Z (s_X11_refusal l D cs ad kS K hKO hj g hW sl 0 z_21) (cwV 3 X.2.2.2.2.1 gg_X11_weatherRefusal_X11_refusal rfl rfl rfl (by decide +kernel) ⟨Nat.le_of_ble_eq_true rfl, Nat.le_of_ble_eq_true rfl⟩) (by decide) hgc_16 rfl hP hA hS.2.1 hS rfl hl.1 rfl (Nat.le_of_ble_eq_true rfl) dX11_weatherRefusal_44 ⟨Nat.le_of_ble_eq_true rfl, Nat.le_of_ble_eq_true rfl⟩ (fun r_24 g_23 H locs hw_22 hP hS => ?_)
        obtain ⟨hw_22W, hw_22f⟩ := hw_22
        have hfr_25 : ∀ j, j ≠ 118 ∧ j ≠ 119 → g_23 j = g j := fun j hj => (hw_22f j (by omega)).trans (hfr j hj)
        have hg_26 := (hw_22f 0 (by omega)).trans hgc_16
        have hg_27 := (hw_22f 3 (by omega)).trans hgc_18
        exact q_iret X hP hS ⟨hw_22W, hfr_25⟩ dX11_weatherRefusal_47
      · have hhc_15 := n_ne (rfl : ot.toInt = ot.toInt) (by decide : (0 : Int32).toInt = 0) hc_15
        refine lv_iconst (v := 1) hx hb dX11_weatherRefusal_28 (by decide) ?_
        refine lv_goto (tgt := 33) hx hb dX11_weatherRefusal_29 (by decide) ?_
        refine lv_iload_n hx hb dX11_weatherRefusal_33 rfl (lv_at hl 3 rfl) ?_
        refine lv_aload_n hx hb dX11_weatherRefusal_34 rfl (lv_at hl 1 rfl) ?_
        obtain ⟨fsc_28, hgc_28, hOc_28⟩ := hW.obj (i := 0) (by decide) (sh_0 ad K)
        have hk_29 := hOc_28.ref 1 rfl
        refine q_get X iX11_weatherRefusal_11 hP (by decide) hgc_28 rfl 1 (by decide) (List.mem_of_getElem? (i := 1) rfl) (v := .ref (ad 3)) hk_29 dX11_weatherRefusal_35 ?_
        obtain ⟨fsc_30, hgc_30, hOc_30⟩ := hW.obj (i := 3) (by decide) (sh_3 ad K)
        obtain ⟨x_32, hk_31, hlx_32, hhx_32⟩ := hOc_30.int 3 rfl
        refine q_get X iX11_weatherRefusal_6 hP (by decide) hgc_30 rfl 3 (by decide) (List.mem_of_getElem? (i := 2) rfl) (v := .int x_32) hk_31 dX11_weatherRefusal_38 ?_
        refine va_mmin hx hb (X.2.2.2.1.trans hl.1.symm) X.2.2.2.2.2.1 (X.2.2.2.2.1 _ (List.mem_of_getElem? (i := 3) rfl)) (X.2.2.2.2.1 _ (List.mem_of_getElem? (i := 4) rfl)) (X.2.2.2.2.1 _ (List.mem_of_getElem? (i := 5) rfl)) (X.2.2.2.2.1 _ (List.mem_of_getElem? (i := 6) rfl)) (Nat.le_of_ble_eq_true rfl) (Nat.le_of_ble_eq_true rfl) (Nat.le_of_ble_eq_true rfl) (Nat.le_of_ble_eq_true rfl) dX11_weatherRefusal_41 ?_
        refine lv_topi (fun z_33 ez_33 => ?_)
        have hz_33 := n_min (rfl : nn.toInt = nn.toInt) (rfl : x_32.toInt = x_32.toInt) ez_33
        refine s_calli (q := (RX11, TX11, 14)) (As := [.int sl, .int 1, .int z_33]) (rest := []) X Z (s_X11_refusal l D cs ad kS K hKO hj g hW sl 1 z_33) (cwV 3 X.2.2.2.2.1 gg_X11_weatherRefusal_X11_refusal rfl rfl rfl (by decide +kernel) ⟨Nat.le_of_ble_eq_true rfl, Nat.le_of_ble_eq_true rfl⟩) (by decide) hgc_28 rfl hP hA hS.2.1 hS rfl hl.1 rfl (Nat.le_of_ble_eq_true rfl) dX11_weatherRefusal_44 ⟨Nat.le_of_ble_eq_true rfl, Nat.le_of_ble_eq_true rfl⟩ (fun r_36 g_35 H locs hw_34 hP hS => ?_)
        obtain ⟨hw_34W, hw_34f⟩ := hw_34
        have hfr_37 : ∀ j, j ≠ 118 ∧ j ≠ 119 → g_35 j = g j := fun j hj => (hw_34f j (by omega)).trans (hfr j hj)
        have hg_38 := (hw_34f 0 (by omega)).trans hgc_28
        have hg_39 := (hw_34f 3 (by omega)).trans hgc_30
        exact q_iret X hP hS ⟨hw_34W, hfr_37⟩ dX11_weatherRefusal_47

theorem dX4_note_0 : decode cX4_note 0 = .ok (.aload_n 0, 1) := by decide +kernel
theorem dX4_note_1 : decode cX4_note 1 = .ok (.getfield 16, 3) := by decide +kernel
theorem dX4_note_4 : decode cX4_note 4 = .ok (.ifCond .ne 19, 3) := by decide +kernel
theorem dX4_note_7 : decode cX4_note 7 = .ok (.aload_n 0, 1) := by decide +kernel
theorem dX4_note_8 : decode cX4_note 8 = .ok (.bipush 100, 2) := by decide +kernel
theorem dX4_note_10 : decode cX4_note 10 = .ok (.aload_n 2, 1) := by decide +kernel
theorem dX4_note_11 : decode cX4_note 11 = .ok (.getfield 47, 3) := by decide +kernel
theorem dX4_note_14 : decode cX4_note 14 = .ok (.imul, 1) := by decide +kernel
theorem dX4_note_15 : decode cX4_note 15 = .ok (.aload_n 2, 1) := by decide +kernel
theorem dX4_note_16 : decode cX4_note 16 = .ok (.getfield 53, 3) := by decide +kernel
theorem dX4_note_19 : decode cX4_note 19 = .ok (.iadd, 1) := by decide +kernel
theorem dX4_note_20 : decode cX4_note 20 = .ok (.putfield 20, 3) := by decide +kernel
theorem dX4_note_23 : decode cX4_note 23 = .ok (.aload_n 0, 1) := by decide +kernel
theorem dX4_note_24 : decode cX4_note 24 = .ok (.dup, 1) := by decide +kernel
theorem dX4_note_25 : decode cX4_note 25 = .ok (.getfield 16, 3) := by decide +kernel
theorem dX4_note_28 : decode cX4_note 28 = .ok (.iconst 1, 1) := by decide +kernel
theorem dX4_note_29 : decode cX4_note 29 = .ok (.iadd, 1) := by decide +kernel
theorem dX4_note_30 : decode cX4_note 30 = .ok (.putfield 16, 3) := by decide +kernel
theorem dX4_note_33 : decode cX4_note 33 = .ok (.iconst 0, 1) := by decide +kernel
theorem dX4_note_34 : decode cX4_note 34 = .ok (.istore_n 3, 1) := by decide +kernel
theorem dX4_note_35 : decode cX4_note 35 = .ok (.iload_n 3, 1) := by decide +kernel
theorem dX4_note_36 : decode cX4_note 36 = .ok (.aload_n 1, 1) := by decide +kernel
theorem dX4_note_37 : decode cX4_note 37 = .ok (.getfield 70, 3) := by decide +kernel
theorem dX4_note_40 : decode cX4_note 40 = .ok (.if_icmp .ge 28, 3) := by decide +kernel
theorem dX4_note_43 : decode cX4_note 43 = .ok (.aload_n 0, 1) := by decide +kernel
theorem dX4_note_44 : decode cX4_note 44 = .ok (.getfield 11, 3) := by decide +kernel
theorem dX4_note_47 : decode cX4_note 47 = .ok (.iload_n 3, 1) := by decide +kernel
theorem dX4_note_48 : decode cX4_note 48 = .ok (.aaload, 1) := by decide +kernel
theorem dX4_note_49 : decode cX4_note 49 = .ok (.aload_n 2, 1) := by decide +kernel
theorem dX4_note_50 : decode cX4_note 50 = .ok (.getfield 73, 3) := by decide +kernel
theorem dX4_note_53 : decode cX4_note 53 = .ok (.iload_n 3, 1) := by decide +kernel
theorem dX4_note_54 : decode cX4_note 54 = .ok (.iaload, 1) := by decide +kernel
theorem dX4_note_55 : decode cX4_note 55 = .ok (.iconst 1, 1) := by decide +kernel
theorem dX4_note_56 : decode cX4_note 56 = .ok (.iadd, 1) := by decide +kernel
theorem dX4_note_57 : decode cX4_note 57 = .ok (.dup2, 1) := by decide +kernel
theorem dX4_note_58 : decode cX4_note 58 = .ok (.iaload, 1) := by decide +kernel
theorem dX4_note_59 : decode cX4_note 59 = .ok (.iconst 1, 1) := by decide +kernel
theorem dX4_note_60 : decode cX4_note 60 = .ok (.iadd, 1) := by decide +kernel
theorem dX4_note_61 : decode cX4_note 61 = .ok (.iastore, 1) := by decide +kernel
theorem dX4_note_62 : decode cX4_note 62 = .ok (.iinc 3 1, 3) := by decide +kernel
theorem dX4_note_65 : decode cX4_note 65 = .ok (.goto (-30), 3) := by decide +kernel
theorem dX4_note_68 : decode cX4_note 68 = .ok (.return_, 1) := by decide +kernel
noncomputable def vX4_note : List Cond := .code yX4_note cX4_note 4 none :: (([.fieldLink RX4 16 "IcicleClock$Slams" "fitting" "I", .fieldLink RX4 47 "IcicleClock$Winter" "doorEave" "I", .fieldLink RX4 53 "IcicleClock$Winter" "doorDay" "I", .fieldLink RX4 20 "IcicleClock$Slams" "first" "I", .fieldLink RX4 70 "IcicleClock$Street" "icicles" "I", .fieldLink RX4 11 "IcicleClock$Slams" "tally" "[[I", .fieldLink RX4 73 "IcicleClock$Winter" "fall" "[I"] : List Cond) ++ (wsX40 ++ (wsX100 ++ wsX60)))
theorem iX4_note_4 : ∀ w ∈ wsX40, w ∈ vX4_note := fun _ h => List.mem_cons_of_mem _ (List.mem_append_right _ (List.mem_append_left _ h))
theorem iX4_note_10 : ∀ w ∈ wsX100, w ∈ vX4_note := fun _ h => List.mem_cons_of_mem _ (List.mem_append_right _ (List.mem_append_right _ (List.mem_append_left _ h)))
theorem iX4_note_6 : ∀ w ∈ wsX60, w ∈ vX4_note := fun _ h => List.mem_cons_of_mem _ (List.mem_append_right _ (List.mem_append_right _ (List.mem_append_right _ (h))))
theorem gs_X4_note : Gd vX4_note := Gd.cons (by decide +kernel) (Gd.app (Gd.r (by decide +kernel)) (Gd.app gwX_4 (Gd.app gwX_10 gwX_6)))
set_option maxHeartbeats 4000000 in
set_option maxRecDepth 100000 in
theorem s_X4_note (l : Launch) (D : va_G) (cs : Nat → ClassId) (ad : Nat → Nat) (kS : kSt) (K : sK) (hKO : KO K) (hj : wJ ad 218) (g : Nat → va_E) (hW : WF (shp ad K) ad cs g) : sV l yX4_note vX4_note { frames := 0, cells := 0, slots := 0, locals := 0 } D cs ad kS [.ref (ad 120), .ref (ad 3), .ref (ad 116)] g (fun g2 => WF (shp ad K) ad cs g2 ∧ (∀ j, j ≠ 120 ∧ (j < 122 ∨ 130 ≤ j) → g2 j = g j)) := by
  refine Met.startS (cc := cX4_note) (maxL := 4) (ret := none) RX4 rfl (by decide) rfl (Nat.le_of_ble_eq_true rfl) ?_
  intro p e s m below meth c ls X Z hP hl
  have hx := X.1
  have hb := X.2.1
  have hS : va_S (wA ad 218) s.heap s.heap [] := va_S.rf
  have hA : ∀ i, i < 218 → wA ad 218 (ad i) := fun i h => ⟨i, h, rfl⟩
  have hfr : ∀ j, j ≠ 120 ∧ (j < 122 ∨ 130 ≤ j) → g j = g j := fun _ _ => rfl
  have hl : lv_has ls 4 [(0, .ref (ad 120)), (1, .ref (ad 3)), (2, .ref (ad 116))] := hl
  refine lv_aload_n hx hb dX4_note_0 rfl (lv_at hl 0 rfl) ?_
  obtain ⟨fsc_1, hgc_1, hOc_1⟩ := hW.obj (i := 120) (by decide) (sh_120 ad K)
  obtain ⟨x_3, hk_2, -⟩ := hOc_1.int 0 rfl
  refine q_get X iX4_note_4 hP (by decide) hgc_1 rfl 0 (by decide) (List.mem_of_getElem? (i := 1) rfl) (v := .int x_3) hk_2 dX4_note_1 ?_
  have HJ23 : ∀ (G23 : Nat → va_E) (H : Heap) (locs : List Loc) (ls : Array Slot), WF (shp ad K) ad cs G23 → (∀ j, j ≠ 120 ∧ (j < 122 ∨ 130 ≤ j) → G23 j = g j) → va_P D vwCl (wL ad G23 218) H → va_S (wA ad 218) s.heap H locs → lv_has ls 4 [(0, .ref (ad 120)), (1, .ref (ad 3)), (2, .ref (ad 116))] → W p l e ({ frames := 0, cells := 0, slots := 0, locals := 0 } : Room) s m ([.ref (ad 120), .ref (ad 3), .ref (ad 116)] : List Value).toArray below meth c H locs 0 0 (MQ below (qV D ad 218 (fun g2 => WF (shp ad K) ad cs g2 ∧ (∀ j, j ≠ 120 ∧ (j < 122 ∨ 130 ≤ j) → g2 j = g j))) ([.ref (ad 120), .ref (ad 3), .ref (ad 116)] : List Value).toArray s 0 0 (wA ad 218)) (F0 m 23 ls []) := by
    intro G23 H locs ls hW23 hfr23 hP hS hl
    refine lv_aload_n hx hb dX4_note_23 rfl (lv_at hl 0 rfl) ?_
    refine lv_dup hx hb dX4_note_24 rfl ?_
    obtain ⟨fsc_4, hgc_4, hOc_4⟩ := hW23.obj (i := 120) (by decide) (sh_120 ad K)
    obtain ⟨x_6, hk_5, -⟩ := hOc_4.int 0 rfl
    refine q_get X iX4_note_4 hP (by decide) hgc_4 rfl 0 (by decide) (List.mem_of_getElem? (i := 1) rfl) (v := .int x_6) hk_5 dX4_note_25 ?_
    refine lv_iconst (v := 1) hx hb dX4_note_28 (by decide) ?_
    refine lv_iadd hx hb dX4_note_29 ?_
    refine lv_topi (fun z_7 ez_7 => ?_)
    refine s_put X iX4_note_4 tyX4 tyX4_ok nmX4 hP hj hA hS (by decide) hgc_4 rfl 0 (by decide) (List.mem_of_getElem? (i := 1) rfl) rfl (ty := .int) (v := .int z_7) (by decide +kernel) rfl rfl dX4_note_30 hW23 (sh_120 ad K) hOc_4 rfl ⟨z_7, rfl, n_lo _, n_hi _⟩ (fun fsc_8 gc_8 H locs hOc_8 hkc_8 hnc_8 hgc_8 hfc_8 hWc_8 hP hS => ?_)
    have hfr_9 : ∀ j, j ≠ 120 ∧ (j < 122 ∨ 130 ≤ j) → gc_8 j = g j := fun j hj => (hfc_8 j (by omega)).trans (hfr23 j hj)
    refine lv_iconst (v := 0) hx hb dX4_note_33 (by decide) ?_
    refine lv_istore_n (lv' := [(3, .int 0), (0, .ref (ad 120)), (1, .ref (ad 3)), (2, .ref (ad 116))]) hx hb dX4_note_34 rfl hl (by decide) rfl (fun ls hl => ?_)
    have HL35 : ∀ (n35 : Nat) (v35_3 : Int32) (G35 : Nat → va_E) (H : Heap) (locs : List Loc) (ls : Array Slot), (8 - v35_3.toInt).toNat < n35 → (0 ≤ v35_3.toInt ∧ v35_3.toInt ≤ 8) → WF (shp ad K) ad cs G35 → (∀ j, j ≠ 120 ∧ (j < 122 ∨ 130 ≤ j) → G35 j = g j) → va_P D vwCl (wL ad G35 218) H → va_S (wA ad 218) s.heap H locs → lv_has ls 4 [(3, .int v35_3), (0, .ref (ad 120)), (1, .ref (ad 3)), (2, .ref (ad 116))] → W p l e ({ frames := 0, cells := 0, slots := 0, locals := 0 } : Room) s m ([.ref (ad 120), .ref (ad 3), .ref (ad 116)] : List Value).toArray below meth c H locs 0 0 (MQ below (qV D ad 218 (fun g2 => WF (shp ad K) ad cs g2 ∧ (∀ j, j ≠ 120 ∧ (j < 122 ∨ 130 ≤ j) → g2 j = g j))) ([.ref (ad 120), .ref (ad 3), .ref (ad 116)] : List Value).toArray s 0 0 (wA ad 218)) (F0 m 35 ls []) := by
      intro n35
      induction n35 with
      | zero =>
        intro v35_3 G35 H locs ls hm35 hv35_0 hW35 hfr35 hP hS hl
        exact absurd hm35 (Nat.not_lt_zero _)
      | succ n35 ih35 =>
        intro v35_3 G35 H locs ls hm35 hv35_0 hW35 hfr35 hP hS hl
        refine lv_iload_n hx hb dX4_note_35 rfl (lv_at hl 0 rfl) ?_
        refine lv_aload_n hx hb dX4_note_36 rfl (lv_at hl 2 rfl) ?_
        obtain ⟨fsc_10, hgc_10, hOc_10⟩ := hW35.obj (i := 3) (by decide) (sh_3 ad K)
        obtain ⟨x_12, hk_11, hlx_12, hhx_12⟩ := hOc_10.int 5 rfl
        refine q_get X iX4_note_6 hP (by decide) hgc_10 rfl 5 (by decide) (List.mem_of_getElem? (i := 5) rfl) (v := .int x_12) hk_11 dX4_note_37 ?_
        refine lv_icmp_ge (tgt := 68) hx hb dX4_note_40 (by decide) (fun hc_13 => ?_) (fun hc_13 => ?_)
        · have hhc_13 := n_le (rfl : x_12.toInt = x_12.toInt) (rfl : v35_3.toInt = v35_3.toInt) hc_13
          exact q_vret X hP hS ⟨hW35, hfr35⟩ dX4_note_68
        · have hhc_13 := n_nle (rfl : x_12.toInt = x_12.toInt) (rfl : v35_3.toInt = v35_3.toInt) hc_13
          refine lv_aload_n hx hb dX4_note_43 rfl (lv_at hl 1 rfl) ?_
          obtain ⟨fsc_14, hgc_14, hOc_14⟩ := hW35.obj (i := 120) (by decide) (sh_120 ad K)
          have hk_15 := hOc_14.ref 2 rfl
          refine q_get X iX4_note_4 hP (by decide) hgc_14 rfl 2 (by decide) (List.mem_of_getElem? (i := 6) rfl) (v := .ref (ad 121)) hk_15 dX4_note_44 ?_
          refine lv_iload_n hx hb dX4_note_47 rfl (lv_at hl 0 rfl) ?_
          obtain ⟨fc_16, hgc_16, hFc_16⟩ := hW35.aref (i := 121) (by decide) (sh_121 ad K)
          obtain ⟨e_17, h_e_17, e_e_17⟩ : ∃ q : Nat, q < 8 ∧ v35_3.toNatClampNeg = q := ⟨_, by have := n_cl (rfl : v35_3.toInt = v35_3.toInt) (by omega); omega, rfl⟩
          refine s_aald X hP 6 rfl rfl (by decide) hgc_16 (n_in (rfl : v35_3.toInt = v35_3.toInt) (by omega) (by omega)) (v := ad (122 + e_17)) (by rw [e_e_17, hFc_16 _ h_e_17, Nat.one_mul]) dX4_note_48 ?_
          refine lv_aload_n hx hb dX4_note_49 rfl (lv_at hl 3 rfl) ?_
          obtain ⟨fsc_18, hgc_18, hOc_18⟩ := hW35.obj (i := 116) (by decide) (sh_116 ad K)
          have hk_19 := hOc_18.ref 3 rfl
          refine q_get X iX4_note_10 hP (by decide) hgc_18 rfl 3 (by decide) (List.mem_of_getElem? (i := 7) rfl) (v := .ref (ad 117)) hk_19 dX4_note_50 ?_
          refine lv_iload_n hx hb dX4_note_53 rfl (lv_at hl 0 rfl) ?_
          obtain ⟨fc_20, hgc_20, hFc_20⟩ := hW35.arr (i := 117) (by decide) (sh_117 ad K)
          refine q_iald X hP (by decide) hgc_20 (n_in (rfl : v35_3.toInt = v35_3.toInt) (by omega) (by omega)) dX4_note_54 ?_
          refine lv_topi (fun z_21 ez_21 => ?_)
          have hz_21 : (-1) ≤ z_21.toInt ∧ z_21.toInt ≤ 13 := ez_21 ▸ hFc_20 _
          refine lv_iconst (v := 1) hx hb dX4_note_55 (by decide) ?_
          refine lv_iadd hx hb dX4_note_56 ?_
          refine lv_topi (fun z_22 ez_22 => ?_)
          have hz_22 : z_22.toInt = z_21.toInt + 1 := n_add (rfl : z_21.toInt = z_21.toInt) (by decide : (1 : Int32).toInt = 1) ez_22 (by omega) (by omega)
          refine lv_dup2_11 hx hb dX4_note_57 rfl rfl ?_
          obtain ⟨fc_23, hgc_23, hFc_23⟩ := hW35.arr (i := (122 + e_17)) (by omega) (shR_122 ad K h_e_17)
          refine q_iald X hP (by omega) hgc_23 (n_in (rfl : z_22.toInt = z_22.toInt) (by omega) (by omega)) dX4_note_58 ?_
          refine lv_topi (fun z_24 ez_24 => ?_)
          refine lv_iconst (v := 1) hx hb dX4_note_59 (by decide) ?_
          refine lv_iadd hx hb dX4_note_60 ?_
          refine lv_topi (fun z_25 ez_25 => ?_)
          refine s_iast X hP hj hA hS (by omega) hgc_23 (n_in (rfl : z_22.toInt = z_22.toInt) (by omega) (by omega)) dX4_note_61 hW35 (shR_122 ad K h_e_17) (hFc_23.put trivial) (fun fc_26 gc_26 H locs ec_26 hFc_26 hgc_26 hfc_26 hWc_26 hP hS => ?_)
          have hg_28 := (hfc_26 3 (by omega)).trans hgc_10
          have hg_29 := (hfc_26 120 (by omega)).trans hgc_14
          have hg_30 := (hfc_26 121 (by omega)).trans hgc_16
          have hg_31 := (hfc_26 116 (by omega)).trans hgc_18
          have hg_32 := (hfc_26 117 (by omega)).trans hgc_20
          have hfr_27 : ∀ j, j ≠ 120 ∧ (j < 122 ∨ 130 ≤ j) → gc_26 j = g j := fun j hj => (hfc_26 j (by omega)).trans (hfr35 j hj)
          obtain ⟨x_33, ex_33⟩ : ∃ y : Int32, y = v35_3 + 1 := ⟨_, rfl⟩
          have hx_33 : x_33.toInt = v35_3.toInt + 1 := n_add rfl (by decide : (1 : Int32).toInt = 1) ex_33 (by omega) (by omega)
          refine lv_iinc (v := x_33) (lv' := [(3, .int x_33), (0, .ref (ad 120)), (1, .ref (ad 3)), (2, .ref (ad 116))]) hx hb dX4_note_62 hl (k := 0) rfl (by rw [ex_33]; rfl) (by decide) rfl (fun ls hl => ?_)
          refine lv_goto (tgt := 35) hx hb dX4_note_65 (by decide) ?_
          exact ih35 x_33 gc_26 _ _ ls (by omega) (by omega) hWc_26 hfr_27 hP hS (lv_sub hl [0, 1, 2, 3] rfl)
    have hiv35_3 : (0 : Int32).toInt = 0 := by decide
    exact HL35 _ 0 gc_8 _ _ ls (Nat.lt_succ_self _) (by omega) hWc_8 hfr_9 hP hS (lv_sub hl [0, 1, 2, 3] rfl)
  refine lv_if_ne (tgt := 23) hx hb dX4_note_4 (by decide) (fun hc_34 => ?_) (fun hc_34 => ?_)
  · have hhc_34 := n_ne (rfl : x_3.toInt = x_3.toInt) (by decide : (0 : Int32).toInt = 0) hc_34
    exact HJ23 g _ _ ls hW hfr hP hS (lv_sub hl [0, 1, 2] rfl)
  · have hhc_34 := n_eq (rfl : x_3.toInt = x_3.toInt) (by decide : (0 : Int32).toInt = 0) hc_34
    refine lv_aload_n hx hb dX4_note_7 rfl (lv_at hl 0 rfl) ?_
    refine lv_bipush (v := 100) hx hb dX4_note_8 (by decide) ?_
    refine lv_aload_n hx hb dX4_note_10 rfl (lv_at hl 2 rfl) ?_
    obtain ⟨fsc_35, hgc_35, hOc_35⟩ := hW.obj (i := 116) (by decide) (sh_116 ad K)
    obtain ⟨x_37, hk_36, -⟩ := hOc_35.int 1 rfl
    refine q_get X iX4_note_10 hP (by decide) hgc_35 rfl 1 (by decide) (List.mem_of_getElem? (i := 2) rfl) (v := .int x_37) hk_36 dX4_note_11 ?_
    refine lv_imul hx hb dX4_note_14 ?_
    refine lv_topi (fun z_38 ez_38 => ?_)
    refine lv_aload_n hx hb dX4_note_15 rfl (lv_at hl 2 rfl) ?_
    obtain ⟨x_40, hk_39, -⟩ := hOc_35.int 2 rfl
    refine q_get X iX4_note_10 hP (by decide) hgc_35 rfl 2 (by decide) (List.mem_of_getElem? (i := 3) rfl) (v := .int x_40) hk_39 dX4_note_16 ?_
    refine lv_iadd hx hb dX4_note_19 ?_
    refine lv_topi (fun z_41 ez_41 => ?_)
    refine s_put X iX4_note_4 tyX4 tyX4_ok nmX4 hP hj hA hS (by decide) hgc_1 rfl 1 (by decide) (List.mem_of_getElem? (i := 4) rfl) rfl (ty := .int) (v := .int z_41) (by decide +kernel) rfl rfl dX4_note_20 hW (sh_120 ad K) hOc_1 rfl ⟨z_41, rfl, n_lo _, n_hi _⟩ (fun fsc_42 gc_42 H locs hOc_42 hkc_42 hnc_42 hgc_42 hfc_42 hWc_42 hP hS => ?_)
    have hk_43 := (hnc_42 0 (by decide)).trans hk_2
    have hg_45 := (hfc_42 116 (by decide)).trans hgc_35
    have hfr_44 : ∀ j, j ≠ 120 ∧ (j < 122 ∨ 130 ≤ j) → gc_42 j = g j := fun j hj => (hfc_42 j (by omega)).trans (hfr j hj)
    exact HJ23 gc_42 _ _ ls hWc_42 hfr_44 hP hS (lv_sub hl [0, 1, 2] rfl)

theorem dX4_searchUnder_0 : decode cX4_searchUnder 0 = .ok (.aload_n 2, 1) := by decide +kernel
theorem dX4_searchUnder_1 : decode cX4_searchUnder 1 = .ok (.iload 4, 2) := by decide +kernel
theorem dX4_searchUnder_3 : decode cX4_searchUnder 3 = .ok (.putfield 47, 3) := by decide +kernel
theorem dX4_searchUnder_6 : decode cX4_searchUnder 6 = .ok (.iconst 0, 1) := by decide +kernel
theorem dX4_searchUnder_7 : decode cX4_searchUnder 7 = .ok (.istore 5, 2) := by decide +kernel
theorem dX4_searchUnder_9 : decode cX4_searchUnder 9 = .ok (.iload 5, 2) := by decide +kernel
theorem dX4_searchUnder_11 : decode cX4_searchUnder 11 = .ok (.aload_n 1, 1) := by decide +kernel
theorem dX4_searchUnder_12 : decode cX4_searchUnder 12 = .ok (.getfield 50, 3) := by decide +kernel
theorem dX4_searchUnder_15 : decode cX4_searchUnder 15 = .ok (.if_icmp .ge 37, 3) := by decide +kernel
theorem dX4_searchUnder_18 : decode cX4_searchUnder 18 = .ok (.aload_n 2, 1) := by decide +kernel
theorem dX4_searchUnder_19 : decode cX4_searchUnder 19 = .ok (.iload 5, 2) := by decide +kernel
theorem dX4_searchUnder_21 : decode cX4_searchUnder 21 = .ok (.putfield 53, 3) := by decide +kernel
theorem dX4_searchUnder_24 : decode cX4_searchUnder 24 = .ok (.aload_n 2, 1) := by decide +kernel
theorem dX4_searchUnder_25 : decode cX4_searchUnder 25 = .ok (.aload_n 1, 1) := by decide +kernel
theorem dX4_searchUnder_26 : decode cX4_searchUnder 26 = .ok (.iload 4, 2) := by decide +kernel
theorem dX4_searchUnder_28 : decode cX4_searchUnder 28 = .ok (.invokevirtual 56, 3) := by decide +kernel
theorem dX4_searchUnder_31 : decode cX4_searchUnder 31 = .ok (.aload_n 3, 1) := by decide +kernel
theorem dX4_searchUnder_32 : decode cX4_searchUnder 32 = .ok (.aload_n 1, 1) := by decide +kernel
theorem dX4_searchUnder_33 : decode cX4_searchUnder 33 = .ok (.aload_n 2, 1) := by decide +kernel
theorem dX4_searchUnder_34 : decode cX4_searchUnder 34 = .ok (.invokevirtual 60, 3) := by decide +kernel
theorem dX4_searchUnder_37 : decode cX4_searchUnder 37 = .ok (.ifCond .eq 9, 3) := by decide +kernel
theorem dX4_searchUnder_40 : decode cX4_searchUnder 40 = .ok (.aload_n 0, 1) := by decide +kernel
theorem dX4_searchUnder_41 : decode cX4_searchUnder 41 = .ok (.aload_n 1, 1) := by decide +kernel
theorem dX4_searchUnder_42 : decode cX4_searchUnder 42 = .ok (.aload_n 2, 1) := by decide +kernel
theorem dX4_searchUnder_43 : decode cX4_searchUnder 43 = .ok (.invokevirtual 66, 3) := by decide +kernel
theorem dX4_searchUnder_46 : decode cX4_searchUnder 46 = .ok (.iinc 5 1, 3) := by decide +kernel
theorem dX4_searchUnder_49 : decode cX4_searchUnder 49 = .ok (.goto (-40), 3) := by decide +kernel
theorem dX4_searchUnder_52 : decode cX4_searchUnder 52 = .ok (.aload_n 2, 1) := by decide +kernel
theorem dX4_searchUnder_53 : decode cX4_searchUnder 53 = .ok (.iconst (-1), 1) := by decide +kernel
theorem dX4_searchUnder_54 : decode cX4_searchUnder 54 = .ok (.putfield 47, 3) := by decide +kernel
theorem dX4_searchUnder_57 : decode cX4_searchUnder 57 = .ok (.aload_n 2, 1) := by decide +kernel
theorem dX4_searchUnder_58 : decode cX4_searchUnder 58 = .ok (.iconst (-1), 1) := by decide +kernel
theorem dX4_searchUnder_59 : decode cX4_searchUnder 59 = .ok (.putfield 53, 3) := by decide +kernel
theorem dX4_searchUnder_62 : decode cX4_searchUnder 62 = .ok (.aload_n 2, 1) := by decide +kernel
theorem dX4_searchUnder_63 : decode cX4_searchUnder 63 = .ok (.aload_n 1, 1) := by decide +kernel
theorem dX4_searchUnder_64 : decode cX4_searchUnder 64 = .ok (.iload 4, 2) := by decide +kernel
theorem dX4_searchUnder_66 : decode cX4_searchUnder 66 = .ok (.invokevirtual 56, 3) := by decide +kernel
theorem dX4_searchUnder_69 : decode cX4_searchUnder 69 = .ok (.return_, 1) := by decide +kernel
noncomputable def vX4_searchUnder : List Cond := .code yX4_searchUnder cX4_searchUnder 6 none :: (([.fieldLink RX4 47 "IcicleClock$Winter" "doorEave" "I", .fieldLink RX4 50 "IcicleClock$Street" "days" "I", .fieldLink RX4 53 "IcicleClock$Winter" "doorDay" "I", .methodLink RX4 56 yX10_passUnder, .instanceMethod yX10_passUnder, .selects RX10 yX10_passUnder yX10_passUnder, .initialized RX10, .methodLink RX4 60 yX3_fits, .instanceMethod yX3_fits, .selects RX3 yX3_fits yX3_fits, .initialized RX3, .methodLink RX4 66 yX4_note, .instanceMethod yX4_note, .selects RX4 yX4_note yX4_note, .initialized RX4] : List Cond) ++ (wsX100 ++ (wsX60 ++ (vX10_passUnder ++ (vX3_fits ++ vX4_note)))))
theorem iX4_searchUnder_10 : ∀ w ∈ wsX100, w ∈ vX4_searchUnder := fun _ h => List.mem_cons_of_mem _ (List.mem_append_right _ (List.mem_append_left _ h))
theorem iX4_searchUnder_6 : ∀ w ∈ wsX60, w ∈ vX4_searchUnder := fun _ h => List.mem_cons_of_mem _ (List.mem_append_right _ (List.mem_append_right _ (List.mem_append_left _ h)))
theorem gs_X4_searchUnder : Gd vX4_searchUnder := Gd.cons (by decide +kernel) (Gd.app (Gd.r (by decide +kernel)) (Gd.app gwX_10 (Gd.app gwX_6 (Gd.app gs_X10_passUnder (Gd.app gs_X3_fits gs_X4_note)))))
theorem gg_X4_searchUnder_X10_passUnder : GoodIn vX4_searchUnder (wsV RX4 56 RX10 yX10_passUnder vX10_passUnder) := goodIn_app (goodIn_r _ [4, 5, 6, 7] (by decide +kernel) (by decide +kernel)) (fun w h => ⟨List.mem_cons_of_mem _ (List.mem_append_right _ (List.mem_append_right _ (List.mem_append_right _ (List.mem_append_left _ h)))), gs_X10_passUnder w h⟩)
theorem gg_X4_searchUnder_X3_fits : GoodIn vX4_searchUnder (wsV RX4 60 RX3 yX3_fits vX3_fits) := goodIn_app (goodIn_r _ [8, 9, 10, 11] (by decide +kernel) (by decide +kernel)) (fun w h => ⟨List.mem_cons_of_mem _ (List.mem_append_right _ (List.mem_append_right _ (List.mem_append_right _ (List.mem_append_right _ (List.mem_append_left _ h))))), gs_X3_fits w h⟩)
theorem gg_X4_searchUnder_X4_note : GoodIn vX4_searchUnder (wsV RX4 66 RX4 yX4_note vX4_note) := goodIn_app (goodIn_r _ [12, 13, 14, 15] (by decide +kernel) (by decide +kernel)) (fun w h => ⟨List.mem_cons_of_mem _ (List.mem_append_right _ (List.mem_append_right _ (List.mem_append_right _ (List.mem_append_right _ (List.mem_append_right _ (h)))))), gs_X4_note w h⟩)
set_option maxHeartbeats 4000000 in
set_option maxRecDepth 100000 in
theorem s_X4_searchUnder (l : Launch) (D : va_G) (cs : Nat → ClassId) (ad : Nat → Nat) (kS : kSt) (K : sK) (hKO : KO K) (hj : wJ ad 218) (g : Nat → va_E) (hW : WF (shp ad K) ad cs g) (ev : Int32) (hp0 : 0 ≤ ev.toInt ∧ ev.toInt ≤ 4) : sV l yX4_searchUnder vX4_searchUnder { frames := 4, cells := 0, slots := 0, locals := 94 } D cs ad kS [.ref (ad 120), .ref (ad 3), .ref (ad 116), .ref (ad 118), .int ev] g (fun g2 => WF (shp ad K) ad cs g2 ∧ (∀ j, j ≠ 120 ∧ (j < 122 ∨ 130 ≤ j) ∧ j ≠ 116 ∧ j ≠ 117 → g2 j = g j)) := by
  refine Met.startS (cc := cX4_searchUnder) (maxL := 6) (ret := none) RX4 rfl (by decide) rfl (Nat.le_of_ble_eq_true rfl) ?_
  intro p e s m below meth c ls X Z hP hl
  have hx := X.1
  have hb := X.2.1
  have hS : va_S (wA ad 218) s.heap s.heap [] := va_S.rf
  have hA : ∀ i, i < 218 → wA ad 218 (ad i) := fun i h => ⟨i, h, rfl⟩
  have hfr : ∀ j, j ≠ 120 ∧ (j < 122 ∨ 130 ≤ j) ∧ j ≠ 116 ∧ j ≠ 117 → g j = g j := fun _ _ => rfl
  have hl : lv_has ls 6 [(0, .ref (ad 120)), (1, .ref (ad 3)), (2, .ref (ad 116)), (3, .ref (ad 118)), (4, .int ev)] := hl
  refine lv_aload_n hx hb dX4_searchUnder_0 rfl (lv_at hl 2 rfl) ?_
  refine lv_iload hx hb dX4_searchUnder_1 (lv_at hl 4 rfl) ?_
  obtain ⟨fsc_1, hgc_1, hOc_1⟩ := hW.obj (i := 116) (by decide) (sh_116 ad K)
  refine s_put X iX4_searchUnder_10 tyX10 tyX10_ok nmX10 hP hj hA hS (by decide) hgc_1 rfl 1 (by decide) (List.mem_of_getElem? (i := 1) rfl) rfl (ty := .int) (v := .int ev) (by decide +kernel) rfl rfl dX4_searchUnder_3 hW (sh_116 ad K) hOc_1 rfl ⟨ev, rfl, n_lo _, n_hi _⟩ (fun fsc_2 gc_2 H locs hOc_2 hkc_2 hnc_2 hgc_2 hfc_2 hWc_2 hP hS => ?_)
  have hfr_3 : ∀ j, j ≠ 120 ∧ (j < 122 ∨ 130 ≤ j) ∧ j ≠ 116 ∧ j ≠ 117 → gc_2 j = g j := fun j hj => (hfc_2 j (by omega)).trans (hfr j hj)
  refine lv_iconst (v := 0) hx hb dX4_searchUnder_6 (by decide) ?_
  refine lv_istore (lv' := [(5, .int 0), (0, .ref (ad 120)), (1, .ref (ad 3)), (2, .ref (ad 116)), (3, .ref (ad 118)), (4, .int ev)]) hx hb dX4_searchUnder_7 hl (by decide) rfl (fun ls hl => ?_)
  have HL9 : ∀ (n9 : Nat) (v9_5 : Int32) (G9 : Nat → va_E) (H : Heap) (locs : List Loc) (ls : Array Slot), (14 - v9_5.toInt).toNat < n9 → (0 ≤ v9_5.toInt ∧ v9_5.toInt ≤ 14) → WF (shp ad K) ad cs G9 → (∀ j, j ≠ 120 ∧ (j < 122 ∨ 130 ≤ j) ∧ j ≠ 116 ∧ j ≠ 117 → G9 j = g j) → va_P D vwCl (wL ad G9 218) H → va_S (wA ad 218) s.heap H locs → lv_has ls 6 [(5, .int v9_5), (0, .ref (ad 120)), (1, .ref (ad 3)), (2, .ref (ad 116)), (3, .ref (ad 118)), (4, .int ev)] → W p l e ({ frames := 4, cells := 0, slots := 0, locals := 94 } : Room) s m ([.ref (ad 120), .ref (ad 3), .ref (ad 116), .ref (ad 118), .int ev] : List Value).toArray below meth c H locs 0 0 (MQ below (qV D ad 218 (fun g2 => WF (shp ad K) ad cs g2 ∧ (∀ j, j ≠ 120 ∧ (j < 122 ∨ 130 ≤ j) ∧ j ≠ 116 ∧ j ≠ 117 → g2 j = g j))) ([.ref (ad 120), .ref (ad 3), .ref (ad 116), .ref (ad 118), .int ev] : List Value).toArray s 0 0 (wA ad 218)) (F0 m 9 ls []) := by
    intro n9
    induction n9 with
    | zero =>
      intro v9_5 G9 H locs ls hm9 hv9_0 hW9 hfr9 hP hS hl
      exact absurd hm9 (Nat.not_lt_zero _)
    | succ n9 ih9 =>
      intro v9_5 G9 H locs ls hm9 hv9_0 hW9 hfr9 hP hS hl
      refine lv_iload hx hb dX4_searchUnder_9 (lv_at hl 0 rfl) ?_
      refine lv_aload_n hx hb dX4_searchUnder_11 rfl (lv_at hl 2 rfl) ?_
      obtain ⟨fsc_4, hgc_4, hOc_4⟩ := hW9.obj (i := 3) (by decide) (sh_3 ad K)
      obtain ⟨x_6, hk_5, hlx_6, hhx_6⟩ := hOc_4.int 3 rfl
      refine q_get X iX4_searchUnder_6 hP (by decide) hgc_4 rfl 3 (by decide) (List.mem_of_getElem? (i := 2) rfl) (v := .int x_6) hk_5 dX4_searchUnder_12 ?_
      refine lv_icmp_ge (tgt := 52) hx hb dX4_searchUnder_15 (by decide) (fun hc_7 => ?_) (fun hc_7 => ?_)
      · have hhc_7 := n_le (rfl : x_6.toInt = x_6.toInt) (rfl : v9_5.toInt = v9_5.toInt) hc_7
        refine lv_aload_n hx hb dX4_searchUnder_52 rfl (lv_at hl 3 rfl) ?_
        refine lv_iconst (v := (-1)) hx hb dX4_searchUnder_53 (by decide) ?_
        obtain ⟨fsc_8, hgc_8, hOc_8⟩ := hW9.obj (i := 116) (by decide) (sh_116 ad K)
        refine s_put X iX4_searchUnder_10 tyX10 tyX10_ok nmX10 hP hj hA hS (by decide) hgc_8 rfl 1 (by decide) (List.mem_of_getElem? (i := 1) rfl) rfl (ty := .int) (v := .int (-1)) (by decide +kernel) rfl rfl dX4_searchUnder_54 hW9 (sh_116 ad K) hOc_8 rfl ⟨(-1), rfl, n_lo _, n_hi _⟩ (fun fsc_9 gc_9 H locs hOc_9 hkc_9 hnc_9 hgc_9 hfc_9 hWc_9 hP hS => ?_)
        have hg_11 := (hfc_9 3 (by decide)).trans hgc_4
        have hfr_10 : ∀ j, j ≠ 120 ∧ (j < 122 ∨ 130 ≤ j) ∧ j ≠ 116 ∧ j ≠ 117 → gc_9 j = g j := fun j hj => (hfc_9 j (by omega)).trans (hfr9 j hj)
        refine lv_aload_n hx hb dX4_searchUnder_57 rfl (lv_at hl 3 rfl) ?_
        refine lv_iconst (v := (-1)) hx hb dX4_searchUnder_58 (by decide) ?_
        refine s_put X iX4_searchUnder_10 tyX10 tyX10_ok nmX10 hP hj hA hS (by decide) hgc_9 rfl 2 (by decide) (List.mem_of_getElem? (i := 3) rfl) rfl (ty := .int) (v := .int (-1)) (by decide +kernel) rfl rfl dX4_searchUnder_59 hWc_9 (sh_116 ad K) hOc_9 rfl ⟨(-1), rfl, n_lo _, n_hi _⟩ (fun fsc_12 gc_12 H locs hOc_12 hkc_12 hnc_12 hgc_12 hfc_12 hWc_12 hP hS => ?_)
        have hk_13 := (hnc_12 1 (by decide)).trans hkc_9
        have hg_15 := (hfc_12 3 (by decide)).trans hg_11
        have hfr_14 : ∀ j, j ≠ 120 ∧ (j < 122 ∨ 130 ≤ j) ∧ j ≠ 116 ∧ j ≠ 117 → gc_12 j = g j := fun j hj => (hfc_12 j (by omega)).trans (hfr_10 j hj)
        refine lv_aload_n hx hb dX4_searchUnder_62 rfl (lv_at hl 3 rfl) ?_
        refine lv_aload_n hx hb dX4_searchUnder_63 rfl (lv_at hl 2 rfl) ?_
        refine lv_iload hx hb dX4_searchUnder_64 (lv_at hl 5 rfl) ?_
        refine s_callv (q := (RX10, TX10, 4)) (As := [.ref (ad 3), .int ev]) (rest := []) X Z (s_X10_passUnder l D cs ad kS K hKO hj gc_12 hWc_12 116 ev (by omega) (by omega)) (cwV 2 X.2.2.2.2.1 gg_X4_searchUnder_X10_passUnder rfl rfl rfl (by decide +kernel) ⟨Nat.le_of_ble_eq_true rfl, Nat.le_of_ble_eq_true rfl⟩) (by decide) hgc_12 rfl hP hA hS.2.1 hS rfl hl.1 rfl (Nat.le_of_ble_eq_true rfl) dX4_searchUnder_66 ⟨Nat.le_of_ble_eq_true rfl, Nat.le_of_ble_eq_true rfl⟩ (fun g_17 H locs hw_16 hP hS => ?_)
        obtain ⟨hw_16W, hw_16f⟩ := hw_16
        have hfr_19 : ∀ j, j ≠ 120 ∧ (j < 122 ∨ 130 ≤ j) ∧ j ≠ 116 ∧ j ≠ 117 → g_17 j = g j := fun j hj => (hw_16f j (by omega)).trans (hfr_14 j hj)
        have hg_20 := (hw_16f 3 (by omega)).trans hg_15
        have hg_21 := (hw_16f 116 (by omega)).trans hgc_12
        exact q_vret X hP hS ⟨hw_16W, hfr_19⟩ dX4_searchUnder_69
      · have hhc_7 := n_nle (rfl : x_6.toInt = x_6.toInt) (rfl : v9_5.toInt = v9_5.toInt) hc_7
        refine lv_aload_n hx hb dX4_searchUnder_18 rfl (lv_at hl 3 rfl) ?_
        refine lv_iload hx hb dX4_searchUnder_19 (lv_at hl 0 rfl) ?_
        obtain ⟨fsc_22, hgc_22, hOc_22⟩ := hW9.obj (i := 116) (by decide) (sh_116 ad K)
        refine s_put X iX4_searchUnder_10 tyX10 tyX10_ok nmX10 hP hj hA hS (by decide) hgc_22 rfl 2 (by decide) (List.mem_of_getElem? (i := 3) rfl) rfl (ty := .int) (v := .int v9_5) (by decide +kernel) rfl rfl dX4_searchUnder_21 hW9 (sh_116 ad K) hOc_22 rfl ⟨v9_5, rfl, n_lo _, n_hi _⟩ (fun fsc_23 gc_23 H locs hOc_23 hkc_23 hnc_23 hgc_23 hfc_23 hWc_23 hP hS => ?_)
        have hg_25 := (hfc_23 3 (by decide)).trans hgc_4
        have hfr_24 : ∀ j, j ≠ 120 ∧ (j < 122 ∨ 130 ≤ j) ∧ j ≠ 116 ∧ j ≠ 117 → gc_23 j = g j := fun j hj => (hfc_23 j (by omega)).trans (hfr9 j hj)
        refine lv_aload_n hx hb dX4_searchUnder_24 rfl (lv_at hl 3 rfl) ?_
        refine lv_aload_n hx hb dX4_searchUnder_25 rfl (lv_at hl 2 rfl) ?_
        refine lv_iload hx hb dX4_searchUnder_26 (lv_at hl 5 rfl) ?_
        refine s_callv (q := (RX10, TX10, 4)) (As := [.ref (ad 3), .int ev]) (rest := []) X Z (s_X10_passUnder l D cs ad kS K hKO hj gc_23 hWc_23 116 ev (by omega) (by omega)) (cwV 2 X.2.2.2.2.1 gg_X4_searchUnder_X10_passUnder rfl rfl rfl (by decide +kernel) ⟨Nat.le_of_ble_eq_true rfl, Nat.le_of_ble_eq_true rfl⟩) (by decide) hgc_23 rfl hP hA hS.2.1 hS rfl hl.1 rfl (Nat.le_of_ble_eq_true rfl) dX4_searchUnder_28 ⟨Nat.le_of_ble_eq_true rfl, Nat.le_of_ble_eq_true rfl⟩ (fun g_27 H locs hw_26 hP hS => ?_)
        obtain ⟨hw_26W, hw_26f⟩ := hw_26
        have hfr_29 : ∀ j, j ≠ 120 ∧ (j < 122 ∨ 130 ≤ j) ∧ j ≠ 116 ∧ j ≠ 117 → g_27 j = g j := fun j hj => (hw_26f j (by omega)).trans (hfr_24 j hj)
        have hg_30 := (hw_26f 3 (by omega)).trans hg_25
        have hg_31 := (hw_26f 116 (by omega)).trans hgc_23
        refine lv_aload_n hx hb dX4_searchUnder_31 rfl (lv_at hl 4 rfl) ?_
        refine lv_aload_n hx hb dX4_searchUnder_32 rfl (lv_at hl 2 rfl) ?_
        refine lv_aload_n hx hb dX4_searchUnder_33 rfl (lv_at hl 3 rfl) ?_
        obtain ⟨fsc_35, hgc_35, hOc_35⟩ := hw_26W.obj (i := 118) (by decide) (sh_118 ad K)
        refine s_calli (q := (RX3, TX3, 2)) (As := [.ref (ad 3), .ref (ad 116)]) (rest := []) X Z (s_X3_fits l D cs ad kS K hKO hj g_27 hw_26W 116 (by omega)) (cwV 2 X.2.2.2.2.1 gg_X4_searchUnder_X3_fits rfl rfl rfl (by decide +kernel) ⟨Nat.le_of_ble_eq_true rfl, Nat.le_of_ble_eq_true rfl⟩) (by decide) hgc_35 rfl hP hA hS.2.1 hS rfl hl.1 rfl (Nat.le_of_ble_eq_true rfl) dX4_searchUnder_34 ⟨Nat.le_of_ble_eq_true rfl, Nat.le_of_ble_eq_true rfl⟩ (fun r_34 g_33 H locs hw_32 hP hS => ?_)
        obtain ⟨hw_32g, hw_32⟩ := hw_32
        rw [hw_32g] at hP
        have HJ46 : ∀ (G46 : Nat → va_E) (H : Heap) (locs : List Loc) (ls : Array Slot), WF (shp ad K) ad cs G46 → (∀ j, j ≠ 120 ∧ (j < 122 ∨ 130 ≤ j) ∧ j ≠ 116 ∧ j ≠ 117 → G46 j = g j) → G46 3 = .inr (6, fsc_4) → G46 116 = .inr (10, fsc_23) → G46 118 = .inr (3, fsc_35) → va_P D vwCl (wL ad G46 218) H → va_S (wA ad 218) s.heap H locs → lv_has ls 6 [(5, .int v9_5), (0, .ref (ad 120)), (1, .ref (ad 3)), (2, .ref (ad 116)), (3, .ref (ad 118)), (4, .int ev)] → W p l e ({ frames := 4, cells := 0, slots := 0, locals := 94 } : Room) s m ([.ref (ad 120), .ref (ad 3), .ref (ad 116), .ref (ad 118), .int ev] : List Value).toArray below meth c H locs 0 0 (MQ below (qV D ad 218 (fun g2 => WF (shp ad K) ad cs g2 ∧ (∀ j, j ≠ 120 ∧ (j < 122 ∨ 130 ≤ j) ∧ j ≠ 116 ∧ j ≠ 117 → g2 j = g j))) ([.ref (ad 120), .ref (ad 3), .ref (ad 116), .ref (ad 118), .int ev] : List Value).toArray s 0 0 (wA ad 218)) (F0 m 46 ls []) := by
          intro G46 H locs ls hW46 hfr46 hg46_0 hg46_1 hg46_2 hP hS hl
          obtain ⟨x_36, ex_36⟩ : ∃ y : Int32, y = v9_5 + 1 := ⟨_, rfl⟩
          have hx_36 : x_36.toInt = v9_5.toInt + 1 := n_add rfl (by decide : (1 : Int32).toInt = 1) ex_36 (by omega) (by omega)
          refine lv_iinc (v := x_36) (lv' := [(5, .int x_36), (0, .ref (ad 120)), (1, .ref (ad 3)), (2, .ref (ad 116)), (3, .ref (ad 118)), (4, .int ev)]) hx hb dX4_searchUnder_46 hl (k := 0) rfl (by rw [ex_36]; rfl) (by decide) rfl (fun ls hl => ?_)
          refine lv_goto (tgt := 9) hx hb dX4_searchUnder_49 (by decide) ?_
          exact ih9 x_36 G46 _ _ ls (by omega) (by omega) hW46 hfr46 hP hS (lv_sub hl [0, 1, 2, 3, 4, 5] rfl)
        refine lv_if_eq (tgt := 46) hx hb dX4_searchUnder_37 (by decide) (fun hc_37 => ?_) (fun hc_37 => ?_)
        · have hhc_37 := n_eq (rfl : r_34.toInt = r_34.toInt) (by decide : (0 : Int32).toInt = 0) hc_37
          exact HJ46 g_27 _ _ ls hw_26W hfr_29 hg_30 hg_31 hgc_35 hP hS (lv_sub hl [0, 1, 2, 3, 4, 5] rfl)
        · have hhc_37 := n_ne (rfl : r_34.toInt = r_34.toInt) (by decide : (0 : Int32).toInt = 0) hc_37
          refine lv_aload_n hx hb dX4_searchUnder_40 rfl (lv_at hl 1 rfl) ?_
          refine lv_aload_n hx hb dX4_searchUnder_41 rfl (lv_at hl 2 rfl) ?_
          refine lv_aload_n hx hb dX4_searchUnder_42 rfl (lv_at hl 3 rfl) ?_
          obtain ⟨fsc_41, hgc_41, hOc_41⟩ := hw_26W.obj (i := 120) (by decide) (sh_120 ad K)
          refine s_callv (q := (RX4, TX4, 3)) (As := [.ref (ad 3), .ref (ad 116)]) (rest := []) X Z (s_X4_note l D cs ad kS K hKO hj g_27 hw_26W) (cwV 2 X.2.2.2.2.1 gg_X4_searchUnder_X4_note rfl rfl rfl (by decide +kernel) ⟨Nat.le_of_ble_eq_true rfl, Nat.le_of_ble_eq_true rfl⟩) (by decide) hgc_41 rfl hP hA hS.2.1 hS rfl hl.1 rfl (Nat.le_of_ble_eq_true rfl) dX4_searchUnder_43 ⟨Nat.le_of_ble_eq_true rfl, Nat.le_of_ble_eq_true rfl⟩ (fun g_39 H locs hw_38 hP hS => ?_)
          obtain ⟨hw_38W, hw_38f⟩ := hw_38
          have hfr_42 : ∀ j, j ≠ 120 ∧ (j < 122 ∨ 130 ≤ j) ∧ j ≠ 116 ∧ j ≠ 117 → g_39 j = g j := fun j hj => (hw_38f j (by omega)).trans (hfr_29 j hj)
          have hg_43 := (hw_38f 3 (by omega)).trans hg_30
          have hg_44 := (hw_38f 116 (by omega)).trans hg_31
          have hg_45 := (hw_38f 118 (by omega)).trans hgc_35
          exact HJ46 g_39 _ _ ls hw_38W hfr_42 hg_43 hg_44 hg_45 hP hS (lv_sub hl [0, 1, 2, 3, 4, 5] rfl)
  have hiv9_5 : (0 : Int32).toInt = 0 := by decide
  exact HL9 _ 0 gc_2 _ _ ls (Nat.lt_succ_self _) (by omega) hWc_2 hfr_3 hP hS (lv_sub hl [0, 1, 2, 3, 4, 5] rfl)

theorem dX4_search_0 : decode cX4_search 0 = .ok (.aload_n 0, 1) := by decide +kernel
theorem dX4_search_1 : decode cX4_search 1 = .ok (.iconst 0, 1) := by decide +kernel
theorem dX4_search_2 : decode cX4_search 2 = .ok (.putfield 16, 3) := by decide +kernel
theorem dX4_search_5 : decode cX4_search 5 = .ok (.aload_n 0, 1) := by decide +kernel
theorem dX4_search_6 : decode cX4_search 6 = .ok (.iconst (-1), 1) := by decide +kernel
theorem dX4_search_7 : decode cX4_search 7 = .ok (.putfield 20, 3) := by decide +kernel
theorem dX4_search_10 : decode cX4_search 10 = .ok (.iconst 0, 1) := by decide +kernel
theorem dX4_search_11 : decode cX4_search 11 = .ok (.istore 4, 2) := by decide +kernel
theorem dX4_search_13 : decode cX4_search 13 = .ok (.iload 4, 2) := by decide +kernel
theorem dX4_search_15 : decode cX4_search 15 = .ok (.bipush 8, 2) := by decide +kernel
theorem dX4_search_17 : decode cX4_search 17 = .ok (.if_icmp .ge 20, 3) := by decide +kernel
theorem dX4_search_20 : decode cX4_search 20 = .ok (.aload_n 0, 1) := by decide +kernel
theorem dX4_search_21 : decode cX4_search 21 = .ok (.getfield 11, 3) := by decide +kernel
theorem dX4_search_24 : decode cX4_search 24 = .ok (.iload 4, 2) := by decide +kernel
theorem dX4_search_26 : decode cX4_search 26 = .ok (.aaload, 1) := by decide +kernel
theorem dX4_search_27 : decode cX4_search 27 = .ok (.iconst 0, 1) := by decide +kernel
theorem dX4_search_28 : decode cX4_search 28 = .ok (.invokestatic 23, 3) := by decide +kernel
theorem dX4_search_31 : decode cX4_search 31 = .ok (.iinc 4 1, 3) := by decide +kernel
theorem dX4_search_34 : decode cX4_search 34 = .ok (.goto (-21), 3) := by decide +kernel
theorem dX4_search_37 : decode cX4_search 37 = .ok (.aload_n 2, 1) := by decide +kernel
theorem dX4_search_38 : decode cX4_search 38 = .ok (.iconst 0, 1) := by decide +kernel
theorem dX4_search_39 : decode cX4_search 39 = .ok (.putfield 29, 3) := by decide +kernel
theorem dX4_search_42 : decode cX4_search 42 = .ok (.aload_n 2, 1) := by decide +kernel
theorem dX4_search_43 : decode cX4_search 43 = .ok (.aload_n 1, 1) := by decide +kernel
theorem dX4_search_44 : decode cX4_search 44 = .ok (.invokevirtual 34, 3) := by decide +kernel
theorem dX4_search_47 : decode cX4_search 47 = .ok (.iconst 0, 1) := by decide +kernel
theorem dX4_search_48 : decode cX4_search 48 = .ok (.istore 4, 2) := by decide +kernel
theorem dX4_search_50 : decode cX4_search 50 = .ok (.iload 4, 2) := by decide +kernel
theorem dX4_search_52 : decode cX4_search 52 = .ok (.aload_n 1, 1) := by decide +kernel
theorem dX4_search_53 : decode cX4_search 53 = .ok (.getfield 38, 3) := by decide +kernel
theorem dX4_search_56 : decode cX4_search 56 = .ok (.if_icmp .ge 18, 3) := by decide +kernel
theorem dX4_search_59 : decode cX4_search 59 = .ok (.aload_n 0, 1) := by decide +kernel
theorem dX4_search_60 : decode cX4_search 60 = .ok (.aload_n 1, 1) := by decide +kernel
theorem dX4_search_61 : decode cX4_search 61 = .ok (.aload_n 2, 1) := by decide +kernel
theorem dX4_search_62 : decode cX4_search 62 = .ok (.aload_n 3, 1) := by decide +kernel
theorem dX4_search_63 : decode cX4_search 63 = .ok (.iload 4, 2) := by decide +kernel
theorem dX4_search_65 : decode cX4_search 65 = .ok (.invokevirtual 43, 3) := by decide +kernel
theorem dX4_search_68 : decode cX4_search 68 = .ok (.iinc 4 1, 3) := by decide +kernel
theorem dX4_search_71 : decode cX4_search 71 = .ok (.goto (-21), 3) := by decide +kernel
theorem dX4_search_74 : decode cX4_search 74 = .ok (.return_, 1) := by decide +kernel
noncomputable def vX4_search : List Cond := .code yX4_search cX4_search 5 none :: (([.fieldLink RX4 16 "IcicleClock$Slams" "fitting" "I", .fieldLink RX4 20 "IcicleClock$Slams" "first" "I", .fieldLink RX4 11 "IcicleClock$Slams" "tally" "[[I", .methodLink RX4 23 yJ7_fill_53178, .static yJ7_fill_53178, .initialized RJ7, .fieldLink RX4 29 "IcicleClock$Winter" "warm" "I", .methodLink RX4 34 yX10_passOver, .instanceMethod yX10_passOver, .selects RX10 yX10_passOver yX10_passOver, .initialized RX10, .fieldLink RX4 38 "IcicleClock$Street" "eaves" "I", .methodLink RX4 43 yX4_searchUnder, .instanceMethod yX4_searchUnder, .selects RX4 yX4_searchUnder yX4_searchUnder, .initialized RX4] : List Cond) ++ (wsX40 ++ (wsX100 ++ (wsX60 ++ (vJ7_fill_53178 ++ (vX10_passOver ++ vX4_searchUnder))))))
theorem iX4_search_4 : ∀ w ∈ wsX40, w ∈ vX4_search := fun _ h => List.mem_cons_of_mem _ (List.mem_append_right _ (List.mem_append_left _ h))
theorem iX4_search_10 : ∀ w ∈ wsX100, w ∈ vX4_search := fun _ h => List.mem_cons_of_mem _ (List.mem_append_right _ (List.mem_append_right _ (List.mem_append_left _ h)))
theorem iX4_search_6 : ∀ w ∈ wsX60, w ∈ vX4_search := fun _ h => List.mem_cons_of_mem _ (List.mem_append_right _ (List.mem_append_right _ (List.mem_append_right _ (List.mem_append_left _ h))))
theorem gs_X4_search : Gd vX4_search := Gd.cons (by decide +kernel) (Gd.app (Gd.r (by decide +kernel)) (Gd.app gwX_4 (Gd.app gwX_10 (Gd.app gwX_6 (Gd.app gs_J7_fill_53178 (Gd.app gs_X10_passOver gs_X4_searchUnder))))))
theorem gg_X4_search_J7_fill_53178 : GoodIn vX4_search (va_wsS RX4 23 yJ7_fill_53178 vJ7_fill_53178) := goodIn_app (goodIn_r _ [4, 5, 6] (by decide +kernel) (by decide +kernel)) (fun w h => ⟨List.mem_cons_of_mem _ (List.mem_append_right _ (List.mem_append_right _ (List.mem_append_right _ (List.mem_append_right _ (List.mem_append_left _ h))))), gs_J7_fill_53178 w h⟩)
theorem gg_X4_search_X10_passOver : GoodIn vX4_search (wsV RX4 34 RX10 yX10_passOver vX10_passOver) := goodIn_app (goodIn_r _ [8, 9, 10, 11] (by decide +kernel) (by decide +kernel)) (fun w h => ⟨List.mem_cons_of_mem _ (List.mem_append_right _ (List.mem_append_right _ (List.mem_append_right _ (List.mem_append_right _ (List.mem_append_right _ (List.mem_append_left _ h)))))), gs_X10_passOver w h⟩)
theorem gg_X4_search_X4_searchUnder : GoodIn vX4_search (wsV RX4 43 RX4 yX4_searchUnder vX4_searchUnder) := goodIn_app (goodIn_r _ [13, 14, 15, 16] (by decide +kernel) (by decide +kernel)) (fun w h => ⟨List.mem_cons_of_mem _ (List.mem_append_right _ (List.mem_append_right _ (List.mem_append_right _ (List.mem_append_right _ (List.mem_append_right _ (List.mem_append_right _ (h))))))), gs_X4_searchUnder w h⟩)
set_option maxHeartbeats 4000000 in
set_option maxRecDepth 100000 in
theorem s_X4_search (l : Launch) (D : va_G) (cs : Nat → ClassId) (ad : Nat → Nat) (kS : kSt) (K : sK) (hKO : KO K) (hj : wJ ad 218) (g : Nat → va_E) (hW : WF (shp ad K) ad cs g) : sV l yX4_search vX4_search { frames := 5, cells := 0, slots := 0, locals := 119 } D cs ad kS [.ref (ad 120), .ref (ad 3), .ref (ad 116), .ref (ad 118)] g (fun g2 => WF (shp ad K) ad cs g2 ∧ (∀ j, j ≠ 120 ∧ (j < 122 ∨ 130 ≤ j) ∧ j ≠ 116 ∧ j ≠ 117 → g2 j = g j)) := by
  refine Met.startS (cc := cX4_search) (maxL := 5) (ret := none) RX4 rfl (by decide) rfl (Nat.le_of_ble_eq_true rfl) ?_
  intro p e s m below meth c ls X Z hP hl
  have hx := X.1
  have hb := X.2.1
  have hS : va_S (wA ad 218) s.heap s.heap [] := va_S.rf
  have hA : ∀ i, i < 218 → wA ad 218 (ad i) := fun i h => ⟨i, h, rfl⟩
  have hfr : ∀ j, j ≠ 120 ∧ (j < 122 ∨ 130 ≤ j) ∧ j ≠ 116 ∧ j ≠ 117 → g j = g j := fun _ _ => rfl
  have hl : lv_has ls 5 [(0, .ref (ad 120)), (1, .ref (ad 3)), (2, .ref (ad 116)), (3, .ref (ad 118))] := hl
  refine lv_aload_n hx hb dX4_search_0 rfl (lv_at hl 0 rfl) ?_
  refine lv_iconst (v := 0) hx hb dX4_search_1 (by decide) ?_
  obtain ⟨fsc_1, hgc_1, hOc_1⟩ := hW.obj (i := 120) (by decide) (sh_120 ad K)
  refine s_put X iX4_search_4 tyX4 tyX4_ok nmX4 hP hj hA hS (by decide) hgc_1 rfl 0 (by decide) (List.mem_of_getElem? (i := 1) rfl) rfl (ty := .int) (v := .int 0) (by decide +kernel) rfl rfl dX4_search_2 hW (sh_120 ad K) hOc_1 rfl ⟨0, rfl, n_lo _, n_hi _⟩ (fun fsc_2 gc_2 H locs hOc_2 hkc_2 hnc_2 hgc_2 hfc_2 hWc_2 hP hS => ?_)
  have hfr_3 : ∀ j, j ≠ 120 ∧ (j < 122 ∨ 130 ≤ j) ∧ j ≠ 116 ∧ j ≠ 117 → gc_2 j = g j := fun j hj => (hfc_2 j (by omega)).trans (hfr j hj)
  refine lv_aload_n hx hb dX4_search_5 rfl (lv_at hl 0 rfl) ?_
  refine lv_iconst (v := (-1)) hx hb dX4_search_6 (by decide) ?_
  refine s_put X iX4_search_4 tyX4 tyX4_ok nmX4 hP hj hA hS (by decide) hgc_2 rfl 1 (by decide) (List.mem_of_getElem? (i := 2) rfl) rfl (ty := .int) (v := .int (-1)) (by decide +kernel) rfl rfl dX4_search_7 hWc_2 (sh_120 ad K) hOc_2 rfl ⟨(-1), rfl, n_lo _, n_hi _⟩ (fun fsc_4 gc_4 H locs hOc_4 hkc_4 hnc_4 hgc_4 hfc_4 hWc_4 hP hS => ?_)
  have hk_5 := (hnc_4 0 (by decide)).trans hkc_2
  have hfr_6 : ∀ j, j ≠ 120 ∧ (j < 122 ∨ 130 ≤ j) ∧ j ≠ 116 ∧ j ≠ 117 → gc_4 j = g j := fun j hj => (hfc_4 j (by omega)).trans (hfr_3 j hj)
  refine lv_iconst (v := 0) hx hb dX4_search_10 (by decide) ?_
  refine lv_istore (lv' := [(4, .int 0), (0, .ref (ad 120)), (1, .ref (ad 3)), (2, .ref (ad 116)), (3, .ref (ad 118))]) hx hb dX4_search_11 hl (by decide) rfl (fun ls hl => ?_)
  have HL13 : ∀ (n13 : Nat) (v13_4 : Int32) (G13 : Nat → va_E) (H : Heap) (locs : List Loc) (ls : Array Slot), (8 - v13_4.toInt).toNat < n13 → (0 ≤ v13_4.toInt ∧ v13_4.toInt ≤ 8) → WF (shp ad K) ad cs G13 → (∀ j, j ≠ 120 ∧ (j < 122 ∨ 130 ≤ j) ∧ j ≠ 116 ∧ j ≠ 117 → G13 j = g j) → va_P D vwCl (wL ad G13 218) H → va_S (wA ad 218) s.heap H locs → lv_has ls 5 [(4, .int v13_4), (0, .ref (ad 120)), (1, .ref (ad 3)), (2, .ref (ad 116)), (3, .ref (ad 118))] → W p l e ({ frames := 5, cells := 0, slots := 0, locals := 119 } : Room) s m ([.ref (ad 120), .ref (ad 3), .ref (ad 116), .ref (ad 118)] : List Value).toArray below meth c H locs 0 0 (MQ below (qV D ad 218 (fun g2 => WF (shp ad K) ad cs g2 ∧ (∀ j, j ≠ 120 ∧ (j < 122 ∨ 130 ≤ j) ∧ j ≠ 116 ∧ j ≠ 117 → g2 j = g j))) ([.ref (ad 120), .ref (ad 3), .ref (ad 116), .ref (ad 118)] : List Value).toArray s 0 0 (wA ad 218)) (F0 m 13 ls []) := by
    intro n13
    induction n13 with
    | zero =>
      intro v13_4 G13 H locs ls hm13 hv13_0 hW13 hfr13 hP hS hl
      exact absurd hm13 (Nat.not_lt_zero _)
    | succ n13 ih13 =>
      intro v13_4 G13 H locs ls hm13 hv13_0 hW13 hfr13 hP hS hl
      refine lv_iload hx hb dX4_search_13 (lv_at hl 0 rfl) ?_
      refine lv_bipush (v := 8) hx hb dX4_search_15 (by decide) ?_
      refine lv_icmp_ge (tgt := 37) hx hb dX4_search_17 (by decide) (fun hc_7 => ?_) (fun hc_7 => ?_)
      · have hhc_7 := n_le (by decide : (8 : Int32).toInt = 8) (rfl : v13_4.toInt = v13_4.toInt) hc_7
        refine lv_aload_n hx hb dX4_search_37 rfl (lv_at hl 3 rfl) ?_
        refine lv_iconst (v := 0) hx hb dX4_search_38 (by decide) ?_
        obtain ⟨fsc_8, hgc_8, hOc_8⟩ := hW13.obj (i := 116) (by decide) (sh_116 ad K)
        refine s_put X iX4_search_10 tyX10 tyX10_ok nmX10 hP hj hA hS (by decide) hgc_8 rfl 0 (by decide) (List.mem_of_getElem? (i := 7) rfl) rfl (ty := .int) (v := .int 0) (by decide +kernel) rfl rfl dX4_search_39 hW13 (sh_116 ad K) hOc_8 rfl ⟨0, rfl, n_lo _, n_hi _⟩ (fun fsc_9 gc_9 H locs hOc_9 hkc_9 hnc_9 hgc_9 hfc_9 hWc_9 hP hS => ?_)
        have hfr_10 : ∀ j, j ≠ 120 ∧ (j < 122 ∨ 130 ≤ j) ∧ j ≠ 116 ∧ j ≠ 117 → gc_9 j = g j := fun j hj => (hfc_9 j (by omega)).trans (hfr13 j hj)
        refine lv_aload_n hx hb dX4_search_42 rfl (lv_at hl 3 rfl) ?_
        refine lv_aload_n hx hb dX4_search_43 rfl (lv_at hl 2 rfl) ?_
        refine s_callv (q := (RX10, TX10, 4)) (As := [.ref (ad 3)]) (rest := []) X Z (s_X10_passOver l D cs ad kS K hKO hj gc_9 hWc_9 116 (by omega)) (cwV 1 X.2.2.2.2.1 gg_X4_search_X10_passOver rfl rfl rfl (by decide +kernel) ⟨Nat.le_of_ble_eq_true rfl, Nat.le_of_ble_eq_true rfl⟩) (by decide) hgc_9 rfl hP hA hS.2.1 hS rfl hl.1 rfl (Nat.le_of_ble_eq_true rfl) dX4_search_44 ⟨Nat.le_of_ble_eq_true rfl, Nat.le_of_ble_eq_true rfl⟩ (fun g_12 H locs hw_11 hP hS => ?_)
        obtain ⟨hw_11W, hw_11f⟩ := hw_11
        have hfr_14 : ∀ j, j ≠ 120 ∧ (j < 122 ∨ 130 ≤ j) ∧ j ≠ 116 ∧ j ≠ 117 → g_12 j = g j := fun j hj => (hw_11f j (by omega)).trans (hfr_10 j hj)
        have hg_15 := (hw_11f 116 (by omega)).trans hgc_9
        refine lv_iconst (v := 0) hx hb dX4_search_47 (by decide) ?_
        refine lv_istore (lv' := [(4, .int 0), (0, .ref (ad 120)), (1, .ref (ad 3)), (2, .ref (ad 116)), (3, .ref (ad 118))]) hx hb dX4_search_48 hl (by decide) rfl (fun ls hl => ?_)
        have HL50 : ∀ (n50 : Nat) (v50_4 : Int32) (G50 : Nat → va_E) (H : Heap) (locs : List Loc) (ls : Array Slot), (5 - v50_4.toInt).toNat < n50 → (0 ≤ v50_4.toInt ∧ v50_4.toInt ≤ 5) → WF (shp ad K) ad cs G50 → (∀ j, j ≠ 120 ∧ (j < 122 ∨ 130 ≤ j) ∧ j ≠ 116 ∧ j ≠ 117 → G50 j = g j) → va_P D vwCl (wL ad G50 218) H → va_S (wA ad 218) s.heap H locs → lv_has ls 5 [(4, .int v50_4), (0, .ref (ad 120)), (1, .ref (ad 3)), (2, .ref (ad 116)), (3, .ref (ad 118))] → W p l e ({ frames := 5, cells := 0, slots := 0, locals := 119 } : Room) s m ([.ref (ad 120), .ref (ad 3), .ref (ad 116), .ref (ad 118)] : List Value).toArray below meth c H locs 0 0 (MQ below (qV D ad 218 (fun g2 => WF (shp ad K) ad cs g2 ∧ (∀ j, j ≠ 120 ∧ (j < 122 ∨ 130 ≤ j) ∧ j ≠ 116 ∧ j ≠ 117 → g2 j = g j))) ([.ref (ad 120), .ref (ad 3), .ref (ad 116), .ref (ad 118)] : List Value).toArray s 0 0 (wA ad 218)) (F0 m 50 ls []) := by
          intro n50
          induction n50 with
          | zero =>
            intro v50_4 G50 H locs ls hm50 hv50_0 hW50 hfr50 hP hS hl
            exact absurd hm50 (Nat.not_lt_zero _)
          | succ n50 ih50 =>
            intro v50_4 G50 H locs ls hm50 hv50_0 hW50 hfr50 hP hS hl
            refine lv_iload hx hb dX4_search_50 (lv_at hl 0 rfl) ?_
            refine lv_aload_n hx hb dX4_search_52 rfl (lv_at hl 2 rfl) ?_
            obtain ⟨fsc_16, hgc_16, hOc_16⟩ := hW50.obj (i := 3) (by decide) (sh_3 ad K)
            obtain ⟨x_18, hk_17, hlx_18, hhx_18⟩ := hOc_16.int 4 rfl
            refine q_get X iX4_search_6 hP (by decide) hgc_16 rfl 4 (by decide) (List.mem_of_getElem? (i := 12) rfl) (v := .int x_18) hk_17 dX4_search_53 ?_
            refine lv_icmp_ge (tgt := 74) hx hb dX4_search_56 (by decide) (fun hc_19 => ?_) (fun hc_19 => ?_)
            · have hhc_19 := n_le (rfl : x_18.toInt = x_18.toInt) (rfl : v50_4.toInt = v50_4.toInt) hc_19
              exact q_vret X hP hS ⟨hW50, hfr50⟩ dX4_search_74
            · have hhc_19 := n_nle (rfl : x_18.toInt = x_18.toInt) (rfl : v50_4.toInt = v50_4.toInt) hc_19
              refine lv_aload_n hx hb dX4_search_59 rfl (lv_at hl 1 rfl) ?_
              refine lv_aload_n hx hb dX4_search_60 rfl (lv_at hl 2 rfl) ?_
              refine lv_aload_n hx hb dX4_search_61 rfl (lv_at hl 3 rfl) ?_
              refine lv_aload_n hx hb dX4_search_62 rfl (lv_at hl 4 rfl) ?_
              refine lv_iload hx hb dX4_search_63 (lv_at hl 0 rfl) ?_
              obtain ⟨fsc_23, hgc_23, hOc_23⟩ := hW50.obj (i := 120) (by decide) (sh_120 ad K)
              refine s_callv (q := (RX4, TX4, 3)) (As := [.ref (ad 3), .ref (ad 116), .ref (ad 118), .int v50_4]) (rest := []) X Z (s_X4_searchUnder l D cs ad kS K hKO hj G50 hW50 v50_4 (by omega)) (cwV 4 X.2.2.2.2.1 gg_X4_search_X4_searchUnder rfl rfl rfl (by decide +kernel) ⟨Nat.le_of_ble_eq_true rfl, Nat.le_of_ble_eq_true rfl⟩) (by decide) hgc_23 rfl hP hA hS.2.1 hS rfl hl.1 rfl (Nat.le_of_ble_eq_true rfl) dX4_search_65 ⟨Nat.le_of_ble_eq_true rfl, Nat.le_of_ble_eq_true rfl⟩ (fun g_21 H locs hw_20 hP hS => ?_)
              obtain ⟨hw_20W, hw_20f⟩ := hw_20
              have hfr_24 : ∀ j, j ≠ 120 ∧ (j < 122 ∨ 130 ≤ j) ∧ j ≠ 116 ∧ j ≠ 117 → g_21 j = g j := fun j hj => (hw_20f j (by omega)).trans (hfr50 j hj)
              have hg_25 := (hw_20f 3 (by omega)).trans hgc_16
              obtain ⟨x_26, ex_26⟩ : ∃ y : Int32, y = v50_4 + 1 := ⟨_, rfl⟩
              have hx_26 : x_26.toInt = v50_4.toInt + 1 := n_add rfl (by decide : (1 : Int32).toInt = 1) ex_26 (by omega) (by omega)
              refine lv_iinc (v := x_26) (lv' := [(4, .int x_26), (0, .ref (ad 120)), (1, .ref (ad 3)), (2, .ref (ad 116)), (3, .ref (ad 118))]) hx hb dX4_search_68 hl (k := 0) rfl (by rw [ex_26]; rfl) (by decide) rfl (fun ls hl => ?_)
              refine lv_goto (tgt := 50) hx hb dX4_search_71 (by decide) ?_
              exact ih50 x_26 g_21 _ _ ls (by omega) (by omega) hw_20W hfr_24 hP hS (lv_sub hl [0, 1, 2, 3, 4] rfl)
        have hiv50_4 : (0 : Int32).toInt = 0 := by decide
        exact HL50 _ 0 g_12 _ _ ls (Nat.lt_succ_self _) (by omega) hw_11W hfr_14 hP hS (lv_sub hl [0, 1, 2, 3, 4] rfl)
      · have hhc_7 := n_nle (by decide : (8 : Int32).toInt = 8) (rfl : v13_4.toInt = v13_4.toInt) hc_7
        refine lv_aload_n hx hb dX4_search_20 rfl (lv_at hl 1 rfl) ?_
        obtain ⟨fsc_27, hgc_27, hOc_27⟩ := hW13.obj (i := 120) (by decide) (sh_120 ad K)
        have hk_28 := hOc_27.ref 2 rfl
        refine q_get X iX4_search_4 hP (by decide) hgc_27 rfl 2 (by decide) (List.mem_of_getElem? (i := 3) rfl) (v := .ref (ad 121)) hk_28 dX4_search_21 ?_
        refine lv_iload hx hb dX4_search_24 (lv_at hl 0 rfl) ?_
        obtain ⟨fc_29, hgc_29, hFc_29⟩ := hW13.aref (i := 121) (by decide) (sh_121 ad K)
        obtain ⟨e_30, h_e_30, e_e_30⟩ : ∃ q : Nat, q < 8 ∧ v13_4.toNatClampNeg = q := ⟨_, by have := n_cl (rfl : v13_4.toInt = v13_4.toInt) (by omega); omega, rfl⟩
        refine s_aald X hP 6 rfl rfl (by decide) hgc_29 (n_in (rfl : v13_4.toInt = v13_4.toInt) (by omega) (by omega)) (v := ad (122 + e_30)) (by rw [e_e_30, hFc_29 _ h_e_30, Nat.one_mul]) dX4_search_26 ?_
        refine lv_iconst (v := 0) hx hb dX4_search_27 (by decide) ?_
        refine s_callSv (As := [.ref (ad (122 + e_30)), .int 0]) (rest := []) X Z (s_fill_122 l D cs ad kS K hKO hj G13 hW13 e_30 0 (by omega)) (va_cwS 2 X.2.2.2.2.1 gg_X4_search_J7_fill_53178 rfl rfl rfl (by decide +kernel) ⟨Nat.le_of_ble_eq_true rfl, Nat.le_of_ble_eq_true rfl⟩) hP hA hS.2.1 hS rfl hl.1 rfl (Nat.le_of_ble_eq_true rfl) dX4_search_28 ⟨Nat.le_of_ble_eq_true rfl, Nat.le_of_ble_eq_true rfl⟩ (fun g_32 H locs hw_31 hP hS => ?_)
        obtain ⟨hw_31W, hw_31f⟩ := hw_31
        have hfr_34 : ∀ j, j ≠ 120 ∧ (j < 122 ∨ 130 ≤ j) ∧ j ≠ 116 ∧ j ≠ 117 → g_32 j = g j := fun j hj => (hw_31f j (by omega)).trans (hfr13 j hj)
        have hg_35 := (hw_31f 120 (by omega)).trans hgc_27
        have hg_36 := (hw_31f 121 (by omega)).trans hgc_29
        obtain ⟨x_37, ex_37⟩ : ∃ y : Int32, y = v13_4 + 1 := ⟨_, rfl⟩
        have hx_37 : x_37.toInt = v13_4.toInt + 1 := n_add rfl (by decide : (1 : Int32).toInt = 1) ex_37 (by omega) (by omega)
        refine lv_iinc (v := x_37) (lv' := [(4, .int x_37), (0, .ref (ad 120)), (1, .ref (ad 3)), (2, .ref (ad 116)), (3, .ref (ad 118))]) hx hb dX4_search_31 hl (k := 0) rfl (by rw [ex_37]; rfl) (by decide) rfl (fun ls hl => ?_)
        refine lv_goto (tgt := 13) hx hb dX4_search_34 (by decide) ?_
        exact ih13 x_37 g_32 _ _ ls (by omega) (by omega) hw_31W hfr_34 hP hS (lv_sub hl [0, 1, 2, 3, 4] rfl)
  have hiv13_4 : (0 : Int32).toInt = 0 := by decide
  exact HL13 _ 0 gc_4 _ _ ls (Nat.lt_succ_self _) (by omega) hWc_4 hfr_6 hP hS (lv_sub hl [0, 1, 2, 3, 4] rfl)

theorem dX4_bestQuestion_0 : decode cX4_bestQuestion 0 = .ok (.iconst (-1), 1) := by decide +kernel
theorem dX4_bestQuestion_1 : decode cX4_bestQuestion 1 = .ok (.istore_n 2, 1) := by decide +kernel
theorem dX4_bestQuestion_2 : decode cX4_bestQuestion 2 = .ok (.aload_n 0, 1) := by decide +kernel
theorem dX4_bestQuestion_3 : decode cX4_bestQuestion 3 = .ok (.getfield 16, 3) := by decide +kernel
theorem dX4_bestQuestion_6 : decode cX4_bestQuestion 6 = .ok (.istore_n 3, 1) := by decide +kernel
theorem dX4_bestQuestion_7 : decode cX4_bestQuestion 7 = .ok (.iconst 0, 1) := by decide +kernel
theorem dX4_bestQuestion_8 : decode cX4_bestQuestion 8 = .ok (.istore 4, 2) := by decide +kernel
theorem dX4_bestQuestion_10 : decode cX4_bestQuestion 10 = .ok (.iload 4, 2) := by decide +kernel
theorem dX4_bestQuestion_12 : decode cX4_bestQuestion 12 = .ok (.aload_n 1, 1) := by decide +kernel
theorem dX4_bestQuestion_13 : decode cX4_bestQuestion 13 = .ok (.getfield 70, 3) := by decide +kernel
theorem dX4_bestQuestion_16 : decode cX4_bestQuestion 16 = .ok (.if_icmp .ge 59, 3) := by decide +kernel
theorem dX4_bestQuestion_19 : decode cX4_bestQuestion 19 = .ok (.iconst 0, 1) := by decide +kernel
theorem dX4_bestQuestion_20 : decode cX4_bestQuestion 20 = .ok (.istore 5, 2) := by decide +kernel
theorem dX4_bestQuestion_22 : decode cX4_bestQuestion 22 = .ok (.iconst 0, 1) := by decide +kernel
theorem dX4_bestQuestion_23 : decode cX4_bestQuestion 23 = .ok (.istore 6, 2) := by decide +kernel
theorem dX4_bestQuestion_25 : decode cX4_bestQuestion 25 = .ok (.iload 6, 2) := by decide +kernel
theorem dX4_bestQuestion_27 : decode cX4_bestQuestion 27 = .ok (.aload_n 1, 1) := by decide +kernel
theorem dX4_bestQuestion_28 : decode cX4_bestQuestion 28 = .ok (.getfield 50, 3) := by decide +kernel
theorem dX4_bestQuestion_31 : decode cX4_bestQuestion 31 = .ok (.if_icmp .gt 26, 3) := by decide +kernel
theorem dX4_bestQuestion_34 : decode cX4_bestQuestion 34 = .ok (.iload 5, 2) := by decide +kernel
theorem dX4_bestQuestion_36 : decode cX4_bestQuestion 36 = .ok (.aload_n 0, 1) := by decide +kernel
theorem dX4_bestQuestion_37 : decode cX4_bestQuestion 37 = .ok (.getfield 11, 3) := by decide +kernel
theorem dX4_bestQuestion_40 : decode cX4_bestQuestion 40 = .ok (.iload 4, 2) := by decide +kernel
theorem dX4_bestQuestion_42 : decode cX4_bestQuestion 42 = .ok (.aaload, 1) := by decide +kernel
theorem dX4_bestQuestion_43 : decode cX4_bestQuestion 43 = .ok (.iload 6, 2) := by decide +kernel
theorem dX4_bestQuestion_45 : decode cX4_bestQuestion 45 = .ok (.iaload, 1) := by decide +kernel
theorem dX4_bestQuestion_46 : decode cX4_bestQuestion 46 = .ok (.invokestatic 77, 3) := by decide +kernel
theorem dX4_bestQuestion_49 : decode cX4_bestQuestion 49 = .ok (.istore 5, 2) := by decide +kernel
theorem dX4_bestQuestion_51 : decode cX4_bestQuestion 51 = .ok (.iinc 6 1, 3) := by decide +kernel
theorem dX4_bestQuestion_54 : decode cX4_bestQuestion 54 = .ok (.goto (-29), 3) := by decide +kernel
theorem dX4_bestQuestion_57 : decode cX4_bestQuestion 57 = .ok (.iload 5, 2) := by decide +kernel
theorem dX4_bestQuestion_59 : decode cX4_bestQuestion 59 = .ok (.iload_n 3, 1) := by decide +kernel
theorem dX4_bestQuestion_60 : decode cX4_bestQuestion 60 = .ok (.if_icmp .ge 9, 3) := by decide +kernel
theorem dX4_bestQuestion_63 : decode cX4_bestQuestion 63 = .ok (.iload 5, 2) := by decide +kernel
theorem dX4_bestQuestion_65 : decode cX4_bestQuestion 65 = .ok (.istore_n 3, 1) := by decide +kernel
theorem dX4_bestQuestion_66 : decode cX4_bestQuestion 66 = .ok (.iload 4, 2) := by decide +kernel
theorem dX4_bestQuestion_68 : decode cX4_bestQuestion 68 = .ok (.istore_n 2, 1) := by decide +kernel
theorem dX4_bestQuestion_69 : decode cX4_bestQuestion 69 = .ok (.iinc 4 1, 3) := by decide +kernel
theorem dX4_bestQuestion_72 : decode cX4_bestQuestion 72 = .ok (.goto (-62), 3) := by decide +kernel
theorem dX4_bestQuestion_75 : decode cX4_bestQuestion 75 = .ok (.iload_n 2, 1) := by decide +kernel
theorem dX4_bestQuestion_76 : decode cX4_bestQuestion 76 = .ok (.ireturn, 1) := by decide +kernel
noncomputable def vX4_bestQuestion : List Cond := .code yX4_bestQuestion cX4_bestQuestion 7 (some .int) :: (([.fieldLink RX4 16 "IcicleClock$Slams" "fitting" "I", .fieldLink RX4 70 "IcicleClock$Street" "icicles" "I", .fieldLink RX4 50 "IcicleClock$Street" "days" "I", .fieldLink RX4 11 "IcicleClock$Slams" "tally" "[[I", .methodLink RX4 77 Lib.Math.max.name, .static Lib.Math.max.name, .initialized "java/lang/Math", .code Lib.Math.max.name Lib.Math.max.code 2 (some .int)] : List Cond) ++ (wsX40 ++ wsX60))
theorem iX4_bestQuestion_4 : ∀ w ∈ wsX40, w ∈ vX4_bestQuestion := fun _ h => List.mem_cons_of_mem _ (List.mem_append_right _ (List.mem_append_left _ h))
theorem iX4_bestQuestion_6 : ∀ w ∈ wsX60, w ∈ vX4_bestQuestion := fun _ h => List.mem_cons_of_mem _ (List.mem_append_right _ (List.mem_append_right _ (h)))
theorem gs_X4_bestQuestion : Gd vX4_bestQuestion := Gd.cons (by decide +kernel) (Gd.app (Gd.r (by decide +kernel)) (Gd.app gwX_4 gwX_6))
set_option maxHeartbeats 4000000 in
set_option maxRecDepth 100000 in
theorem s_X4_bestQuestion (l : Launch) (D : va_G) (cs : Nat → ClassId) (ad : Nat → Nat) (kS : kSt) (K : sK) (hKO : KO K) (hj : wJ ad 218) (g : Nat → va_E) (hW : WF (shp ad K) ad cs g) : sI l yX4_bestQuestion vX4_bestQuestion { frames := 1, cells := 0, slots := 0, locals := 13 } D cs ad kS [.ref (ad 120), .ref (ad 3)] g (fun r g2 => g2 = g) := by
  refine Met.startS (cc := cX4_bestQuestion) (maxL := 7) (ret := (some .int)) RX4 rfl (by decide) rfl (Nat.le_of_ble_eq_true rfl) ?_
  intro p e s m below meth c ls X Z hP hl
  have hx := X.1
  have hb := X.2.1
  have hS : va_S (wA ad 218) s.heap s.heap [] := va_S.rf
  have hA : ∀ i, i < 218 → wA ad 218 (ad i) := fun i h => ⟨i, h, rfl⟩
  have hl : lv_has ls 7 [(0, .ref (ad 120)), (1, .ref (ad 3))] := hl
  refine lv_iconst (v := (-1)) hx hb dX4_bestQuestion_0 (by decide) ?_
  refine lv_istore_n (lv' := [(2, .int (-1)), (0, .ref (ad 120)), (1, .ref (ad 3))]) hx hb dX4_bestQuestion_1 rfl hl (by decide) rfl (fun ls hl => ?_)
  refine lv_aload_n hx hb dX4_bestQuestion_2 rfl (lv_at hl 1 rfl) ?_
  obtain ⟨fsc_1, hgc_1, hOc_1⟩ := hW.obj (i := 120) (by decide) (sh_120 ad K)
  obtain ⟨x_3, hk_2, -⟩ := hOc_1.int 0 rfl
  refine q_get X iX4_bestQuestion_4 hP (by decide) hgc_1 rfl 0 (by decide) (List.mem_of_getElem? (i := 1) rfl) (v := .int x_3) hk_2 dX4_bestQuestion_3 ?_
  refine lv_istore_n (lv' := [(3, .int x_3), (2, .int (-1)), (0, .ref (ad 120)), (1, .ref (ad 3))]) hx hb dX4_bestQuestion_6 rfl hl (by decide) rfl (fun ls hl => ?_)
  refine lv_iconst (v := 0) hx hb dX4_bestQuestion_7 (by decide) ?_
  refine lv_istore (lv' := [(4, .int 0), (3, .int x_3), (2, .int (-1)), (0, .ref (ad 120)), (1, .ref (ad 3))]) hx hb dX4_bestQuestion_8 hl (by decide) rfl (fun ls hl => ?_)
  have HL10 : ∀ (n10 : Nat) (v10_4 : Int32) (v10_3 : Int32) (v10_2 : Int32) (H : Heap) (locs : List Loc) (ls : Array Slot), (8 - v10_4.toInt).toNat < n10 → (0 ≤ v10_4.toInt ∧ v10_4.toInt ≤ 8) → ((-1) ≤ v10_2.toInt ∧ v10_2.toInt ≤ 7) → va_P D vwCl (wL ad g 218) H → va_S (wA ad 218) s.heap H locs → lv_has ls 7 [(4, .int v10_4), (3, .int v10_3), (2, .int v10_2), (0, .ref (ad 120)), (1, .ref (ad 3))] → W p l e ({ frames := 1, cells := 0, slots := 0, locals := 13 } : Room) s m ([.ref (ad 120), .ref (ad 3)] : List Value).toArray below meth c H locs 0 0 (MQ below (qI D ad 218 (fun r g2 => g2 = g)) ([.ref (ad 120), .ref (ad 3)] : List Value).toArray s 0 0 (wA ad 218)) (F0 m 10 ls []) := by
    intro n10
    induction n10 with
    | zero =>
      intro v10_4 v10_3 v10_2 H locs ls hm10 hv10_0 hv10_1 hP hS hl
      exact absurd hm10 (Nat.not_lt_zero _)
    | succ n10 ih10 =>
      intro v10_4 v10_3 v10_2 H locs ls hm10 hv10_0 hv10_1 hP hS hl
      refine lv_iload hx hb dX4_bestQuestion_10 (lv_at hl 0 rfl) ?_
      refine lv_aload_n hx hb dX4_bestQuestion_12 rfl (lv_at hl 4 rfl) ?_
      obtain ⟨fsc_4, hgc_4, hOc_4⟩ := hW.obj (i := 3) (by decide) (sh_3 ad K)
      obtain ⟨x_6, hk_5, hlx_6, hhx_6⟩ := hOc_4.int 5 rfl
      refine q_get X iX4_bestQuestion_6 hP (by decide) hgc_4 rfl 5 (by decide) (List.mem_of_getElem? (i := 2) rfl) (v := .int x_6) hk_5 dX4_bestQuestion_13 ?_
      refine lv_icmp_ge (tgt := 75) hx hb dX4_bestQuestion_16 (by decide) (fun hc_7 => ?_) (fun hc_7 => ?_)
      · have hhc_7 := n_le (rfl : x_6.toInt = x_6.toInt) (rfl : v10_4.toInt = v10_4.toInt) hc_7
        refine lv_iload_n hx hb dX4_bestQuestion_75 rfl (lv_at hl 2 rfl) ?_
        exact q_iret X hP hS rfl dX4_bestQuestion_76
      · have hhc_7 := n_nle (rfl : x_6.toInt = x_6.toInt) (rfl : v10_4.toInt = v10_4.toInt) hc_7
        refine lv_iconst (v := 0) hx hb dX4_bestQuestion_19 (by decide) ?_
        refine lv_istore (lv' := [(5, .int 0), (4, .int v10_4), (3, .int v10_3), (2, .int v10_2), (0, .ref (ad 120)), (1, .ref (ad 3))]) hx hb dX4_bestQuestion_20 hl (by decide) rfl (fun ls hl => ?_)
        refine lv_iconst (v := 0) hx hb dX4_bestQuestion_22 (by decide) ?_
        refine lv_istore (lv' := [(6, .int 0), (5, .int 0), (4, .int v10_4), (3, .int v10_3), (2, .int v10_2), (0, .ref (ad 120)), (1, .ref (ad 3))]) hx hb dX4_bestQuestion_23 hl (by decide) rfl (fun ls hl => ?_)
        have HL25 : ∀ (n25 : Nat) (v25_6 : Int32) (v25_5 : Int32) (H : Heap) (locs : List Loc) (ls : Array Slot), (15 - v25_6.toInt).toNat < n25 → (0 ≤ v25_6.toInt ∧ v25_6.toInt ≤ 15) → (0 ≤ v25_5.toInt) → va_P D vwCl (wL ad g 218) H → va_S (wA ad 218) s.heap H locs → lv_has ls 7 [(6, .int v25_6), (5, .int v25_5), (4, .int v10_4), (3, .int v10_3), (2, .int v10_2), (0, .ref (ad 120)), (1, .ref (ad 3))] → W p l e ({ frames := 1, cells := 0, slots := 0, locals := 13 } : Room) s m ([.ref (ad 120), .ref (ad 3)] : List Value).toArray below meth c H locs 0 0 (MQ below (qI D ad 218 (fun r g2 => g2 = g)) ([.ref (ad 120), .ref (ad 3)] : List Value).toArray s 0 0 (wA ad 218)) (F0 m 25 ls []) := by
          intro n25
          induction n25 with
          | zero =>
            intro v25_6 v25_5 H locs ls hm25 hv25_0 hv25_1 hP hS hl
            exact absurd hm25 (Nat.not_lt_zero _)
          | succ n25 ih25 =>
            intro v25_6 v25_5 H locs ls hm25 hv25_0 hv25_1 hP hS hl
            refine lv_iload hx hb dX4_bestQuestion_25 (lv_at hl 0 rfl) ?_
            refine lv_aload_n hx hb dX4_bestQuestion_27 rfl (lv_at hl 6 rfl) ?_
            obtain ⟨x_9, hk_8, hlx_9, hhx_9⟩ := hOc_4.int 3 rfl
            refine q_get X iX4_bestQuestion_6 hP (by decide) hgc_4 rfl 3 (by decide) (List.mem_of_getElem? (i := 3) rfl) (v := .int x_9) hk_8 dX4_bestQuestion_28 ?_
            refine lv_icmp_gt (tgt := 57) hx hb dX4_bestQuestion_31 (by decide) (fun hc_10 => ?_) (fun hc_10 => ?_)
            · have hhc_10 := n_lt (rfl : x_9.toInt = x_9.toInt) (rfl : v25_6.toInt = v25_6.toInt) hc_10
              refine lv_iload hx hb dX4_bestQuestion_57 (lv_at hl 1 rfl) ?_
              refine lv_iload_n hx hb dX4_bestQuestion_59 rfl (lv_at hl 3 rfl) ?_
              have HJ69 : ∀ (v69_3 : Int32) (v69_2 : Int32) (H : Heap) (locs : List Loc) (ls : Array Slot), ((-1) ≤ v69_2.toInt ∧ v69_2.toInt ≤ 7) → va_P D vwCl (wL ad g 218) H → va_S (wA ad 218) s.heap H locs → lv_has ls 7 [(4, .int v10_4), (3, .int v69_3), (2, .int v69_2), (0, .ref (ad 120)), (1, .ref (ad 3))] → W p l e ({ frames := 1, cells := 0, slots := 0, locals := 13 } : Room) s m ([.ref (ad 120), .ref (ad 3)] : List Value).toArray below meth c H locs 0 0 (MQ below (qI D ad 218 (fun r g2 => g2 = g)) ([.ref (ad 120), .ref (ad 3)] : List Value).toArray s 0 0 (wA ad 218)) (F0 m 69 ls []) := by
                intro v69_3 v69_2 H locs ls hv69_0 hP hS hl
                obtain ⟨x_11, ex_11⟩ : ∃ y : Int32, y = v10_4 + 1 := ⟨_, rfl⟩
                have hx_11 : x_11.toInt = v10_4.toInt + 1 := n_add rfl (by decide : (1 : Int32).toInt = 1) ex_11 (by omega) (by omega)
                refine lv_iinc (v := x_11) (lv' := [(4, .int x_11), (3, .int v69_3), (2, .int v69_2), (0, .ref (ad 120)), (1, .ref (ad 3))]) hx hb dX4_bestQuestion_69 hl (k := 0) rfl (by rw [ex_11]; rfl) (by decide) rfl (fun ls hl => ?_)
                refine lv_goto (tgt := 10) hx hb dX4_bestQuestion_72 (by decide) ?_
                exact ih10 x_11 v69_3 v69_2 _ _ ls (by omega) (by omega) (by omega) hP hS (lv_sub hl [0, 1, 2, 3, 4] rfl)
              refine lv_icmp_ge (tgt := 69) hx hb dX4_bestQuestion_60 (by decide) (fun hc_12 => ?_) (fun hc_12 => ?_)
              · have hhc_12 := n_le (rfl : v10_3.toInt = v10_3.toInt) (rfl : v25_5.toInt = v25_5.toInt) hc_12
                have := n_hi v10_3
                have := n_lo v10_3
                have := n_hi v25_5
                exact HJ69 v10_3 v10_2 _ _ ls (by omega) hP hS (lv_sub hl [2, 3, 4, 5, 6] rfl)
              · have hhc_12 := n_nle (rfl : v10_3.toInt = v10_3.toInt) (rfl : v25_5.toInt = v25_5.toInt) hc_12
                have := n_hi v10_3
                have := n_lo v10_3
                have := n_hi v25_5
                refine lv_iload hx hb dX4_bestQuestion_63 (lv_at hl 1 rfl) ?_
                refine lv_istore_n (lv' := [(3, .int v25_5), (6, .int v25_6), (5, .int v25_5), (4, .int v10_4), (2, .int v10_2), (0, .ref (ad 120)), (1, .ref (ad 3))]) hx hb dX4_bestQuestion_65 rfl hl (by decide) rfl (fun ls hl => ?_)
                refine lv_iload hx hb dX4_bestQuestion_66 (lv_at hl 3 rfl) ?_
                refine lv_istore_n (lv' := [(2, .int v10_4), (3, .int v25_5), (6, .int v25_6), (5, .int v25_5), (4, .int v10_4), (0, .ref (ad 120)), (1, .ref (ad 3))]) hx hb dX4_bestQuestion_68 rfl hl (by decide) rfl (fun ls hl => ?_)
                exact HJ69 v25_5 v10_4 _ _ ls (by omega) hP hS (lv_sub hl [4, 1, 0, 5, 6] rfl)
            · have hhc_10 := n_nlt (rfl : x_9.toInt = x_9.toInt) (rfl : v25_6.toInt = v25_6.toInt) hc_10
              refine lv_iload hx hb dX4_bestQuestion_34 (lv_at hl 1 rfl) ?_
              refine lv_aload_n hx hb dX4_bestQuestion_36 rfl (lv_at hl 5 rfl) ?_
              have hk_13 := hOc_1.ref 2 rfl
              refine q_get X iX4_bestQuestion_4 hP (by decide) hgc_1 rfl 2 (by decide) (List.mem_of_getElem? (i := 4) rfl) (v := .ref (ad 121)) hk_13 dX4_bestQuestion_37 ?_
              refine lv_iload hx hb dX4_bestQuestion_40 (lv_at hl 2 rfl) ?_
              obtain ⟨fc_14, hgc_14, hFc_14⟩ := hW.aref (i := 121) (by decide) (sh_121 ad K)
              obtain ⟨e_15, h_e_15, e_e_15⟩ : ∃ q : Nat, q < 8 ∧ v10_4.toNatClampNeg = q := ⟨_, by have := n_cl (rfl : v10_4.toInt = v10_4.toInt) (by omega); omega, rfl⟩
              refine s_aald X hP 6 rfl rfl (by decide) hgc_14 (n_in (rfl : v10_4.toInt = v10_4.toInt) (by omega) (by omega)) (v := ad (122 + e_15)) (by rw [e_e_15, hFc_14 _ h_e_15, Nat.one_mul]) dX4_bestQuestion_42 ?_
              refine lv_iload hx hb dX4_bestQuestion_43 (lv_at hl 0 rfl) ?_
              obtain ⟨fc_16, hgc_16, hFc_16⟩ := hW.arr (i := (122 + e_15)) (by omega) (shR_122 ad K h_e_15)
              refine q_iald X hP (by omega) hgc_16 (n_in (rfl : v25_6.toInt = v25_6.toInt) (by omega) (by omega)) dX4_bestQuestion_45 ?_
              refine lv_topi (fun z_17 ez_17 => ?_)
              refine va_mmax hx hb (X.2.2.2.1.trans hl.1.symm) X.2.2.2.2.2.1 (X.2.2.2.2.1 _ (List.mem_of_getElem? (i := 5) rfl)) (X.2.2.2.2.1 _ (List.mem_of_getElem? (i := 6) rfl)) (X.2.2.2.2.1 _ (List.mem_of_getElem? (i := 7) rfl)) (X.2.2.2.2.1 _ (List.mem_of_getElem? (i := 8) rfl)) (Nat.le_of_ble_eq_true rfl) (Nat.le_of_ble_eq_true rfl) (Nat.le_of_ble_eq_true rfl) (Nat.le_of_ble_eq_true rfl) dX4_bestQuestion_46 ?_
              refine lv_topi (fun z_18 ez_18 => ?_)
              have hz_18 := n_max (rfl : v25_5.toInt = v25_5.toInt) (rfl : z_17.toInt = z_17.toInt) ez_18
              refine lv_istore (lv' := [(5, .int z_18), (6, .int v25_6), (4, .int v10_4), (3, .int v10_3), (2, .int v10_2), (0, .ref (ad 120)), (1, .ref (ad 3))]) hx hb dX4_bestQuestion_49 hl (by decide) rfl (fun ls hl => ?_)
              obtain ⟨x_19, ex_19⟩ : ∃ y : Int32, y = v25_6 + 1 := ⟨_, rfl⟩
              have hx_19 : x_19.toInt = v25_6.toInt + 1 := n_add rfl (by decide : (1 : Int32).toInt = 1) ex_19 (by omega) (by omega)
              refine lv_iinc (v := x_19) (lv' := [(6, .int x_19), (5, .int z_18), (4, .int v10_4), (3, .int v10_3), (2, .int v10_2), (0, .ref (ad 120)), (1, .ref (ad 3))]) hx hb dX4_bestQuestion_51 hl (k := 1) rfl (by rw [ex_19]; rfl) (by decide) rfl (fun ls hl => ?_)
              refine lv_goto (tgt := 25) hx hb dX4_bestQuestion_54 (by decide) ?_
              exact ih25 x_19 z_18 _ _ ls (by omega) (by omega) (by omega) hP hS (lv_sub hl [0, 1, 2, 3, 4, 5, 6] rfl)
        have hiv25_6 : (0 : Int32).toInt = 0 := by decide
        have hiv25_5 : (0 : Int32).toInt = 0 := by decide
        exact HL25 _ 0 0 _ _ ls (Nat.lt_succ_self _) (by omega) (by omega) hP hS (lv_sub hl [0, 1, 2, 3, 4, 5, 6] rfl)
  have hiv10_4 : (0 : Int32).toInt = 0 := by decide
  have hiv10_2 : ((-1) : Int32).toInt = -1 := by decide
  exact HL10 _ 0 x_3 (-1) _ _ ls (Nat.lt_succ_self _) (by omega) (by omega) hP hS (lv_sub hl [0, 1, 2, 3, 4] rfl)

theorem dX11_slams_0 : decode cX11_slams 0 = .ok (.aload_n 0, 1) := by decide +kernel
theorem dX11_slams_1 : decode cX11_slams 1 = .ok (.iload_n 1, 1) := by decide +kernel
theorem dX11_slams_2 : decode cX11_slams 2 = .ok (.iconst 1, 1) := by decide +kernel
theorem dX11_slams_3 : decode cX11_slams 3 = .ok (.aload_n 0, 1) := by decide +kernel
theorem dX11_slams_4 : decode cX11_slams 4 = .ok (.getfield 19, 3) := by decide +kernel
theorem dX11_slams_7 : decode cX11_slams 7 = .ok (.getfield 177, 3) := by decide +kernel
theorem dX11_slams_10 : decode cX11_slams 10 = .ok (.invokevirtual 260, 3) := by decide +kernel
theorem dX11_slams_13 : decode cX11_slams 13 = .ok (.istore_n 2, 1) := by decide +kernel
theorem dX11_slams_14 : decode cX11_slams 14 = .ok (.iload_n 2, 1) := by decide +kernel
theorem dX11_slams_15 : decode cX11_slams 15 = .ok (.ifCond .eq 5, 3) := by decide +kernel
theorem dX11_slams_18 : decode cX11_slams 18 = .ok (.iload_n 2, 1) := by decide +kernel
theorem dX11_slams_19 : decode cX11_slams 19 = .ok (.ireturn, 1) := by decide +kernel
theorem dX11_slams_20 : decode cX11_slams 20 = .ok (.aload_n 0, 1) := by decide +kernel
theorem dX11_slams_21 : decode cX11_slams 21 = .ok (.getfield 61, 3) := by decide +kernel
theorem dX11_slams_24 : decode cX11_slams 24 = .ok (.aload_n 0, 1) := by decide +kernel
theorem dX11_slams_25 : decode cX11_slams 25 = .ok (.getfield 19, 3) := by decide +kernel
theorem dX11_slams_28 : decode cX11_slams 28 = .ok (.aload_n 0, 1) := by decide +kernel
theorem dX11_slams_29 : decode cX11_slams 29 = .ok (.getfield 48, 3) := by decide +kernel
theorem dX11_slams_32 : decode cX11_slams 32 = .ok (.aload_n 0, 1) := by decide +kernel
theorem dX11_slams_33 : decode cX11_slams 33 = .ok (.getfield 54, 3) := by decide +kernel
theorem dX11_slams_36 : decode cX11_slams 36 = .ok (.invokevirtual 264, 3) := by decide +kernel
theorem dX11_slams_39 : decode cX11_slams 39 = .ok (.aload_n 0, 1) := by decide +kernel
theorem dX11_slams_40 : decode cX11_slams 40 = .ok (.getfield 61, 3) := by decide +kernel
theorem dX11_slams_43 : decode cX11_slams 43 = .ok (.getfield 268, 3) := by decide +kernel
theorem dX11_slams_46 : decode cX11_slams 46 = .ok (.ireturn, 1) := by decide +kernel
noncomputable def vX11_slams : List Cond := .code yX11_slams cX11_slams 3 (some .int) :: (([.fieldLink RX11 19 "IcicleClock" "now" "LIcicleClock$Street;", .fieldLink RX11 177 "IcicleClock$Street" "days" "I", .methodLink RX11 260 yX11_refusal, .instanceMethod yX11_refusal, .selects RX11 yX11_refusal yX11_refusal, .initialized RX11, .fieldLink RX11 61 "IcicleClock" "slammings" "LIcicleClock$Slams;", .fieldLink RX11 48 "IcicleClock" "whatIf" "LIcicleClock$Winter;", .fieldLink RX11 54 "IcicleClock" "seen" "LIcicleClock$Seen;", .methodLink RX11 264 yX4_search, .instanceMethod yX4_search, .selects RX4 yX4_search yX4_search, .initialized RX4, .fieldLink RX11 268 "IcicleClock$Slams" "fitting" "I"] : List Cond) ++ (wsX110 ++ (wsX60 ++ (wsX40 ++ (vX11_refusal ++ vX4_search)))))
theorem iX11_slams_11 : ∀ w ∈ wsX110, w ∈ vX11_slams := fun _ h => List.mem_cons_of_mem _ (List.mem_append_right _ (List.mem_append_left _ h))
theorem iX11_slams_6 : ∀ w ∈ wsX60, w ∈ vX11_slams := fun _ h => List.mem_cons_of_mem _ (List.mem_append_right _ (List.mem_append_right _ (List.mem_append_left _ h)))
theorem iX11_slams_4 : ∀ w ∈ wsX40, w ∈ vX11_slams := fun _ h => List.mem_cons_of_mem _ (List.mem_append_right _ (List.mem_append_right _ (List.mem_append_right _ (List.mem_append_left _ h))))
theorem gs_X11_slams : Gd vX11_slams := Gd.cons (by decide +kernel) (Gd.app (Gd.r (by decide +kernel)) (Gd.app gwX_11 (Gd.app gwX_6 (Gd.app gwX_4 (Gd.app gs_X11_refusal gs_X4_search)))))
theorem gg_X11_slams_X11_refusal : GoodIn vX11_slams (wsV RX11 260 RX11 yX11_refusal vX11_refusal) := goodIn_app (goodIn_r _ [3, 4, 5, 6] (by decide +kernel) (by decide +kernel)) (fun w h => ⟨List.mem_cons_of_mem _ (List.mem_append_right _ (List.mem_append_right _ (List.mem_append_right _ (List.mem_append_right _ (List.mem_append_left _ h))))), gs_X11_refusal w h⟩)
theorem gg_X11_slams_X4_search : GoodIn vX11_slams (wsV RX11 264 RX4 yX4_search vX4_search) := goodIn_app (goodIn_r _ [10, 11, 12, 13] (by decide +kernel) (by decide +kernel)) (fun w h => ⟨List.mem_cons_of_mem _ (List.mem_append_right _ (List.mem_append_right _ (List.mem_append_right _ (List.mem_append_right _ (List.mem_append_right _ (h)))))), gs_X4_search w h⟩)
set_option maxHeartbeats 4000000 in
set_option maxRecDepth 100000 in
theorem s_X11_slams (l : Launch) (D : va_G) (cs : Nat → ClassId) (ad : Nat → Nat) (kS : kSt) (K : sK) (hKO : KO K) (hj : wJ ad 218) (g : Nat → va_E) (hW : WF (shp ad K) ad cs g) (sl : Int32) : sI l yX11_slams vX11_slams { frames := 6, cells := 0, slots := 0, locals := 143 } D cs ad kS [.ref (ad 0), .int sl] g (fun r g2 => WF (shp ad K) ad cs g2 ∧ (∀ j, j ≠ 120 ∧ (j < 122 ∨ 130 ≤ j) ∧ j ≠ 116 ∧ j ≠ 117 ∧ j ≠ 118 ∧ j ≠ 119 → g2 j = g j)) := by
  refine Met.startS (cc := cX11_slams) (maxL := 3) (ret := (some .int)) RX11 rfl (by decide) rfl (Nat.le_of_ble_eq_true rfl) ?_
  intro p e s m below meth c ls X Z hP hl
  have hx := X.1
  have hb := X.2.1
  have hS : va_S (wA ad 218) s.heap s.heap [] := va_S.rf
  have hA : ∀ i, i < 218 → wA ad 218 (ad i) := fun i h => ⟨i, h, rfl⟩
  have hfr : ∀ j, j ≠ 120 ∧ (j < 122 ∨ 130 ≤ j) ∧ j ≠ 116 ∧ j ≠ 117 ∧ j ≠ 118 ∧ j ≠ 119 → g j = g j := fun _ _ => rfl
  have hl : lv_has ls 3 [(0, .ref (ad 0)), (1, .int sl)] := hl
  refine lv_aload_n hx hb dX11_slams_0 rfl (lv_at hl 0 rfl) ?_
  refine lv_iload_n hx hb dX11_slams_1 rfl (lv_at hl 1 rfl) ?_
  refine lv_iconst (v := 1) hx hb dX11_slams_2 (by decide) ?_
  refine lv_aload_n hx hb dX11_slams_3 rfl (lv_at hl 0 rfl) ?_
  obtain ⟨fsc_1, hgc_1, hOc_1⟩ := hW.obj (i := 0) (by decide) (sh_0 ad K)
  have hk_2 := hOc_1.ref 1 rfl
  refine q_get X iX11_slams_11 hP (by decide) hgc_1 rfl 1 (by decide) (List.mem_of_getElem? (i := 1) rfl) (v := .ref (ad 3)) hk_2 dX11_slams_4 ?_
  obtain ⟨fsc_3, hgc_3, hOc_3⟩ := hW.obj (i := 3) (by decide) (sh_3 ad K)
  obtain ⟨x_5, hk_4, hlx_5, hhx_5⟩ := hOc_3.int 3 rfl
  refine q_get X iX11_slams_6 hP (by decide) hgc_3 rfl 3 (by decide) (List.mem_of_getElem? (i := 2) rfl) (v := .int x_5) hk_4 dX11_slams_7 ?_
  refine s_calli (q := (RX11, TX11, 14)) (As := [.int sl, .int 1, .int x_5]) (rest := []) X Z (s_X11_refusal l D cs ad kS K hKO hj g hW sl 1 x_5) (cwV 3 X.2.2.2.2.1 gg_X11_slams_X11_refusal rfl rfl rfl (by decide +kernel) ⟨Nat.le_of_ble_eq_true rfl, Nat.le_of_ble_eq_true rfl⟩) (by decide) hgc_1 rfl hP hA hS.2.1 hS rfl hl.1 rfl (Nat.le_of_ble_eq_true rfl) dX11_slams_10 ⟨Nat.le_of_ble_eq_true rfl, Nat.le_of_ble_eq_true rfl⟩ (fun r_8 g_7 H locs hw_6 hP hS => ?_)
  obtain ⟨hw_6W, hw_6f⟩ := hw_6
  have hfr_9 : ∀ j, j ≠ 120 ∧ (j < 122 ∨ 130 ≤ j) ∧ j ≠ 116 ∧ j ≠ 117 ∧ j ≠ 118 ∧ j ≠ 119 → g_7 j = g j := fun j hj => (hw_6f j (by omega)).trans (hfr j hj)
  have hg_10 := (hw_6f 0 (by omega)).trans hgc_1
  have hg_11 := (hw_6f 3 (by omega)).trans hgc_3
  refine lv_istore_n (lv' := [(2, .int r_8), (0, .ref (ad 0)), (1, .int sl)]) hx hb dX11_slams_13 rfl hl (by decide) rfl (fun ls hl => ?_)
  refine lv_iload_n hx hb dX11_slams_14 rfl (lv_at hl 0 rfl) ?_
  refine lv_if_eq (tgt := 20) hx hb dX11_slams_15 (by decide) (fun hc_12 => ?_) (fun hc_12 => ?_)
  · have hhc_12 := n_eq (rfl : r_8.toInt = r_8.toInt) (by decide : (0 : Int32).toInt = 0) hc_12
    refine lv_aload_n hx hb dX11_slams_20 rfl (lv_at hl 1 rfl) ?_
    have hk_13 := hOc_1.ref 9 rfl
    refine q_get X iX11_slams_11 hP (by decide) hg_10 rfl 9 (by decide) (List.mem_of_getElem? (i := 7) rfl) (v := .ref (ad 120)) hk_13 dX11_slams_21 ?_
    refine lv_aload_n hx hb dX11_slams_24 rfl (lv_at hl 1 rfl) ?_
    refine q_get X iX11_slams_11 hP (by decide) hg_10 rfl 1 (by decide) (List.mem_of_getElem? (i := 1) rfl) (v := .ref (ad 3)) hk_2 dX11_slams_25 ?_
    refine lv_aload_n hx hb dX11_slams_28 rfl (lv_at hl 1 rfl) ?_
    have hk_14 := hOc_1.ref 7 rfl
    refine q_get X iX11_slams_11 hP (by decide) hg_10 rfl 7 (by decide) (List.mem_of_getElem? (i := 8) rfl) (v := .ref (ad 116)) hk_14 dX11_slams_29 ?_
    refine lv_aload_n hx hb dX11_slams_32 rfl (lv_at hl 1 rfl) ?_
    have hk_15 := hOc_1.ref 8 rfl
    refine q_get X iX11_slams_11 hP (by decide) hg_10 rfl 8 (by decide) (List.mem_of_getElem? (i := 9) rfl) (v := .ref (ad 118)) hk_15 dX11_slams_33 ?_
    obtain ⟨fsc_19, hgc_19, hOc_19⟩ := hw_6W.obj (i := 120) (by decide) (sh_120 ad K)
    refine s_callv (q := (RX4, TX4, 3)) (As := [.ref (ad 3), .ref (ad 116), .ref (ad 118)]) (rest := []) X Z (s_X4_search l D cs ad kS K hKO hj g_7 hw_6W) (cwV 3 X.2.2.2.2.1 gg_X11_slams_X4_search rfl rfl rfl (by decide +kernel) ⟨Nat.le_of_ble_eq_true rfl, Nat.le_of_ble_eq_true rfl⟩) (by decide) hgc_19 rfl hP hA hS.2.1 hS rfl hl.1 rfl (Nat.le_of_ble_eq_true rfl) dX11_slams_36 ⟨Nat.le_of_ble_eq_true rfl, Nat.le_of_ble_eq_true rfl⟩ (fun g_17 H locs hw_16 hP hS => ?_)
    obtain ⟨hw_16W, hw_16f⟩ := hw_16
    have hfr_20 : ∀ j, j ≠ 120 ∧ (j < 122 ∨ 130 ≤ j) ∧ j ≠ 116 ∧ j ≠ 117 ∧ j ≠ 118 ∧ j ≠ 119 → g_17 j = g j := fun j hj => (hw_16f j (by omega)).trans (hfr_9 j hj)
    have hg_21 := (hw_16f 0 (by omega)).trans hg_10
    have hg_22 := (hw_16f 3 (by omega)).trans hg_11
    refine lv_aload_n hx hb dX11_slams_39 rfl (lv_at hl 1 rfl) ?_
    refine q_get X iX11_slams_11 hP (by decide) hg_21 rfl 9 (by decide) (List.mem_of_getElem? (i := 7) rfl) (v := .ref (ad 120)) hk_13 dX11_slams_40 ?_
    obtain ⟨fsc_23, hgc_23, hOc_23⟩ := hw_16W.obj (i := 120) (by decide) (sh_120 ad K)
    obtain ⟨x_25, hk_24, -⟩ := hOc_23.int 0 rfl
    refine q_get X iX11_slams_4 hP (by decide) hgc_23 rfl 0 (by decide) (List.mem_of_getElem? (i := 14) rfl) (v := .int x_25) hk_24 dX11_slams_43 ?_
    exact q_iret X hP hS ⟨hw_16W, hfr_20⟩ dX11_slams_46
  · have hhc_12 := n_ne (rfl : r_8.toInt = r_8.toInt) (by decide : (0 : Int32).toInt = 0) hc_12
    refine lv_iload_n hx hb dX11_slams_18 rfl (lv_at hl 0 rfl) ?_
    exact q_iret X hP hS ⟨hw_6W, hfr_9⟩ dX11_slams_19

theorem dX11_slam_0 : decode cX11_slam 0 = .ok (.aload_n 0, 1) := by decide +kernel
theorem dX11_slam_1 : decode cX11_slam 1 = .ok (.iload_n 1, 1) := by decide +kernel
theorem dX11_slam_2 : decode cX11_slam 2 = .ok (.iconst 1, 1) := by decide +kernel
theorem dX11_slam_3 : decode cX11_slam 3 = .ok (.aload_n 0, 1) := by decide +kernel
theorem dX11_slam_4 : decode cX11_slam 4 = .ok (.getfield 19, 3) := by decide +kernel
theorem dX11_slam_7 : decode cX11_slam 7 = .ok (.getfield 177, 3) := by decide +kernel
theorem dX11_slam_10 : decode cX11_slam 10 = .ok (.invokevirtual 260, 3) := by decide +kernel
theorem dX11_slam_13 : decode cX11_slam 13 = .ok (.istore_n 2, 1) := by decide +kernel
theorem dX11_slam_14 : decode cX11_slam 14 = .ok (.iload_n 2, 1) := by decide +kernel
theorem dX11_slam_15 : decode cX11_slam 15 = .ok (.ifCond .eq 5, 3) := by decide +kernel
theorem dX11_slam_18 : decode cX11_slam 18 = .ok (.iload_n 2, 1) := by decide +kernel
theorem dX11_slam_19 : decode cX11_slam 19 = .ok (.ireturn, 1) := by decide +kernel
theorem dX11_slam_20 : decode cX11_slam 20 = .ok (.aload_n 0, 1) := by decide +kernel
theorem dX11_slam_21 : decode cX11_slam 21 = .ok (.getfield 61, 3) := by decide +kernel
theorem dX11_slam_24 : decode cX11_slam 24 = .ok (.aload_n 0, 1) := by decide +kernel
theorem dX11_slam_25 : decode cX11_slam 25 = .ok (.getfield 19, 3) := by decide +kernel
theorem dX11_slam_28 : decode cX11_slam 28 = .ok (.aload_n 0, 1) := by decide +kernel
theorem dX11_slam_29 : decode cX11_slam 29 = .ok (.getfield 48, 3) := by decide +kernel
theorem dX11_slam_32 : decode cX11_slam 32 = .ok (.aload_n 0, 1) := by decide +kernel
theorem dX11_slam_33 : decode cX11_slam 33 = .ok (.getfield 54, 3) := by decide +kernel
theorem dX11_slam_36 : decode cX11_slam 36 = .ok (.invokevirtual 264, 3) := by decide +kernel
theorem dX11_slam_39 : decode cX11_slam 39 = .ok (.aload_n 0, 1) := by decide +kernel
theorem dX11_slam_40 : decode cX11_slam 40 = .ok (.getfield 61, 3) := by decide +kernel
theorem dX11_slam_43 : decode cX11_slam 43 = .ok (.getfield 271, 3) := by decide +kernel
theorem dX11_slam_46 : decode cX11_slam 46 = .ok (.ireturn, 1) := by decide +kernel
noncomputable def vX11_slam : List Cond := .code yX11_slam cX11_slam 3 (some .int) :: (([.fieldLink RX11 19 "IcicleClock" "now" "LIcicleClock$Street;", .fieldLink RX11 177 "IcicleClock$Street" "days" "I", .methodLink RX11 260 yX11_refusal, .instanceMethod yX11_refusal, .selects RX11 yX11_refusal yX11_refusal, .initialized RX11, .fieldLink RX11 61 "IcicleClock" "slammings" "LIcicleClock$Slams;", .fieldLink RX11 48 "IcicleClock" "whatIf" "LIcicleClock$Winter;", .fieldLink RX11 54 "IcicleClock" "seen" "LIcicleClock$Seen;", .methodLink RX11 264 yX4_search, .instanceMethod yX4_search, .selects RX4 yX4_search yX4_search, .initialized RX4, .fieldLink RX11 271 "IcicleClock$Slams" "first" "I"] : List Cond) ++ (wsX110 ++ (wsX60 ++ (wsX40 ++ (vX11_refusal ++ vX4_search)))))
theorem iX11_slam_11 : ∀ w ∈ wsX110, w ∈ vX11_slam := fun _ h => List.mem_cons_of_mem _ (List.mem_append_right _ (List.mem_append_left _ h))
theorem iX11_slam_6 : ∀ w ∈ wsX60, w ∈ vX11_slam := fun _ h => List.mem_cons_of_mem _ (List.mem_append_right _ (List.mem_append_right _ (List.mem_append_left _ h)))
theorem iX11_slam_4 : ∀ w ∈ wsX40, w ∈ vX11_slam := fun _ h => List.mem_cons_of_mem _ (List.mem_append_right _ (List.mem_append_right _ (List.mem_append_right _ (List.mem_append_left _ h))))
theorem gs_X11_slam : Gd vX11_slam := Gd.cons (by decide +kernel) (Gd.app (Gd.r (by decide +kernel)) (Gd.app gwX_11 (Gd.app gwX_6 (Gd.app gwX_4 (Gd.app gs_X11_refusal gs_X4_search)))))
theorem gg_X11_slam_X11_refusal : GoodIn vX11_slam (wsV RX11 260 RX11 yX11_refusal vX11_refusal) := goodIn_app (goodIn_r _ [3, 4, 5, 6] (by decide +kernel) (by decide +kernel)) (fun w h => ⟨List.mem_cons_of_mem _ (List.mem_append_right _ (List.mem_append_right _ (List.mem_append_right _ (List.mem_append_right _ (List.mem_append_left _ h))))), gs_X11_refusal w h⟩)
theorem gg_X11_slam_X4_search : GoodIn vX11_slam (wsV RX11 264 RX4 yX4_search vX4_search) := goodIn_app (goodIn_r _ [10, 11, 12, 13] (by decide +kernel) (by decide +kernel)) (fun w h => ⟨List.mem_cons_of_mem _ (List.mem_append_right _ (List.mem_append_right _ (List.mem_append_right _ (List.mem_append_right _ (List.mem_append_right _ (h)))))), gs_X4_search w h⟩)
set_option maxHeartbeats 4000000 in
set_option maxRecDepth 100000 in
theorem s_X11_slam (l : Launch) (D : va_G) (cs : Nat → ClassId) (ad : Nat → Nat) (kS : kSt) (K : sK) (hKO : KO K) (hj : wJ ad 218) (g : Nat → va_E) (hW : WF (shp ad K) ad cs g) (sl : Int32) : sI l yX11_slam vX11_slam { frames := 6, cells := 0, slots := 0, locals := 143 } D cs ad kS [.ref (ad 0), .int sl] g (fun r g2 => WF (shp ad K) ad cs g2 ∧ (∀ j, j ≠ 120 ∧ (j < 122 ∨ 130 ≤ j) ∧ j ≠ 116 ∧ j ≠ 117 ∧ j ≠ 118 ∧ j ≠ 119 → g2 j = g j)) := by
  refine Met.startS (cc := cX11_slam) (maxL := 3) (ret := (some .int)) RX11 rfl (by decide) rfl (Nat.le_of_ble_eq_true rfl) ?_
  intro p e s m below meth c ls X Z hP hl
  have hx := X.1
  have hb := X.2.1
  have hS : va_S (wA ad 218) s.heap s.heap [] := va_S.rf
  have hA : ∀ i, i < 218 → wA ad 218 (ad i) := fun i h => ⟨i, h, rfl⟩
  have hfr : ∀ j, j ≠ 120 ∧ (j < 122 ∨ 130 ≤ j) ∧ j ≠ 116 ∧ j ≠ 117 ∧ j ≠ 118 ∧ j ≠ 119 → g j = g j := fun _ _ => rfl
  have hl : lv_has ls 3 [(0, .ref (ad 0)), (1, .int sl)] := hl
  refine lv_aload_n hx hb dX11_slam_0 rfl (lv_at hl 0 rfl) ?_
  refine lv_iload_n hx hb dX11_slam_1 rfl (lv_at hl 1 rfl) ?_
  refine lv_iconst (v := 1) hx hb dX11_slam_2 (by decide) ?_
  refine lv_aload_n hx hb dX11_slam_3 rfl (lv_at hl 0 rfl) ?_
  obtain ⟨fsc_1, hgc_1, hOc_1⟩ := hW.obj (i := 0) (by decide) (sh_0 ad K)
  have hk_2 := hOc_1.ref 1 rfl
  refine q_get X iX11_slam_11 hP (by decide) hgc_1 rfl 1 (by decide) (List.mem_of_getElem? (i := 1) rfl) (v := .ref (ad 3)) hk_2 dX11_slam_4 ?_
  obtain ⟨fsc_3, hgc_3, hOc_3⟩ := hW.obj (i := 3) (by decide) (sh_3 ad K)
  obtain ⟨x_5, hk_4, hlx_5, hhx_5⟩ := hOc_3.int 3 rfl
  refine q_get X iX11_slam_6 hP (by decide) hgc_3 rfl 3 (by decide) (List.mem_of_getElem? (i := 2) rfl) (v := .int x_5) hk_4 dX11_slam_7 ?_
  refine s_calli (q := (RX11, TX11, 14)) (As := [.int sl, .int 1, .int x_5]) (rest := []) X Z (s_X11_refusal l D cs ad kS K hKO hj g hW sl 1 x_5) (cwV 3 X.2.2.2.2.1 gg_X11_slam_X11_refusal rfl rfl rfl (by decide +kernel) ⟨Nat.le_of_ble_eq_true rfl, Nat.le_of_ble_eq_true rfl⟩) (by decide) hgc_1 rfl hP hA hS.2.1 hS rfl hl.1 rfl (Nat.le_of_ble_eq_true rfl) dX11_slam_10 ⟨Nat.le_of_ble_eq_true rfl, Nat.le_of_ble_eq_true rfl⟩ (fun r_8 g_7 H locs hw_6 hP hS => ?_)
  obtain ⟨hw_6W, hw_6f⟩ := hw_6
  have hfr_9 : ∀ j, j ≠ 120 ∧ (j < 122 ∨ 130 ≤ j) ∧ j ≠ 116 ∧ j ≠ 117 ∧ j ≠ 118 ∧ j ≠ 119 → g_7 j = g j := fun j hj => (hw_6f j (by omega)).trans (hfr j hj)
  have hg_10 := (hw_6f 0 (by omega)).trans hgc_1
  have hg_11 := (hw_6f 3 (by omega)).trans hgc_3
  refine lv_istore_n (lv' := [(2, .int r_8), (0, .ref (ad 0)), (1, .int sl)]) hx hb dX11_slam_13 rfl hl (by decide) rfl (fun ls hl => ?_)
  refine lv_iload_n hx hb dX11_slam_14 rfl (lv_at hl 0 rfl) ?_
  refine lv_if_eq (tgt := 20) hx hb dX11_slam_15 (by decide) (fun hc_12 => ?_) (fun hc_12 => ?_)
  · have hhc_12 := n_eq (rfl : r_8.toInt = r_8.toInt) (by decide : (0 : Int32).toInt = 0) hc_12
    refine lv_aload_n hx hb dX11_slam_20 rfl (lv_at hl 1 rfl) ?_
    have hk_13 := hOc_1.ref 9 rfl
    refine q_get X iX11_slam_11 hP (by decide) hg_10 rfl 9 (by decide) (List.mem_of_getElem? (i := 7) rfl) (v := .ref (ad 120)) hk_13 dX11_slam_21 ?_
    refine lv_aload_n hx hb dX11_slam_24 rfl (lv_at hl 1 rfl) ?_
    refine q_get X iX11_slam_11 hP (by decide) hg_10 rfl 1 (by decide) (List.mem_of_getElem? (i := 1) rfl) (v := .ref (ad 3)) hk_2 dX11_slam_25 ?_
    refine lv_aload_n hx hb dX11_slam_28 rfl (lv_at hl 1 rfl) ?_
    have hk_14 := hOc_1.ref 7 rfl
    refine q_get X iX11_slam_11 hP (by decide) hg_10 rfl 7 (by decide) (List.mem_of_getElem? (i := 8) rfl) (v := .ref (ad 116)) hk_14 dX11_slam_29 ?_
    refine lv_aload_n hx hb dX11_slam_32 rfl (lv_at hl 1 rfl) ?_
    have hk_15 := hOc_1.ref 8 rfl
    refine q_get X iX11_slam_11 hP (by decide) hg_10 rfl 8 (by decide) (List.mem_of_getElem? (i := 9) rfl) (v := .ref (ad 118)) hk_15 dX11_slam_33 ?_
    obtain ⟨fsc_19, hgc_19, hOc_19⟩ := hw_6W.obj (i := 120) (by decide) (sh_120 ad K)
    refine s_callv (q := (RX4, TX4, 3)) (As := [.ref (ad 3), .ref (ad 116), .ref (ad 118)]) (rest := []) X Z (s_X4_search l D cs ad kS K hKO hj g_7 hw_6W) (cwV 3 X.2.2.2.2.1 gg_X11_slam_X4_search rfl rfl rfl (by decide +kernel) ⟨Nat.le_of_ble_eq_true rfl, Nat.le_of_ble_eq_true rfl⟩) (by decide) hgc_19 rfl hP hA hS.2.1 hS rfl hl.1 rfl (Nat.le_of_ble_eq_true rfl) dX11_slam_36 ⟨Nat.le_of_ble_eq_true rfl, Nat.le_of_ble_eq_true rfl⟩ (fun g_17 H locs hw_16 hP hS => ?_)
    obtain ⟨hw_16W, hw_16f⟩ := hw_16
    have hfr_20 : ∀ j, j ≠ 120 ∧ (j < 122 ∨ 130 ≤ j) ∧ j ≠ 116 ∧ j ≠ 117 ∧ j ≠ 118 ∧ j ≠ 119 → g_17 j = g j := fun j hj => (hw_16f j (by omega)).trans (hfr_9 j hj)
    have hg_21 := (hw_16f 0 (by omega)).trans hg_10
    have hg_22 := (hw_16f 3 (by omega)).trans hg_11
    refine lv_aload_n hx hb dX11_slam_39 rfl (lv_at hl 1 rfl) ?_
    refine q_get X iX11_slam_11 hP (by decide) hg_21 rfl 9 (by decide) (List.mem_of_getElem? (i := 7) rfl) (v := .ref (ad 120)) hk_13 dX11_slam_40 ?_
    obtain ⟨fsc_23, hgc_23, hOc_23⟩ := hw_16W.obj (i := 120) (by decide) (sh_120 ad K)
    obtain ⟨x_25, hk_24, -⟩ := hOc_23.int 1 rfl
    refine q_get X iX11_slam_4 hP (by decide) hgc_23 rfl 1 (by decide) (List.mem_of_getElem? (i := 14) rfl) (v := .int x_25) hk_24 dX11_slam_43 ?_
    exact q_iret X hP hS ⟨hw_16W, hfr_20⟩ dX11_slam_46
  · have hhc_12 := n_ne (rfl : r_8.toInt = r_8.toInt) (by decide : (0 : Int32).toInt = 0) hc_12
    refine lv_iload_n hx hb dX11_slam_18 rfl (lv_at hl 0 rfl) ?_
    exact q_iret X hP hS ⟨hw_6W, hfr_9⟩ dX11_slam_19

theorem dX11_ask_0 : decode cX11_ask 0 = .ok (.aload_n 0, 1) := by decide +kernel
theorem dX11_ask_1 : decode cX11_ask 1 = .ok (.iload_n 1, 1) := by decide +kernel
theorem dX11_ask_2 : decode cX11_ask 2 = .ok (.iconst 1, 1) := by decide +kernel
theorem dX11_ask_3 : decode cX11_ask 3 = .ok (.aload_n 0, 1) := by decide +kernel
theorem dX11_ask_4 : decode cX11_ask 4 = .ok (.getfield 19, 3) := by decide +kernel
theorem dX11_ask_7 : decode cX11_ask 7 = .ok (.getfield 177, 3) := by decide +kernel
theorem dX11_ask_10 : decode cX11_ask 10 = .ok (.invokevirtual 260, 3) := by decide +kernel
theorem dX11_ask_13 : decode cX11_ask 13 = .ok (.istore_n 2, 1) := by decide +kernel
theorem dX11_ask_14 : decode cX11_ask 14 = .ok (.iload_n 2, 1) := by decide +kernel
theorem dX11_ask_15 : decode cX11_ask 15 = .ok (.ifCond .eq 5, 3) := by decide +kernel
theorem dX11_ask_18 : decode cX11_ask 18 = .ok (.iload_n 2, 1) := by decide +kernel
theorem dX11_ask_19 : decode cX11_ask 19 = .ok (.ireturn, 1) := by decide +kernel
theorem dX11_ask_20 : decode cX11_ask 20 = .ok (.aload_n 0, 1) := by decide +kernel
theorem dX11_ask_21 : decode cX11_ask 21 = .ok (.getfield 61, 3) := by decide +kernel
theorem dX11_ask_24 : decode cX11_ask 24 = .ok (.aload_n 0, 1) := by decide +kernel
theorem dX11_ask_25 : decode cX11_ask 25 = .ok (.getfield 19, 3) := by decide +kernel
theorem dX11_ask_28 : decode cX11_ask 28 = .ok (.aload_n 0, 1) := by decide +kernel
theorem dX11_ask_29 : decode cX11_ask 29 = .ok (.getfield 48, 3) := by decide +kernel
theorem dX11_ask_32 : decode cX11_ask 32 = .ok (.aload_n 0, 1) := by decide +kernel
theorem dX11_ask_33 : decode cX11_ask 33 = .ok (.getfield 54, 3) := by decide +kernel
theorem dX11_ask_36 : decode cX11_ask 36 = .ok (.invokevirtual 264, 3) := by decide +kernel
theorem dX11_ask_39 : decode cX11_ask 39 = .ok (.aload_n 0, 1) := by decide +kernel
theorem dX11_ask_40 : decode cX11_ask 40 = .ok (.getfield 61, 3) := by decide +kernel
theorem dX11_ask_43 : decode cX11_ask 43 = .ok (.aload_n 0, 1) := by decide +kernel
theorem dX11_ask_44 : decode cX11_ask 44 = .ok (.getfield 19, 3) := by decide +kernel
theorem dX11_ask_47 : decode cX11_ask 47 = .ok (.invokevirtual 278, 3) := by decide +kernel
theorem dX11_ask_50 : decode cX11_ask 50 = .ok (.ireturn, 1) := by decide +kernel
noncomputable def vX11_ask : List Cond := .code yX11_ask cX11_ask 3 (some .int) :: (([.fieldLink RX11 19 "IcicleClock" "now" "LIcicleClock$Street;", .fieldLink RX11 177 "IcicleClock$Street" "days" "I", .methodLink RX11 260 yX11_refusal, .instanceMethod yX11_refusal, .selects RX11 yX11_refusal yX11_refusal, .initialized RX11, .fieldLink RX11 61 "IcicleClock" "slammings" "LIcicleClock$Slams;", .fieldLink RX11 48 "IcicleClock" "whatIf" "LIcicleClock$Winter;", .fieldLink RX11 54 "IcicleClock" "seen" "LIcicleClock$Seen;", .methodLink RX11 264 yX4_search, .instanceMethod yX4_search, .selects RX4 yX4_search yX4_search, .initialized RX4, .methodLink RX11 278 yX4_bestQuestion, .instanceMethod yX4_bestQuestion, .selects RX4 yX4_bestQuestion yX4_bestQuestion] : List Cond) ++ (wsX110 ++ (wsX60 ++ (vX11_refusal ++ (vX4_search ++ vX4_bestQuestion)))))
theorem iX11_ask_11 : ∀ w ∈ wsX110, w ∈ vX11_ask := fun _ h => List.mem_cons_of_mem _ (List.mem_append_right _ (List.mem_append_left _ h))
theorem iX11_ask_6 : ∀ w ∈ wsX60, w ∈ vX11_ask := fun _ h => List.mem_cons_of_mem _ (List.mem_append_right _ (List.mem_append_right _ (List.mem_append_left _ h)))
theorem gs_X11_ask : Gd vX11_ask := Gd.cons (by decide +kernel) (Gd.app (Gd.r (by decide +kernel)) (Gd.app gwX_11 (Gd.app gwX_6 (Gd.app gs_X11_refusal (Gd.app gs_X4_search gs_X4_bestQuestion)))))
theorem gg_X11_ask_X11_refusal : GoodIn vX11_ask (wsV RX11 260 RX11 yX11_refusal vX11_refusal) := goodIn_app (goodIn_r _ [3, 4, 5, 6] (by decide +kernel) (by decide +kernel)) (fun w h => ⟨List.mem_cons_of_mem _ (List.mem_append_right _ (List.mem_append_right _ (List.mem_append_right _ (List.mem_append_left _ h)))), gs_X11_refusal w h⟩)
theorem gg_X11_ask_X4_search : GoodIn vX11_ask (wsV RX11 264 RX4 yX4_search vX4_search) := goodIn_app (goodIn_r _ [10, 11, 12, 13] (by decide +kernel) (by decide +kernel)) (fun w h => ⟨List.mem_cons_of_mem _ (List.mem_append_right _ (List.mem_append_right _ (List.mem_append_right _ (List.mem_append_right _ (List.mem_append_left _ h))))), gs_X4_search w h⟩)
theorem gg_X11_ask_X4_bestQuestion : GoodIn vX11_ask (wsV RX11 278 RX4 yX4_bestQuestion vX4_bestQuestion) := goodIn_app (goodIn_r _ [14, 15, 16, 13] (by decide +kernel) (by decide +kernel)) (fun w h => ⟨List.mem_cons_of_mem _ (List.mem_append_right _ (List.mem_append_right _ (List.mem_append_right _ (List.mem_append_right _ (List.mem_append_right _ (h)))))), gs_X4_bestQuestion w h⟩)
set_option maxHeartbeats 4000000 in
set_option maxRecDepth 100000 in
theorem s_X11_ask (l : Launch) (D : va_G) (cs : Nat → ClassId) (ad : Nat → Nat) (kS : kSt) (K : sK) (hKO : KO K) (hj : wJ ad 218) (g : Nat → va_E) (hW : WF (shp ad K) ad cs g) (sl : Int32) : sI l yX11_ask vX11_ask { frames := 6, cells := 0, slots := 0, locals := 143 } D cs ad kS [.ref (ad 0), .int sl] g (fun r g2 => WF (shp ad K) ad cs g2 ∧ (∀ j, j ≠ 120 ∧ (j < 122 ∨ 130 ≤ j) ∧ j ≠ 116 ∧ j ≠ 117 ∧ j ≠ 118 ∧ j ≠ 119 → g2 j = g j)) := by
  refine Met.startS (cc := cX11_ask) (maxL := 3) (ret := (some .int)) RX11 rfl (by decide) rfl (Nat.le_of_ble_eq_true rfl) ?_
  intro p e s m below meth c ls X Z hP hl
  have hx := X.1
  have hb := X.2.1
  have hS : va_S (wA ad 218) s.heap s.heap [] := va_S.rf
  have hA : ∀ i, i < 218 → wA ad 218 (ad i) := fun i h => ⟨i, h, rfl⟩
  have hfr : ∀ j, j ≠ 120 ∧ (j < 122 ∨ 130 ≤ j) ∧ j ≠ 116 ∧ j ≠ 117 ∧ j ≠ 118 ∧ j ≠ 119 → g j = g j := fun _ _ => rfl
  have hl : lv_has ls 3 [(0, .ref (ad 0)), (1, .int sl)] := hl
  refine lv_aload_n hx hb dX11_ask_0 rfl (lv_at hl 0 rfl) ?_
  refine lv_iload_n hx hb dX11_ask_1 rfl (lv_at hl 1 rfl) ?_
  refine lv_iconst (v := 1) hx hb dX11_ask_2 (by decide) ?_
  refine lv_aload_n hx hb dX11_ask_3 rfl (lv_at hl 0 rfl) ?_
  obtain ⟨fsc_1, hgc_1, hOc_1⟩ := hW.obj (i := 0) (by decide) (sh_0 ad K)
  have hk_2 := hOc_1.ref 1 rfl
  refine q_get X iX11_ask_11 hP (by decide) hgc_1 rfl 1 (by decide) (List.mem_of_getElem? (i := 1) rfl) (v := .ref (ad 3)) hk_2 dX11_ask_4 ?_
  obtain ⟨fsc_3, hgc_3, hOc_3⟩ := hW.obj (i := 3) (by decide) (sh_3 ad K)
  obtain ⟨x_5, hk_4, hlx_5, hhx_5⟩ := hOc_3.int 3 rfl
  refine q_get X iX11_ask_6 hP (by decide) hgc_3 rfl 3 (by decide) (List.mem_of_getElem? (i := 2) rfl) (v := .int x_5) hk_4 dX11_ask_7 ?_
  refine s_calli (q := (RX11, TX11, 14)) (As := [.int sl, .int 1, .int x_5]) (rest := []) X Z (s_X11_refusal l D cs ad kS K hKO hj g hW sl 1 x_5) (cwV 3 X.2.2.2.2.1 gg_X11_ask_X11_refusal rfl rfl rfl (by decide +kernel) ⟨Nat.le_of_ble_eq_true rfl, Nat.le_of_ble_eq_true rfl⟩) (by decide) hgc_1 rfl hP hA hS.2.1 hS rfl hl.1 rfl (Nat.le_of_ble_eq_true rfl) dX11_ask_10 ⟨Nat.le_of_ble_eq_true rfl, Nat.le_of_ble_eq_true rfl⟩ (fun r_8 g_7 H locs hw_6 hP hS => ?_)
  obtain ⟨hw_6W, hw_6f⟩ := hw_6
  have hfr_9 : ∀ j, j ≠ 120 ∧ (j < 122 ∨ 130 ≤ j) ∧ j ≠ 116 ∧ j ≠ 117 ∧ j ≠ 118 ∧ j ≠ 119 → g_7 j = g j := fun j hj => (hw_6f j (by omega)).trans (hfr j hj)
  have hg_10 := (hw_6f 0 (by omega)).trans hgc_1
  have hg_11 := (hw_6f 3 (by omega)).trans hgc_3
  refine lv_istore_n (lv' := [(2, .int r_8), (0, .ref (ad 0)), (1, .int sl)]) hx hb dX11_ask_13 rfl hl (by decide) rfl (fun ls hl => ?_)
  refine lv_iload_n hx hb dX11_ask_14 rfl (lv_at hl 0 rfl) ?_
  refine lv_if_eq (tgt := 20) hx hb dX11_ask_15 (by decide) (fun hc_12 => ?_) (fun hc_12 => ?_)
  · have hhc_12 := n_eq (rfl : r_8.toInt = r_8.toInt) (by decide : (0 : Int32).toInt = 0) hc_12
    refine lv_aload_n hx hb dX11_ask_20 rfl (lv_at hl 1 rfl) ?_
    have hk_13 := hOc_1.ref 9 rfl
    refine q_get X iX11_ask_11 hP (by decide) hg_10 rfl 9 (by decide) (List.mem_of_getElem? (i := 7) rfl) (v := .ref (ad 120)) hk_13 dX11_ask_21 ?_
    refine lv_aload_n hx hb dX11_ask_24 rfl (lv_at hl 1 rfl) ?_
    refine q_get X iX11_ask_11 hP (by decide) hg_10 rfl 1 (by decide) (List.mem_of_getElem? (i := 1) rfl) (v := .ref (ad 3)) hk_2 dX11_ask_25 ?_
    refine lv_aload_n hx hb dX11_ask_28 rfl (lv_at hl 1 rfl) ?_
    have hk_14 := hOc_1.ref 7 rfl
    refine q_get X iX11_ask_11 hP (by decide) hg_10 rfl 7 (by decide) (List.mem_of_getElem? (i := 8) rfl) (v := .ref (ad 116)) hk_14 dX11_ask_29 ?_
    refine lv_aload_n hx hb dX11_ask_32 rfl (lv_at hl 1 rfl) ?_
    have hk_15 := hOc_1.ref 8 rfl
    refine q_get X iX11_ask_11 hP (by decide) hg_10 rfl 8 (by decide) (List.mem_of_getElem? (i := 9) rfl) (v := .ref (ad 118)) hk_15 dX11_ask_33 ?_
    obtain ⟨fsc_19, hgc_19, hOc_19⟩ := hw_6W.obj (i := 120) (by decide) (sh_120 ad K)
    refine s_callv (q := (RX4, TX4, 3)) (As := [.ref (ad 3), .ref (ad 116), .ref (ad 118)]) (rest := []) X Z (s_X4_search l D cs ad kS K hKO hj g_7 hw_6W) (cwV 3 X.2.2.2.2.1 gg_X11_ask_X4_search rfl rfl rfl (by decide +kernel) ⟨Nat.le_of_ble_eq_true rfl, Nat.le_of_ble_eq_true rfl⟩) (by decide) hgc_19 rfl hP hA hS.2.1 hS rfl hl.1 rfl (Nat.le_of_ble_eq_true rfl) dX11_ask_36 ⟨Nat.le_of_ble_eq_true rfl, Nat.le_of_ble_eq_true rfl⟩ (fun g_17 H locs hw_16 hP hS => ?_)
    obtain ⟨hw_16W, hw_16f⟩ := hw_16
    have hfr_20 : ∀ j, j ≠ 120 ∧ (j < 122 ∨ 130 ≤ j) ∧ j ≠ 116 ∧ j ≠ 117 ∧ j ≠ 118 ∧ j ≠ 119 → g_17 j = g j := fun j hj => (hw_16f j (by omega)).trans (hfr_9 j hj)
    have hg_21 := (hw_16f 0 (by omega)).trans hg_10
    have hg_22 := (hw_16f 3 (by omega)).trans hg_11
    refine lv_aload_n hx hb dX11_ask_39 rfl (lv_at hl 1 rfl) ?_
    refine q_get X iX11_ask_11 hP (by decide) hg_21 rfl 9 (by decide) (List.mem_of_getElem? (i := 7) rfl) (v := .ref (ad 120)) hk_13 dX11_ask_40 ?_
    refine lv_aload_n hx hb dX11_ask_43 rfl (lv_at hl 1 rfl) ?_
    refine q_get X iX11_ask_11 hP (by decide) hg_21 rfl 1 (by decide) (List.mem_of_getElem? (i := 1) rfl) (v := .ref (ad 3)) hk_2 dX11_ask_44 ?_
    obtain ⟨fsc_26, hgc_26, hOc_26⟩ := hw_16W.obj (i := 120) (by decide) (sh_120 ad K)
    refine s_calli (q := (RX4, TX4, 3)) (As := [.ref (ad 3)]) (rest := []) X Z (s_X4_bestQuestion l D cs ad kS K hKO hj g_17 hw_16W) (cwV 1 X.2.2.2.2.1 gg_X11_ask_X4_bestQuestion rfl rfl rfl (by decide +kernel) ⟨Nat.le_of_ble_eq_true rfl, Nat.le_of_ble_eq_true rfl⟩) (by decide) hgc_26 rfl hP hA hS.2.1 hS rfl hl.1 rfl (Nat.le_of_ble_eq_true rfl) dX11_ask_47 ⟨Nat.le_of_ble_eq_true rfl, Nat.le_of_ble_eq_true rfl⟩ (fun r_25 g_24 H locs hw_23 hP hS => ?_)
    rw [hw_23] at hP
    exact q_iret X hP hS ⟨hw_16W, hfr_20⟩ dX11_ask_50
  · have hhc_12 := n_ne (rfl : r_8.toInt = r_8.toInt) (by decide : (0 : Int32).toInt = 0) hc_12
    refine lv_iload_n hx hb dX11_ask_18 rfl (lv_at hl 0 rfl) ?_
    exact q_iret X hP hS ⟨hw_6W, hfr_9⟩ dX11_ask_19

theorem dX11_calm_0 : decode cX11_calm 0 = .ok (.aload_n 0, 1) := by decide +kernel
theorem dX11_calm_1 : decode cX11_calm 1 = .ok (.iload_n 1, 1) := by decide +kernel
theorem dX11_calm_2 : decode cX11_calm 2 = .ok (.iconst 1, 1) := by decide +kernel
theorem dX11_calm_3 : decode cX11_calm 3 = .ok (.aload_n 0, 1) := by decide +kernel
theorem dX11_calm_4 : decode cX11_calm 4 = .ok (.getfield 19, 3) := by decide +kernel
theorem dX11_calm_7 : decode cX11_calm 7 = .ok (.getfield 177, 3) := by decide +kernel
theorem dX11_calm_10 : decode cX11_calm 10 = .ok (.invokevirtual 260, 3) := by decide +kernel
theorem dX11_calm_13 : decode cX11_calm 13 = .ok (.istore_n 2, 1) := by decide +kernel
theorem dX11_calm_14 : decode cX11_calm 14 = .ok (.iload_n 2, 1) := by decide +kernel
theorem dX11_calm_15 : decode cX11_calm 15 = .ok (.ifCond .eq 5, 3) := by decide +kernel
theorem dX11_calm_18 : decode cX11_calm 18 = .ok (.iload_n 2, 1) := by decide +kernel
theorem dX11_calm_19 : decode cX11_calm 19 = .ok (.ireturn, 1) := by decide +kernel
theorem dX11_calm_20 : decode cX11_calm 20 = .ok (.aload_n 0, 1) := by decide +kernel
theorem dX11_calm_21 : decode cX11_calm 21 = .ok (.getfield 54, 3) := by decide +kernel
theorem dX11_calm_24 : decode cX11_calm 24 = .ok (.aload_n 0, 1) := by decide +kernel
theorem dX11_calm_25 : decode cX11_calm 25 = .ok (.getfield 19, 3) := by decide +kernel
theorem dX11_calm_28 : decode cX11_calm 28 = .ok (.aload_n 0, 1) := by decide +kernel
theorem dX11_calm_29 : decode cX11_calm 29 = .ok (.getfield 44, 3) := by decide +kernel
theorem dX11_calm_32 : decode cX11_calm 32 = .ok (.invokevirtual 274, 3) := by decide +kernel
theorem dX11_calm_35 : decode cX11_calm 35 = .ok (.ifCond .eq 7, 3) := by decide +kernel
theorem dX11_calm_38 : decode cX11_calm 38 = .ok (.iconst 1, 1) := by decide +kernel
theorem dX11_calm_39 : decode cX11_calm 39 = .ok (.goto 4, 3) := by decide +kernel
theorem dX11_calm_42 : decode cX11_calm 42 = .ok (.iconst 0, 1) := by decide +kernel
theorem dX11_calm_43 : decode cX11_calm 43 = .ok (.ireturn, 1) := by decide +kernel
noncomputable def vX11_calm : List Cond := .code yX11_calm cX11_calm 3 (some .int) :: (([.fieldLink RX11 19 "IcicleClock" "now" "LIcicleClock$Street;", .fieldLink RX11 177 "IcicleClock$Street" "days" "I", .methodLink RX11 260 yX11_refusal, .instanceMethod yX11_refusal, .selects RX11 yX11_refusal yX11_refusal, .initialized RX11, .fieldLink RX11 54 "IcicleClock" "seen" "LIcicleClock$Seen;", .fieldLink RX11 44 "IcicleClock" "winter" "LIcicleClock$Winter;", .methodLink RX11 274 yX3_fits, .instanceMethod yX3_fits, .selects RX3 yX3_fits yX3_fits, .initialized RX3] : List Cond) ++ (wsX110 ++ (wsX60 ++ (vX11_refusal ++ vX3_fits))))
theorem iX11_calm_11 : ∀ w ∈ wsX110, w ∈ vX11_calm := fun _ h => List.mem_cons_of_mem _ (List.mem_append_right _ (List.mem_append_left _ h))
theorem iX11_calm_6 : ∀ w ∈ wsX60, w ∈ vX11_calm := fun _ h => List.mem_cons_of_mem _ (List.mem_append_right _ (List.mem_append_right _ (List.mem_append_left _ h)))
theorem gs_X11_calm : Gd vX11_calm := Gd.cons (by decide +kernel) (Gd.app (Gd.r (by decide +kernel)) (Gd.app gwX_11 (Gd.app gwX_6 (Gd.app gs_X11_refusal gs_X3_fits))))
theorem gg_X11_calm_X11_refusal : GoodIn vX11_calm (wsV RX11 260 RX11 yX11_refusal vX11_refusal) := goodIn_app (goodIn_r _ [3, 4, 5, 6] (by decide +kernel) (by decide +kernel)) (fun w h => ⟨List.mem_cons_of_mem _ (List.mem_append_right _ (List.mem_append_right _ (List.mem_append_right _ (List.mem_append_left _ h)))), gs_X11_refusal w h⟩)
theorem gg_X11_calm_X3_fits : GoodIn vX11_calm (wsV RX11 274 RX3 yX3_fits vX3_fits) := goodIn_app (goodIn_r _ [9, 10, 11, 12] (by decide +kernel) (by decide +kernel)) (fun w h => ⟨List.mem_cons_of_mem _ (List.mem_append_right _ (List.mem_append_right _ (List.mem_append_right _ (List.mem_append_right _ (h))))), gs_X3_fits w h⟩)
set_option maxHeartbeats 4000000 in
set_option maxRecDepth 100000 in
theorem s_X11_calm (l : Launch) (D : va_G) (cs : Nat → ClassId) (ad : Nat → Nat) (kS : kSt) (K : sK) (hKO : KO K) (hj : wJ ad 218) (g : Nat → va_E) (hW : WF (shp ad K) ad cs g) (sl : Int32) : sI l yX11_calm vX11_calm { frames := 3, cells := 0, slots := 0, locals := 74 } D cs ad kS [.ref (ad 0), .int sl] g (fun r g2 => WF (shp ad K) ad cs g2 ∧ (∀ j, j ≠ 118 ∧ j ≠ 119 → g2 j = g j)) := by
  refine Met.startS (cc := cX11_calm) (maxL := 3) (ret := (some .int)) RX11 rfl (by decide) rfl (Nat.le_of_ble_eq_true rfl) ?_
  intro p e s m below meth c ls X Z hP hl
  have hx := X.1
  have hb := X.2.1
  have hS : va_S (wA ad 218) s.heap s.heap [] := va_S.rf
  have hA : ∀ i, i < 218 → wA ad 218 (ad i) := fun i h => ⟨i, h, rfl⟩
  have hfr : ∀ j, j ≠ 118 ∧ j ≠ 119 → g j = g j := fun _ _ => rfl
  have hl : lv_has ls 3 [(0, .ref (ad 0)), (1, .int sl)] := hl
  refine lv_aload_n hx hb dX11_calm_0 rfl (lv_at hl 0 rfl) ?_
  refine lv_iload_n hx hb dX11_calm_1 rfl (lv_at hl 1 rfl) ?_
  refine lv_iconst (v := 1) hx hb dX11_calm_2 (by decide) ?_
  refine lv_aload_n hx hb dX11_calm_3 rfl (lv_at hl 0 rfl) ?_
  obtain ⟨fsc_1, hgc_1, hOc_1⟩ := hW.obj (i := 0) (by decide) (sh_0 ad K)
  have hk_2 := hOc_1.ref 1 rfl
  refine q_get X iX11_calm_11 hP (by decide) hgc_1 rfl 1 (by decide) (List.mem_of_getElem? (i := 1) rfl) (v := .ref (ad 3)) hk_2 dX11_calm_4 ?_
  obtain ⟨fsc_3, hgc_3, hOc_3⟩ := hW.obj (i := 3) (by decide) (sh_3 ad K)
  obtain ⟨x_5, hk_4, hlx_5, hhx_5⟩ := hOc_3.int 3 rfl
  refine q_get X iX11_calm_6 hP (by decide) hgc_3 rfl 3 (by decide) (List.mem_of_getElem? (i := 2) rfl) (v := .int x_5) hk_4 dX11_calm_7 ?_
  refine s_calli (q := (RX11, TX11, 14)) (As := [.int sl, .int 1, .int x_5]) (rest := []) X Z (s_X11_refusal l D cs ad kS K hKO hj g hW sl 1 x_5) (cwV 3 X.2.2.2.2.1 gg_X11_calm_X11_refusal rfl rfl rfl (by decide +kernel) ⟨Nat.le_of_ble_eq_true rfl, Nat.le_of_ble_eq_true rfl⟩) (by decide) hgc_1 rfl hP hA hS.2.1 hS rfl hl.1 rfl (Nat.le_of_ble_eq_true rfl) dX11_calm_10 ⟨Nat.le_of_ble_eq_true rfl, Nat.le_of_ble_eq_true rfl⟩ (fun r_8 g_7 H locs hw_6 hP hS => ?_)
  obtain ⟨hw_6W, hw_6f⟩ := hw_6
  have hfr_9 : ∀ j, j ≠ 118 ∧ j ≠ 119 → g_7 j = g j := fun j hj => (hw_6f j (by omega)).trans (hfr j hj)
  have hg_10 := (hw_6f 0 (by omega)).trans hgc_1
  have hg_11 := (hw_6f 3 (by omega)).trans hgc_3
  refine lv_istore_n (lv' := [(2, .int r_8), (0, .ref (ad 0)), (1, .int sl)]) hx hb dX11_calm_13 rfl hl (by decide) rfl (fun ls hl => ?_)
  refine lv_iload_n hx hb dX11_calm_14 rfl (lv_at hl 0 rfl) ?_
  refine lv_if_eq (tgt := 20) hx hb dX11_calm_15 (by decide) (fun hc_12 => ?_) (fun hc_12 => ?_)
  · have hhc_12 := n_eq (rfl : r_8.toInt = r_8.toInt) (by decide : (0 : Int32).toInt = 0) hc_12
    refine lv_aload_n hx hb dX11_calm_20 rfl (lv_at hl 1 rfl) ?_
    have hk_13 := hOc_1.ref 8 rfl
    refine q_get X iX11_calm_11 hP (by decide) hg_10 rfl 8 (by decide) (List.mem_of_getElem? (i := 7) rfl) (v := .ref (ad 118)) hk_13 dX11_calm_21 ?_
    refine lv_aload_n hx hb dX11_calm_24 rfl (lv_at hl 1 rfl) ?_
    refine q_get X iX11_calm_11 hP (by decide) hg_10 rfl 1 (by decide) (List.mem_of_getElem? (i := 1) rfl) (v := .ref (ad 3)) hk_2 dX11_calm_25 ?_
    refine lv_aload_n hx hb dX11_calm_28 rfl (lv_at hl 1 rfl) ?_
    have hk_14 := hOc_1.ref 6 rfl
    refine q_get X iX11_calm_11 hP (by decide) hg_10 rfl 6 (by decide) (List.mem_of_getElem? (i := 8) rfl) (v := .ref (ad 114)) hk_14 dX11_calm_29 ?_
    obtain ⟨fsc_18, hgc_18, hOc_18⟩ := hw_6W.obj (i := 118) (by decide) (sh_118 ad K)
    refine s_calli (q := (RX3, TX3, 2)) (As := [.ref (ad 3), .ref (ad 114)]) (rest := []) X Z (s_X3_fits l D cs ad kS K hKO hj g_7 hw_6W 114 (by omega)) (cwV 2 X.2.2.2.2.1 gg_X11_calm_X3_fits rfl rfl rfl (by decide +kernel) ⟨Nat.le_of_ble_eq_true rfl, Nat.le_of_ble_eq_true rfl⟩) (by decide) hgc_18 rfl hP hA hS.2.1 hS rfl hl.1 rfl (Nat.le_of_ble_eq_true rfl) dX11_calm_32 ⟨Nat.le_of_ble_eq_true rfl, Nat.le_of_ble_eq_true rfl⟩ (fun r_17 g_16 H locs hw_15 hP hS => ?_)
    obtain ⟨hw_15g, hw_15⟩ := hw_15
    rw [hw_15g] at hP
    refine lv_if_eq (tgt := 42) hx hb dX11_calm_35 (by decide) (fun hc_19 => ?_) (fun hc_19 => ?_)
    · have hhc_19 := n_eq (rfl : r_17.toInt = r_17.toInt) (by decide : (0 : Int32).toInt = 0) hc_19
      refine lv_iconst (v := 0) hx hb dX11_calm_42 (by decide) ?_
      exact q_iret X hP hS ⟨hw_6W, hfr_9⟩ dX11_calm_43
    · have hhc_19 := n_ne (rfl : r_17.toInt = r_17.toInt) (by decide : (0 : Int32).toInt = 0) hc_19
      refine lv_iconst (v := 1) hx hb dX11_calm_38 (by decide) ?_
      refine lv_goto (tgt := 43) hx hb dX11_calm_39 (by decide) ?_
      exact q_iret X hP hS ⟨hw_6W, hfr_9⟩ dX11_calm_43
  · have hhc_12 := n_ne (rfl : r_8.toInt = r_8.toInt) (by decide : (0 : Int32).toInt = 0) hc_12
    refine lv_iload_n hx hb dX11_calm_18 rfl (lv_at hl 0 rfl) ?_
    exact q_iret X hP hS ⟨hw_6W, hfr_9⟩ dX11_calm_19

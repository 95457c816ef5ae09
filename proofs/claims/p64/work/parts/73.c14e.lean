theorem dX7_readInto_0 : decode cX7_readInto 0 = .ok (.aload_n 1, 1) := by decide +kernel
theorem dX7_readInto_1 : decode cX7_readInto 1 = .ok (.invokevirtual 22, 3) := by decide +kernel
theorem dX7_readInto_4 : decode cX7_readInto 4 = .ok (.aload_n 0, 1) := by decide +kernel
theorem dX7_readInto_5 : decode cX7_readInto 5 = .ok (.iconst 0, 1) := by decide +kernel
theorem dX7_readInto_6 : decode cX7_readInto 6 = .ok (.putfield 27, 3) := by decide +kernel
theorem dX7_readInto_9 : decode cX7_readInto 9 = .ok (.aload_n 0, 1) := by decide +kernel
theorem dX7_readInto_10 : decode cX7_readInto 10 = .ok (.iconst (-1), 1) := by decide +kernel
theorem dX7_readInto_11 : decode cX7_readInto 11 = .ok (.putfield 15, 3) := by decide +kernel
theorem dX7_readInto_14 : decode cX7_readInto 14 = .ok (.aload_n 0, 1) := by decide +kernel
theorem dX7_readInto_15 : decode cX7_readInto 15 = .ok (.iconst 0, 1) := by decide +kernel
theorem dX7_readInto_16 : decode cX7_readInto 16 = .ok (.putfield 30, 3) := by decide +kernel
theorem dX7_readInto_19 : decode cX7_readInto 19 = .ok (.aload_n 0, 1) := by decide +kernel
theorem dX7_readInto_20 : decode cX7_readInto 20 = .ok (.invokevirtual 33, 3) := by decide +kernel
theorem dX7_readInto_23 : decode cX7_readInto 23 = .ok (.iconst 0, 1) := by decide +kernel
theorem dX7_readInto_24 : decode cX7_readInto 24 = .ok (.istore_n 2, 1) := by decide +kernel
theorem dX7_readInto_25 : decode cX7_readInto 25 = .ok (.iload_n 2, 1) := by decide +kernel
theorem dX7_readInto_26 : decode cX7_readInto 26 = .ok (.sipush 1000, 3) := by decide +kernel
theorem dX7_readInto_29 : decode cX7_readInto 29 = .ok (.if_icmp .gt 135, 3) := by decide +kernel
theorem dX7_readInto_32 : decode cX7_readInto 32 = .ok (.aload_n 0, 1) := by decide +kernel
theorem dX7_readInto_33 : decode cX7_readInto 33 = .ok (.getfield 36, 3) := by decide +kernel
theorem dX7_readInto_36 : decode cX7_readInto 36 = .ok (.ifCond .eq 128, 3) := by decide +kernel
theorem dX7_readInto_39 : decode cX7_readInto 39 = .ok (.aload_n 0, 1) := by decide +kernel
theorem dX7_readInto_40 : decode cX7_readInto 40 = .ok (.getfield 27, 3) := by decide +kernel
theorem dX7_readInto_43 : decode cX7_readInto 43 = .ok (.ifCond .ne 121, 3) := by decide +kernel
theorem dX7_readInto_46 : decode cX7_readInto 46 = .ok (.iload_n 2, 1) := by decide +kernel
theorem dX7_readInto_47 : decode cX7_readInto 47 = .ok (.ifCond .ne 11, 3) := by decide +kernel
theorem dX7_readInto_50 : decode cX7_readInto 50 = .ok (.aload_n 0, 1) := by decide +kernel
theorem dX7_readInto_51 : decode cX7_readInto 51 = .ok (.aload_n 1, 1) := by decide +kernel
theorem dX7_readInto_52 : decode cX7_readInto 52 = .ok (.invokevirtual 39, 3) := by decide +kernel
theorem dX7_readInto_55 : decode cX7_readInto 55 = .ok (.goto 76, 3) := by decide +kernel
theorem dX7_readInto_131 : decode cX7_readInto 131 = .ok (.aload_n 0, 1) := by decide +kernel
theorem dX7_readInto_132 : decode cX7_readInto 132 = .ok (.aload_n 0, 1) := by decide +kernel
theorem dX7_readInto_133 : decode cX7_readInto 133 = .ok (.getfield 36, 3) := by decide +kernel
theorem dX7_readInto_136 : decode cX7_readInto 136 = .ok (.iconst 3, 1) := by decide +kernel
theorem dX7_readInto_137 : decode cX7_readInto 137 = .ok (.if_icmp .ne 7, 3) := by decide +kernel
theorem dX7_readInto_140 : decode cX7_readInto 140 = .ok (.iconst 1, 1) := by decide +kernel
theorem dX7_readInto_141 : decode cX7_readInto 141 = .ok (.goto 4, 3) := by decide +kernel
theorem dX7_readInto_144 : decode cX7_readInto 144 = .ok (.iconst 0, 1) := by decide +kernel
theorem dX7_readInto_145 : decode cX7_readInto 145 = .ok (.invokevirtual 71, 3) := by decide +kernel
theorem dX7_readInto_148 : decode cX7_readInto 148 = .ok (.aload_n 1, 1) := by decide +kernel
theorem dX7_readInto_149 : decode cX7_readInto 149 = .ok (.dup, 1) := by decide +kernel
theorem dX7_readInto_150 : decode cX7_readInto 150 = .ok (.getfield 75, 3) := by decide +kernel
theorem dX7_readInto_153 : decode cX7_readInto 153 = .ok (.iconst 1, 1) := by decide +kernel
theorem dX7_readInto_154 : decode cX7_readInto 154 = .ok (.iadd, 1) := by decide +kernel
theorem dX7_readInto_155 : decode cX7_readInto 155 = .ok (.putfield 75, 3) := by decide +kernel
theorem dX7_readInto_158 : decode cX7_readInto 158 = .ok (.iinc 2 1, 3) := by decide +kernel
theorem dX7_readInto_161 : decode cX7_readInto 161 = .ok (.goto (-136), 3) := by decide +kernel
theorem dX7_readInto_58 : decode cX7_readInto 58 = .ok (.aload_n 0, 1) := by decide +kernel
theorem dX7_readInto_59 : decode cX7_readInto 59 = .ok (.ldc 43, 2) := by decide +kernel
theorem dX7_readInto_61 : decode cX7_readInto 61 = .ok (.invokevirtual 45, 3) := by decide +kernel
theorem dX7_readInto_64 : decode cX7_readInto 64 = .ok (.ifCond .eq 11, 3) := by decide +kernel
theorem dX7_readInto_67 : decode cX7_readInto 67 = .ok (.aload_n 0, 1) := by decide +kernel
theorem dX7_readInto_68 : decode cX7_readInto 68 = .ok (.aload_n 1, 1) := by decide +kernel
theorem dX7_readInto_69 : decode cX7_readInto 69 = .ok (.invokevirtual 49, 3) := by decide +kernel
theorem dX7_readInto_72 : decode cX7_readInto 72 = .ok (.goto 59, 3) := by decide +kernel
theorem dX7_readInto_75 : decode cX7_readInto 75 = .ok (.aload_n 0, 1) := by decide +kernel
theorem dX7_readInto_76 : decode cX7_readInto 76 = .ok (.ldc 52, 2) := by decide +kernel
theorem dX7_readInto_78 : decode cX7_readInto 78 = .ok (.invokevirtual 45, 3) := by decide +kernel
theorem dX7_readInto_81 : decode cX7_readInto 81 = .ok (.ifCond .eq 11, 3) := by decide +kernel
theorem dX7_readInto_84 : decode cX7_readInto 84 = .ok (.aload_n 0, 1) := by decide +kernel
theorem dX7_readInto_85 : decode cX7_readInto 85 = .ok (.aload_n 1, 1) := by decide +kernel
theorem dX7_readInto_86 : decode cX7_readInto 86 = .ok (.invokevirtual 54, 3) := by decide +kernel
theorem dX7_readInto_89 : decode cX7_readInto 89 = .ok (.goto 42, 3) := by decide +kernel
theorem dX7_readInto_92 : decode cX7_readInto 92 = .ok (.aload_n 0, 1) := by decide +kernel
theorem dX7_readInto_93 : decode cX7_readInto 93 = .ok (.ldc 57, 2) := by decide +kernel
theorem dX7_readInto_95 : decode cX7_readInto 95 = .ok (.invokevirtual 45, 3) := by decide +kernel
theorem dX7_readInto_98 : decode cX7_readInto 98 = .ok (.ifCond .eq 11, 3) := by decide +kernel
theorem dX7_readInto_101 : decode cX7_readInto 101 = .ok (.aload_n 0, 1) := by decide +kernel
theorem dX7_readInto_102 : decode cX7_readInto 102 = .ok (.aload_n 1, 1) := by decide +kernel
theorem dX7_readInto_103 : decode cX7_readInto 103 = .ok (.invokevirtual 59, 3) := by decide +kernel
theorem dX7_readInto_106 : decode cX7_readInto 106 = .ok (.goto 25, 3) := by decide +kernel
theorem dX7_readInto_109 : decode cX7_readInto 109 = .ok (.aload_n 0, 1) := by decide +kernel
theorem dX7_readInto_110 : decode cX7_readInto 110 = .ok (.ldc 62, 2) := by decide +kernel
theorem dX7_readInto_112 : decode cX7_readInto 112 = .ok (.invokevirtual 45, 3) := by decide +kernel
theorem dX7_readInto_115 : decode cX7_readInto 115 = .ok (.ifCond .eq 11, 3) := by decide +kernel
theorem dX7_readInto_118 : decode cX7_readInto 118 = .ok (.aload_n 0, 1) := by decide +kernel
theorem dX7_readInto_119 : decode cX7_readInto 119 = .ok (.aload_n 1, 1) := by decide +kernel
theorem dX7_readInto_120 : decode cX7_readInto 120 = .ok (.invokevirtual 64, 3) := by decide +kernel
theorem dX7_readInto_123 : decode cX7_readInto 123 = .ok (.goto 8, 3) := by decide +kernel
theorem dX7_readInto_126 : decode cX7_readInto 126 = .ok (.aload_n 0, 1) := by decide +kernel
theorem dX7_readInto_127 : decode cX7_readInto 127 = .ok (.iconst 1, 1) := by decide +kernel
theorem dX7_readInto_128 : decode cX7_readInto 128 = .ok (.invokevirtual 67, 3) := by decide +kernel
theorem dX7_readInto_164 : decode cX7_readInto 164 = .ok (.aload_n 0, 1) := by decide +kernel
theorem dX7_readInto_165 : decode cX7_readInto 165 = .ok (.getfield 27, 3) := by decide +kernel
theorem dX7_readInto_168 : decode cX7_readInto 168 = .ok (.ifCond .ne 7, 3) := by decide +kernel
theorem dX7_readInto_171 : decode cX7_readInto 171 = .ok (.iconst 1, 1) := by decide +kernel
theorem dX7_readInto_172 : decode cX7_readInto 172 = .ok (.goto 4, 3) := by decide +kernel
theorem dX7_readInto_175 : decode cX7_readInto 175 = .ok (.iconst 0, 1) := by decide +kernel
theorem dX7_readInto_176 : decode cX7_readInto 176 = .ok (.ireturn, 1) := by decide +kernel
noncomputable def vX7_readInto : List Cond := .code yX7_readInto cX7_readInto 3 (some .boolean) :: (([.methodLink RX7 22 yX6_clear, .instanceMethod yX6_clear, .selects RX6 yX6_clear yX6_clear, .initialized RX6, .fieldLink RX7 27 "IcicleClock$Tape" "fault" "I", .fieldLink RX7 15 "IcicleClock$Tape" "faultPlace" "I", .fieldLink RX7 30 "IcicleClock$Tape" "stop" "I", .methodLink RX7 33 yX7_advance, .instanceMethod yX7_advance, .selects RX7 yX7_advance yX7_advance, .initialized RX7, .fieldLink RX7 36 "IcicleClock$Tape" "kind" "I", .methodLink RX7 39 yX7_readFirst, .instanceMethod yX7_readFirst, .selects RX7 yX7_readFirst yX7_readFirst, .methodLink RX7 71 yX7_pass, .instanceMethod yX7_pass, .selects RX7 yX7_pass yX7_pass, .fieldLink RX7 75 "IcicleClock$Street" "lines" "I", .methodLink RX7 45 yX7_isWord, .instanceMethod yX7_isWord, .selects RX7 yX7_isWord yX7_isWord, .methodLink RX7 49 yX7_readDay, .instanceMethod yX7_readDay, .selects RX7 yX7_readDay yX7_readDay, .methodLink RX7 54 yX7_readEave, .instanceMethod yX7_readEave, .selects RX7 yX7_readEave yX7_readEave, .methodLink RX7 59 yX7_readIcicle, .instanceMethod yX7_readIcicle, .selects RX7 yX7_readIcicle yX7_readIcicle, .methodLink RX7 64 yX7_readDue, .instanceMethod yX7_readDue, .selects RX7 yX7_readDue yX7_readDue, .methodLink RX7 67 yX7_blame, .instanceMethod yX7_blame, .selects RX7 yX7_blame yX7_blame] : List Cond) ++ (wsX70 ++ (wsX60 ++ (vX6_clear ++ (vX7_advance ++ (vX7_readFirst ++ (vX7_pass ++ (vX7_isWord ++ (vX7_readDay ++ (vX7_readEave ++ (vX7_readIcicle ++ (vX7_readDue ++ vX7_blame))))))))))))
theorem iX7_readInto_7 : ∀ w ∈ wsX70, w ∈ vX7_readInto := fun _ h => List.mem_cons_of_mem _ (List.mem_append_right _ (List.mem_append_left _ h))
theorem iX7_readInto_6 : ∀ w ∈ wsX60, w ∈ vX7_readInto := fun _ h => List.mem_cons_of_mem _ (List.mem_append_right _ (List.mem_append_right _ (List.mem_append_left _ h)))
theorem gs_X7_readInto : Gd vX7_readInto := Gd.cons (by decide +kernel) (Gd.app (Gd.r (by decide +kernel)) (Gd.app gwX_7 (Gd.app gwX_6 (Gd.app gs_X6_clear (Gd.app gs_X7_advance (Gd.app gs_X7_readFirst (Gd.app gs_X7_pass (Gd.app gs_X7_isWord (Gd.app gs_X7_readDay (Gd.app gs_X7_readEave (Gd.app gs_X7_readIcicle (Gd.app gs_X7_readDue gs_X7_blame))))))))))))
theorem gg_X7_readInto_X6_clear : GoodIn vX7_readInto (wsV RX7 22 RX6 yX6_clear vX6_clear) := goodIn_app (goodIn_r _ [1, 2, 3, 4] (by decide +kernel) (by decide +kernel)) (fun w h => ⟨List.mem_cons_of_mem _ (List.mem_append_right _ (List.mem_append_right _ (List.mem_append_right _ (List.mem_append_left _ h)))), gs_X6_clear w h⟩)
theorem gg_X7_readInto_X7_advance : GoodIn vX7_readInto (wsV RX7 33 RX7 yX7_advance vX7_advance) := goodIn_app (goodIn_r _ [8, 9, 10, 11] (by decide +kernel) (by decide +kernel)) (fun w h => ⟨List.mem_cons_of_mem _ (List.mem_append_right _ (List.mem_append_right _ (List.mem_append_right _ (List.mem_append_right _ (List.mem_append_left _ h))))), gs_X7_advance w h⟩)
theorem gg_X7_readInto_X7_readFirst : GoodIn vX7_readInto (wsV RX7 39 RX7 yX7_readFirst vX7_readFirst) := goodIn_app (goodIn_r _ [13, 14, 15, 11] (by decide +kernel) (by decide +kernel)) (fun w h => ⟨List.mem_cons_of_mem _ (List.mem_append_right _ (List.mem_append_right _ (List.mem_append_right _ (List.mem_append_right _ (List.mem_append_right _ (List.mem_append_left _ h)))))), gs_X7_readFirst w h⟩)
theorem gg_X7_readInto_X7_pass : GoodIn vX7_readInto (wsV RX7 71 RX7 yX7_pass vX7_pass) := goodIn_app (goodIn_r _ [16, 17, 18, 11] (by decide +kernel) (by decide +kernel)) (fun w h => ⟨List.mem_cons_of_mem _ (List.mem_append_right _ (List.mem_append_right _ (List.mem_append_right _ (List.mem_append_right _ (List.mem_append_right _ (List.mem_append_right _ (List.mem_append_left _ h))))))), gs_X7_pass w h⟩)
theorem gg_X7_readInto_X7_isWord : GoodIn vX7_readInto (wsV RX7 45 RX7 yX7_isWord vX7_isWord) := goodIn_app (goodIn_r _ [20, 21, 22, 11] (by decide +kernel) (by decide +kernel)) (fun w h => ⟨List.mem_cons_of_mem _ (List.mem_append_right _ (List.mem_append_right _ (List.mem_append_right _ (List.mem_append_right _ (List.mem_append_right _ (List.mem_append_right _ (List.mem_append_right _ (List.mem_append_left _ h)))))))), gs_X7_isWord w h⟩)
theorem gg_X7_readInto_X7_readDay : GoodIn vX7_readInto (wsV RX7 49 RX7 yX7_readDay vX7_readDay) := goodIn_app (goodIn_r _ [23, 24, 25, 11] (by decide +kernel) (by decide +kernel)) (fun w h => ⟨List.mem_cons_of_mem _ (List.mem_append_right _ (List.mem_append_right _ (List.mem_append_right _ (List.mem_append_right _ (List.mem_append_right _ (List.mem_append_right _ (List.mem_append_right _ (List.mem_append_right _ (List.mem_append_left _ h))))))))), gs_X7_readDay w h⟩)
theorem gg_X7_readInto_X7_readEave : GoodIn vX7_readInto (wsV RX7 54 RX7 yX7_readEave vX7_readEave) := goodIn_app (goodIn_r _ [26, 27, 28, 11] (by decide +kernel) (by decide +kernel)) (fun w h => ⟨List.mem_cons_of_mem _ (List.mem_append_right _ (List.mem_append_right _ (List.mem_append_right _ (List.mem_append_right _ (List.mem_append_right _ (List.mem_append_right _ (List.mem_append_right _ (List.mem_append_right _ (List.mem_append_right _ (List.mem_append_left _ h)))))))))), gs_X7_readEave w h⟩)
theorem gg_X7_readInto_X7_readIcicle : GoodIn vX7_readInto (wsV RX7 59 RX7 yX7_readIcicle vX7_readIcicle) := goodIn_app (goodIn_r _ [29, 30, 31, 11] (by decide +kernel) (by decide +kernel)) (fun w h => ⟨List.mem_cons_of_mem _ (List.mem_append_right _ (List.mem_append_right _ (List.mem_append_right _ (List.mem_append_right _ (List.mem_append_right _ (List.mem_append_right _ (List.mem_append_right _ (List.mem_append_right _ (List.mem_append_right _ (List.mem_append_right _ (List.mem_append_left _ h))))))))))), gs_X7_readIcicle w h⟩)
theorem gg_X7_readInto_X7_readDue : GoodIn vX7_readInto (wsV RX7 64 RX7 yX7_readDue vX7_readDue) := goodIn_app (goodIn_r _ [32, 33, 34, 11] (by decide +kernel) (by decide +kernel)) (fun w h => ⟨List.mem_cons_of_mem _ (List.mem_append_right _ (List.mem_append_right _ (List.mem_append_right _ (List.mem_append_right _ (List.mem_append_right _ (List.mem_append_right _ (List.mem_append_right _ (List.mem_append_right _ (List.mem_append_right _ (List.mem_append_right _ (List.mem_append_right _ (List.mem_append_left _ h)))))))))))), gs_X7_readDue w h⟩)
theorem gg_X7_readInto_X7_blame : GoodIn vX7_readInto (wsV RX7 67 RX7 yX7_blame vX7_blame) := goodIn_app (goodIn_r _ [35, 36, 37, 11] (by decide +kernel) (by decide +kernel)) (fun w h => ⟨List.mem_cons_of_mem _ (List.mem_append_right _ (List.mem_append_right _ (List.mem_append_right _ (List.mem_append_right _ (List.mem_append_right _ (List.mem_append_right _ (List.mem_append_right _ (List.mem_append_right _ (List.mem_append_right _ (List.mem_append_right _ (List.mem_append_right _ (List.mem_append_right _ (h))))))))))))), gs_X7_blame w h⟩)
set_option maxHeartbeats 4000000 in
set_option maxRecDepth 100000 in
theorem s_X7_readInto (l : Launch) (D : va_G) (cs : Nat → ClassId) (ad : Nat → Nat) (kS : kSt) (K : sK) (hKO : KO K) (hj : wJ ad 218) (g : Nat → va_E) (hW : WF (shp ad K) ad cs g) : sI l yX7_readInto vX7_readInto { frames := 7, cells := 0, slots := 0, locals := 152 } D cs ad kS [.ref (ad 1), .ref (ad 23)] g (fun r g2 => WF (shp ad K) ad cs g2 ∧ (∀ j, j ≠ 1 ∧ (j < 23 ∨ 23 + 20 ≤ j) → g2 j = g j) ∧ (0 ≤ r.toInt ∧ r.toInt ≤ 1)) := by
  refine Met.startS (cc := cX7_readInto) (maxL := 3) (ret := (some .boolean)) RX7 rfl (by decide) rfl (Nat.le_of_ble_eq_true rfl) ?_
  intro p e s m below meth c ls X Z hP hl
  have hx := X.1
  have hb := X.2.1
  have hS : va_S (wA ad 218) s.heap s.heap [] := va_S.rf
  have hA : ∀ i, i < 218 → wA ad 218 (ad i) := fun i h => ⟨i, h, rfl⟩
  have hfr : ∀ j, j ≠ 1 ∧ (j < 23 ∨ 23 + 20 ≤ j) → g j = g j := fun _ _ => rfl
  have hl : lv_has ls 3 [(0, .ref (ad 1)), (1, .ref (ad 23))] := hl
  refine lv_aload_n hx hb dX7_readInto_0 rfl (lv_at hl 1 rfl) ?_
  obtain ⟨fsc_4, hgc_4, hOc_4⟩ := hW.obj (i := 23) (by decide) (sh_23 ad K)
  refine s_callv (q := (RX6, TX6, 18)) (As := []) (rest := []) X Z (s_X6_clear l D cs ad kS K hKO hj g hW 23 (by omega)) (cwV 0 X.2.2.2.2.1 gg_X7_readInto_X6_clear rfl rfl rfl (by decide +kernel) ⟨Nat.le_of_ble_eq_true rfl, Nat.le_of_ble_eq_true rfl⟩) (by decide) hgc_4 rfl hP hA hS.2.1 hS rfl hl.1 rfl (Nat.le_of_ble_eq_true rfl) dX7_readInto_1 ⟨Nat.le_of_ble_eq_true rfl, Nat.le_of_ble_eq_true rfl⟩ (fun g_2 H locs hw_1 hP hS => ?_)
  obtain ⟨hw_1W, hw_1f⟩ := hw_1
  have hfr_5 : ∀ j, j ≠ 1 ∧ (j < 23 ∨ 23 + 20 ≤ j) → g_2 j = g j := fun j hj => (hw_1f j (by omega)).trans (hfr j hj)
  refine lv_aload_n hx hb dX7_readInto_4 rfl (lv_at hl 0 rfl) ?_
  refine lv_iconst (v := 0) hx hb dX7_readInto_5 (by decide) ?_
  obtain ⟨fsc_6, hgc_6, hOc_6⟩ := hw_1W.obj (i := 1) (by decide) (sh_1 ad K)
  refine s_put X iX7_readInto_7 tyX7 tyX7_ok nmX7 hP hj hA hS (by decide) hgc_6 rfl 2 (by decide) (List.mem_of_getElem? (i := 5) rfl) rfl (ty := .int) (v := .int 0) (by decide +kernel) rfl rfl dX7_readInto_6 hw_1W (sh_1 ad K) hOc_6 rfl ⟨0, rfl, n_lo _, n_hi _⟩ (fun fsc_7 gc_7 H locs hOc_7 hkc_7 hnc_7 hgc_7 hfc_7 hWc_7 hP hS => ?_)
  have hfr_8 : ∀ j, j ≠ 1 ∧ (j < 23 ∨ 23 + 20 ≤ j) → gc_7 j = g j := fun j hj => (hfc_7 j (by omega)).trans (hfr_5 j hj)
  refine lv_aload_n hx hb dX7_readInto_9 rfl (lv_at hl 0 rfl) ?_
  refine lv_iconst (v := (-1)) hx hb dX7_readInto_10 (by decide) ?_
  refine s_put X iX7_readInto_7 tyX7 tyX7_ok nmX7 hP hj hA hS (by decide) hgc_7 rfl 3 (by decide) (List.mem_of_getElem? (i := 6) rfl) rfl (ty := .int) (v := .int (-1)) (by decide +kernel) rfl rfl dX7_readInto_11 hWc_7 (sh_1 ad K) hOc_7 rfl ⟨(-1), rfl, n_lo _, n_hi _⟩ (fun fsc_9 gc_9 H locs hOc_9 hkc_9 hnc_9 hgc_9 hfc_9 hWc_9 hP hS => ?_)
  have hk_10 := (hnc_9 2 (by decide)).trans hkc_7
  have hfr_11 : ∀ j, j ≠ 1 ∧ (j < 23 ∨ 23 + 20 ≤ j) → gc_9 j = g j := fun j hj => (hfc_9 j (by omega)).trans (hfr_8 j hj)
  refine lv_aload_n hx hb dX7_readInto_14 rfl (lv_at hl 0 rfl) ?_
  refine lv_iconst (v := 0) hx hb dX7_readInto_15 (by decide) ?_
  refine s_put X iX7_readInto_7 tyX7 tyX7_ok nmX7 hP hj hA hS (by decide) hgc_9 rfl 5 (by decide) (List.mem_of_getElem? (i := 7) rfl) rfl (ty := .int) (v := .int 0) (by decide +kernel) rfl rfl dX7_readInto_16 hWc_9 (sh_1 ad K) hOc_9 rfl ⟨0, rfl, by decide, by decide⟩ (fun fsc_12 gc_12 H locs hOc_12 hkc_12 hnc_12 hgc_12 hfc_12 hWc_12 hP hS => ?_)
  have hk_13 := (hnc_12 3 (by decide)).trans hkc_9
  have hk_14 := (hnc_12 2 (by decide)).trans hk_10
  have hfr_15 : ∀ j, j ≠ 1 ∧ (j < 23 ∨ 23 + 20 ≤ j) → gc_12 j = g j := fun j hj => (hfc_12 j (by omega)).trans (hfr_11 j hj)
  refine lv_aload_n hx hb dX7_readInto_19 rfl (lv_at hl 0 rfl) ?_
  refine s_callv (q := (RX7, TX7, 7)) (As := []) (rest := []) X Z (s_X7_advance l D cs ad kS K hKO hj gc_12 hWc_12) (cwV 0 X.2.2.2.2.1 gg_X7_readInto_X7_advance rfl rfl rfl (by decide +kernel) ⟨Nat.le_of_ble_eq_true rfl, Nat.le_of_ble_eq_true rfl⟩) (by decide) hgc_12 rfl hP hA hS.2.1 hS rfl hl.1 rfl (Nat.le_of_ble_eq_true rfl) dX7_readInto_20 ⟨Nat.le_of_ble_eq_true rfl, Nat.le_of_ble_eq_true rfl⟩ (fun g_17 H locs hw_16 hP hS => ?_)
  obtain ⟨hw_16W, hw_16f⟩ := hw_16
  have hfr_19 : ∀ j, j ≠ 1 ∧ (j < 23 ∨ 23 + 20 ≤ j) → g_17 j = g j := fun j hj => (hw_16f j (by omega)).trans (hfr_15 j hj)
  refine lv_iconst (v := 0) hx hb dX7_readInto_23 (by decide) ?_
  refine lv_istore_n (lv' := [(2, .int 0), (0, .ref (ad 1)), (1, .ref (ad 23))]) hx hb dX7_readInto_24 rfl hl (by decide) rfl (fun ls hl => ?_)
  have HL25 : ∀ (n25 : Nat) (v25_2 : Int32) (G25 : Nat → va_E) (H : Heap) (locs : List Loc) (ls : Array Slot), (1001 - v25_2.toInt).toNat < n25 → (0 ≤ v25_2.toInt ∧ v25_2.toInt ≤ 1001) → WF (shp ad K) ad cs G25 → (∀ j, j ≠ 1 ∧ (j < 23 ∨ 23 + 20 ≤ j) → G25 j = g j) → va_P D vwCl (wL ad G25 218) H → va_S (wA ad 218) s.heap H locs → lv_has ls 3 [(2, .int v25_2), (0, .ref (ad 1)), (1, .ref (ad 23))] → W p l e ({ frames := 7, cells := 0, slots := 0, locals := 152 } : Room) s m ([.ref (ad 1), .ref (ad 23)] : List Value).toArray below meth c H locs 0 0 (MQ below (qI D ad 218 (fun r g2 => WF (shp ad K) ad cs g2 ∧ (∀ j, j ≠ 1 ∧ (j < 23 ∨ 23 + 20 ≤ j) → g2 j = g j) ∧ (0 ≤ r.toInt ∧ r.toInt ≤ 1))) ([.ref (ad 1), .ref (ad 23)] : List Value).toArray s 0 0 (wA ad 218)) (F0 m 25 ls []) := by
    intro n25
    induction n25 with
    | zero =>
      intro v25_2 G25 H locs ls hm25 hv25_0 hW25 hfr25 hP hS hl
      exact absurd hm25 (Nat.not_lt_zero _)
    | succ n25 ih25 =>
      intro v25_2 G25 H locs ls hm25 hv25_0 hW25 hfr25 hP hS hl
      refine lv_iload_n hx hb dX7_readInto_25 rfl (lv_at hl 0 rfl) ?_
      refine lv_sipush (v := 1000) hx hb dX7_readInto_26 (by decide) ?_
      have HJ164 : ∀ (G164 : Nat → va_E) (H : Heap) (locs : List Loc) (ls : Array Slot), WF (shp ad K) ad cs G164 → (∀ j, j ≠ 1 ∧ (j < 23 ∨ 23 + 20 ≤ j) → G164 j = g j) → va_P D vwCl (wL ad G164 218) H → va_S (wA ad 218) s.heap H locs → lv_has ls 3 [(0, .ref (ad 1))] → W p l e ({ frames := 7, cells := 0, slots := 0, locals := 152 } : Room) s m ([.ref (ad 1), .ref (ad 23)] : List Value).toArray below meth c H locs 0 0 (MQ below (qI D ad 218 (fun r g2 => WF (shp ad K) ad cs g2 ∧ (∀ j, j ≠ 1 ∧ (j < 23 ∨ 23 + 20 ≤ j) → g2 j = g j) ∧ (0 ≤ r.toInt ∧ r.toInt ≤ 1))) ([.ref (ad 1), .ref (ad 23)] : List Value).toArray s 0 0 (wA ad 218)) (F0 m 164 ls []) := by
        intro G164 H locs ls hW164 hfr164 hP hS hl
        refine lv_aload_n hx hb dX7_readInto_164 rfl (lv_at hl 0 rfl) ?_
        obtain ⟨fsc_20, hgc_20, hOc_20⟩ := hW164.obj (i := 1) (by decide) (sh_1 ad K)
        obtain ⟨x_22, hk_21, -⟩ := hOc_20.int 2 rfl
        refine q_get X iX7_readInto_7 hP (by decide) hgc_20 rfl 2 (by decide) (List.mem_of_getElem? (i := 5) rfl) (v := .int x_22) hk_21 dX7_readInto_165 ?_
        refine lv_if_ne (tgt := 175) hx hb dX7_readInto_168 (by decide) (fun hc_23 => ?_) (fun hc_23 => ?_)
        · have hhc_23 := n_ne (rfl : x_22.toInt = x_22.toInt) (by decide : (0 : Int32).toInt = 0) hc_23
          refine lv_iconst (v := 0) hx hb dX7_readInto_175 (by decide) ?_
          have hr0 : (0 : Int32).toInt = 0 := by decide
          exact q_zret X hP hS rfl ⟨hW164, hfr164, (by omega)⟩ dX7_readInto_176
        · have hhc_23 := n_eq (rfl : x_22.toInt = x_22.toInt) (by decide : (0 : Int32).toInt = 0) hc_23
          refine lv_iconst (v := 1) hx hb dX7_readInto_171 (by decide) ?_
          refine lv_goto (tgt := 176) hx hb dX7_readInto_172 (by decide) ?_
          have hr0 : (1 : Int32).toInt = 1 := by decide
          exact q_zret X hP hS rfl ⟨hW164, hfr164, (by omega)⟩ dX7_readInto_176
      refine lv_icmp_gt (tgt := 164) hx hb dX7_readInto_29 (by decide) (fun hc_24 => ?_) (fun hc_24 => ?_)
      · have hhc_24 := n_lt (by decide : (1000 : Int32).toInt = 1000) (rfl : v25_2.toInt = v25_2.toInt) hc_24
        exact HJ164 G25 _ _ ls hW25 hfr25 hP hS (lv_sub hl [1] rfl)
      · have hhc_24 := n_nlt (by decide : (1000 : Int32).toInt = 1000) (rfl : v25_2.toInt = v25_2.toInt) hc_24
        refine lv_aload_n hx hb dX7_readInto_32 rfl (lv_at hl 1 rfl) ?_
        obtain ⟨fsc_25, hgc_25, hOc_25⟩ := hW25.obj (i := 1) (by decide) (sh_1 ad K)
        obtain ⟨x_27, hk_26, hlx_27, hhx_27⟩ := hOc_25.int 6 rfl
        refine q_get X iX7_readInto_7 hP (by decide) hgc_25 rfl 6 (by decide) (List.mem_of_getElem? (i := 12) rfl) (v := .int x_27) hk_26 dX7_readInto_33 ?_
        refine lv_if_eq (tgt := 164) hx hb dX7_readInto_36 (by decide) (fun hc_28 => ?_) (fun hc_28 => ?_)
        · have hhc_28 := n_eq (rfl : x_27.toInt = x_27.toInt) (by decide : (0 : Int32).toInt = 0) hc_28
          exact HJ164 G25 _ _ ls hW25 hfr25 hP hS (lv_sub hl [1] rfl)
        · have hhc_28 := n_ne (rfl : x_27.toInt = x_27.toInt) (by decide : (0 : Int32).toInt = 0) hc_28
          refine lv_aload_n hx hb dX7_readInto_39 rfl (lv_at hl 1 rfl) ?_
          obtain ⟨x_30, hk_29, -⟩ := hOc_25.int 2 rfl
          refine q_get X iX7_readInto_7 hP (by decide) hgc_25 rfl 2 (by decide) (List.mem_of_getElem? (i := 5) rfl) (v := .int x_30) hk_29 dX7_readInto_40 ?_
          refine lv_if_ne (tgt := 164) hx hb dX7_readInto_43 (by decide) (fun hc_31 => ?_) (fun hc_31 => ?_)
          · have hhc_31 := n_ne (rfl : x_30.toInt = x_30.toInt) (by decide : (0 : Int32).toInt = 0) hc_31
            exact HJ164 G25 _ _ ls hW25 hfr25 hP hS (lv_sub hl [1] rfl)
          · have hhc_31 := n_eq (rfl : x_30.toInt = x_30.toInt) (by decide : (0 : Int32).toInt = 0) hc_31
            refine lv_iload_n hx hb dX7_readInto_46 rfl (lv_at hl 0 rfl) ?_
            have HJ131 : ∀ (G131 : Nat → va_E) (H : Heap) (locs : List Loc) (ls : Array Slot), WF (shp ad K) ad cs G131 → (∀ j, j ≠ 1 ∧ (j < 23 ∨ 23 + 20 ≤ j) → G131 j = g j) → va_P D vwCl (wL ad G131 218) H → va_S (wA ad 218) s.heap H locs → lv_has ls 3 [(2, .int v25_2), (0, .ref (ad 1)), (1, .ref (ad 23))] → W p l e ({ frames := 7, cells := 0, slots := 0, locals := 152 } : Room) s m ([.ref (ad 1), .ref (ad 23)] : List Value).toArray below meth c H locs 0 0 (MQ below (qI D ad 218 (fun r g2 => WF (shp ad K) ad cs g2 ∧ (∀ j, j ≠ 1 ∧ (j < 23 ∨ 23 + 20 ≤ j) → g2 j = g j) ∧ (0 ≤ r.toInt ∧ r.toInt ≤ 1))) ([.ref (ad 1), .ref (ad 23)] : List Value).toArray s 0 0 (wA ad 218)) (F0 m 131 ls []) := by
              intro G131 H locs ls hW131 hfr131 hP hS hl
              refine lv_aload_n hx hb dX7_readInto_131 rfl (lv_at hl 1 rfl) ?_
              refine lv_aload_n hx hb dX7_readInto_132 rfl (lv_at hl 1 rfl) ?_
              obtain ⟨fsc_32, hgc_32, hOc_32⟩ := hW131.obj (i := 1) (by decide) (sh_1 ad K)
              obtain ⟨x_34, hk_33, hlx_34, hhx_34⟩ := hOc_32.int 6 rfl
              refine q_get X iX7_readInto_7 hP (by decide) hgc_32 rfl 6 (by decide) (List.mem_of_getElem? (i := 12) rfl) (v := .int x_34) hk_33 dX7_readInto_133 ?_
              refine lv_iconst (v := 3) hx hb dX7_readInto_136 (by decide) ?_
              refine lv_icmp_ne (tgt := 144) hx hb dX7_readInto_137 (by decide) (fun hc_35 => ?_) (fun hc_35 => ?_)
              · have hhc_35 := n_ne (rfl : x_34.toInt = x_34.toInt) (by decide : (3 : Int32).toInt = 3) hc_35
                refine lv_iconst (v := 0) hx hb dX7_readInto_144 (by decide) ?_
                refine s_callv (q := (RX7, TX7, 7)) (As := [.int 0]) (rest := []) X Z (s_X7_pass l D cs ad kS K hKO hj G131 hW131 0) (cwV 1 X.2.2.2.2.1 gg_X7_readInto_X7_pass rfl rfl rfl (by decide +kernel) ⟨Nat.le_of_ble_eq_true rfl, Nat.le_of_ble_eq_true rfl⟩) (by decide) hgc_32 rfl hP hA hS.2.1 hS rfl hl.1 rfl (Nat.le_of_ble_eq_true rfl) dX7_readInto_145 ⟨Nat.le_of_ble_eq_true rfl, Nat.le_of_ble_eq_true rfl⟩ (fun g_37 H locs hw_36 hP hS => ?_)
                obtain ⟨hw_36W, hw_36f⟩ := hw_36
                have hfr_39 : ∀ j, j ≠ 1 ∧ (j < 23 ∨ 23 + 20 ≤ j) → g_37 j = g j := fun j hj => (hw_36f j (by omega)).trans (hfr131 j hj)
                refine lv_aload_n hx hb dX7_readInto_148 rfl (lv_at hl 2 rfl) ?_
                refine lv_dup hx hb dX7_readInto_149 rfl ?_
                obtain ⟨fsc_40, hgc_40, hOc_40⟩ := hw_36W.obj (i := 23) (by decide) (sh_23 ad K)
                obtain ⟨x_42, hk_41, -⟩ := hOc_40.int 7 rfl
                refine q_get X iX7_readInto_6 hP (by decide) hgc_40 rfl 7 (by decide) (List.mem_of_getElem? (i := 19) rfl) (v := .int x_42) hk_41 dX7_readInto_150 ?_
                refine lv_iconst (v := 1) hx hb dX7_readInto_153 (by decide) ?_
                refine lv_iadd hx hb dX7_readInto_154 ?_
                refine lv_topi (fun z_43 ez_43 => ?_)
                refine s_put X iX7_readInto_6 tyX6 tyX6_ok nmX6 hP hj hA hS (by decide) hgc_40 rfl 7 (by decide) (List.mem_of_getElem? (i := 19) rfl) rfl (ty := .int) (v := .int z_43) (by decide +kernel) rfl rfl dX7_readInto_155 hw_36W (sh_23 ad K) hOc_40 rfl ⟨z_43, rfl, n_lo _, n_hi _⟩ (fun fsc_44 gc_44 H locs hOc_44 hkc_44 hnc_44 hgc_44 hfc_44 hWc_44 hP hS => ?_)
                have hfr_45 : ∀ j, j ≠ 1 ∧ (j < 23 ∨ 23 + 20 ≤ j) → gc_44 j = g j := fun j hj => (hfc_44 j (by omega)).trans (hfr_39 j hj)
                obtain ⟨x_46, ex_46⟩ : ∃ y : Int32, y = v25_2 + 1 := ⟨_, rfl⟩
                have hx_46 : x_46.toInt = v25_2.toInt + 1 := n_add rfl (by decide : (1 : Int32).toInt = 1) ex_46 (by omega) (by omega)
                refine lv_iinc (v := x_46) (lv' := [(2, .int x_46), (0, .ref (ad 1)), (1, .ref (ad 23))]) hx hb dX7_readInto_158 hl (k := 0) rfl (by rw [ex_46]; rfl) (by decide) rfl (fun ls hl => ?_)
                refine lv_goto (tgt := 25) hx hb dX7_readInto_161 (by decide) ?_
                exact ih25 x_46 gc_44 _ _ ls (by omega) (by omega) hWc_44 hfr_45 hP hS (lv_sub hl [0, 1, 2] rfl)
              · have hhc_35 := n_eq (rfl : x_34.toInt = x_34.toInt) (by decide : (3 : Int32).toInt = 3) hc_35
                refine lv_iconst (v := 1) hx hb dX7_readInto_140 (by decide) ?_
                refine lv_goto (tgt := 145) hx hb dX7_readInto_141 (by decide) ?_
                refine s_callv (q := (RX7, TX7, 7)) (As := [.int 1]) (rest := []) X Z (s_X7_pass l D cs ad kS K hKO hj G131 hW131 1) (cwV 1 X.2.2.2.2.1 gg_X7_readInto_X7_pass rfl rfl rfl (by decide +kernel) ⟨Nat.le_of_ble_eq_true rfl, Nat.le_of_ble_eq_true rfl⟩) (by decide) hgc_32 rfl hP hA hS.2.1 hS rfl hl.1 rfl (Nat.le_of_ble_eq_true rfl) dX7_readInto_145 ⟨Nat.le_of_ble_eq_true rfl, Nat.le_of_ble_eq_true rfl⟩ (fun g_48 H locs hw_47 hP hS => ?_)
                obtain ⟨hw_47W, hw_47f⟩ := hw_47
                have hfr_50 : ∀ j, j ≠ 1 ∧ (j < 23 ∨ 23 + 20 ≤ j) → g_48 j = g j := fun j hj => (hw_47f j (by omega)).trans (hfr131 j hj)
                refine lv_aload_n hx hb dX7_readInto_148 rfl (lv_at hl 2 rfl) ?_
                refine lv_dup hx hb dX7_readInto_149 rfl ?_
                obtain ⟨fsc_51, hgc_51, hOc_51⟩ := hw_47W.obj (i := 23) (by decide) (sh_23 ad K)
                obtain ⟨x_53, hk_52, -⟩ := hOc_51.int 7 rfl
                refine q_get X iX7_readInto_6 hP (by decide) hgc_51 rfl 7 (by decide) (List.mem_of_getElem? (i := 19) rfl) (v := .int x_53) hk_52 dX7_readInto_150 ?_
                refine lv_iconst (v := 1) hx hb dX7_readInto_153 (by decide) ?_
                refine lv_iadd hx hb dX7_readInto_154 ?_
                refine lv_topi (fun z_54 ez_54 => ?_)
                refine s_put X iX7_readInto_6 tyX6 tyX6_ok nmX6 hP hj hA hS (by decide) hgc_51 rfl 7 (by decide) (List.mem_of_getElem? (i := 19) rfl) rfl (ty := .int) (v := .int z_54) (by decide +kernel) rfl rfl dX7_readInto_155 hw_47W (sh_23 ad K) hOc_51 rfl ⟨z_54, rfl, n_lo _, n_hi _⟩ (fun fsc_55 gc_55 H locs hOc_55 hkc_55 hnc_55 hgc_55 hfc_55 hWc_55 hP hS => ?_)
                have hfr_56 : ∀ j, j ≠ 1 ∧ (j < 23 ∨ 23 + 20 ≤ j) → gc_55 j = g j := fun j hj => (hfc_55 j (by omega)).trans (hfr_50 j hj)
                obtain ⟨x_57, ex_57⟩ : ∃ y : Int32, y = v25_2 + 1 := ⟨_, rfl⟩
                have hx_57 : x_57.toInt = v25_2.toInt + 1 := n_add rfl (by decide : (1 : Int32).toInt = 1) ex_57 (by omega) (by omega)
                refine lv_iinc (v := x_57) (lv' := [(2, .int x_57), (0, .ref (ad 1)), (1, .ref (ad 23))]) hx hb dX7_readInto_158 hl (k := 0) rfl (by rw [ex_57]; rfl) (by decide) rfl (fun ls hl => ?_)
                refine lv_goto (tgt := 25) hx hb dX7_readInto_161 (by decide) ?_
                exact ih25 x_57 gc_55 _ _ ls (by omega) (by omega) hWc_55 hfr_56 hP hS (lv_sub hl [0, 1, 2] rfl)
            refine lv_if_ne (tgt := 58) hx hb dX7_readInto_47 (by decide) (fun hc_58 => ?_) (fun hc_58 => ?_)
            · have hhc_58 := n_ne (rfl : v25_2.toInt = v25_2.toInt) (by decide : (0 : Int32).toInt = 0) hc_58
              refine lv_aload_n hx hb dX7_readInto_58 rfl (lv_at hl 1 rfl) ?_
              refine va_ldcS hx hb X.2.2.2.2.2.1 (sq_7_43 Z) dX7_readInto_59 ?_
              refine s_calli (q := (RX7, TX7, 7)) (As := [.ref (kS.1 4)]) (rest := []) X Z (s_X7_isWord l D cs ad kS K hKO hj G25 hW25 4 (by omega)) (cwV 1 X.2.2.2.2.1 gg_X7_readInto_X7_isWord rfl rfl rfl (by decide +kernel) ⟨Nat.le_of_ble_eq_true rfl, Nat.le_of_ble_eq_true rfl⟩) (by decide) hgc_25 rfl hP hA hS.2.1 hS rfl hl.1 rfl (Nat.le_of_ble_eq_true rfl) dX7_readInto_61 ⟨Nat.le_of_ble_eq_true rfl, Nat.le_of_ble_eq_true rfl⟩ (fun r_61 g_60 H locs hw_59 hP hS => ?_)
              obtain ⟨hw_59g, hw_59⟩ := hw_59
              rw [hw_59g] at hP
              refine lv_if_eq (tgt := 75) hx hb dX7_readInto_64 (by decide) (fun hc_62 => ?_) (fun hc_62 => ?_)
              · have hhc_62 := n_eq (rfl : r_61.toInt = r_61.toInt) (by decide : (0 : Int32).toInt = 0) hc_62
                refine lv_aload_n hx hb dX7_readInto_75 rfl (lv_at hl 1 rfl) ?_
                refine va_ldcS hx hb X.2.2.2.2.2.1 (sq_7_52 Z) dX7_readInto_76 ?_
                refine s_calli (q := (RX7, TX7, 7)) (As := [.ref (kS.1 7)]) (rest := []) X Z (s_X7_isWord l D cs ad kS K hKO hj G25 hW25 7 (by omega)) (cwV 1 X.2.2.2.2.1 gg_X7_readInto_X7_isWord rfl rfl rfl (by decide +kernel) ⟨Nat.le_of_ble_eq_true rfl, Nat.le_of_ble_eq_true rfl⟩) (by decide) hgc_25 rfl hP hA hS.2.1 hS rfl hl.1 rfl (Nat.le_of_ble_eq_true rfl) dX7_readInto_78 ⟨Nat.le_of_ble_eq_true rfl, Nat.le_of_ble_eq_true rfl⟩ (fun r_65 g_64 H locs hw_63 hP hS => ?_)
                obtain ⟨hw_63g, hw_63⟩ := hw_63
                rw [hw_63g] at hP
                refine lv_if_eq (tgt := 92) hx hb dX7_readInto_81 (by decide) (fun hc_66 => ?_) (fun hc_66 => ?_)
                · have hhc_66 := n_eq (rfl : r_65.toInt = r_65.toInt) (by decide : (0 : Int32).toInt = 0) hc_66
                  refine lv_aload_n hx hb dX7_readInto_92 rfl (lv_at hl 1 rfl) ?_
                  refine va_ldcS hx hb X.2.2.2.2.2.1 (sq_7_57 Z) dX7_readInto_93 ?_
                  refine s_calli (q := (RX7, TX7, 7)) (As := [.ref (kS.1 9)]) (rest := []) X Z (s_X7_isWord l D cs ad kS K hKO hj G25 hW25 9 (by omega)) (cwV 1 X.2.2.2.2.1 gg_X7_readInto_X7_isWord rfl rfl rfl (by decide +kernel) ⟨Nat.le_of_ble_eq_true rfl, Nat.le_of_ble_eq_true rfl⟩) (by decide) hgc_25 rfl hP hA hS.2.1 hS rfl hl.1 rfl (Nat.le_of_ble_eq_true rfl) dX7_readInto_95 ⟨Nat.le_of_ble_eq_true rfl, Nat.le_of_ble_eq_true rfl⟩ (fun r_69 g_68 H locs hw_67 hP hS => ?_)
                  obtain ⟨hw_67g, hw_67⟩ := hw_67
                  rw [hw_67g] at hP
                  refine lv_if_eq (tgt := 109) hx hb dX7_readInto_98 (by decide) (fun hc_70 => ?_) (fun hc_70 => ?_)
                  · have hhc_70 := n_eq (rfl : r_69.toInt = r_69.toInt) (by decide : (0 : Int32).toInt = 0) hc_70
                    refine lv_aload_n hx hb dX7_readInto_109 rfl (lv_at hl 1 rfl) ?_
                    refine va_ldcS hx hb X.2.2.2.2.2.1 (sq_7_62 Z) dX7_readInto_110 ?_
                    refine s_calli (q := (RX7, TX7, 7)) (As := [.ref (kS.1 13)]) (rest := []) X Z (s_X7_isWord l D cs ad kS K hKO hj G25 hW25 13 (by omega)) (cwV 1 X.2.2.2.2.1 gg_X7_readInto_X7_isWord rfl rfl rfl (by decide +kernel) ⟨Nat.le_of_ble_eq_true rfl, Nat.le_of_ble_eq_true rfl⟩) (by decide) hgc_25 rfl hP hA hS.2.1 hS rfl hl.1 rfl (Nat.le_of_ble_eq_true rfl) dX7_readInto_112 ⟨Nat.le_of_ble_eq_true rfl, Nat.le_of_ble_eq_true rfl⟩ (fun r_73 g_72 H locs hw_71 hP hS => ?_)
                    obtain ⟨hw_71g, hw_71⟩ := hw_71
                    rw [hw_71g] at hP
                    refine lv_if_eq (tgt := 126) hx hb dX7_readInto_115 (by decide) (fun hc_74 => ?_) (fun hc_74 => ?_)
                    · have hhc_74 := n_eq (rfl : r_73.toInt = r_73.toInt) (by decide : (0 : Int32).toInt = 0) hc_74
                      refine lv_aload_n hx hb dX7_readInto_126 rfl (lv_at hl 1 rfl) ?_
                      refine lv_iconst (v := 1) hx hb dX7_readInto_127 (by decide) ?_
                      refine s_callv (q := (RX7, TX7, 7)) (As := [.int 1]) (rest := []) X Z (s_X7_blame l D cs ad kS K hKO hj G25 hW25 1) (cwV 1 X.2.2.2.2.1 gg_X7_readInto_X7_blame rfl rfl rfl (by decide +kernel) ⟨Nat.le_of_ble_eq_true rfl, Nat.le_of_ble_eq_true rfl⟩) (by decide) hgc_25 rfl hP hA hS.2.1 hS rfl hl.1 rfl (Nat.le_of_ble_eq_true rfl) dX7_readInto_128 ⟨Nat.le_of_ble_eq_true rfl, Nat.le_of_ble_eq_true rfl⟩ (fun g_76 H locs hw_75 hP hS => ?_)
                      obtain ⟨hw_75W, hw_75f⟩ := hw_75
                      have hfr_78 : ∀ j, j ≠ 1 ∧ (j < 23 ∨ 23 + 20 ≤ j) → g_76 j = g j := fun j hj => (hw_75f j (by omega)).trans (hfr25 j hj)
                      exact HJ131 g_76 _ _ ls hw_75W hfr_78 hP hS (lv_sub hl [0, 1, 2] rfl)
                    · have hhc_74 := n_ne (rfl : r_73.toInt = r_73.toInt) (by decide : (0 : Int32).toInt = 0) hc_74
                      refine lv_aload_n hx hb dX7_readInto_118 rfl (lv_at hl 1 rfl) ?_
                      refine lv_aload_n hx hb dX7_readInto_119 rfl (lv_at hl 2 rfl) ?_
                      refine s_callv (q := (RX7, TX7, 7)) (As := [.ref (ad 23)]) (rest := []) X Z (s_X7_readDue l D cs ad kS K hKO hj G25 hW25) (cwV 1 X.2.2.2.2.1 gg_X7_readInto_X7_readDue rfl rfl rfl (by decide +kernel) ⟨Nat.le_of_ble_eq_true rfl, Nat.le_of_ble_eq_true rfl⟩) (by decide) hgc_25 rfl hP hA hS.2.1 hS rfl hl.1 rfl (Nat.le_of_ble_eq_true rfl) dX7_readInto_120 ⟨Nat.le_of_ble_eq_true rfl, Nat.le_of_ble_eq_true rfl⟩ (fun g_80 H locs hw_79 hP hS => ?_)
                      obtain ⟨hw_79W, hw_79f⟩ := hw_79
                      have hfr_82 : ∀ j, j ≠ 1 ∧ (j < 23 ∨ 23 + 20 ≤ j) → g_80 j = g j := fun j hj => (hw_79f j (by omega)).trans (hfr25 j hj)
                      refine lv_goto (tgt := 131) hx hb dX7_readInto_123 (by decide) ?_
                      exact HJ131 g_80 _ _ ls hw_79W hfr_82 hP hS (lv_sub hl [0, 1, 2] rfl)
                  · have hhc_70 := n_ne (rfl : r_69.toInt = r_69.toInt) (by decide : (0 : Int32).toInt = 0) hc_70
                    refine lv_aload_n hx hb dX7_readInto_101 rfl (lv_at hl 1 rfl) ?_
                    refine lv_aload_n hx hb dX7_readInto_102 rfl (lv_at hl 2 rfl) ?_
                    refine s_callv (q := (RX7, TX7, 7)) (As := [.ref (ad 23)]) (rest := []) X Z (s_X7_readIcicle l D cs ad kS K hKO hj G25 hW25) (cwV 1 X.2.2.2.2.1 gg_X7_readInto_X7_readIcicle rfl rfl rfl (by decide +kernel) ⟨Nat.le_of_ble_eq_true rfl, Nat.le_of_ble_eq_true rfl⟩) (by decide) hgc_25 rfl hP hA hS.2.1 hS rfl hl.1 rfl (Nat.le_of_ble_eq_true rfl) dX7_readInto_103 ⟨Nat.le_of_ble_eq_true rfl, Nat.le_of_ble_eq_true rfl⟩ (fun g_84 H locs hw_83 hP hS => ?_)
                    obtain ⟨hw_83W, hw_83f⟩ := hw_83
                    have hfr_86 : ∀ j, j ≠ 1 ∧ (j < 23 ∨ 23 + 20 ≤ j) → g_84 j = g j := fun j hj => (hw_83f j (by omega)).trans (hfr25 j hj)
                    refine lv_goto (tgt := 131) hx hb dX7_readInto_106 (by decide) ?_
                    exact HJ131 g_84 _ _ ls hw_83W hfr_86 hP hS (lv_sub hl [0, 1, 2] rfl)
                · have hhc_66 := n_ne (rfl : r_65.toInt = r_65.toInt) (by decide : (0 : Int32).toInt = 0) hc_66
                  refine lv_aload_n hx hb dX7_readInto_84 rfl (lv_at hl 1 rfl) ?_
                  refine lv_aload_n hx hb dX7_readInto_85 rfl (lv_at hl 2 rfl) ?_
                  refine s_callv (q := (RX7, TX7, 7)) (As := [.ref (ad 23)]) (rest := []) X Z (s_X7_readEave l D cs ad kS K hKO hj G25 hW25) (cwV 1 X.2.2.2.2.1 gg_X7_readInto_X7_readEave rfl rfl rfl (by decide +kernel) ⟨Nat.le_of_ble_eq_true rfl, Nat.le_of_ble_eq_true rfl⟩) (by decide) hgc_25 rfl hP hA hS.2.1 hS rfl hl.1 rfl (Nat.le_of_ble_eq_true rfl) dX7_readInto_86 ⟨Nat.le_of_ble_eq_true rfl, Nat.le_of_ble_eq_true rfl⟩ (fun g_88 H locs hw_87 hP hS => ?_)
                  obtain ⟨hw_87W, hw_87f⟩ := hw_87
                  have hfr_90 : ∀ j, j ≠ 1 ∧ (j < 23 ∨ 23 + 20 ≤ j) → g_88 j = g j := fun j hj => (hw_87f j (by omega)).trans (hfr25 j hj)
                  refine lv_goto (tgt := 131) hx hb dX7_readInto_89 (by decide) ?_
                  exact HJ131 g_88 _ _ ls hw_87W hfr_90 hP hS (lv_sub hl [0, 1, 2] rfl)
              · have hhc_62 := n_ne (rfl : r_61.toInt = r_61.toInt) (by decide : (0 : Int32).toInt = 0) hc_62
                refine lv_aload_n hx hb dX7_readInto_67 rfl (lv_at hl 1 rfl) ?_
                refine lv_aload_n hx hb dX7_readInto_68 rfl (lv_at hl 2 rfl) ?_
                refine s_callv (q := (RX7, TX7, 7)) (As := [.ref (ad 23)]) (rest := []) X Z (s_X7_readDay l D cs ad kS K hKO hj G25 hW25) (cwV 1 X.2.2.2.2.1 gg_X7_readInto_X7_readDay rfl rfl rfl (by decide +kernel) ⟨Nat.le_of_ble_eq_true rfl, Nat.le_of_ble_eq_true rfl⟩) (by decide) hgc_25 rfl hP hA hS.2.1 hS rfl hl.1 rfl (Nat.le_of_ble_eq_true rfl) dX7_readInto_69 ⟨Nat.le_of_ble_eq_true rfl, Nat.le_of_ble_eq_true rfl⟩ (fun g_92 H locs hw_91 hP hS => ?_)
                obtain ⟨hw_91W, hw_91f⟩ := hw_91
                have hfr_94 : ∀ j, j ≠ 1 ∧ (j < 23 ∨ 23 + 20 ≤ j) → g_92 j = g j := fun j hj => (hw_91f j (by omega)).trans (hfr25 j hj)
                refine lv_goto (tgt := 131) hx hb dX7_readInto_72 (by decide) ?_
                exact HJ131 g_92 _ _ ls hw_91W hfr_94 hP hS (lv_sub hl [0, 1, 2] rfl)
            · have hhc_58 := n_eq (rfl : v25_2.toInt = v25_2.toInt) (by decide : (0 : Int32).toInt = 0) hc_58
              refine lv_aload_n hx hb dX7_readInto_50 rfl (lv_at hl 1 rfl) ?_
              refine lv_aload_n hx hb dX7_readInto_51 rfl (lv_at hl 2 rfl) ?_
              refine s_callv (q := (RX7, TX7, 7)) (As := [.ref (ad 23)]) (rest := []) X Z (s_X7_readFirst l D cs ad kS K hKO hj G25 hW25) (cwV 1 X.2.2.2.2.1 gg_X7_readInto_X7_readFirst rfl rfl rfl (by decide +kernel) ⟨Nat.le_of_ble_eq_true rfl, Nat.le_of_ble_eq_true rfl⟩) (by decide) hgc_25 rfl hP hA hS.2.1 hS rfl hl.1 rfl (Nat.le_of_ble_eq_true rfl) dX7_readInto_52 ⟨Nat.le_of_ble_eq_true rfl, Nat.le_of_ble_eq_true rfl⟩ (fun g_96 H locs hw_95 hP hS => ?_)
              obtain ⟨hw_95W, hw_95f⟩ := hw_95
              have hfr_98 : ∀ j, j ≠ 1 ∧ (j < 23 ∨ 23 + 20 ≤ j) → g_96 j = g j := fun j hj => (hw_95f j (by omega)).trans (hfr25 j hj)
              refine lv_goto (tgt := 131) hx hb dX7_readInto_55 (by decide) ?_
              exact HJ131 g_96 _ _ ls hw_95W hfr_98 hP hS (lv_sub hl [0, 1, 2] rfl)
  have hiv25_2 : (0 : Int32).toInt = 0 := by decide
  exact HL25 _ 0 g_17 _ _ ls (Nat.lt_succ_self _) (by omega) hw_16W hfr_19 hP hS (lv_sub hl [0, 1, 2] rfl)

theorem dX12_bit_0 : decode cX12_bit 0 = .ok (.iload_n 0, 1) := by decide +kernel
theorem dX12_bit_1 : decode cX12_bit 1 = .ok (.iload_n 1, 1) := by decide +kernel
theorem dX12_bit_2 : decode cX12_bit 2 = .ok (.ishr, 1) := by decide +kernel
theorem dX12_bit_3 : decode cX12_bit 3 = .ok (.iconst 1, 1) := by decide +kernel
theorem dX12_bit_4 : decode cX12_bit 4 = .ok (.iand, 1) := by decide +kernel
theorem dX12_bit_5 : decode cX12_bit 5 = .ok (.ireturn, 1) := by decide +kernel
noncomputable def vX12_bit : List Cond := .code yX12_bit cX12_bit 2 (some .int) :: ([] : List Cond)
theorem gs_X12_bit : Gd vX12_bit := Gd.cons (by decide +kernel) (Gd.r (by decide +kernel))
set_option maxHeartbeats 4000000 in
set_option maxRecDepth 100000 in
theorem s_X12_bit (l : Launch) (D : va_G) (cs : Nat → ClassId) (ad : Nat → Nat) (kS : kSt) (K : sK) (hKO : KO K) (hj : wJ ad 218) (g : Nat → va_E) (hW : WF (shp ad K) ad cs g) (st : Int32) (kk : Int32) : sI l yX12_bit vX12_bit { frames := 0, cells := 0, slots := 0, locals := 0 } D cs ad kS [.int st, .int kk] g (fun r g2 => g2 = g ∧ (0 ≤ r.toInt ∧ r.toInt ≤ 1 ∧ r = (st >>> (kk &&& 31)) &&& 1)) := by
  refine Met.startS (cc := cX12_bit) (maxL := 2) (ret := (some .int)) RX12 rfl (by decide) rfl (Nat.le_of_ble_eq_true rfl) ?_
  intro p e s m below meth c ls X Z hP hl
  have hx := X.1
  have hb := X.2.1
  have hS : va_S (wA ad 218) s.heap s.heap [] := va_S.rf
  have hA : ∀ i, i < 218 → wA ad 218 (ad i) := fun i h => ⟨i, h, rfl⟩
  have hl : lv_has ls 2 [(0, .int st), (1, .int kk)] := hl
  refine lv_iload_n hx hb dX12_bit_0 rfl (lv_at hl 0 rfl) ?_
  refine lv_iload_n hx hb dX12_bit_1 rfl (lv_at hl 1 rfl) ?_
  refine lv_ishr hx hb dX12_bit_2 ?_
  refine lv_topi (fun z_1 ez_1 => ?_)
  refine lv_iconst (v := 1) hx hb dX12_bit_3 (by decide) ?_
  refine lv_iand hx hb dX12_bit_4 ?_
  refine lv_topi (fun z_2 ez_2 => ?_)
  have hz_2 : 0 ≤ z_2.toInt ∧ z_2.toInt ≤ 1 := n_and 1 (by decide) (by decide) (by decide) ez_2
  exact q_iret X hP hS ⟨rfl, ⟨by omega, by omega, by rw [ez_2, ez_1]⟩⟩ dX12_bit_5

theorem dX12_layOff_0 : decode cX12_layOff 0 = .ok (.aload_n 0, 1) := by decide +kernel
theorem dX12_layOff_1 : decode cX12_layOff 1 = .ok (.aload_n 0, 1) := by decide +kernel
theorem dX12_layOff_2 : decode cX12_layOff 2 = .ok (.getfield 9, 3) := by decide +kernel
theorem dX12_layOff_5 : decode cX12_layOff 5 = .ok (.iconst 3, 1) := by decide +kernel
theorem dX12_layOff_6 : decode cX12_layOff 6 = .ok (.iaload, 1) := by decide +kernel
theorem dX12_layOff_7 : decode cX12_layOff 7 = .ok (.putfield 231, 3) := by decide +kernel
theorem dX12_layOff_10 : decode cX12_layOff 10 = .ok (.iconst 0, 1) := by decide +kernel
theorem dX12_layOff_11 : decode cX12_layOff 11 = .ok (.istore_n 2, 1) := by decide +kernel
theorem dX12_layOff_12 : decode cX12_layOff 12 = .ok (.iload_n 2, 1) := by decide +kernel
theorem dX12_layOff_13 : decode cX12_layOff 13 = .ok (.iconst 5, 1) := by decide +kernel
theorem dX12_layOff_14 : decode cX12_layOff 14 = .ok (.if_icmp .ge 55, 3) := by decide +kernel
theorem dX12_layOff_17 : decode cX12_layOff 17 = .ok (.iconst 0, 1) := by decide +kernel
theorem dX12_layOff_18 : decode cX12_layOff 18 = .ok (.istore_n 3, 1) := by decide +kernel
theorem dX12_layOff_19 : decode cX12_layOff 19 = .ok (.iload_n 3, 1) := by decide +kernel
theorem dX12_layOff_20 : decode cX12_layOff 20 = .ok (.aload_n 0, 1) := by decide +kernel
theorem dX12_layOff_21 : decode cX12_layOff 21 = .ok (.getfield 231, 3) := by decide +kernel
theorem dX12_layOff_24 : decode cX12_layOff 24 = .ok (.if_icmp .ge 39, 3) := by decide +kernel
theorem dX12_layOff_27 : decode cX12_layOff 27 = .ok (.aload_n 0, 1) := by decide +kernel
theorem dX12_layOff_28 : decode cX12_layOff 28 = .ok (.getfield 34, 3) := by decide +kernel
theorem dX12_layOff_31 : decode cX12_layOff 31 = .ok (.bipush 14, 2) := by decide +kernel
theorem dX12_layOff_33 : decode cX12_layOff 33 = .ok (.iload_n 2, 1) := by decide +kernel
theorem dX12_layOff_34 : decode cX12_layOff 34 = .ok (.imul, 1) := by decide +kernel
theorem dX12_layOff_35 : decode cX12_layOff 35 = .ok (.iload_n 3, 1) := by decide +kernel
theorem dX12_layOff_36 : decode cX12_layOff 36 = .ok (.iadd, 1) := by decide +kernel
theorem dX12_layOff_37 : decode cX12_layOff 37 = .ok (.aload_n 0, 1) := by decide +kernel
theorem dX12_layOff_38 : decode cX12_layOff 38 = .ok (.iload_n 3, 1) := by decide +kernel
theorem dX12_layOff_39 : decode cX12_layOff 39 = .ok (.invokevirtual 209, 3) := by decide +kernel
theorem dX12_layOff_42 : decode cX12_layOff 42 = .ok (.iload_n 1, 1) := by decide +kernel
theorem dX12_layOff_43 : decode cX12_layOff 43 = .ok (.iload_n 3, 1) := by decide +kernel
theorem dX12_layOff_44 : decode cX12_layOff 44 = .ok (.invokestatic 234, 3) := by decide +kernel
theorem dX12_layOff_47 : decode cX12_layOff 47 = .ok (.iadd, 1) := by decide +kernel
theorem dX12_layOff_48 : decode cX12_layOff 48 = .ok (.aload_n 0, 1) := by decide +kernel
theorem dX12_layOff_49 : decode cX12_layOff 49 = .ok (.iload_n 2, 1) := by decide +kernel
theorem dX12_layOff_50 : decode cX12_layOff 50 = .ok (.invokevirtual 215, 3) := by decide +kernel
theorem dX12_layOff_53 : decode cX12_layOff 53 = .ok (.invokestatic 218, 3) := by decide +kernel
theorem dX12_layOff_56 : decode cX12_layOff 56 = .ok (.iastore, 1) := by decide +kernel
theorem dX12_layOff_57 : decode cX12_layOff 57 = .ok (.iinc 3 1, 3) := by decide +kernel
theorem dX12_layOff_60 : decode cX12_layOff 60 = .ok (.goto (-41), 3) := by decide +kernel
theorem dX12_layOff_63 : decode cX12_layOff 63 = .ok (.iinc 2 1, 3) := by decide +kernel
theorem dX12_layOff_66 : decode cX12_layOff 66 = .ok (.goto (-54), 3) := by decide +kernel
theorem dX12_layOff_69 : decode cX12_layOff 69 = .ok (.iconst 0, 1) := by decide +kernel
theorem dX12_layOff_70 : decode cX12_layOff 70 = .ok (.istore_n 2, 1) := by decide +kernel
theorem dX12_layOff_71 : decode cX12_layOff 71 = .ok (.iload_n 2, 1) := by decide +kernel
theorem dX12_layOff_72 : decode cX12_layOff 72 = .ok (.aload_n 0, 1) := by decide +kernel
theorem dX12_layOff_73 : decode cX12_layOff 73 = .ok (.getfield 9, 3) := by decide +kernel
theorem dX12_layOff_76 : decode cX12_layOff 76 = .ok (.bipush 7, 2) := by decide +kernel
theorem dX12_layOff_78 : decode cX12_layOff 78 = .ok (.iaload, 1) := by decide +kernel
theorem dX12_layOff_79 : decode cX12_layOff 79 = .ok (.if_icmp .ge 102, 3) := by decide +kernel
theorem dX12_layOff_82 : decode cX12_layOff 82 = .ok (.aload_n 0, 1) := by decide +kernel
theorem dX12_layOff_83 : decode cX12_layOff 83 = .ok (.getfield 9, 3) := by decide +kernel
theorem dX12_layOff_86 : decode cX12_layOff 86 = .ok (.bipush 78, 2) := by decide +kernel
theorem dX12_layOff_88 : decode cX12_layOff 88 = .ok (.iload_n 2, 1) := by decide +kernel
theorem dX12_layOff_89 : decode cX12_layOff 89 = .ok (.iadd, 1) := by decide +kernel
theorem dX12_layOff_90 : decode cX12_layOff 90 = .ok (.iaload, 1) := by decide +kernel
theorem dX12_layOff_91 : decode cX12_layOff 91 = .ok (.istore_n 3, 1) := by decide +kernel
theorem dX12_layOff_92 : decode cX12_layOff 92 = .ok (.iconst 0, 1) := by decide +kernel
theorem dX12_layOff_93 : decode cX12_layOff 93 = .ok (.istore 4, 2) := by decide +kernel
theorem dX12_layOff_95 : decode cX12_layOff 95 = .ok (.iload 4, 2) := by decide +kernel
theorem dX12_layOff_97 : decode cX12_layOff 97 = .ok (.iconst 5, 1) := by decide +kernel
theorem dX12_layOff_98 : decode cX12_layOff 98 = .ok (.if_icmp .ge 77, 3) := by decide +kernel
theorem dX12_layOff_101 : decode cX12_layOff 101 = .ok (.iload_n 3, 1) := by decide +kernel
theorem dX12_layOff_102 : decode cX12_layOff 102 = .ok (.sipush 1000, 3) := by decide +kernel
theorem dX12_layOff_105 : decode cX12_layOff 105 = .ok (.if_icmp .lt 31, 3) := by decide +kernel
theorem dX12_layOff_108 : decode cX12_layOff 108 = .ok (.aload_n 0, 1) := by decide +kernel
theorem dX12_layOff_109 : decode cX12_layOff 109 = .ok (.getfield 34, 3) := by decide +kernel
theorem dX12_layOff_112 : decode cX12_layOff 112 = .ok (.bipush 14, 2) := by decide +kernel
theorem dX12_layOff_114 : decode cX12_layOff 114 = .ok (.iload 4, 2) := by decide +kernel
theorem dX12_layOff_116 : decode cX12_layOff 116 = .ok (.imul, 1) := by decide +kernel
theorem dX12_layOff_117 : decode cX12_layOff 117 = .ok (.iload_n 3, 1) := by decide +kernel
theorem dX12_layOff_118 : decode cX12_layOff 118 = .ok (.iadd, 1) := by decide +kernel
theorem dX12_layOff_119 : decode cX12_layOff 119 = .ok (.sipush 1000, 3) := by decide +kernel
theorem dX12_layOff_122 : decode cX12_layOff 122 = .ok (.isub, 1) := by decide +kernel
theorem dX12_layOff_123 : decode cX12_layOff 123 = .ok (.dup2, 1) := by decide +kernel
theorem dX12_layOff_124 : decode cX12_layOff 124 = .ok (.iaload, 1) := by decide +kernel
theorem dX12_layOff_125 : decode cX12_layOff 125 = .ok (.aload_n 0, 1) := by decide +kernel
theorem dX12_layOff_126 : decode cX12_layOff 126 = .ok (.getfield 9, 3) := by decide +kernel
theorem dX12_layOff_129 : decode cX12_layOff 129 = .ok (.iconst 1, 1) := by decide +kernel
theorem dX12_layOff_130 : decode cX12_layOff 130 = .ok (.iaload, 1) := by decide +kernel
theorem dX12_layOff_131 : decode cX12_layOff 131 = .ok (.iadd, 1) := by decide +kernel
theorem dX12_layOff_132 : decode cX12_layOff 132 = .ok (.iastore, 1) := by decide +kernel
theorem dX12_layOff_133 : decode cX12_layOff 133 = .ok (.goto 36, 3) := by decide +kernel
theorem dX12_layOff_136 : decode cX12_layOff 136 = .ok (.iload_n 3, 1) := by decide +kernel
theorem dX12_layOff_137 : decode cX12_layOff 137 = .ok (.bipush 20, 2) := by decide +kernel
theorem dX12_layOff_139 : decode cX12_layOff 139 = .ok (.idiv, 1) := by decide +kernel
theorem dX12_layOff_140 : decode cX12_layOff 140 = .ok (.iload 4, 2) := by decide +kernel
theorem dX12_layOff_142 : decode cX12_layOff 142 = .ok (.if_icmp .ne 27, 3) := by decide +kernel
theorem dX12_layOff_145 : decode cX12_layOff 145 = .ok (.aload_n 0, 1) := by decide +kernel
theorem dX12_layOff_146 : decode cX12_layOff 146 = .ok (.getfield 34, 3) := by decide +kernel
theorem dX12_layOff_149 : decode cX12_layOff 149 = .ok (.bipush 14, 2) := by decide +kernel
theorem dX12_layOff_151 : decode cX12_layOff 151 = .ok (.iload 4, 2) := by decide +kernel
theorem dX12_layOff_153 : decode cX12_layOff 153 = .ok (.imul, 1) := by decide +kernel
theorem dX12_layOff_154 : decode cX12_layOff 154 = .ok (.iload_n 3, 1) := by decide +kernel
theorem dX12_layOff_155 : decode cX12_layOff 155 = .ok (.bipush 20, 2) := by decide +kernel
theorem dX12_layOff_157 : decode cX12_layOff 157 = .ok (.irem, 1) := by decide +kernel
theorem dX12_layOff_158 : decode cX12_layOff 158 = .ok (.iadd, 1) := by decide +kernel
theorem dX12_layOff_159 : decode cX12_layOff 159 = .ok (.dup2, 1) := by decide +kernel
theorem dX12_layOff_160 : decode cX12_layOff 160 = .ok (.iaload, 1) := by decide +kernel
theorem dX12_layOff_161 : decode cX12_layOff 161 = .ok (.aload_n 0, 1) := by decide +kernel
theorem dX12_layOff_162 : decode cX12_layOff 162 = .ok (.getfield 9, 3) := by decide +kernel
theorem dX12_layOff_165 : decode cX12_layOff 165 = .ok (.iconst 0, 1) := by decide +kernel
theorem dX12_layOff_166 : decode cX12_layOff 166 = .ok (.iaload, 1) := by decide +kernel
theorem dX12_layOff_167 : decode cX12_layOff 167 = .ok (.iadd, 1) := by decide +kernel
theorem dX12_layOff_168 : decode cX12_layOff 168 = .ok (.iastore, 1) := by decide +kernel
theorem dX12_layOff_169 : decode cX12_layOff 169 = .ok (.iinc 4 1, 3) := by decide +kernel
theorem dX12_layOff_172 : decode cX12_layOff 172 = .ok (.goto (-77), 3) := by decide +kernel
theorem dX12_layOff_175 : decode cX12_layOff 175 = .ok (.iinc 2 1, 3) := by decide +kernel
theorem dX12_layOff_178 : decode cX12_layOff 178 = .ok (.goto (-107), 3) := by decide +kernel
theorem dX12_layOff_181 : decode cX12_layOff 181 = .ok (.return_, 1) := by decide +kernel
noncomputable def vX12_layOff : List Cond := .code yX12_layOff cX12_layOff 5 none :: (([.fieldLink RX12 9 "IcicleClockModel" "world" "[I", .fieldLink RX12 231 "IcicleClockModel" "days" "I", .fieldLink RX12 34 "IcicleClockModel" "off" "[I", .methodLink RX12 209 yX12_thawOf, .instanceMethod yX12_thawOf, .selects RX12 yX12_thawOf yX12_thawOf, .initialized RX12, .methodLink RX12 234 yX12_bit, .static yX12_bit, .methodLink RX12 215 yX12_sunOf, .instanceMethod yX12_sunOf, .selects RX12 yX12_sunOf yX12_sunOf, .methodLink RX12 218 yX12_meltBy, .static yX12_meltBy] : List Cond) ++ (wsX120 ++ (vX12_thawOf ++ (vX12_bit ++ (vX12_sunOf ++ vX12_meltBy)))))
theorem iX12_layOff_12 : ∀ w ∈ wsX120, w ∈ vX12_layOff := fun _ h => List.mem_cons_of_mem _ (List.mem_append_right _ (List.mem_append_left _ h))
theorem gs_X12_layOff : Gd vX12_layOff := Gd.cons (by decide +kernel) (Gd.app (Gd.r (by decide +kernel)) (Gd.app gwX_12 (Gd.app gs_X12_thawOf (Gd.app gs_X12_bit (Gd.app gs_X12_sunOf gs_X12_meltBy)))))
theorem gg_X12_layOff_X12_thawOf : GoodIn vX12_layOff (wsV RX12 209 RX12 yX12_thawOf vX12_thawOf) := goodIn_app (goodIn_r _ [4, 5, 6, 7] (by decide +kernel) (by decide +kernel)) (fun w h => ⟨List.mem_cons_of_mem _ (List.mem_append_right _ (List.mem_append_right _ (List.mem_append_left _ h))), gs_X12_thawOf w h⟩)
theorem gg_X12_layOff_X12_bit : GoodIn vX12_layOff (wsS RX12 234 yX12_bit vX12_bit) := goodIn_app (goodIn_r _ [8, 9, 7] (by decide +kernel) (by decide +kernel)) (fun w h => ⟨List.mem_cons_of_mem _ (List.mem_append_right _ (List.mem_append_right _ (List.mem_append_right _ (List.mem_append_left _ h)))), gs_X12_bit w h⟩)
theorem gg_X12_layOff_X12_sunOf : GoodIn vX12_layOff (wsV RX12 215 RX12 yX12_sunOf vX12_sunOf) := goodIn_app (goodIn_r _ [10, 11, 12, 7] (by decide +kernel) (by decide +kernel)) (fun w h => ⟨List.mem_cons_of_mem _ (List.mem_append_right _ (List.mem_append_right _ (List.mem_append_right _ (List.mem_append_right _ (List.mem_append_left _ h))))), gs_X12_sunOf w h⟩)
theorem gg_X12_layOff_X12_meltBy : GoodIn vX12_layOff (wsS RX12 218 yX12_meltBy vX12_meltBy) := goodIn_app (goodIn_r _ [13, 14, 7] (by decide +kernel) (by decide +kernel)) (fun w h => ⟨List.mem_cons_of_mem _ (List.mem_append_right _ (List.mem_append_right _ (List.mem_append_right _ (List.mem_append_right _ (List.mem_append_right _ (h)))))), gs_X12_meltBy w h⟩)
set_option maxHeartbeats 4000000 in
set_option maxRecDepth 100000 in
theorem s_X12_layOff (l : Launch) (D : va_G) (cs : Nat → ClassId) (ad : Nat → Nat) (kS : kSt) (K : sK) (hKO : KO K) (hj : wJ ad 218) (g : Nat → va_E) (hW : WF (shp ad K) ad cs g) (wm : Int32) : sV l yX12_layOff vX12_layOff { frames := 1, cells := 0, slots := 0, locals := 21 } D cs ad kS [.ref (ad 197), .int wm] g (fun g2 => WF (shp ad K) ad cs g2 ∧ (∀ j, j ≠ 197 ∧ j ≠ 204 → g2 j = g j)) := by
  refine Met.startS (cc := cX12_layOff) (maxL := 5) (ret := none) RX12 rfl (by decide) rfl (Nat.le_of_ble_eq_true rfl) ?_
  intro p e s m below meth c ls X Z hP hl
  have hx := X.1
  have hb := X.2.1
  have hS : va_S (wA ad 218) s.heap s.heap [] := va_S.rf
  have hA : ∀ i, i < 218 → wA ad 218 (ad i) := fun i h => ⟨i, h, rfl⟩
  have hfr : ∀ j, j ≠ 197 ∧ j ≠ 204 → g j = g j := fun _ _ => rfl
  have hl : lv_has ls 5 [(0, .ref (ad 197)), (1, .int wm)] := hl
  refine lv_aload_n hx hb dX12_layOff_0 rfl (lv_at hl 0 rfl) ?_
  refine lv_aload_n hx hb dX12_layOff_1 rfl (lv_at hl 0 rfl) ?_
  obtain ⟨fsc_1, hgc_1, hOc_1⟩ := hW.obj (i := 197) (by decide) (sh_197 ad K)
  have hk_2 := hOc_1.ref 1 rfl
  refine q_get X iX12_layOff_12 hP (by decide) hgc_1 rfl 1 (by decide) (List.mem_of_getElem? (i := 1) rfl) (v := .ref (ad 198)) hk_2 dX12_layOff_2 ?_
  refine lv_iconst (v := 3) hx hb dX12_layOff_5 (by decide) ?_
  obtain ⟨fc_3, hgc_3, hFc_3⟩ := hW.arr (i := 198) (by decide) (sh_198 ad K)
  refine q_iald X hP (by decide) hgc_3 (by unfold vp_in; decide) dX12_layOff_6 ?_
  refine lv_topi (fun z_4 ez_4 => ?_)
  have hqz_4 : wq (3) z_4.toInt := ez_4 ▸ hFc_3 _
  have hz_4 : 0 ≤ z_4.toInt ∧ z_4.toInt ≤ 14 := by unfold wq at hqz_4; omega
  clear hqz_4
  refine s_put X iX12_layOff_12 tyX12 tyX12_ok nmX12 hP hj hA hS (by decide) hgc_1 rfl 17 (by decide) (List.mem_of_getElem? (i := 2) rfl) rfl (ty := .int) (v := .int z_4) (by decide +kernel) rfl rfl dX12_layOff_7 hW (sh_197 ad K) hOc_1 rfl ⟨z_4, rfl, by omega, by omega⟩ (fun fsc_5 gc_5 H locs hOc_5 hkc_5 hnc_5 hgc_5 hfc_5 hWc_5 hP hS => ?_)
  have hk_6 := (hnc_5 1 (by decide)).trans hk_2
  have hg_8 := (hfc_5 198 (by decide)).trans hgc_3
  have hfr_7 : ∀ j, j ≠ 197 ∧ j ≠ 204 → gc_5 j = g j := fun j hj => (hfc_5 j (by omega)).trans (hfr j hj)
  refine lv_iconst (v := 0) hx hb dX12_layOff_10 (by decide) ?_
  refine lv_istore_n (lv' := [(2, .int 0), (0, .ref (ad 197)), (1, .int wm)]) hx hb dX12_layOff_11 rfl hl (by decide) rfl (fun ls hl => ?_)
  have HL12 : ∀ (n12 : Nat) (v12_2 : Int32) (G12 : Nat → va_E) (H : Heap) (locs : List Loc) (ls : Array Slot), (5 - v12_2.toInt).toNat < n12 → (0 ≤ v12_2.toInt ∧ v12_2.toInt ≤ 5) → WF (shp ad K) ad cs G12 → (∀ j, j ≠ 197 ∧ j ≠ 204 → G12 j = g j) → va_P D vwCl (wL ad G12 218) H → va_S (wA ad 218) s.heap H locs → lv_has ls 5 [(2, .int v12_2), (0, .ref (ad 197)), (1, .int wm)] → W p l e ({ frames := 1, cells := 0, slots := 0, locals := 21 } : Room) s m ([.ref (ad 197), .int wm] : List Value).toArray below meth c H locs 0 0 (MQ below (qV D ad 218 (fun g2 => WF (shp ad K) ad cs g2 ∧ (∀ j, j ≠ 197 ∧ j ≠ 204 → g2 j = g j))) ([.ref (ad 197), .int wm] : List Value).toArray s 0 0 (wA ad 218)) (F0 m 12 ls []) := by
    intro n12
    induction n12 with
    | zero =>
      intro v12_2 G12 H locs ls hm12 hv12_0 hW12 hfr12 hP hS hl
      exact absurd hm12 (Nat.not_lt_zero _)
    | succ n12 ih12 =>
      intro v12_2 G12 H locs ls hm12 hv12_0 hW12 hfr12 hP hS hl
      refine lv_iload_n hx hb dX12_layOff_12 rfl (lv_at hl 0 rfl) ?_
      refine lv_iconst (v := 5) hx hb dX12_layOff_13 (by decide) ?_
      refine lv_icmp_ge (tgt := 69) hx hb dX12_layOff_14 (by decide) (fun hc_9 => ?_) (fun hc_9 => ?_)
      · have hhc_9 := n_le (by decide : (5 : Int32).toInt = 5) (rfl : v12_2.toInt = v12_2.toInt) hc_9
        refine lv_iconst (v := 0) hx hb dX12_layOff_69 (by decide) ?_
        refine lv_istore_n (lv' := [(2, .int 0), (0, .ref (ad 197)), (1, .int wm)]) hx hb dX12_layOff_70 rfl hl (by decide) rfl (fun ls hl => ?_)
        have HL71 : ∀ (n71 : Nat) (v71_2 : Int32) (G71 : Nat → va_E) (H : Heap) (locs : List Loc) (ls : Array Slot), (40 - v71_2.toInt).toNat < n71 → (0 ≤ v71_2.toInt ∧ v71_2.toInt ≤ 40) → WF (shp ad K) ad cs G71 → (∀ j, j ≠ 197 ∧ j ≠ 204 → G71 j = g j) → va_P D vwCl (wL ad G71 218) H → va_S (wA ad 218) s.heap H locs → lv_has ls 5 [(2, .int v71_2), (0, .ref (ad 197))] → W p l e ({ frames := 1, cells := 0, slots := 0, locals := 21 } : Room) s m ([.ref (ad 197), .int wm] : List Value).toArray below meth c H locs 0 0 (MQ below (qV D ad 218 (fun g2 => WF (shp ad K) ad cs g2 ∧ (∀ j, j ≠ 197 ∧ j ≠ 204 → g2 j = g j))) ([.ref (ad 197), .int wm] : List Value).toArray s 0 0 (wA ad 218)) (F0 m 71 ls []) := by
          intro n71
          induction n71 with
          | zero =>
            intro v71_2 G71 H locs ls hm71 hv71_0 hW71 hfr71 hP hS hl
            exact absurd hm71 (Nat.not_lt_zero _)
          | succ n71 ih71 =>
            intro v71_2 G71 H locs ls hm71 hv71_0 hW71 hfr71 hP hS hl
            refine lv_iload_n hx hb dX12_layOff_71 rfl (lv_at hl 0 rfl) ?_
            refine lv_aload_n hx hb dX12_layOff_72 rfl (lv_at hl 1 rfl) ?_
            obtain ⟨fsc_10, hgc_10, hOc_10⟩ := hW71.obj (i := 197) (by decide) (sh_197 ad K)
            have hk_11 := hOc_10.ref 1 rfl
            refine q_get X iX12_layOff_12 hP (by decide) hgc_10 rfl 1 (by decide) (List.mem_of_getElem? (i := 1) rfl) (v := .ref (ad 198)) hk_11 dX12_layOff_73 ?_
            refine lv_bipush (v := 7) hx hb dX12_layOff_76 (by decide) ?_
            obtain ⟨fc_12, hgc_12, hFc_12⟩ := hW71.arr (i := 198) (by decide) (sh_198 ad K)
            refine q_iald X hP (by decide) hgc_12 (by unfold vp_in; decide) dX12_layOff_78 ?_
            refine lv_topi (fun z_13 ez_13 => ?_)
            have hqz_13 : wq (7) z_13.toInt := ez_13 ▸ hFc_12 _
            have hz_13 : 0 ≤ z_13.toInt ∧ z_13.toInt ≤ 40 := by unfold wq at hqz_13; omega
            clear hqz_13
            refine lv_icmp_ge (tgt := 181) hx hb dX12_layOff_79 (by decide) (fun hc_14 => ?_) (fun hc_14 => ?_)
            · have hhc_14 := n_le (rfl : z_13.toInt = z_13.toInt) (rfl : v71_2.toInt = v71_2.toInt) hc_14
              exact q_vret X hP hS ⟨hW71, hfr71⟩ dX12_layOff_181
            · have hhc_14 := n_nle (rfl : z_13.toInt = z_13.toInt) (rfl : v71_2.toInt = v71_2.toInt) hc_14
              refine lv_aload_n hx hb dX12_layOff_82 rfl (lv_at hl 1 rfl) ?_
              refine q_get X iX12_layOff_12 hP (by decide) hgc_10 rfl 1 (by decide) (List.mem_of_getElem? (i := 1) rfl) (v := .ref (ad 198)) hk_11 dX12_layOff_83 ?_
              refine lv_bipush (v := 78) hx hb dX12_layOff_86 (by decide) ?_
              refine lv_iload_n hx hb dX12_layOff_88 rfl (lv_at hl 0 rfl) ?_
              refine lv_iadd hx hb dX12_layOff_89 ?_
              refine lv_topi (fun z_15 ez_15 => ?_)
              have hz_15 : z_15.toInt = 78 + v71_2.toInt := n_add (by decide : (78 : Int32).toInt = 78) (rfl : v71_2.toInt = v71_2.toInt) ez_15 (by omega) (by omega)
              refine q_iald X hP (by decide) hgc_12 (n_in (rfl : z_15.toInt = z_15.toInt) (by omega) (by omega)) dX12_layOff_90 ?_
              refine lv_topi (fun z_16 ez_16 => ?_)
              have hqz_16 : wq (z_15.toNatClampNeg) z_16.toInt := ez_16 ▸ hFc_12 _
              have hcz_16 := n_cl (rfl : z_15.toInt = z_15.toInt) (by omega)
              unfold wq at hqz_16
              have hz_16 : 0 ≤ z_16.toInt ∧ z_16.toInt ≤ 1013 := by omega
              refine lv_istore_n (lv' := [(3, .int z_16), (2, .int v71_2), (0, .ref (ad 197))]) hx hb dX12_layOff_91 rfl hl (by decide) rfl (fun ls hl => ?_)
              refine lv_iconst (v := 0) hx hb dX12_layOff_92 (by decide) ?_
              refine lv_istore (lv' := [(4, .int 0), (3, .int z_16), (2, .int v71_2), (0, .ref (ad 197))]) hx hb dX12_layOff_93 hl (by decide) rfl (fun ls hl => ?_)
              have HL95 : ∀ (n95 : Nat) (v95_4 : Int32) (G95 : Nat → va_E) (H : Heap) (locs : List Loc) (ls : Array Slot), (5 - v95_4.toInt).toNat < n95 → (0 ≤ v95_4.toInt ∧ v95_4.toInt ≤ 5) → WF (shp ad K) ad cs G95 → (∀ j, j ≠ 197 ∧ j ≠ 204 → G95 j = g j) → va_P D vwCl (wL ad G95 218) H → va_S (wA ad 218) s.heap H locs → lv_has ls 5 [(4, .int v95_4), (3, .int z_16), (2, .int v71_2), (0, .ref (ad 197))] → W p l e ({ frames := 1, cells := 0, slots := 0, locals := 21 } : Room) s m ([.ref (ad 197), .int wm] : List Value).toArray below meth c H locs 0 0 (MQ below (qV D ad 218 (fun g2 => WF (shp ad K) ad cs g2 ∧ (∀ j, j ≠ 197 ∧ j ≠ 204 → g2 j = g j))) ([.ref (ad 197), .int wm] : List Value).toArray s 0 0 (wA ad 218)) (F0 m 95 ls []) := by
                intro n95
                induction n95 with
                | zero =>
                  intro v95_4 G95 H locs ls hm95 hv95_0 hW95 hfr95 hP hS hl
                  exact absurd hm95 (Nat.not_lt_zero _)
                | succ n95 ih95 =>
                  intro v95_4 G95 H locs ls hm95 hv95_0 hW95 hfr95 hP hS hl
                  refine lv_iload hx hb dX12_layOff_95 (lv_at hl 0 rfl) ?_
                  refine lv_iconst (v := 5) hx hb dX12_layOff_97 (by decide) ?_
                  refine lv_icmp_ge (tgt := 175) hx hb dX12_layOff_98 (by decide) (fun hc_17 => ?_) (fun hc_17 => ?_)
                  · have hhc_17 := n_le (by decide : (5 : Int32).toInt = 5) (rfl : v95_4.toInt = v95_4.toInt) hc_17
                    obtain ⟨x_18, ex_18⟩ : ∃ y : Int32, y = v71_2 + 1 := ⟨_, rfl⟩
                    have hx_18 : x_18.toInt = v71_2.toInt + 1 := n_add rfl (by decide : (1 : Int32).toInt = 1) ex_18 (by omega) (by omega)
                    refine lv_iinc (v := x_18) (lv' := [(2, .int x_18), (4, .int v95_4), (3, .int z_16), (0, .ref (ad 197))]) hx hb dX12_layOff_175 hl (k := 2) rfl (by rw [ex_18]; rfl) (by decide) rfl (fun ls hl => ?_)
                    refine lv_goto (tgt := 71) hx hb dX12_layOff_178 (by decide) ?_
                    exact ih71 x_18 G95 _ _ ls (by omega) (by omega) hW95 hfr95 hP hS (lv_sub hl [0, 3] rfl)
                  · have hhc_17 := n_nle (by decide : (5 : Int32).toInt = 5) (rfl : v95_4.toInt = v95_4.toInt) hc_17
                    refine lv_iload_n hx hb dX12_layOff_101 rfl (lv_at hl 1 rfl) ?_
                    refine lv_sipush (v := 1000) hx hb dX12_layOff_102 (by decide) ?_
                    have HJ169 : ∀ (G169 : Nat → va_E) (H : Heap) (locs : List Loc) (ls : Array Slot), WF (shp ad K) ad cs G169 → (∀ j, j ≠ 197 ∧ j ≠ 204 → G169 j = g j) → va_P D vwCl (wL ad G169 218) H → va_S (wA ad 218) s.heap H locs → lv_has ls 5 [(4, .int v95_4), (3, .int z_16), (2, .int v71_2), (0, .ref (ad 197))] → W p l e ({ frames := 1, cells := 0, slots := 0, locals := 21 } : Room) s m ([.ref (ad 197), .int wm] : List Value).toArray below meth c H locs 0 0 (MQ below (qV D ad 218 (fun g2 => WF (shp ad K) ad cs g2 ∧ (∀ j, j ≠ 197 ∧ j ≠ 204 → g2 j = g j))) ([.ref (ad 197), .int wm] : List Value).toArray s 0 0 (wA ad 218)) (F0 m 169 ls []) := by
                      intro G169 H locs ls hW169 hfr169 hP hS hl
                      obtain ⟨x_19, ex_19⟩ : ∃ y : Int32, y = v95_4 + 1 := ⟨_, rfl⟩
                      have hx_19 : x_19.toInt = v95_4.toInt + 1 := n_add rfl (by decide : (1 : Int32).toInt = 1) ex_19 (by omega) (by omega)
                      refine lv_iinc (v := x_19) (lv' := [(4, .int x_19), (3, .int z_16), (2, .int v71_2), (0, .ref (ad 197))]) hx hb dX12_layOff_169 hl (k := 0) rfl (by rw [ex_19]; rfl) (by decide) rfl (fun ls hl => ?_)
                      refine lv_goto (tgt := 95) hx hb dX12_layOff_172 (by decide) ?_
                      exact ih95 x_19 G169 _ _ ls (by omega) (by omega) hW169 hfr169 hP hS (lv_sub hl [0, 1, 2, 3] rfl)
                    refine lv_icmp_lt (tgt := 136) hx hb dX12_layOff_105 (by decide) (fun hc_20 => ?_) (fun hc_20 => ?_)
                    · have hhc_20 := n_lt (rfl : z_16.toInt = z_16.toInt) (by decide : (1000 : Int32).toInt = 1000) hc_20
                      refine lv_iload_n hx hb dX12_layOff_136 rfl (lv_at hl 1 rfl) ?_
                      refine lv_bipush (v := 20) hx hb dX12_layOff_137 (by decide) ?_
                      refine lv_idiv hx hb dX12_layOff_139 (by decide) ?_
                      refine lv_topi (fun z_21 ez_21 => ?_)
                      have hz_21 : z_21.toInt = z_16.toInt / 20 := n_div (rfl : z_16.toInt = z_16.toInt) (by decide : (20 : Int32).toInt = 20) ez_21 (by omega) (by decide)
                      refine lv_iload hx hb dX12_layOff_140 (lv_at hl 0 rfl) ?_
                      refine lv_icmp_ne (tgt := 169) hx hb dX12_layOff_142 (by decide) (fun hc_22 => ?_) (fun hc_22 => ?_)
                      · have hhc_22 := n_ne (rfl : z_21.toInt = z_21.toInt) (rfl : v95_4.toInt = v95_4.toInt) hc_22
                        exact HJ169 G95 _ _ ls hW95 hfr95 hP hS (lv_sub hl [0, 1, 2, 3] rfl)
                      · have hhc_22 := n_eq (rfl : z_21.toInt = z_21.toInt) (rfl : v95_4.toInt = v95_4.toInt) hc_22
                        refine lv_aload_n hx hb dX12_layOff_145 rfl (lv_at hl 3 rfl) ?_
                        obtain ⟨fsc_23, hgc_23, hOc_23⟩ := hW95.obj (i := 197) (by decide) (sh_197 ad K)
                        have hk_24 := hOc_23.ref 15 rfl
                        refine q_get X iX12_layOff_12 hP (by decide) hgc_23 rfl 15 (by decide) (List.mem_of_getElem? (i := 3) rfl) (v := .ref (ad 204)) hk_24 dX12_layOff_146 ?_
                        refine lv_bipush (v := 14) hx hb dX12_layOff_149 (by decide) ?_
                        refine lv_iload hx hb dX12_layOff_151 (lv_at hl 0 rfl) ?_
                        refine lv_imul hx hb dX12_layOff_153 ?_
                        refine lv_topi (fun z_25 ez_25 => ?_)
                        have hz_25 : z_25.toInt = 14 * v95_4.toInt := n_mul (by decide : (14 : Int32).toInt = 14) (rfl : v95_4.toInt = v95_4.toInt) ez_25 (by omega) (by omega)
                        refine lv_iload_n hx hb dX12_layOff_154 rfl (lv_at hl 1 rfl) ?_
                        refine lv_bipush (v := 20) hx hb dX12_layOff_155 (by decide) ?_
                        refine lv_irem hx hb dX12_layOff_157 (by decide) ?_
                        refine lv_topi (fun z_26 ez_26 => ?_)
                        have hz_26 : z_26.toInt = z_16.toInt % 20 := n_rem (rfl : z_16.toInt = z_16.toInt) (by decide : (20 : Int32).toInt = 20) ez_26 (by omega) (by decide)
                        refine lv_iadd hx hb dX12_layOff_158 ?_
                        refine lv_topi (fun z_27 ez_27 => ?_)
                        have hz_27 : z_27.toInt = z_25.toInt + z_26.toInt := n_add (rfl : z_25.toInt = z_25.toInt) (rfl : z_26.toInt = z_26.toInt) ez_27 (by omega) (by omega)
                        refine lv_dup2_11 hx hb dX12_layOff_159 rfl rfl ?_
                        obtain ⟨fc_28, hgc_28, hFc_28⟩ := hW95.arr (i := 204) (by decide) (sh_204 ad K)
                        refine q_iald X hP (by decide) hgc_28 (n_in (rfl : z_27.toInt = z_27.toInt) (by omega) (by omega)) dX12_layOff_160 ?_
                        refine lv_topi (fun z_29 ez_29 => ?_)
                        refine lv_aload_n hx hb dX12_layOff_161 rfl (lv_at hl 3 rfl) ?_
                        have hk_30 := hOc_23.ref 1 rfl
                        refine q_get X iX12_layOff_12 hP (by decide) hgc_23 rfl 1 (by decide) (List.mem_of_getElem? (i := 1) rfl) (v := .ref (ad 198)) hk_30 dX12_layOff_162 ?_
                        refine lv_iconst (v := 0) hx hb dX12_layOff_165 (by decide) ?_
                        obtain ⟨fc_31, hgc_31, hFc_31⟩ := hW95.arr (i := 198) (by decide) (sh_198 ad K)
                        refine q_iald X hP (by decide) hgc_31 (by unfold vp_in; decide) dX12_layOff_166 ?_
                        refine lv_topi (fun z_32 ez_32 => ?_)
                        have hqz_32 : wq (0) z_32.toInt := ez_32 ▸ hFc_31 _
                        clear hqz_32
                        refine lv_iadd hx hb dX12_layOff_167 ?_
                        refine lv_topi (fun z_33 ez_33 => ?_)
                        refine s_iast X hP hj hA hS (by decide) hgc_28 (n_in (rfl : z_27.toInt = z_27.toInt) (by omega) (by omega)) dX12_layOff_168 hW95 (sh_204 ad K) (hFc_28.put trivial) (fun fc_34 gc_34 H locs ec_34 hFc_34 hgc_34 hfc_34 hWc_34 hP hS => ?_)
                        have hg_36 := (hfc_34 197 (by decide)).trans hgc_23
                        have hg_37 := (hfc_34 198 (by decide)).trans hgc_31
                        have hfr_35 : ∀ j, j ≠ 197 ∧ j ≠ 204 → gc_34 j = g j := fun j hj => (hfc_34 j (by omega)).trans (hfr95 j hj)
                        exact HJ169 gc_34 _ _ ls hWc_34 hfr_35 hP hS (lv_sub hl [0, 1, 2, 3] rfl)
                    · have hhc_20 := n_nlt (rfl : z_16.toInt = z_16.toInt) (by decide : (1000 : Int32).toInt = 1000) hc_20
                      refine lv_aload_n hx hb dX12_layOff_108 rfl (lv_at hl 3 rfl) ?_
                      obtain ⟨fsc_38, hgc_38, hOc_38⟩ := hW95.obj (i := 197) (by decide) (sh_197 ad K)
                      have hk_39 := hOc_38.ref 15 rfl
                      refine q_get X iX12_layOff_12 hP (by decide) hgc_38 rfl 15 (by decide) (List.mem_of_getElem? (i := 3) rfl) (v := .ref (ad 204)) hk_39 dX12_layOff_109 ?_
                      refine lv_bipush (v := 14) hx hb dX12_layOff_112 (by decide) ?_
                      refine lv_iload hx hb dX12_layOff_114 (lv_at hl 0 rfl) ?_
                      refine lv_imul hx hb dX12_layOff_116 ?_
                      refine lv_topi (fun z_40 ez_40 => ?_)
                      have hz_40 : z_40.toInt = 14 * v95_4.toInt := n_mul (by decide : (14 : Int32).toInt = 14) (rfl : v95_4.toInt = v95_4.toInt) ez_40 (by omega) (by omega)
                      refine lv_iload_n hx hb dX12_layOff_117 rfl (lv_at hl 1 rfl) ?_
                      refine lv_iadd hx hb dX12_layOff_118 ?_
                      refine lv_topi (fun z_41 ez_41 => ?_)
                      have hz_41 : z_41.toInt = z_40.toInt + z_16.toInt := n_add (rfl : z_40.toInt = z_40.toInt) (rfl : z_16.toInt = z_16.toInt) ez_41 (by omega) (by omega)
                      refine lv_sipush (v := 1000) hx hb dX12_layOff_119 (by decide) ?_
                      refine lv_isub hx hb dX12_layOff_122 ?_
                      refine lv_topi (fun z_42 ez_42 => ?_)
                      have hz_42 : z_42.toInt = z_41.toInt - 1000 := n_sub (rfl : z_41.toInt = z_41.toInt) (by decide : (1000 : Int32).toInt = 1000) ez_42 (by omega) (by omega)
                      refine lv_dup2_11 hx hb dX12_layOff_123 rfl rfl ?_
                      obtain ⟨fc_43, hgc_43, hFc_43⟩ := hW95.arr (i := 204) (by decide) (sh_204 ad K)
                      refine q_iald X hP (by decide) hgc_43 (n_in (rfl : z_42.toInt = z_42.toInt) (by omega) (by omega)) dX12_layOff_124 ?_
                      refine lv_topi (fun z_44 ez_44 => ?_)
                      refine lv_aload_n hx hb dX12_layOff_125 rfl (lv_at hl 3 rfl) ?_
                      have hk_45 := hOc_38.ref 1 rfl
                      refine q_get X iX12_layOff_12 hP (by decide) hgc_38 rfl 1 (by decide) (List.mem_of_getElem? (i := 1) rfl) (v := .ref (ad 198)) hk_45 dX12_layOff_126 ?_
                      refine lv_iconst (v := 1) hx hb dX12_layOff_129 (by decide) ?_
                      obtain ⟨fc_46, hgc_46, hFc_46⟩ := hW95.arr (i := 198) (by decide) (sh_198 ad K)
                      refine q_iald X hP (by decide) hgc_46 (by unfold vp_in; decide) dX12_layOff_130 ?_
                      refine lv_topi (fun z_47 ez_47 => ?_)
                      have hqz_47 : wq (1) z_47.toInt := ez_47 ▸ hFc_46 _
                      clear hqz_47
                      refine lv_iadd hx hb dX12_layOff_131 ?_
                      refine lv_topi (fun z_48 ez_48 => ?_)
                      refine s_iast X hP hj hA hS (by decide) hgc_43 (n_in (rfl : z_42.toInt = z_42.toInt) (by omega) (by omega)) dX12_layOff_132 hW95 (sh_204 ad K) (hFc_43.put trivial) (fun fc_49 gc_49 H locs ec_49 hFc_49 hgc_49 hfc_49 hWc_49 hP hS => ?_)
                      have hg_51 := (hfc_49 197 (by decide)).trans hgc_38
                      have hg_52 := (hfc_49 198 (by decide)).trans hgc_46
                      have hfr_50 : ∀ j, j ≠ 197 ∧ j ≠ 204 → gc_49 j = g j := fun j hj => (hfc_49 j (by omega)).trans (hfr95 j hj)
                      refine lv_goto (tgt := 169) hx hb dX12_layOff_133 (by decide) ?_
                      exact HJ169 gc_49 _ _ ls hWc_49 hfr_50 hP hS (lv_sub hl [0, 1, 2, 3] rfl)
              have hiv95_4 : (0 : Int32).toInt = 0 := by decide
              exact HL95 _ 0 G71 _ _ ls (Nat.lt_succ_self _) (by omega) hW71 hfr71 hP hS (lv_sub hl [0, 1, 2, 3] rfl)
        have hiv71_2 : (0 : Int32).toInt = 0 := by decide
        exact HL71 _ 0 G12 _ _ ls (Nat.lt_succ_self _) (by omega) hW12 hfr12 hP hS (lv_sub hl [0, 1] rfl)
      · have hhc_9 := n_nle (by decide : (5 : Int32).toInt = 5) (rfl : v12_2.toInt = v12_2.toInt) hc_9
        refine lv_iconst (v := 0) hx hb dX12_layOff_17 (by decide) ?_
        refine lv_istore_n (lv' := [(3, .int 0), (2, .int v12_2), (0, .ref (ad 197)), (1, .int wm)]) hx hb dX12_layOff_18 rfl hl (by decide) rfl (fun ls hl => ?_)
        have HL19 : ∀ (n19 : Nat) (v19_3 : Int32) (G19 : Nat → va_E) (H : Heap) (locs : List Loc) (ls : Array Slot), (14 - v19_3.toInt).toNat < n19 → (0 ≤ v19_3.toInt ∧ v19_3.toInt ≤ 14) → WF (shp ad K) ad cs G19 → (∀ j, j ≠ 197 ∧ j ≠ 204 → G19 j = g j) → va_P D vwCl (wL ad G19 218) H → va_S (wA ad 218) s.heap H locs → lv_has ls 5 [(3, .int v19_3), (2, .int v12_2), (0, .ref (ad 197)), (1, .int wm)] → W p l e ({ frames := 1, cells := 0, slots := 0, locals := 21 } : Room) s m ([.ref (ad 197), .int wm] : List Value).toArray below meth c H locs 0 0 (MQ below (qV D ad 218 (fun g2 => WF (shp ad K) ad cs g2 ∧ (∀ j, j ≠ 197 ∧ j ≠ 204 → g2 j = g j))) ([.ref (ad 197), .int wm] : List Value).toArray s 0 0 (wA ad 218)) (F0 m 19 ls []) := by
          intro n19
          induction n19 with
          | zero =>
            intro v19_3 G19 H locs ls hm19 hv19_0 hW19 hfr19 hP hS hl
            exact absurd hm19 (Nat.not_lt_zero _)
          | succ n19 ih19 =>
            intro v19_3 G19 H locs ls hm19 hv19_0 hW19 hfr19 hP hS hl
            refine lv_iload_n hx hb dX12_layOff_19 rfl (lv_at hl 0 rfl) ?_
            refine lv_aload_n hx hb dX12_layOff_20 rfl (lv_at hl 2 rfl) ?_
            obtain ⟨fsc_53, hgc_53, hOc_53⟩ := hW19.obj (i := 197) (by decide) (sh_197 ad K)
            obtain ⟨x_55, hk_54, hlx_55, hhx_55⟩ := hOc_53.int 17 rfl
            refine q_get X iX12_layOff_12 hP (by decide) hgc_53 rfl 17 (by decide) (List.mem_of_getElem? (i := 2) rfl) (v := .int x_55) hk_54 dX12_layOff_21 ?_
            refine lv_icmp_ge (tgt := 63) hx hb dX12_layOff_24 (by decide) (fun hc_56 => ?_) (fun hc_56 => ?_)
            · have hhc_56 := n_le (rfl : x_55.toInt = x_55.toInt) (rfl : v19_3.toInt = v19_3.toInt) hc_56
              obtain ⟨x_57, ex_57⟩ : ∃ y : Int32, y = v12_2 + 1 := ⟨_, rfl⟩
              have hx_57 : x_57.toInt = v12_2.toInt + 1 := n_add rfl (by decide : (1 : Int32).toInt = 1) ex_57 (by omega) (by omega)
              refine lv_iinc (v := x_57) (lv' := [(2, .int x_57), (3, .int v19_3), (0, .ref (ad 197)), (1, .int wm)]) hx hb dX12_layOff_63 hl (k := 1) rfl (by rw [ex_57]; rfl) (by decide) rfl (fun ls hl => ?_)
              refine lv_goto (tgt := 12) hx hb dX12_layOff_66 (by decide) ?_
              exact ih12 x_57 G19 _ _ ls (by omega) (by omega) hW19 hfr19 hP hS (lv_sub hl [0, 2, 3] rfl)
            · have hhc_56 := n_nle (rfl : x_55.toInt = x_55.toInt) (rfl : v19_3.toInt = v19_3.toInt) hc_56
              refine lv_aload_n hx hb dX12_layOff_27 rfl (lv_at hl 2 rfl) ?_
              have hk_58 := hOc_53.ref 15 rfl
              refine q_get X iX12_layOff_12 hP (by decide) hgc_53 rfl 15 (by decide) (List.mem_of_getElem? (i := 3) rfl) (v := .ref (ad 204)) hk_58 dX12_layOff_28 ?_
              refine lv_bipush (v := 14) hx hb dX12_layOff_31 (by decide) ?_
              refine lv_iload_n hx hb dX12_layOff_33 rfl (lv_at hl 1 rfl) ?_
              refine lv_imul hx hb dX12_layOff_34 ?_
              refine lv_topi (fun z_59 ez_59 => ?_)
              have hz_59 : z_59.toInt = 14 * v12_2.toInt := n_mul (by decide : (14 : Int32).toInt = 14) (rfl : v12_2.toInt = v12_2.toInt) ez_59 (by omega) (by omega)
              refine lv_iload_n hx hb dX12_layOff_35 rfl (lv_at hl 0 rfl) ?_
              refine lv_iadd hx hb dX12_layOff_36 ?_
              refine lv_topi (fun z_60 ez_60 => ?_)
              have hz_60 : z_60.toInt = z_59.toInt + v19_3.toInt := n_add (rfl : z_59.toInt = z_59.toInt) (rfl : v19_3.toInt = v19_3.toInt) ez_60 (by omega) (by omega)
              refine lv_aload_n hx hb dX12_layOff_37 rfl (lv_at hl 2 rfl) ?_
              refine lv_iload_n hx hb dX12_layOff_38 rfl (lv_at hl 0 rfl) ?_
              refine s_calli (q := (RX12, TX12, 40)) (As := [.int v19_3]) (rest := [.int z_60, .ref (ad 204)]) X Z (s_X12_thawOf l D cs ad kS K hKO hj G19 hW19 v19_3 (by omega)) (cwV 1 X.2.2.2.2.1 gg_X12_layOff_X12_thawOf rfl rfl rfl (by decide +kernel) ⟨Nat.le_of_ble_eq_true rfl, Nat.le_of_ble_eq_true rfl⟩) (by decide) hgc_53 rfl hP hA hS.2.1 hS rfl hl.1 rfl (Nat.le_of_ble_eq_true rfl) dX12_layOff_39 ⟨Nat.le_of_ble_eq_true rfl, Nat.le_of_ble_eq_true rfl⟩ (fun r_63 g_62 H locs hw_61 hP hS => ?_)
              rw [hw_61] at hP
              refine lv_iload_n hx hb dX12_layOff_42 rfl (lv_at hl 3 rfl) ?_
              refine lv_iload_n hx hb dX12_layOff_43 rfl (lv_at hl 0 rfl) ?_
              refine s_callSi (As := [.int wm, .int v19_3]) (rest := [.int r_63, .int z_60, .ref (ad 204)]) X Z (s_X12_bit l D cs ad kS K hKO hj G19 hW19 wm v19_3) (cwS 2 X.2.2.2.2.1 gg_X12_layOff_X12_bit rfl rfl rfl (by decide +kernel) ⟨Nat.le_of_ble_eq_true rfl, Nat.le_of_ble_eq_true rfl⟩) hP hA hS.2.1 hS rfl hl.1 rfl (Nat.le_of_ble_eq_true rfl) dX12_layOff_44 ⟨Nat.le_of_ble_eq_true rfl, Nat.le_of_ble_eq_true rfl⟩ (fun r_66 g_65 H locs hw_64 hP hS => ?_)
              obtain ⟨hw_64g, hw_64⟩ := hw_64
              rw [hw_64g] at hP
              refine lv_iadd hx hb dX12_layOff_47 ?_
              refine lv_topi (fun z_67 ez_67 => ?_)
              refine lv_aload_n hx hb dX12_layOff_48 rfl (lv_at hl 2 rfl) ?_
              refine lv_iload_n hx hb dX12_layOff_49 rfl (lv_at hl 1 rfl) ?_
              refine s_calli (q := (RX12, TX12, 40)) (As := [.int v12_2]) (rest := [.int z_67, .int z_60, .ref (ad 204)]) X Z (s_X12_sunOf l D cs ad kS K hKO hj G19 hW19 v12_2 (by omega)) (cwV 1 X.2.2.2.2.1 gg_X12_layOff_X12_sunOf rfl rfl rfl (by decide +kernel) ⟨Nat.le_of_ble_eq_true rfl, Nat.le_of_ble_eq_true rfl⟩) (by decide) hgc_53 rfl hP hA hS.2.1 hS rfl hl.1 rfl (Nat.le_of_ble_eq_true rfl) dX12_layOff_50 ⟨Nat.le_of_ble_eq_true rfl, Nat.le_of_ble_eq_true rfl⟩ (fun r_70 g_69 H locs hw_68 hP hS => ?_)
              rw [hw_68] at hP
              refine s_callSi (As := [.int z_67, .int r_70]) (rest := [.int z_60, .ref (ad 204)]) X Z (s_X12_meltBy l D cs ad kS K hKO hj G19 hW19 z_67 r_70) (cwS 2 X.2.2.2.2.1 gg_X12_layOff_X12_meltBy rfl rfl rfl (by decide +kernel) ⟨Nat.le_of_ble_eq_true rfl, Nat.le_of_ble_eq_true rfl⟩) hP hA hS.2.1 hS rfl hl.1 rfl (Nat.le_of_ble_eq_true rfl) dX12_layOff_53 ⟨Nat.le_of_ble_eq_true rfl, Nat.le_of_ble_eq_true rfl⟩ (fun r_73 g_72 H locs hw_71 hP hS => ?_)
              rw [hw_71] at hP
              obtain ⟨fc_74, hgc_74, hFc_74⟩ := hW19.arr (i := 204) (by decide) (sh_204 ad K)
              refine s_iast X hP hj hA hS (by decide) hgc_74 (n_in (rfl : z_60.toInt = z_60.toInt) (by omega) (by omega)) dX12_layOff_56 hW19 (sh_204 ad K) (hFc_74.put trivial) (fun fc_75 gc_75 H locs ec_75 hFc_75 hgc_75 hfc_75 hWc_75 hP hS => ?_)
              have hg_77 := (hfc_75 197 (by decide)).trans hgc_53
              have hfr_76 : ∀ j, j ≠ 197 ∧ j ≠ 204 → gc_75 j = g j := fun j hj => (hfc_75 j (by omega)).trans (hfr19 j hj)
              obtain ⟨x_78, ex_78⟩ : ∃ y : Int32, y = v19_3 + 1 := ⟨_, rfl⟩
              have hx_78 : x_78.toInt = v19_3.toInt + 1 := n_add rfl (by decide : (1 : Int32).toInt = 1) ex_78 (by omega) (by omega)
              refine lv_iinc (v := x_78) (lv' := [(3, .int x_78), (2, .int v12_2), (0, .ref (ad 197)), (1, .int wm)]) hx hb dX12_layOff_57 hl (k := 0) rfl (by rw [ex_78]; rfl) (by decide) rfl (fun ls hl => ?_)
              refine lv_goto (tgt := 19) hx hb dX12_layOff_60 (by decide) ?_
              exact ih19 x_78 gc_75 _ _ ls (by omega) (by omega) hWc_75 hfr_76 hP hS (lv_sub hl [0, 1, 2, 3] rfl)
        have hiv19_3 : (0 : Int32).toInt = 0 := by decide
        exact HL19 _ 0 G12 _ _ ls (Nat.lt_succ_self _) (by omega) hW12 hfr12 hP hS (lv_sub hl [0, 1, 2, 3] rfl)
  have hiv12_2 : (0 : Int32).toInt = 0 := by decide
  exact HL12 _ 0 gc_5 _ _ ls (Nat.lt_succ_self _) (by omega) hWc_5 hfr_7 hP hS (lv_sub hl [0, 1, 2] rfl)

theorem dX12_layFalls_0 : decode cX12_layFalls 0 = .ok (.iconst 0, 1) := by decide +kernel
theorem dX12_layFalls_1 : decode cX12_layFalls 1 = .ok (.istore_n 1, 1) := by decide +kernel
theorem dX12_layFalls_2 : decode cX12_layFalls 2 = .ok (.iload_n 1, 1) := by decide +kernel
theorem dX12_layFalls_3 : decode cX12_layFalls 3 = .ok (.aload_n 0, 1) := by decide +kernel
theorem dX12_layFalls_4 : decode cX12_layFalls 4 = .ok (.getfield 9, 3) := by decide +kernel
theorem dX12_layFalls_7 : decode cX12_layFalls 7 = .ok (.iconst 5, 1) := by decide +kernel
theorem dX12_layFalls_8 : decode cX12_layFalls 8 = .ok (.iaload, 1) := by decide +kernel
theorem dX12_layFalls_9 : decode cX12_layFalls 9 = .ok (.if_icmp .ge 31, 3) := by decide +kernel
theorem dX12_layFalls_12 : decode cX12_layFalls 12 = .ok (.aload_n 0, 1) := by decide +kernel
theorem dX12_layFalls_13 : decode cX12_layFalls 13 = .ok (.getfield 37, 3) := by decide +kernel
theorem dX12_layFalls_16 : decode cX12_layFalls 16 = .ok (.iload_n 1, 1) := by decide +kernel
theorem dX12_layFalls_17 : decode cX12_layFalls 17 = .ok (.aload_n 0, 1) := by decide +kernel
theorem dX12_layFalls_18 : decode cX12_layFalls 18 = .ok (.aload_n 0, 1) := by decide +kernel
theorem dX12_layFalls_19 : decode cX12_layFalls 19 = .ok (.iload_n 1, 1) := by decide +kernel
theorem dX12_layFalls_20 : decode cX12_layFalls 20 = .ok (.iconst 0, 1) := by decide +kernel
theorem dX12_layFalls_21 : decode cX12_layFalls 21 = .ok (.invokevirtual 225, 3) := by decide +kernel
theorem dX12_layFalls_24 : decode cX12_layFalls 24 = .ok (.aload_n 0, 1) := by decide +kernel
theorem dX12_layFalls_25 : decode cX12_layFalls 25 = .ok (.iload_n 1, 1) := by decide +kernel
theorem dX12_layFalls_26 : decode cX12_layFalls 26 = .ok (.iconst 1, 1) := by decide +kernel
theorem dX12_layFalls_27 : decode cX12_layFalls 27 = .ok (.invokevirtual 225, 3) := by decide +kernel
theorem dX12_layFalls_30 : decode cX12_layFalls 30 = .ok (.invokevirtual 237, 3) := by decide +kernel
theorem dX12_layFalls_33 : decode cX12_layFalls 33 = .ok (.iastore, 1) := by decide +kernel
theorem dX12_layFalls_34 : decode cX12_layFalls 34 = .ok (.iinc 1 1, 3) := by decide +kernel
theorem dX12_layFalls_37 : decode cX12_layFalls 37 = .ok (.goto (-35), 3) := by decide +kernel
theorem dX12_layFalls_40 : decode cX12_layFalls 40 = .ok (.return_, 1) := by decide +kernel
noncomputable def vX12_layFalls : List Cond := .code yX12_layFalls cX12_layFalls 2 none :: (([.fieldLink RX12 9 "IcicleClockModel" "world" "[I", .fieldLink RX12 37 "IcicleClockModel" "fell" "[I", .methodLink RX12 225 yX12_of, .instanceMethod yX12_of, .selects RX12 yX12_of yX12_of, .initialized RX12, .methodLink RX12 237 yX12_fallsBy, .instanceMethod yX12_fallsBy, .selects RX12 yX12_fallsBy yX12_fallsBy] : List Cond) ++ (wsX120 ++ (vX12_of ++ vX12_fallsBy)))
theorem iX12_layFalls_12 : ∀ w ∈ wsX120, w ∈ vX12_layFalls := fun _ h => List.mem_cons_of_mem _ (List.mem_append_right _ (List.mem_append_left _ h))
theorem gs_X12_layFalls : Gd vX12_layFalls := Gd.cons (by decide +kernel) (Gd.app (Gd.r (by decide +kernel)) (Gd.app gwX_12 (Gd.app gs_X12_of gs_X12_fallsBy)))
theorem gg_X12_layFalls_X12_of : GoodIn vX12_layFalls (wsV RX12 225 RX12 yX12_of vX12_of) := goodIn_app (goodIn_r _ [3, 4, 5, 6] (by decide +kernel) (by decide +kernel)) (fun w h => ⟨List.mem_cons_of_mem _ (List.mem_append_right _ (List.mem_append_right _ (List.mem_append_left _ h))), gs_X12_of w h⟩)
theorem gg_X12_layFalls_X12_fallsBy : GoodIn vX12_layFalls (wsV RX12 237 RX12 yX12_fallsBy vX12_fallsBy) := goodIn_app (goodIn_r _ [7, 8, 9, 6] (by decide +kernel) (by decide +kernel)) (fun w h => ⟨List.mem_cons_of_mem _ (List.mem_append_right _ (List.mem_append_right _ (List.mem_append_right _ (h)))), gs_X12_fallsBy w h⟩)
set_option maxHeartbeats 4000000 in
set_option maxRecDepth 100000 in
theorem s_X12_layFalls (l : Launch) (D : va_G) (cs : Nat → ClassId) (ad : Nat → Nat) (kS : kSt) (K : sK) (hKO : KO K) (hj : wJ ad 218) (g : Nat → va_E) (hW : WF (shp ad K) ad cs g) : sV l yX12_layFalls vX12_layFalls { frames := 1, cells := 0, slots := 0, locals := 24 } D cs ad kS [.ref (ad 197)] g (fun g2 => WF (shp ad K) ad cs g2 ∧ (∀ j, j ≠ 205 → g2 j = g j)) := by
  refine Met.startS (cc := cX12_layFalls) (maxL := 2) (ret := none) RX12 rfl (by decide) rfl (Nat.le_of_ble_eq_true rfl) ?_
  intro p e s m below meth c ls X Z hP hl
  have hx := X.1
  have hb := X.2.1
  have hS : va_S (wA ad 218) s.heap s.heap [] := va_S.rf
  have hA : ∀ i, i < 218 → wA ad 218 (ad i) := fun i h => ⟨i, h, rfl⟩
  have hfr : ∀ j, j ≠ 205 → g j = g j := fun _ _ => rfl
  have hl : lv_has ls 2 [(0, .ref (ad 197))] := hl
  refine lv_iconst (v := 0) hx hb dX12_layFalls_0 (by decide) ?_
  refine lv_istore_n (lv' := [(1, .int 0), (0, .ref (ad 197))]) hx hb dX12_layFalls_1 rfl hl (by decide) rfl (fun ls hl => ?_)
  have HL2 : ∀ (n2 : Nat) (v2_1 : Int32) (G2 : Nat → va_E) (H : Heap) (locs : List Loc) (ls : Array Slot), (8 - v2_1.toInt).toNat < n2 → (0 ≤ v2_1.toInt ∧ v2_1.toInt ≤ 8) → WF (shp ad K) ad cs G2 → (∀ j, j ≠ 205 → G2 j = g j) → va_P D vwCl (wL ad G2 218) H → va_S (wA ad 218) s.heap H locs → lv_has ls 2 [(1, .int v2_1), (0, .ref (ad 197))] → W p l e ({ frames := 1, cells := 0, slots := 0, locals := 24 } : Room) s m ([.ref (ad 197)] : List Value).toArray below meth c H locs 0 0 (MQ below (qV D ad 218 (fun g2 => WF (shp ad K) ad cs g2 ∧ (∀ j, j ≠ 205 → g2 j = g j))) ([.ref (ad 197)] : List Value).toArray s 0 0 (wA ad 218)) (F0 m 2 ls []) := by
    intro n2
    induction n2 with
    | zero =>
      intro v2_1 G2 H locs ls hm2 hv2_0 hW2 hfr2 hP hS hl
      exact absurd hm2 (Nat.not_lt_zero _)
    | succ n2 ih2 =>
      intro v2_1 G2 H locs ls hm2 hv2_0 hW2 hfr2 hP hS hl
      refine lv_iload_n hx hb dX12_layFalls_2 rfl (lv_at hl 0 rfl) ?_
      refine lv_aload_n hx hb dX12_layFalls_3 rfl (lv_at hl 1 rfl) ?_
      obtain ⟨fsc_1, hgc_1, hOc_1⟩ := hW2.obj (i := 197) (by decide) (sh_197 ad K)
      have hk_2 := hOc_1.ref 1 rfl
      refine q_get X iX12_layFalls_12 hP (by decide) hgc_1 rfl 1 (by decide) (List.mem_of_getElem? (i := 1) rfl) (v := .ref (ad 198)) hk_2 dX12_layFalls_4 ?_
      refine lv_iconst (v := 5) hx hb dX12_layFalls_7 (by decide) ?_
      obtain ⟨fc_3, hgc_3, hFc_3⟩ := hW2.arr (i := 198) (by decide) (sh_198 ad K)
      refine q_iald X hP (by decide) hgc_3 (by unfold vp_in; decide) dX12_layFalls_8 ?_
      refine lv_topi (fun z_4 ez_4 => ?_)
      have hqz_4 : wq (5) z_4.toInt := ez_4 ▸ hFc_3 _
      have hz_4 : 0 ≤ z_4.toInt ∧ z_4.toInt ≤ 8 := by unfold wq at hqz_4; omega
      clear hqz_4
      refine lv_icmp_ge (tgt := 40) hx hb dX12_layFalls_9 (by decide) (fun hc_5 => ?_) (fun hc_5 => ?_)
      · have hhc_5 := n_le (rfl : z_4.toInt = z_4.toInt) (rfl : v2_1.toInt = v2_1.toInt) hc_5
        exact q_vret X hP hS ⟨hW2, hfr2⟩ dX12_layFalls_40
      · have hhc_5 := n_nle (rfl : z_4.toInt = z_4.toInt) (rfl : v2_1.toInt = v2_1.toInt) hc_5
        refine lv_aload_n hx hb dX12_layFalls_12 rfl (lv_at hl 1 rfl) ?_
        have hk_6 := hOc_1.ref 16 rfl
        refine q_get X iX12_layFalls_12 hP (by decide) hgc_1 rfl 16 (by decide) (List.mem_of_getElem? (i := 2) rfl) (v := .ref (ad 205)) hk_6 dX12_layFalls_13 ?_
        refine lv_iload_n hx hb dX12_layFalls_16 rfl (lv_at hl 0 rfl) ?_
        refine lv_aload_n hx hb dX12_layFalls_17 rfl (lv_at hl 1 rfl) ?_
        refine lv_aload_n hx hb dX12_layFalls_18 rfl (lv_at hl 1 rfl) ?_
        refine lv_iload_n hx hb dX12_layFalls_19 rfl (lv_at hl 0 rfl) ?_
        refine lv_iconst (v := 0) hx hb dX12_layFalls_20 (by decide) ?_
        have hqk_7 : (0 : Int32).toInt = 0 := by decide
        refine s_calli (q := (RX12, TX12, 40)) (As := [.int v2_1, .int 0]) (rest := [.ref (ad 197), .int v2_1, .ref (ad 205)]) X Z (s_X12_of l D cs ad kS K hKO hj G2 hW2 v2_1 0 (by omega) (by omega)) (cwV 2 X.2.2.2.2.1 gg_X12_layFalls_X12_of rfl rfl rfl (by decide +kernel) ⟨Nat.le_of_ble_eq_true rfl, Nat.le_of_ble_eq_true rfl⟩) (by decide) hgc_1 rfl hP hA hS.2.1 hS rfl hl.1 rfl (Nat.le_of_ble_eq_true rfl) dX12_layFalls_21 ⟨Nat.le_of_ble_eq_true rfl, Nat.le_of_ble_eq_true rfl⟩ (fun r_10 g_9 H locs hw_8 hP hS => ?_)
        obtain ⟨hw_8g, hw_8⟩ := hw_8
        rw [hw_8g] at hP
        have hqk_11 : (0 : Int32).toInt = 0 := by decide
        refine lv_aload_n hx hb dX12_layFalls_24 rfl (lv_at hl 1 rfl) ?_
        refine lv_iload_n hx hb dX12_layFalls_25 rfl (lv_at hl 0 rfl) ?_
        refine lv_iconst (v := 1) hx hb dX12_layFalls_26 (by decide) ?_
        have hqk_12 : (1 : Int32).toInt = 1 := by decide
        refine s_calli (q := (RX12, TX12, 40)) (As := [.int v2_1, .int 1]) (rest := [.int r_10, .ref (ad 197), .int v2_1, .ref (ad 205)]) X Z (s_X12_of l D cs ad kS K hKO hj G2 hW2 v2_1 1 (by omega) (by omega)) (cwV 2 X.2.2.2.2.1 gg_X12_layFalls_X12_of rfl rfl rfl (by decide +kernel) ⟨Nat.le_of_ble_eq_true rfl, Nat.le_of_ble_eq_true rfl⟩) (by decide) hgc_1 rfl hP hA hS.2.1 hS rfl hl.1 rfl (Nat.le_of_ble_eq_true rfl) dX12_layFalls_27 ⟨Nat.le_of_ble_eq_true rfl, Nat.le_of_ble_eq_true rfl⟩ (fun r_15 g_14 H locs hw_13 hP hS => ?_)
        obtain ⟨hw_13g, hw_13⟩ := hw_13
        rw [hw_13g] at hP
        have hqk_16 : (1 : Int32).toInt = 1 := by decide
        refine s_calli (q := (RX12, TX12, 40)) (As := [.int r_10, .int r_15]) (rest := [.int v2_1, .ref (ad 205)]) X Z (s_X12_fallsBy l D cs ad kS K hKO hj G2 hW2 r_10 r_15 (by omega)) (cwV 2 X.2.2.2.2.1 gg_X12_layFalls_X12_fallsBy rfl rfl rfl (by decide +kernel) ⟨Nat.le_of_ble_eq_true rfl, Nat.le_of_ble_eq_true rfl⟩) (by decide) hgc_1 rfl hP hA hS.2.1 hS rfl hl.1 rfl (Nat.le_of_ble_eq_true rfl) dX12_layFalls_30 ⟨Nat.le_of_ble_eq_true rfl, Nat.le_of_ble_eq_true rfl⟩ (fun r_19 g_18 H locs hw_17 hP hS => ?_)
        obtain ⟨hw_17g, hw_17⟩ := hw_17
        rw [hw_17g] at hP
        obtain ⟨fc_20, hgc_20, hFc_20⟩ := hW2.arr (i := 205) (by decide) (sh_205 ad K)
        refine s_iast X hP hj hA hS (by decide) hgc_20 (n_in (rfl : v2_1.toInt = v2_1.toInt) (by omega) (by omega)) dX12_layFalls_33 hW2 (sh_205 ad K) (hFc_20.put ⟨by omega, by omega⟩) (fun fc_21 gc_21 H locs ec_21 hFc_21 hgc_21 hfc_21 hWc_21 hP hS => ?_)
        have hg_23 := (hfc_21 197 (by decide)).trans hgc_1
        have hg_24 := (hfc_21 198 (by decide)).trans hgc_3
        have hfr_22 : ∀ j, j ≠ 205 → gc_21 j = g j := fun j hj => (hfc_21 j (by omega)).trans (hfr2 j hj)
        obtain ⟨x_25, ex_25⟩ : ∃ y : Int32, y = v2_1 + 1 := ⟨_, rfl⟩
        have hx_25 : x_25.toInt = v2_1.toInt + 1 := n_add rfl (by decide : (1 : Int32).toInt = 1) ex_25 (by omega) (by omega)
        refine lv_iinc (v := x_25) (lv' := [(1, .int x_25), (0, .ref (ad 197))]) hx hb dX12_layFalls_34 hl (k := 0) rfl (by rw [ex_25]; rfl) (by decide) rfl (fun ls hl => ?_)
        refine lv_goto (tgt := 2) hx hb dX12_layFalls_37 (by decide) ?_
        exact ih2 x_25 gc_21 _ _ ls (by omega) (by omega) hWc_21 hfr_22 hP hS (lv_sub hl [0, 1] rfl)
  have hiv2_1 : (0 : Int32).toInt = 0 := by decide
  exact HL2 _ 0 g _ _ ls (Nat.lt_succ_self _) (by omega) hW hfr hP hS (lv_sub hl [0, 1] rfl)

theorem dX12_layAll_0 : decode cX12_layAll 0 = .ok (.aload_n 0, 1) := by decide +kernel
theorem dX12_layAll_1 : decode cX12_layAll 1 = .ok (.iconst 0, 1) := by decide +kernel
theorem dX12_layAll_2 : decode cX12_layAll 2 = .ok (.invokevirtual 240, 3) := by decide +kernel
theorem dX12_layAll_5 : decode cX12_layAll 5 = .ok (.aload_n 0, 1) := by decide +kernel
theorem dX12_layAll_6 : decode cX12_layAll 6 = .ok (.invokevirtual 243, 3) := by decide +kernel
theorem dX12_layAll_9 : decode cX12_layAll 9 = .ok (.return_, 1) := by decide +kernel
noncomputable def vX12_layAll : List Cond := .code yX12_layAll cX12_layAll 1 none :: (([.methodLink RX12 240 yX12_layOff, .instanceMethod yX12_layOff, .selects RX12 yX12_layOff yX12_layOff, .initialized RX12, .methodLink RX12 243 yX12_layFalls, .instanceMethod yX12_layFalls, .selects RX12 yX12_layFalls yX12_layFalls] : List Cond) ++ (vX12_layOff ++ vX12_layFalls))
theorem gs_X12_layAll : Gd vX12_layAll := Gd.cons (by decide +kernel) (Gd.app (Gd.r (by decide +kernel)) (Gd.app gs_X12_layOff gs_X12_layFalls))
theorem gg_X12_layAll_X12_layOff : GoodIn vX12_layAll (wsV RX12 240 RX12 yX12_layOff vX12_layOff) := goodIn_app (goodIn_r _ [1, 2, 3, 4] (by decide +kernel) (by decide +kernel)) (fun w h => ⟨List.mem_cons_of_mem _ (List.mem_append_right _ (List.mem_append_left _ h)), gs_X12_layOff w h⟩)
theorem gg_X12_layAll_X12_layFalls : GoodIn vX12_layAll (wsV RX12 243 RX12 yX12_layFalls vX12_layFalls) := goodIn_app (goodIn_r _ [5, 6, 7, 4] (by decide +kernel) (by decide +kernel)) (fun w h => ⟨List.mem_cons_of_mem _ (List.mem_append_right _ (List.mem_append_right _ (h))), gs_X12_layFalls w h⟩)
set_option maxHeartbeats 4000000 in
set_option maxRecDepth 100000 in
theorem s_X12_layAll (l : Launch) (D : va_G) (cs : Nat → ClassId) (ad : Nat → Nat) (kS : kSt) (K : sK) (hKO : KO K) (hj : wJ ad 218) (g : Nat → va_E) (hW : WF (shp ad K) ad cs g) : sV l yX12_layAll vX12_layAll { frames := 2, cells := 0, slots := 0, locals := 45 } D cs ad kS [.ref (ad 197)] g (fun g2 => WF (shp ad K) ad cs g2 ∧ (∀ j, j ≠ 197 ∧ j ≠ 204 ∧ j ≠ 205 → g2 j = g j)) := by
  refine Met.startS (cc := cX12_layAll) (maxL := 1) (ret := none) RX12 rfl (by decide) rfl (Nat.le_of_ble_eq_true rfl) ?_
  intro p e s m below meth c ls X Z hP hl
  have hx := X.1
  have hb := X.2.1
  have hS : va_S (wA ad 218) s.heap s.heap [] := va_S.rf
  have hA : ∀ i, i < 218 → wA ad 218 (ad i) := fun i h => ⟨i, h, rfl⟩
  have hfr : ∀ j, j ≠ 197 ∧ j ≠ 204 ∧ j ≠ 205 → g j = g j := fun _ _ => rfl
  have hl : lv_has ls 1 [(0, .ref (ad 197))] := hl
  refine lv_aload_n hx hb dX12_layAll_0 rfl (lv_at hl 0 rfl) ?_
  refine lv_iconst (v := 0) hx hb dX12_layAll_1 (by decide) ?_
  obtain ⟨fsc_4, hgc_4, hOc_4⟩ := hW.obj (i := 197) (by decide) (sh_197 ad K)
  refine s_callv (q := (RX12, TX12, 40)) (As := [.int 0]) (rest := []) X Z (s_X12_layOff l D cs ad kS K hKO hj g hW 0) (cwV 1 X.2.2.2.2.1 gg_X12_layAll_X12_layOff rfl rfl rfl (by decide +kernel) ⟨Nat.le_of_ble_eq_true rfl, Nat.le_of_ble_eq_true rfl⟩) (by decide) hgc_4 rfl hP hA hS.2.1 hS rfl hl.1 rfl (Nat.le_of_ble_eq_true rfl) dX12_layAll_2 ⟨Nat.le_of_ble_eq_true rfl, Nat.le_of_ble_eq_true rfl⟩ (fun g_2 H locs hw_1 hP hS => ?_)
  obtain ⟨hw_1W, hw_1f⟩ := hw_1
  have hfr_5 : ∀ j, j ≠ 197 ∧ j ≠ 204 ∧ j ≠ 205 → g_2 j = g j := fun j hj => (hw_1f j (by omega)).trans (hfr j hj)
  refine lv_aload_n hx hb dX12_layAll_5 rfl (lv_at hl 0 rfl) ?_
  obtain ⟨fsc_9, hgc_9, hOc_9⟩ := hw_1W.obj (i := 197) (by decide) (sh_197 ad K)
  refine s_callv (q := (RX12, TX12, 40)) (As := []) (rest := []) X Z (s_X12_layFalls l D cs ad kS K hKO hj g_2 hw_1W) (cwV 0 X.2.2.2.2.1 gg_X12_layAll_X12_layFalls rfl rfl rfl (by decide +kernel) ⟨Nat.le_of_ble_eq_true rfl, Nat.le_of_ble_eq_true rfl⟩) (by decide) hgc_9 rfl hP hA hS.2.1 hS rfl hl.1 rfl (Nat.le_of_ble_eq_true rfl) dX12_layAll_6 ⟨Nat.le_of_ble_eq_true rfl, Nat.le_of_ble_eq_true rfl⟩ (fun g_7 H locs hw_6 hP hS => ?_)
  obtain ⟨hw_6W, hw_6f⟩ := hw_6
  have hfr_10 : ∀ j, j ≠ 197 ∧ j ≠ 204 ∧ j ≠ 205 → g_7 j = g j := fun j hj => (hw_6f j (by omega)).trans (hfr_5 j hj)
  have hg_11 := (hw_6f 197 (by omega)).trans hgc_9
  exact q_vret X hP hS ⟨hw_6W, hfr_10⟩ dX12_layAll_9

theorem dX12_falls_0 : decode cX12_falls 0 = .ok (.aload_n 0, 1) := by decide +kernel
theorem dX12_falls_1 : decode cX12_falls 1 = .ok (.iload_n 1, 1) := by decide +kernel
theorem dX12_falls_2 : decode cX12_falls 2 = .ok (.i2l, 1) := by decide +kernel
theorem dX12_falls_3 : decode cX12_falls 3 = .ok (.invokevirtual 221, 3) := by decide +kernel
theorem dX12_falls_6 : decode cX12_falls 6 = .ok (.ifCond .ne 6, 3) := by decide +kernel
theorem dX12_falls_9 : decode cX12_falls 9 = .ok (.bipush (-2), 2) := by decide +kernel
theorem dX12_falls_11 : decode cX12_falls 11 = .ok (.ireturn, 1) := by decide +kernel
theorem dX12_falls_12 : decode cX12_falls 12 = .ok (.aload_n 0, 1) := by decide +kernel
theorem dX12_falls_13 : decode cX12_falls 13 = .ok (.invokevirtual 246, 3) := by decide +kernel
theorem dX12_falls_16 : decode cX12_falls 16 = .ok (.aload_n 0, 1) := by decide +kernel
theorem dX12_falls_17 : decode cX12_falls 17 = .ok (.getfield 37, 3) := by decide +kernel
theorem dX12_falls_20 : decode cX12_falls 20 = .ok (.iload_n 1, 1) := by decide +kernel
theorem dX12_falls_21 : decode cX12_falls 21 = .ok (.iaload, 1) := by decide +kernel
theorem dX12_falls_22 : decode cX12_falls 22 = .ok (.ireturn, 1) := by decide +kernel
noncomputable def vX12_falls : List Cond := .code yX12_falls cX12_falls 2 (some .int) :: (([.methodLink RX12 221 yX12_isIcicle, .instanceMethod yX12_isIcicle, .selects RX12 yX12_isIcicle yX12_isIcicle, .initialized RX12, .methodLink RX12 246 yX12_layAll, .instanceMethod yX12_layAll, .selects RX12 yX12_layAll yX12_layAll, .fieldLink RX12 37 "IcicleClockModel" "fell" "[I"] : List Cond) ++ (wsX120 ++ (vX12_isIcicle ++ vX12_layAll)))
theorem iX12_falls_12 : ∀ w ∈ wsX120, w ∈ vX12_falls := fun _ h => List.mem_cons_of_mem _ (List.mem_append_right _ (List.mem_append_left _ h))
theorem gs_X12_falls : Gd vX12_falls := Gd.cons (by decide +kernel) (Gd.app (Gd.r (by decide +kernel)) (Gd.app gwX_12 (Gd.app gs_X12_isIcicle gs_X12_layAll)))
theorem gg_X12_falls_X12_isIcicle : GoodIn vX12_falls (wsV RX12 221 RX12 yX12_isIcicle vX12_isIcicle) := goodIn_app (goodIn_r _ [1, 2, 3, 4] (by decide +kernel) (by decide +kernel)) (fun w h => ⟨List.mem_cons_of_mem _ (List.mem_append_right _ (List.mem_append_right _ (List.mem_append_left _ h))), gs_X12_isIcicle w h⟩)
theorem gg_X12_falls_X12_layAll : GoodIn vX12_falls (wsV RX12 246 RX12 yX12_layAll vX12_layAll) := goodIn_app (goodIn_r _ [5, 6, 7, 4] (by decide +kernel) (by decide +kernel)) (fun w h => ⟨List.mem_cons_of_mem _ (List.mem_append_right _ (List.mem_append_right _ (List.mem_append_right _ (h)))), gs_X12_layAll w h⟩)
set_option maxHeartbeats 4000000 in
set_option maxRecDepth 100000 in
theorem s_X12_falls (l : Launch) (D : va_G) (cs : Nat → ClassId) (ad : Nat → Nat) (kS : kSt) (K : sK) (hKO : KO K) (hj : wJ ad 218) (g : Nat → va_E) (hW : WF (shp ad K) ad cs g) (ic : Int32) : sI l yX12_falls vX12_falls { frames := 3, cells := 0, slots := 0, locals := 65 } D cs ad kS [.ref (ad 197), .int ic] g (fun r g2 => WF (shp ad K) ad cs g2 ∧ (∀ j, j ≠ 197 ∧ j ≠ 204 ∧ j ≠ 205 → g2 j = g j)) := by
  refine Met.startS (cc := cX12_falls) (maxL := 2) (ret := (some .int)) RX12 rfl (by decide) rfl (Nat.le_of_ble_eq_true rfl) ?_
  intro p e s m below meth c ls X Z hP hl
  have hx := X.1
  have hb := X.2.1
  have hS : va_S (wA ad 218) s.heap s.heap [] := va_S.rf
  have hA : ∀ i, i < 218 → wA ad 218 (ad i) := fun i h => ⟨i, h, rfl⟩
  have hfr : ∀ j, j ≠ 197 ∧ j ≠ 204 ∧ j ≠ 205 → g j = g j := fun _ _ => rfl
  have hl : lv_has ls 2 [(0, .ref (ad 197)), (1, .int ic)] := hl
  refine lv_aload_n hx hb dX12_falls_0 rfl (lv_at hl 0 rfl) ?_
  refine lv_iload_n hx hb dX12_falls_1 rfl (lv_at hl 1 rfl) ?_
  refine lv_i2l hx hb dX12_falls_2 rfl ?_
  refine lv_topl (fun z_1 ez_1 => ?_)
  have hz_1 : z_1.toInt = ic.toInt := ez_1 ▸ j_of rfl
  have := n_hi ic
  have := n_lo ic
  obtain ⟨fsc_5, hgc_5, hOc_5⟩ := hW.obj (i := 197) (by decide) (sh_197 ad K)
  refine s_calli (q := (RX12, TX12, 40)) (As := [.long z_1]) (rest := []) X Z (s_X12_isIcicle l D cs ad kS K hKO hj g hW z_1) (cwV 1 X.2.2.2.2.1 gg_X12_falls_X12_isIcicle rfl rfl rfl (by decide +kernel) ⟨Nat.le_of_ble_eq_true rfl, Nat.le_of_ble_eq_true rfl⟩) (by decide) hgc_5 rfl hP hA hS.2.1 hS rfl hl.1 rfl (Nat.le_of_ble_eq_true rfl) dX12_falls_3 ⟨Nat.le_of_ble_eq_true rfl, Nat.le_of_ble_eq_true rfl⟩ (fun r_4 g_3 H locs hw_2 hP hS => ?_)
  obtain ⟨hw_2g, hw_2⟩ := hw_2
  rw [hw_2g] at hP
  refine lv_if_ne (tgt := 12) hx hb dX12_falls_6 (by decide) (fun hc_6 => ?_) (fun hc_6 => ?_)
  · have hhc_6 := n_ne (rfl : r_4.toInt = r_4.toInt) (by decide : (0 : Int32).toInt = 0) hc_6
    refine lv_aload_n hx hb dX12_falls_12 rfl (lv_at hl 0 rfl) ?_
    refine s_callv (q := (RX12, TX12, 40)) (As := []) (rest := []) X Z (s_X12_layAll l D cs ad kS K hKO hj g hW) (cwV 0 X.2.2.2.2.1 gg_X12_falls_X12_layAll rfl rfl rfl (by decide +kernel) ⟨Nat.le_of_ble_eq_true rfl, Nat.le_of_ble_eq_true rfl⟩) (by decide) hgc_5 rfl hP hA hS.2.1 hS rfl hl.1 rfl (Nat.le_of_ble_eq_true rfl) dX12_falls_13 ⟨Nat.le_of_ble_eq_true rfl, Nat.le_of_ble_eq_true rfl⟩ (fun g_8 H locs hw_7 hP hS => ?_)
    obtain ⟨hw_7W, hw_7f⟩ := hw_7
    have hfr_10 : ∀ j, j ≠ 197 ∧ j ≠ 204 ∧ j ≠ 205 → g_8 j = g j := fun j hj => (hw_7f j (by omega)).trans (hfr j hj)
    refine lv_aload_n hx hb dX12_falls_16 rfl (lv_at hl 0 rfl) ?_
    obtain ⟨fsc_11, hgc_11, hOc_11⟩ := hw_7W.obj (i := 197) (by decide) (sh_197 ad K)
    have hk_12 := hOc_11.ref 16 rfl
    refine q_get X iX12_falls_12 hP (by decide) hgc_11 rfl 16 (by decide) (List.mem_of_getElem? (i := 8) rfl) (v := .ref (ad 205)) hk_12 dX12_falls_17 ?_
    refine lv_iload_n hx hb dX12_falls_20 rfl (lv_at hl 1 rfl) ?_
    obtain ⟨fc_13, hgc_13, hFc_13⟩ := hw_7W.arr (i := 205) (by decide) (sh_205 ad K)
    refine q_iald X hP (by decide) hgc_13 (n_in (rfl : ic.toInt = ic.toInt) (by omega) (by omega)) dX12_falls_21 ?_
    refine lv_topi (fun z_14 ez_14 => ?_)
    have hz_14 : (-1) ≤ z_14.toInt ∧ z_14.toInt ≤ 13 := ez_14 ▸ hFc_13 _
    exact q_iret X hP hS ⟨hw_7W, hfr_10⟩ dX12_falls_22
  · have hhc_6 := n_eq (rfl : r_4.toInt = r_4.toInt) (by decide : (0 : Int32).toInt = 0) hc_6
    refine lv_bipush (v := (-2)) hx hb dX12_falls_9 (by decide) ?_
    exact q_iret X hP hS ⟨hW, hfr⟩ dX12_falls_11

theorem dX12_lengthBehind_0 : decode cX12_lengthBehind 0 = .ok (.aload_n 0, 1) := by decide +kernel
theorem dX12_lengthBehind_1 : decode cX12_lengthBehind 1 = .ok (.iload_n 1, 1) := by decide +kernel
theorem dX12_lengthBehind_2 : decode cX12_lengthBehind 2 = .ok (.iconst 1, 1) := by decide +kernel
theorem dX12_lengthBehind_3 : decode cX12_lengthBehind 3 = .ok (.invokevirtual 225, 3) := by decide +kernel
theorem dX12_lengthBehind_6 : decode cX12_lengthBehind 6 = .ok (.istore_n 3, 1) := by decide +kernel
theorem dX12_lengthBehind_7 : decode cX12_lengthBehind 7 = .ok (.iconst 0, 1) := by decide +kernel
theorem dX12_lengthBehind_8 : decode cX12_lengthBehind 8 = .ok (.istore 4, 2) := by decide +kernel
theorem dX12_lengthBehind_10 : decode cX12_lengthBehind 10 = .ok (.iload 4, 2) := by decide +kernel
theorem dX12_lengthBehind_12 : decode cX12_lengthBehind 12 = .ok (.iload_n 2, 1) := by decide +kernel
theorem dX12_lengthBehind_13 : decode cX12_lengthBehind 13 = .ok (.if_icmp .gt 35, 3) := by decide +kernel
theorem dX12_lengthBehind_16 : decode cX12_lengthBehind 16 = .ok (.iload_n 3, 1) := by decide +kernel
theorem dX12_lengthBehind_17 : decode cX12_lengthBehind 17 = .ok (.aload_n 0, 1) := by decide +kernel
theorem dX12_lengthBehind_18 : decode cX12_lengthBehind 18 = .ok (.getfield 34, 3) := by decide +kernel
theorem dX12_lengthBehind_21 : decode cX12_lengthBehind 21 = .ok (.bipush 14, 2) := by decide +kernel
theorem dX12_lengthBehind_23 : decode cX12_lengthBehind 23 = .ok (.aload_n 0, 1) := by decide +kernel
theorem dX12_lengthBehind_24 : decode cX12_lengthBehind 24 = .ok (.iload_n 1, 1) := by decide +kernel
theorem dX12_lengthBehind_25 : decode cX12_lengthBehind 25 = .ok (.iconst 0, 1) := by decide +kernel
theorem dX12_lengthBehind_26 : decode cX12_lengthBehind 26 = .ok (.invokevirtual 225, 3) := by decide +kernel
theorem dX12_lengthBehind_29 : decode cX12_lengthBehind 29 = .ok (.imul, 1) := by decide +kernel
theorem dX12_lengthBehind_30 : decode cX12_lengthBehind 30 = .ok (.iload 4, 2) := by decide +kernel
theorem dX12_lengthBehind_32 : decode cX12_lengthBehind 32 = .ok (.iadd, 1) := by decide +kernel
theorem dX12_lengthBehind_33 : decode cX12_lengthBehind 33 = .ok (.iaload, 1) := by decide +kernel
theorem dX12_lengthBehind_34 : decode cX12_lengthBehind 34 = .ok (.isub, 1) := by decide +kernel
theorem dX12_lengthBehind_35 : decode cX12_lengthBehind 35 = .ok (.istore_n 3, 1) := by decide +kernel
theorem dX12_lengthBehind_36 : decode cX12_lengthBehind 36 = .ok (.iload_n 3, 1) := by decide +kernel
theorem dX12_lengthBehind_37 : decode cX12_lengthBehind 37 = .ok (.ifCond .gt 5, 3) := by decide +kernel
theorem dX12_lengthBehind_40 : decode cX12_lengthBehind 40 = .ok (.iconst 0, 1) := by decide +kernel
theorem dX12_lengthBehind_41 : decode cX12_lengthBehind 41 = .ok (.ireturn, 1) := by decide +kernel
theorem dX12_lengthBehind_42 : decode cX12_lengthBehind 42 = .ok (.iinc 4 1, 3) := by decide +kernel
theorem dX12_lengthBehind_45 : decode cX12_lengthBehind 45 = .ok (.goto (-35), 3) := by decide +kernel
theorem dX12_lengthBehind_48 : decode cX12_lengthBehind 48 = .ok (.iload_n 3, 1) := by decide +kernel
theorem dX12_lengthBehind_49 : decode cX12_lengthBehind 49 = .ok (.ireturn, 1) := by decide +kernel
noncomputable def vX12_lengthBehind : List Cond := .code yX12_lengthBehind cX12_lengthBehind 5 (some .int) :: (([.methodLink RX12 225 yX12_of, .instanceMethod yX12_of, .selects RX12 yX12_of yX12_of, .initialized RX12, .fieldLink RX12 34 "IcicleClockModel" "off" "[I"] : List Cond) ++ (wsX120 ++ vX12_of))
theorem iX12_lengthBehind_12 : ∀ w ∈ wsX120, w ∈ vX12_lengthBehind := fun _ h => List.mem_cons_of_mem _ (List.mem_append_right _ (List.mem_append_left _ h))
theorem gs_X12_lengthBehind : Gd vX12_lengthBehind := Gd.cons (by decide +kernel) (Gd.app (Gd.r (by decide +kernel)) (Gd.app gwX_12 gs_X12_of))
theorem gg_X12_lengthBehind_X12_of : GoodIn vX12_lengthBehind (wsV RX12 225 RX12 yX12_of vX12_of) := goodIn_app (goodIn_r _ [1, 2, 3, 4] (by decide +kernel) (by decide +kernel)) (fun w h => ⟨List.mem_cons_of_mem _ (List.mem_append_right _ (List.mem_append_right _ (h))), gs_X12_of w h⟩)
set_option maxHeartbeats 4000000 in
set_option maxRecDepth 100000 in
theorem s_X12_lengthBehind (l : Launch) (D : va_G) (cs : Nat → ClassId) (ad : Nat → Nat) (kS : kSt) (K : sK) (hKO : KO K) (hj : wJ ad 218) (g : Nat → va_E) (hW : WF (shp ad K) ad cs g) (ic : Int32) (dy : Int32) (hp0 : 0 ≤ ic.toInt ∧ ic.toInt ≤ 7) (hp1 : (-1) ≤ dy.toInt ∧ dy.toInt ≤ 13) : sI l yX12_lengthBehind vX12_lengthBehind { frames := 1, cells := 0, slots := 0, locals := 22 } D cs ad kS [.ref (ad 197), .int ic, .int dy] g (fun r g2 => g2 = g) := by
  refine Met.startS (cc := cX12_lengthBehind) (maxL := 5) (ret := (some .int)) RX12 rfl (by decide) rfl (Nat.le_of_ble_eq_true rfl) ?_
  intro p e s m below meth c ls X Z hP hl
  have hx := X.1
  have hb := X.2.1
  have hS : va_S (wA ad 218) s.heap s.heap [] := va_S.rf
  have hA : ∀ i, i < 218 → wA ad 218 (ad i) := fun i h => ⟨i, h, rfl⟩
  have hl : lv_has ls 5 [(0, .ref (ad 197)), (1, .int ic), (2, .int dy)] := hl
  refine lv_aload_n hx hb dX12_lengthBehind_0 rfl (lv_at hl 0 rfl) ?_
  refine lv_iload_n hx hb dX12_lengthBehind_1 rfl (lv_at hl 1 rfl) ?_
  refine lv_iconst (v := 1) hx hb dX12_lengthBehind_2 (by decide) ?_
  have hqk_1 : (1 : Int32).toInt = 1 := by decide
  obtain ⟨fsc_5, hgc_5, hOc_5⟩ := hW.obj (i := 197) (by decide) (sh_197 ad K)
  refine s_calli (q := (RX12, TX12, 40)) (As := [.int ic, .int 1]) (rest := []) X Z (s_X12_of l D cs ad kS K hKO hj g hW ic 1 (by omega) (by omega)) (cwV 2 X.2.2.2.2.1 gg_X12_lengthBehind_X12_of rfl rfl rfl (by decide +kernel) ⟨Nat.le_of_ble_eq_true rfl, Nat.le_of_ble_eq_true rfl⟩) (by decide) hgc_5 rfl hP hA hS.2.1 hS rfl hl.1 rfl (Nat.le_of_ble_eq_true rfl) dX12_lengthBehind_3 ⟨Nat.le_of_ble_eq_true rfl, Nat.le_of_ble_eq_true rfl⟩ (fun r_4 g_3 H locs hw_2 hP hS => ?_)
  obtain ⟨hw_2g, hw_2⟩ := hw_2
  rw [hw_2g] at hP
  have hqk_6 : (1 : Int32).toInt = 1 := by decide
  refine lv_istore_n (lv' := [(3, .int r_4), (0, .ref (ad 197)), (1, .int ic), (2, .int dy)]) hx hb dX12_lengthBehind_6 rfl hl (by decide) rfl (fun ls hl => ?_)
  refine lv_iconst (v := 0) hx hb dX12_lengthBehind_7 (by decide) ?_
  refine lv_istore (lv' := [(4, .int 0), (3, .int r_4), (0, .ref (ad 197)), (1, .int ic), (2, .int dy)]) hx hb dX12_lengthBehind_8 hl (by decide) rfl (fun ls hl => ?_)
  have HL10 : ∀ (n10 : Nat) (v10_4 : Int32) (v10_3 : Int32) (H : Heap) (locs : List Loc) (ls : Array Slot), (14 - v10_4.toInt).toNat < n10 → (0 ≤ v10_4.toInt ∧ v10_4.toInt ≤ 14) → va_P D vwCl (wL ad g 218) H → va_S (wA ad 218) s.heap H locs → lv_has ls 5 [(4, .int v10_4), (3, .int v10_3), (0, .ref (ad 197)), (1, .int ic), (2, .int dy)] → W p l e ({ frames := 1, cells := 0, slots := 0, locals := 22 } : Room) s m ([.ref (ad 197), .int ic, .int dy] : List Value).toArray below meth c H locs 0 0 (MQ below (qI D ad 218 (fun r g2 => g2 = g)) ([.ref (ad 197), .int ic, .int dy] : List Value).toArray s 0 0 (wA ad 218)) (F0 m 10 ls []) := by
    intro n10
    induction n10 with
    | zero =>
      intro v10_4 v10_3 H locs ls hm10 hv10_0 hP hS hl
      exact absurd hm10 (Nat.not_lt_zero _)
    | succ n10 ih10 =>
      intro v10_4 v10_3 H locs ls hm10 hv10_0 hP hS hl
      refine lv_iload hx hb dX12_lengthBehind_10 (lv_at hl 0 rfl) ?_
      refine lv_iload_n hx hb dX12_lengthBehind_12 rfl (lv_at hl 4 rfl) ?_
      refine lv_icmp_gt (tgt := 48) hx hb dX12_lengthBehind_13 (by decide) (fun hc_7 => ?_) (fun hc_7 => ?_)
      · have hhc_7 := n_lt (rfl : dy.toInt = dy.toInt) (rfl : v10_4.toInt = v10_4.toInt) hc_7
        refine lv_iload_n hx hb dX12_lengthBehind_48 rfl (lv_at hl 1 rfl) ?_
        exact q_iret X hP hS rfl dX12_lengthBehind_49
      · have hhc_7 := n_nlt (rfl : dy.toInt = dy.toInt) (rfl : v10_4.toInt = v10_4.toInt) hc_7
        refine lv_iload_n hx hb dX12_lengthBehind_16 rfl (lv_at hl 1 rfl) ?_
        refine lv_aload_n hx hb dX12_lengthBehind_17 rfl (lv_at hl 2 rfl) ?_
        have hk_8 := hOc_5.ref 15 rfl
        refine q_get X iX12_lengthBehind_12 hP (by decide) hgc_5 rfl 15 (by decide) (List.mem_of_getElem? (i := 5) rfl) (v := .ref (ad 204)) hk_8 dX12_lengthBehind_18 ?_
        refine lv_bipush (v := 14) hx hb dX12_lengthBehind_21 (by decide) ?_
        refine lv_aload_n hx hb dX12_lengthBehind_23 rfl (lv_at hl 2 rfl) ?_
        refine lv_iload_n hx hb dX12_lengthBehind_24 rfl (lv_at hl 3 rfl) ?_
        refine lv_iconst (v := 0) hx hb dX12_lengthBehind_25 (by decide) ?_
        have hqk_9 : (0 : Int32).toInt = 0 := by decide
        refine s_calli (q := (RX12, TX12, 40)) (As := [.int ic, .int 0]) (rest := [.int 14, .ref (ad 204), .int v10_3]) X Z (s_X12_of l D cs ad kS K hKO hj g hW ic 0 (by omega) (by omega)) (cwV 2 X.2.2.2.2.1 gg_X12_lengthBehind_X12_of rfl rfl rfl (by decide +kernel) ⟨Nat.le_of_ble_eq_true rfl, Nat.le_of_ble_eq_true rfl⟩) (by decide) hgc_5 rfl hP hA hS.2.1 hS rfl hl.1 rfl (Nat.le_of_ble_eq_true rfl) dX12_lengthBehind_26 ⟨Nat.le_of_ble_eq_true rfl, Nat.le_of_ble_eq_true rfl⟩ (fun r_12 g_11 H locs hw_10 hP hS => ?_)
        obtain ⟨hw_10g, hw_10⟩ := hw_10
        rw [hw_10g] at hP
        have hqk_13 : (0 : Int32).toInt = 0 := by decide
        refine lv_imul hx hb dX12_lengthBehind_29 ?_
        refine lv_topi (fun z_14 ez_14 => ?_)
        have hz_14 : z_14.toInt = 14 * r_12.toInt := n_mul (by decide : (14 : Int32).toInt = 14) (rfl : r_12.toInt = r_12.toInt) ez_14 (by omega) (by omega)
        refine lv_iload hx hb dX12_lengthBehind_30 (lv_at hl 0 rfl) ?_
        refine lv_iadd hx hb dX12_lengthBehind_32 ?_
        refine lv_topi (fun z_15 ez_15 => ?_)
        have hz_15 : z_15.toInt = z_14.toInt + v10_4.toInt := n_add (rfl : z_14.toInt = z_14.toInt) (rfl : v10_4.toInt = v10_4.toInt) ez_15 (by omega) (by omega)
        obtain ⟨fc_16, hgc_16, hFc_16⟩ := hW.arr (i := 204) (by decide) (sh_204 ad K)
        refine q_iald X hP (by decide) hgc_16 (n_in (rfl : z_15.toInt = z_15.toInt) (by omega) (by omega)) dX12_lengthBehind_33 ?_
        refine lv_topi (fun z_17 ez_17 => ?_)
        refine lv_isub hx hb dX12_lengthBehind_34 ?_
        refine lv_topi (fun z_18 ez_18 => ?_)
        refine lv_istore_n (lv' := [(3, .int z_18), (4, .int v10_4), (0, .ref (ad 197)), (1, .int ic), (2, .int dy)]) hx hb dX12_lengthBehind_35 rfl hl (by decide) rfl (fun ls hl => ?_)
        refine lv_iload_n hx hb dX12_lengthBehind_36 rfl (lv_at hl 0 rfl) ?_
        refine lv_if_gt (tgt := 42) hx hb dX12_lengthBehind_37 (by decide) (fun hc_19 => ?_) (fun hc_19 => ?_)
        · have hhc_19 := n_lt (by decide : (0 : Int32).toInt = 0) (rfl : z_18.toInt = z_18.toInt) hc_19
          obtain ⟨x_20, ex_20⟩ : ∃ y : Int32, y = v10_4 + 1 := ⟨_, rfl⟩
          have hx_20 : x_20.toInt = v10_4.toInt + 1 := n_add rfl (by decide : (1 : Int32).toInt = 1) ex_20 (by omega) (by omega)
          refine lv_iinc (v := x_20) (lv' := [(4, .int x_20), (3, .int z_18), (0, .ref (ad 197)), (1, .int ic), (2, .int dy)]) hx hb dX12_lengthBehind_42 hl (k := 1) rfl (by rw [ex_20]; rfl) (by decide) rfl (fun ls hl => ?_)
          refine lv_goto (tgt := 10) hx hb dX12_lengthBehind_45 (by decide) ?_
          exact ih10 x_20 z_18 _ _ ls (by omega) (by omega) hP hS (lv_sub hl [0, 1, 2, 3, 4] rfl)
        · have hhc_19 := n_nlt (by decide : (0 : Int32).toInt = 0) (rfl : z_18.toInt = z_18.toInt) hc_19
          refine lv_iconst (v := 0) hx hb dX12_lengthBehind_40 (by decide) ?_
          exact q_iret X hP hS rfl dX12_lengthBehind_41
  have hiv10_4 : (0 : Int32).toInt = 0 := by decide
  exact HL10 _ 0 r_4 _ _ ls (Nat.lt_succ_self _) (by omega) hP hS (lv_sub hl [0, 1, 2, 3, 4] rfl)

theorem dX12_length_0 : decode cX12_length 0 = .ok (.aload_n 0, 1) := by decide +kernel
theorem dX12_length_1 : decode cX12_length 1 = .ok (.iload_n 1, 1) := by decide +kernel
theorem dX12_length_2 : decode cX12_length 2 = .ok (.i2l, 1) := by decide +kernel
theorem dX12_length_3 : decode cX12_length 3 = .ok (.invokevirtual 221, 3) := by decide +kernel
theorem dX12_length_6 : decode cX12_length 6 = .ok (.ifCond .eq 11, 3) := by decide +kernel
theorem dX12_length_9 : decode cX12_length 9 = .ok (.aload_n 0, 1) := by decide +kernel
theorem dX12_length_10 : decode cX12_length 10 = .ok (.iload_n 2, 1) := by decide +kernel
theorem dX12_length_11 : decode cX12_length 11 = .ok (.invokevirtual 205, 3) := by decide +kernel
theorem dX12_length_14 : decode cX12_length 14 = .ok (.ifCond .ne 6, 3) := by decide +kernel
theorem dX12_length_20 : decode cX12_length 20 = .ok (.aload_n 0, 1) := by decide +kernel
theorem dX12_length_21 : decode cX12_length 21 = .ok (.invokevirtual 246, 3) := by decide +kernel
theorem dX12_length_24 : decode cX12_length 24 = .ok (.aload_n 0, 1) := by decide +kernel
theorem dX12_length_25 : decode cX12_length 25 = .ok (.iload_n 1, 1) := by decide +kernel
theorem dX12_length_26 : decode cX12_length 26 = .ok (.iload_n 2, 1) := by decide +kernel
theorem dX12_length_27 : decode cX12_length 27 = .ok (.invokevirtual 249, 3) := by decide +kernel
theorem dX12_length_30 : decode cX12_length 30 = .ok (.ireturn, 1) := by decide +kernel
theorem dX12_length_17 : decode cX12_length 17 = .ok (.bipush (-2), 2) := by decide +kernel
theorem dX12_length_19 : decode cX12_length 19 = .ok (.ireturn, 1) := by decide +kernel
noncomputable def vX12_length : List Cond := .code yX12_length cX12_length 3 (some .int) :: (([.methodLink RX12 221 yX12_isIcicle, .instanceMethod yX12_isIcicle, .selects RX12 yX12_isIcicle yX12_isIcicle, .initialized RX12, .methodLink RX12 205 yX12_isDay, .instanceMethod yX12_isDay, .selects RX12 yX12_isDay yX12_isDay, .methodLink RX12 246 yX12_layAll, .instanceMethod yX12_layAll, .selects RX12 yX12_layAll yX12_layAll, .methodLink RX12 249 yX12_lengthBehind, .instanceMethod yX12_lengthBehind, .selects RX12 yX12_lengthBehind yX12_lengthBehind] : List Cond) ++ (vX12_isIcicle ++ (vX12_isDay ++ (vX12_layAll ++ vX12_lengthBehind))))
theorem gs_X12_length : Gd vX12_length := Gd.cons (by decide +kernel) (Gd.app (Gd.r (by decide +kernel)) (Gd.app gs_X12_isIcicle (Gd.app gs_X12_isDay (Gd.app gs_X12_layAll gs_X12_lengthBehind))))
theorem gg_X12_length_X12_isIcicle : GoodIn vX12_length (wsV RX12 221 RX12 yX12_isIcicle vX12_isIcicle) := goodIn_app (goodIn_r _ [1, 2, 3, 4] (by decide +kernel) (by decide +kernel)) (fun w h => ⟨List.mem_cons_of_mem _ (List.mem_append_right _ (List.mem_append_left _ h)), gs_X12_isIcicle w h⟩)
theorem gg_X12_length_X12_isDay : GoodIn vX12_length (wsV RX12 205 RX12 yX12_isDay vX12_isDay) := goodIn_app (goodIn_r _ [5, 6, 7, 4] (by decide +kernel) (by decide +kernel)) (fun w h => ⟨List.mem_cons_of_mem _ (List.mem_append_right _ (List.mem_append_right _ (List.mem_append_left _ h))), gs_X12_isDay w h⟩)
theorem gg_X12_length_X12_layAll : GoodIn vX12_length (wsV RX12 246 RX12 yX12_layAll vX12_layAll) := goodIn_app (goodIn_r _ [8, 9, 10, 4] (by decide +kernel) (by decide +kernel)) (fun w h => ⟨List.mem_cons_of_mem _ (List.mem_append_right _ (List.mem_append_right _ (List.mem_append_right _ (List.mem_append_left _ h)))), gs_X12_layAll w h⟩)
theorem gg_X12_length_X12_lengthBehind : GoodIn vX12_length (wsV RX12 249 RX12 yX12_lengthBehind vX12_lengthBehind) := goodIn_app (goodIn_r _ [11, 12, 13, 4] (by decide +kernel) (by decide +kernel)) (fun w h => ⟨List.mem_cons_of_mem _ (List.mem_append_right _ (List.mem_append_right _ (List.mem_append_right _ (List.mem_append_right _ (h))))), gs_X12_lengthBehind w h⟩)
set_option maxHeartbeats 4000000 in
set_option maxRecDepth 100000 in
theorem s_X12_length (l : Launch) (D : va_G) (cs : Nat → ClassId) (ad : Nat → Nat) (kS : kSt) (K : sK) (hKO : KO K) (hj : wJ ad 218) (g : Nat → va_E) (hW : WF (shp ad K) ad cs g) (ic : Int32) (dy : Int32) : sI l yX12_length vX12_length { frames := 3, cells := 0, slots := 0, locals := 65 } D cs ad kS [.ref (ad 197), .int ic, .int dy] g (fun r g2 => WF (shp ad K) ad cs g2 ∧ (∀ j, j ≠ 197 ∧ j ≠ 204 ∧ j ≠ 205 → g2 j = g j)) := by
  refine Met.startS (cc := cX12_length) (maxL := 3) (ret := (some .int)) RX12 rfl (by decide) rfl (Nat.le_of_ble_eq_true rfl) ?_
  intro p e s m below meth c ls X Z hP hl
  have hx := X.1
  have hb := X.2.1
  have hS : va_S (wA ad 218) s.heap s.heap [] := va_S.rf
  have hA : ∀ i, i < 218 → wA ad 218 (ad i) := fun i h => ⟨i, h, rfl⟩
  have hfr : ∀ j, j ≠ 197 ∧ j ≠ 204 ∧ j ≠ 205 → g j = g j := fun _ _ => rfl
  have hl : lv_has ls 3 [(0, .ref (ad 197)), (1, .int ic), (2, .int dy)] := hl
  refine lv_aload_n hx hb dX12_length_0 rfl (lv_at hl 0 rfl) ?_
  refine lv_iload_n hx hb dX12_length_1 rfl (lv_at hl 1 rfl) ?_
  refine lv_i2l hx hb dX12_length_2 rfl ?_
  refine lv_topl (fun z_1 ez_1 => ?_)
  have hz_1 : z_1.toInt = ic.toInt := ez_1 ▸ j_of rfl
  have := n_hi ic
  have := n_lo ic
  obtain ⟨fsc_5, hgc_5, hOc_5⟩ := hW.obj (i := 197) (by decide) (sh_197 ad K)
  refine s_calli (q := (RX12, TX12, 40)) (As := [.long z_1]) (rest := []) X Z (s_X12_isIcicle l D cs ad kS K hKO hj g hW z_1) (cwV 1 X.2.2.2.2.1 gg_X12_length_X12_isIcicle rfl rfl rfl (by decide +kernel) ⟨Nat.le_of_ble_eq_true rfl, Nat.le_of_ble_eq_true rfl⟩) (by decide) hgc_5 rfl hP hA hS.2.1 hS rfl hl.1 rfl (Nat.le_of_ble_eq_true rfl) dX12_length_3 ⟨Nat.le_of_ble_eq_true rfl, Nat.le_of_ble_eq_true rfl⟩ (fun r_4 g_3 H locs hw_2 hP hS => ?_)
  obtain ⟨hw_2g, hw_2⟩ := hw_2
  rw [hw_2g] at hP
  have HJ17 : ∀ (G17 : Nat → va_E) (H : Heap) (locs : List Loc) (ls : Array Slot), WF (shp ad K) ad cs G17 → (∀ j, j ≠ 197 ∧ j ≠ 204 ∧ j ≠ 205 → G17 j = g j) → G17 197 = .inr (12, fsc_5) → va_P D vwCl (wL ad G17 218) H → va_S (wA ad 218) s.heap H locs → lv_has ls 3 [] → W p l e ({ frames := 3, cells := 0, slots := 0, locals := 65 } : Room) s m ([.ref (ad 197), .int ic, .int dy] : List Value).toArray below meth c H locs 0 0 (MQ below (qI D ad 218 (fun r g2 => WF (shp ad K) ad cs g2 ∧ (∀ j, j ≠ 197 ∧ j ≠ 204 ∧ j ≠ 205 → g2 j = g j))) ([.ref (ad 197), .int ic, .int dy] : List Value).toArray s 0 0 (wA ad 218)) (F0 m 17 ls []) := by
    intro G17 H locs ls hW17 hfr17 hg17_0 hP hS hl
    refine lv_bipush (v := (-2)) hx hb dX12_length_17 (by decide) ?_
    exact q_iret X hP hS ⟨hW17, hfr17⟩ dX12_length_19
  refine lv_if_eq (tgt := 17) hx hb dX12_length_6 (by decide) (fun hc_6 => ?_) (fun hc_6 => ?_)
  · have hhc_6 := n_eq (rfl : r_4.toInt = r_4.toInt) (by decide : (0 : Int32).toInt = 0) hc_6
    exact HJ17 g _ _ ls hW hfr hgc_5 hP hS (lv_sub hl [] rfl)
  · have hhc_6 := n_ne (rfl : r_4.toInt = r_4.toInt) (by decide : (0 : Int32).toInt = 0) hc_6
    refine lv_aload_n hx hb dX12_length_9 rfl (lv_at hl 0 rfl) ?_
    refine lv_iload_n hx hb dX12_length_10 rfl (lv_at hl 2 rfl) ?_
    refine s_calli (q := (RX12, TX12, 40)) (As := [.int dy]) (rest := []) X Z (s_X12_isDay l D cs ad kS K hKO hj g hW dy) (cwV 1 X.2.2.2.2.1 gg_X12_length_X12_isDay rfl rfl rfl (by decide +kernel) ⟨Nat.le_of_ble_eq_true rfl, Nat.le_of_ble_eq_true rfl⟩) (by decide) hgc_5 rfl hP hA hS.2.1 hS rfl hl.1 rfl (Nat.le_of_ble_eq_true rfl) dX12_length_11 ⟨Nat.le_of_ble_eq_true rfl, Nat.le_of_ble_eq_true rfl⟩ (fun r_9 g_8 H locs hw_7 hP hS => ?_)
    obtain ⟨hw_7g, hw_7⟩ := hw_7
    rw [hw_7g] at hP
    refine lv_if_ne (tgt := 20) hx hb dX12_length_14 (by decide) (fun hc_10 => ?_) (fun hc_10 => ?_)
    · have hhc_10 := n_ne (rfl : r_9.toInt = r_9.toInt) (by decide : (0 : Int32).toInt = 0) hc_10
      refine lv_aload_n hx hb dX12_length_20 rfl (lv_at hl 0 rfl) ?_
      refine s_callv (q := (RX12, TX12, 40)) (As := []) (rest := []) X Z (s_X12_layAll l D cs ad kS K hKO hj g hW) (cwV 0 X.2.2.2.2.1 gg_X12_length_X12_layAll rfl rfl rfl (by decide +kernel) ⟨Nat.le_of_ble_eq_true rfl, Nat.le_of_ble_eq_true rfl⟩) (by decide) hgc_5 rfl hP hA hS.2.1 hS rfl hl.1 rfl (Nat.le_of_ble_eq_true rfl) dX12_length_21 ⟨Nat.le_of_ble_eq_true rfl, Nat.le_of_ble_eq_true rfl⟩ (fun g_12 H locs hw_11 hP hS => ?_)
      obtain ⟨hw_11W, hw_11f⟩ := hw_11
      have hfr_14 : ∀ j, j ≠ 197 ∧ j ≠ 204 ∧ j ≠ 205 → g_12 j = g j := fun j hj => (hw_11f j (by omega)).trans (hfr j hj)
      refine lv_aload_n hx hb dX12_length_24 rfl (lv_at hl 0 rfl) ?_
      refine lv_iload_n hx hb dX12_length_25 rfl (lv_at hl 1 rfl) ?_
      refine lv_iload_n hx hb dX12_length_26 rfl (lv_at hl 2 rfl) ?_
      obtain ⟨fsc_18, hgc_18, hOc_18⟩ := hw_11W.obj (i := 197) (by decide) (sh_197 ad K)
      refine s_calli (q := (RX12, TX12, 40)) (As := [.int ic, .int dy]) (rest := []) X Z (s_X12_lengthBehind l D cs ad kS K hKO hj g_12 hw_11W ic dy (by omega) (by omega)) (cwV 2 X.2.2.2.2.1 gg_X12_length_X12_lengthBehind rfl rfl rfl (by decide +kernel) ⟨Nat.le_of_ble_eq_true rfl, Nat.le_of_ble_eq_true rfl⟩) (by decide) hgc_18 rfl hP hA hS.2.1 hS rfl hl.1 rfl (Nat.le_of_ble_eq_true rfl) dX12_length_27 ⟨Nat.le_of_ble_eq_true rfl, Nat.le_of_ble_eq_true rfl⟩ (fun r_17 g_16 H locs hw_15 hP hS => ?_)
      rw [hw_15] at hP
      exact q_iret X hP hS ⟨hw_11W, hfr_14⟩ dX12_length_30
    · have hhc_10 := n_eq (rfl : r_9.toInt = r_9.toInt) (by decide : (0 : Int32).toInt = 0) hc_10
      exact HJ17 g _ _ ls hW hfr hgc_5 hP hS (lv_sub hl [] rfl)

theorem dX12_longest_0 : decode cX12_longest 0 = .ok (.aload_n 0, 1) := by decide +kernel
theorem dX12_longest_1 : decode cX12_longest 1 = .ok (.iload_n 1, 1) := by decide +kernel
theorem dX12_longest_2 : decode cX12_longest 2 = .ok (.i2l, 1) := by decide +kernel
theorem dX12_longest_3 : decode cX12_longest 3 = .ok (.invokevirtual 221, 3) := by decide +kernel
theorem dX12_longest_6 : decode cX12_longest 6 = .ok (.ifCond .ne 6, 3) := by decide +kernel
theorem dX12_longest_9 : decode cX12_longest 9 = .ok (.bipush (-2), 2) := by decide +kernel
theorem dX12_longest_11 : decode cX12_longest 11 = .ok (.ireturn, 1) := by decide +kernel
theorem dX12_longest_12 : decode cX12_longest 12 = .ok (.aload_n 0, 1) := by decide +kernel
theorem dX12_longest_13 : decode cX12_longest 13 = .ok (.invokevirtual 246, 3) := by decide +kernel
theorem dX12_longest_16 : decode cX12_longest 16 = .ok (.aload_n 0, 1) := by decide +kernel
theorem dX12_longest_17 : decode cX12_longest 17 = .ok (.iload_n 1, 1) := by decide +kernel
theorem dX12_longest_18 : decode cX12_longest 18 = .ok (.iconst 1, 1) := by decide +kernel
theorem dX12_longest_19 : decode cX12_longest 19 = .ok (.invokevirtual 225, 3) := by decide +kernel
theorem dX12_longest_22 : decode cX12_longest 22 = .ok (.istore_n 2, 1) := by decide +kernel
theorem dX12_longest_23 : decode cX12_longest 23 = .ok (.iconst 0, 1) := by decide +kernel
theorem dX12_longest_24 : decode cX12_longest 24 = .ok (.istore_n 3, 1) := by decide +kernel
theorem dX12_longest_25 : decode cX12_longest 25 = .ok (.iload_n 3, 1) := by decide +kernel
theorem dX12_longest_26 : decode cX12_longest 26 = .ok (.aload_n 0, 1) := by decide +kernel
theorem dX12_longest_27 : decode cX12_longest 27 = .ok (.getfield 231, 3) := by decide +kernel
theorem dX12_longest_30 : decode cX12_longest 30 = .ok (.if_icmp .ge 20, 3) := by decide +kernel
theorem dX12_longest_33 : decode cX12_longest 33 = .ok (.iload_n 2, 1) := by decide +kernel
theorem dX12_longest_34 : decode cX12_longest 34 = .ok (.aload_n 0, 1) := by decide +kernel
theorem dX12_longest_35 : decode cX12_longest 35 = .ok (.iload_n 1, 1) := by decide +kernel
theorem dX12_longest_36 : decode cX12_longest 36 = .ok (.iload_n 3, 1) := by decide +kernel
theorem dX12_longest_37 : decode cX12_longest 37 = .ok (.invokevirtual 249, 3) := by decide +kernel
theorem dX12_longest_40 : decode cX12_longest 40 = .ok (.invokestatic 252, 3) := by decide +kernel
theorem dX12_longest_43 : decode cX12_longest 43 = .ok (.istore_n 2, 1) := by decide +kernel
theorem dX12_longest_44 : decode cX12_longest 44 = .ok (.iinc 3 1, 3) := by decide +kernel
theorem dX12_longest_47 : decode cX12_longest 47 = .ok (.goto (-22), 3) := by decide +kernel
theorem dX12_longest_50 : decode cX12_longest 50 = .ok (.iload_n 2, 1) := by decide +kernel
theorem dX12_longest_51 : decode cX12_longest 51 = .ok (.ireturn, 1) := by decide +kernel
noncomputable def vX12_longest : List Cond := .code yX12_longest cX12_longest 4 (some .int) :: (([.methodLink RX12 221 yX12_isIcicle, .instanceMethod yX12_isIcicle, .selects RX12 yX12_isIcicle yX12_isIcicle, .initialized RX12, .methodLink RX12 246 yX12_layAll, .instanceMethod yX12_layAll, .selects RX12 yX12_layAll yX12_layAll, .methodLink RX12 225 yX12_of, .instanceMethod yX12_of, .selects RX12 yX12_of yX12_of, .fieldLink RX12 231 "IcicleClockModel" "days" "I", .methodLink RX12 249 yX12_lengthBehind, .instanceMethod yX12_lengthBehind, .selects RX12 yX12_lengthBehind yX12_lengthBehind, .methodLink RX12 252 Lib.Math.max.name, .static Lib.Math.max.name, .initialized "java/lang/Math", .code Lib.Math.max.name Lib.Math.max.code 2 (some .int)] : List Cond) ++ (wsX120 ++ (vX12_isIcicle ++ (vX12_layAll ++ (vX12_of ++ vX12_lengthBehind)))))
theorem iX12_longest_12 : ∀ w ∈ wsX120, w ∈ vX12_longest := fun _ h => List.mem_cons_of_mem _ (List.mem_append_right _ (List.mem_append_left _ h))
theorem gs_X12_longest : Gd vX12_longest := Gd.cons (by decide +kernel) (Gd.app (Gd.r (by decide +kernel)) (Gd.app gwX_12 (Gd.app gs_X12_isIcicle (Gd.app gs_X12_layAll (Gd.app gs_X12_of gs_X12_lengthBehind)))))
theorem gg_X12_longest_X12_isIcicle : GoodIn vX12_longest (wsV RX12 221 RX12 yX12_isIcicle vX12_isIcicle) := goodIn_app (goodIn_r _ [1, 2, 3, 4] (by decide +kernel) (by decide +kernel)) (fun w h => ⟨List.mem_cons_of_mem _ (List.mem_append_right _ (List.mem_append_right _ (List.mem_append_left _ h))), gs_X12_isIcicle w h⟩)
theorem gg_X12_longest_X12_layAll : GoodIn vX12_longest (wsV RX12 246 RX12 yX12_layAll vX12_layAll) := goodIn_app (goodIn_r _ [5, 6, 7, 4] (by decide +kernel) (by decide +kernel)) (fun w h => ⟨List.mem_cons_of_mem _ (List.mem_append_right _ (List.mem_append_right _ (List.mem_append_right _ (List.mem_append_left _ h)))), gs_X12_layAll w h⟩)
theorem gg_X12_longest_X12_of : GoodIn vX12_longest (wsV RX12 225 RX12 yX12_of vX12_of) := goodIn_app (goodIn_r _ [8, 9, 10, 4] (by decide +kernel) (by decide +kernel)) (fun w h => ⟨List.mem_cons_of_mem _ (List.mem_append_right _ (List.mem_append_right _ (List.mem_append_right _ (List.mem_append_right _ (List.mem_append_left _ h))))), gs_X12_of w h⟩)
theorem gg_X12_longest_X12_lengthBehind : GoodIn vX12_longest (wsV RX12 249 RX12 yX12_lengthBehind vX12_lengthBehind) := goodIn_app (goodIn_r _ [12, 13, 14, 4] (by decide +kernel) (by decide +kernel)) (fun w h => ⟨List.mem_cons_of_mem _ (List.mem_append_right _ (List.mem_append_right _ (List.mem_append_right _ (List.mem_append_right _ (List.mem_append_right _ (h)))))), gs_X12_lengthBehind w h⟩)
set_option maxHeartbeats 4000000 in
set_option maxRecDepth 100000 in
theorem s_X12_longest (l : Launch) (D : va_G) (cs : Nat → ClassId) (ad : Nat → Nat) (kS : kSt) (K : sK) (hKO : KO K) (hj : wJ ad 218) (g : Nat → va_E) (hW : WF (shp ad K) ad cs g) (ic : Int32) : sI l yX12_longest vX12_longest { frames := 3, cells := 0, slots := 0, locals := 65 } D cs ad kS [.ref (ad 197), .int ic] g (fun r g2 => WF (shp ad K) ad cs g2 ∧ (∀ j, j ≠ 197 ∧ j ≠ 204 ∧ j ≠ 205 → g2 j = g j)) := by
  refine Met.startS (cc := cX12_longest) (maxL := 4) (ret := (some .int)) RX12 rfl (by decide) rfl (Nat.le_of_ble_eq_true rfl) ?_
  intro p e s m below meth c ls X Z hP hl
  have hx := X.1
  have hb := X.2.1
  have hS : va_S (wA ad 218) s.heap s.heap [] := va_S.rf
  have hA : ∀ i, i < 218 → wA ad 218 (ad i) := fun i h => ⟨i, h, rfl⟩
  have hfr : ∀ j, j ≠ 197 ∧ j ≠ 204 ∧ j ≠ 205 → g j = g j := fun _ _ => rfl
  have hl : lv_has ls 4 [(0, .ref (ad 197)), (1, .int ic)] := hl
  refine lv_aload_n hx hb dX12_longest_0 rfl (lv_at hl 0 rfl) ?_
  refine lv_iload_n hx hb dX12_longest_1 rfl (lv_at hl 1 rfl) ?_
  refine lv_i2l hx hb dX12_longest_2 rfl ?_
  refine lv_topl (fun z_1 ez_1 => ?_)
  have hz_1 : z_1.toInt = ic.toInt := ez_1 ▸ j_of rfl
  have := n_hi ic
  have := n_lo ic
  obtain ⟨fsc_5, hgc_5, hOc_5⟩ := hW.obj (i := 197) (by decide) (sh_197 ad K)
  refine s_calli (q := (RX12, TX12, 40)) (As := [.long z_1]) (rest := []) X Z (s_X12_isIcicle l D cs ad kS K hKO hj g hW z_1) (cwV 1 X.2.2.2.2.1 gg_X12_longest_X12_isIcicle rfl rfl rfl (by decide +kernel) ⟨Nat.le_of_ble_eq_true rfl, Nat.le_of_ble_eq_true rfl⟩) (by decide) hgc_5 rfl hP hA hS.2.1 hS rfl hl.1 rfl (Nat.le_of_ble_eq_true rfl) dX12_longest_3 ⟨Nat.le_of_ble_eq_true rfl, Nat.le_of_ble_eq_true rfl⟩ (fun r_4 g_3 H locs hw_2 hP hS => ?_)
  obtain ⟨hw_2g, hw_2⟩ := hw_2
  rw [hw_2g] at hP
  refine lv_if_ne (tgt := 12) hx hb dX12_longest_6 (by decide) (fun hc_6 => ?_) (fun hc_6 => ?_)
  · have hhc_6 := n_ne (rfl : r_4.toInt = r_4.toInt) (by decide : (0 : Int32).toInt = 0) hc_6
    refine lv_aload_n hx hb dX12_longest_12 rfl (lv_at hl 0 rfl) ?_
    refine s_callv (q := (RX12, TX12, 40)) (As := []) (rest := []) X Z (s_X12_layAll l D cs ad kS K hKO hj g hW) (cwV 0 X.2.2.2.2.1 gg_X12_longest_X12_layAll rfl rfl rfl (by decide +kernel) ⟨Nat.le_of_ble_eq_true rfl, Nat.le_of_ble_eq_true rfl⟩) (by decide) hgc_5 rfl hP hA hS.2.1 hS rfl hl.1 rfl (Nat.le_of_ble_eq_true rfl) dX12_longest_13 ⟨Nat.le_of_ble_eq_true rfl, Nat.le_of_ble_eq_true rfl⟩ (fun g_8 H locs hw_7 hP hS => ?_)
    obtain ⟨hw_7W, hw_7f⟩ := hw_7
    have hfr_10 : ∀ j, j ≠ 197 ∧ j ≠ 204 ∧ j ≠ 205 → g_8 j = g j := fun j hj => (hw_7f j (by omega)).trans (hfr j hj)
    refine lv_aload_n hx hb dX12_longest_16 rfl (lv_at hl 0 rfl) ?_
    refine lv_iload_n hx hb dX12_longest_17 rfl (lv_at hl 1 rfl) ?_
    refine lv_iconst (v := 1) hx hb dX12_longest_18 (by decide) ?_
    have hqk_11 : (1 : Int32).toInt = 1 := by decide
    obtain ⟨fsc_15, hgc_15, hOc_15⟩ := hw_7W.obj (i := 197) (by decide) (sh_197 ad K)
    refine s_calli (q := (RX12, TX12, 40)) (As := [.int ic, .int 1]) (rest := []) X Z (s_X12_of l D cs ad kS K hKO hj g_8 hw_7W ic 1 (by omega) (by omega)) (cwV 2 X.2.2.2.2.1 gg_X12_longest_X12_of rfl rfl rfl (by decide +kernel) ⟨Nat.le_of_ble_eq_true rfl, Nat.le_of_ble_eq_true rfl⟩) (by decide) hgc_15 rfl hP hA hS.2.1 hS rfl hl.1 rfl (Nat.le_of_ble_eq_true rfl) dX12_longest_19 ⟨Nat.le_of_ble_eq_true rfl, Nat.le_of_ble_eq_true rfl⟩ (fun r_14 g_13 H locs hw_12 hP hS => ?_)
    obtain ⟨hw_12g, hw_12⟩ := hw_12
    rw [hw_12g] at hP
    have hqk_16 : (1 : Int32).toInt = 1 := by decide
    refine lv_istore_n (lv' := [(2, .int r_14), (0, .ref (ad 197)), (1, .int ic)]) hx hb dX12_longest_22 rfl hl (by decide) rfl (fun ls hl => ?_)
    refine lv_iconst (v := 0) hx hb dX12_longest_23 (by decide) ?_
    refine lv_istore_n (lv' := [(3, .int 0), (2, .int r_14), (0, .ref (ad 197)), (1, .int ic)]) hx hb dX12_longest_24 rfl hl (by decide) rfl (fun ls hl => ?_)
    have HL25 : ∀ (n25 : Nat) (v25_3 : Int32) (v25_2 : Int32) (G25 : Nat → va_E) (H : Heap) (locs : List Loc) (ls : Array Slot), (14 - v25_3.toInt).toNat < n25 → (0 ≤ v25_3.toInt ∧ v25_3.toInt ≤ 14) → WF (shp ad K) ad cs G25 → (∀ j, j ≠ 197 ∧ j ≠ 204 ∧ j ≠ 205 → G25 j = g j) → va_P D vwCl (wL ad G25 218) H → va_S (wA ad 218) s.heap H locs → lv_has ls 4 [(3, .int v25_3), (2, .int v25_2), (0, .ref (ad 197)), (1, .int ic)] → W p l e ({ frames := 3, cells := 0, slots := 0, locals := 65 } : Room) s m ([.ref (ad 197), .int ic] : List Value).toArray below meth c H locs 0 0 (MQ below (qI D ad 218 (fun r g2 => WF (shp ad K) ad cs g2 ∧ (∀ j, j ≠ 197 ∧ j ≠ 204 ∧ j ≠ 205 → g2 j = g j))) ([.ref (ad 197), .int ic] : List Value).toArray s 0 0 (wA ad 218)) (F0 m 25 ls []) := by
      intro n25
      induction n25 with
      | zero =>
        intro v25_3 v25_2 G25 H locs ls hm25 hv25_0 hW25 hfr25 hP hS hl
        exact absurd hm25 (Nat.not_lt_zero _)
      | succ n25 ih25 =>
        intro v25_3 v25_2 G25 H locs ls hm25 hv25_0 hW25 hfr25 hP hS hl
        refine lv_iload_n hx hb dX12_longest_25 rfl (lv_at hl 0 rfl) ?_
        refine lv_aload_n hx hb dX12_longest_26 rfl (lv_at hl 2 rfl) ?_
        obtain ⟨fsc_17, hgc_17, hOc_17⟩ := hW25.obj (i := 197) (by decide) (sh_197 ad K)
        obtain ⟨x_19, hk_18, hlx_19, hhx_19⟩ := hOc_17.int 17 rfl
        refine q_get X iX12_longest_12 hP (by decide) hgc_17 rfl 17 (by decide) (List.mem_of_getElem? (i := 11) rfl) (v := .int x_19) hk_18 dX12_longest_27 ?_
        refine lv_icmp_ge (tgt := 50) hx hb dX12_longest_30 (by decide) (fun hc_20 => ?_) (fun hc_20 => ?_)
        · have hhc_20 := n_le (rfl : x_19.toInt = x_19.toInt) (rfl : v25_3.toInt = v25_3.toInt) hc_20
          refine lv_iload_n hx hb dX12_longest_50 rfl (lv_at hl 1 rfl) ?_
          exact q_iret X hP hS ⟨hW25, hfr25⟩ dX12_longest_51
        · have hhc_20 := n_nle (rfl : x_19.toInt = x_19.toInt) (rfl : v25_3.toInt = v25_3.toInt) hc_20
          refine lv_iload_n hx hb dX12_longest_33 rfl (lv_at hl 1 rfl) ?_
          refine lv_aload_n hx hb dX12_longest_34 rfl (lv_at hl 2 rfl) ?_
          refine lv_iload_n hx hb dX12_longest_35 rfl (lv_at hl 3 rfl) ?_
          refine lv_iload_n hx hb dX12_longest_36 rfl (lv_at hl 0 rfl) ?_
          refine s_calli (q := (RX12, TX12, 40)) (As := [.int ic, .int v25_3]) (rest := [.int v25_2]) X Z (s_X12_lengthBehind l D cs ad kS K hKO hj G25 hW25 ic v25_3 (by omega) (by omega)) (cwV 2 X.2.2.2.2.1 gg_X12_longest_X12_lengthBehind rfl rfl rfl (by decide +kernel) ⟨Nat.le_of_ble_eq_true rfl, Nat.le_of_ble_eq_true rfl⟩) (by decide) hgc_17 rfl hP hA hS.2.1 hS rfl hl.1 rfl (Nat.le_of_ble_eq_true rfl) dX12_longest_37 ⟨Nat.le_of_ble_eq_true rfl, Nat.le_of_ble_eq_true rfl⟩ (fun r_23 g_22 H locs hw_21 hP hS => ?_)
          rw [hw_21] at hP
          refine va_mmax hx hb (X.2.2.2.1.trans hl.1.symm) X.2.2.2.2.2.1 (X.2.2.2.2.1 _ (List.mem_of_getElem? (i := 15) rfl)) (X.2.2.2.2.1 _ (List.mem_of_getElem? (i := 16) rfl)) (X.2.2.2.2.1 _ (List.mem_of_getElem? (i := 17) rfl)) (X.2.2.2.2.1 _ (List.mem_of_getElem? (i := 18) rfl)) (Nat.le_of_ble_eq_true rfl) (Nat.le_of_ble_eq_true rfl) (Nat.le_of_ble_eq_true rfl) (Nat.le_of_ble_eq_true rfl) dX12_longest_40 ?_
          refine lv_topi (fun z_24 ez_24 => ?_)
          have hz_24 := n_max (rfl : v25_2.toInt = v25_2.toInt) (rfl : r_23.toInt = r_23.toInt) ez_24
          refine lv_istore_n (lv' := [(2, .int z_24), (3, .int v25_3), (0, .ref (ad 197)), (1, .int ic)]) hx hb dX12_longest_43 rfl hl (by decide) rfl (fun ls hl => ?_)
          obtain ⟨x_25, ex_25⟩ : ∃ y : Int32, y = v25_3 + 1 := ⟨_, rfl⟩
          have hx_25 : x_25.toInt = v25_3.toInt + 1 := n_add rfl (by decide : (1 : Int32).toInt = 1) ex_25 (by omega) (by omega)
          refine lv_iinc (v := x_25) (lv' := [(3, .int x_25), (2, .int z_24), (0, .ref (ad 197)), (1, .int ic)]) hx hb dX12_longest_44 hl (k := 1) rfl (by rw [ex_25]; rfl) (by decide) rfl (fun ls hl => ?_)
          refine lv_goto (tgt := 25) hx hb dX12_longest_47 (by decide) ?_
          exact ih25 x_25 z_24 G25 _ _ ls (by omega) (by omega) hW25 hfr25 hP hS (lv_sub hl [0, 1, 2, 3] rfl)
    have hiv25_3 : (0 : Int32).toInt = 0 := by decide
    exact HL25 _ 0 r_14 g_8 _ _ ls (Nat.lt_succ_self _) (by omega) hw_7W hfr_10 hP hS (lv_sub hl [0, 1, 2, 3] rfl)
  · have hhc_6 := n_eq (rfl : r_4.toInt = r_4.toInt) (by decide : (0 : Int32).toInt = 0) hc_6
    refine lv_bipush (v := (-2)) hx hb dX12_longest_9 (by decide) ?_
    exact q_iret X hP hS ⟨hW, hfr⟩ dX12_longest_11

theorem dX12_dropsOn_0 : decode cX12_dropsOn 0 = .ok (.iconst 0, 1) := by decide +kernel
theorem dX12_dropsOn_1 : decode cX12_dropsOn 1 = .ok (.istore_n 2, 1) := by decide +kernel
theorem dX12_dropsOn_2 : decode cX12_dropsOn 2 = .ok (.iconst 0, 1) := by decide +kernel
theorem dX12_dropsOn_3 : decode cX12_dropsOn 3 = .ok (.istore_n 3, 1) := by decide +kernel
theorem dX12_dropsOn_4 : decode cX12_dropsOn 4 = .ok (.iload_n 3, 1) := by decide +kernel
theorem dX12_dropsOn_5 : decode cX12_dropsOn 5 = .ok (.aload_n 0, 1) := by decide +kernel
theorem dX12_dropsOn_6 : decode cX12_dropsOn 6 = .ok (.getfield 9, 3) := by decide +kernel
theorem dX12_dropsOn_9 : decode cX12_dropsOn 9 = .ok (.iconst 5, 1) := by decide +kernel
theorem dX12_dropsOn_10 : decode cX12_dropsOn 10 = .ok (.iaload, 1) := by decide +kernel
theorem dX12_dropsOn_11 : decode cX12_dropsOn 11 = .ok (.if_icmp .ge 29, 3) := by decide +kernel
theorem dX12_dropsOn_14 : decode cX12_dropsOn 14 = .ok (.iload_n 2, 1) := by decide +kernel
theorem dX12_dropsOn_15 : decode cX12_dropsOn 15 = .ok (.aload_n 0, 1) := by decide +kernel
theorem dX12_dropsOn_16 : decode cX12_dropsOn 16 = .ok (.getfield 37, 3) := by decide +kernel
theorem dX12_dropsOn_19 : decode cX12_dropsOn 19 = .ok (.iload_n 3, 1) := by decide +kernel
theorem dX12_dropsOn_20 : decode cX12_dropsOn 20 = .ok (.iaload, 1) := by decide +kernel
theorem dX12_dropsOn_21 : decode cX12_dropsOn 21 = .ok (.iload_n 1, 1) := by decide +kernel
theorem dX12_dropsOn_22 : decode cX12_dropsOn 22 = .ok (.if_icmp .ne 9, 3) := by decide +kernel
theorem dX12_dropsOn_25 : decode cX12_dropsOn 25 = .ok (.iconst 1, 1) := by decide +kernel
theorem dX12_dropsOn_26 : decode cX12_dropsOn 26 = .ok (.iload_n 3, 1) := by decide +kernel
theorem dX12_dropsOn_27 : decode cX12_dropsOn 27 = .ok (.ishl, 1) := by decide +kernel
theorem dX12_dropsOn_28 : decode cX12_dropsOn 28 = .ok (.goto 4, 3) := by decide +kernel
theorem dX12_dropsOn_31 : decode cX12_dropsOn 31 = .ok (.iconst 0, 1) := by decide +kernel
theorem dX12_dropsOn_32 : decode cX12_dropsOn 32 = .ok (.ior, 1) := by decide +kernel
theorem dX12_dropsOn_33 : decode cX12_dropsOn 33 = .ok (.istore_n 2, 1) := by decide +kernel
theorem dX12_dropsOn_34 : decode cX12_dropsOn 34 = .ok (.iinc 3 1, 3) := by decide +kernel
theorem dX12_dropsOn_37 : decode cX12_dropsOn 37 = .ok (.goto (-33), 3) := by decide +kernel
theorem dX12_dropsOn_40 : decode cX12_dropsOn 40 = .ok (.iload_n 2, 1) := by decide +kernel
theorem dX12_dropsOn_41 : decode cX12_dropsOn 41 = .ok (.ireturn, 1) := by decide +kernel
noncomputable def vX12_dropsOn : List Cond := .code yX12_dropsOn cX12_dropsOn 4 (some .int) :: (([.fieldLink RX12 9 "IcicleClockModel" "world" "[I", .fieldLink RX12 37 "IcicleClockModel" "fell" "[I"] : List Cond) ++ wsX120)
theorem iX12_dropsOn_12 : ∀ w ∈ wsX120, w ∈ vX12_dropsOn := fun _ h => List.mem_cons_of_mem _ (List.mem_append_right _ (h))
theorem gs_X12_dropsOn : Gd vX12_dropsOn := Gd.cons (by decide +kernel) (Gd.app (Gd.r (by decide +kernel)) gwX_12)
set_option maxHeartbeats 4000000 in
set_option maxRecDepth 100000 in
theorem s_X12_dropsOn (l : Launch) (D : va_G) (cs : Nat → ClassId) (ad : Nat → Nat) (kS : kSt) (K : sK) (hKO : KO K) (hj : wJ ad 218) (g : Nat → va_E) (hW : WF (shp ad K) ad cs g) (dy : Int32) : sI l yX12_dropsOn vX12_dropsOn { frames := 0, cells := 0, slots := 0, locals := 0 } D cs ad kS [.ref (ad 197), .int dy] g (fun r g2 => g2 = g) := by
  refine Met.startS (cc := cX12_dropsOn) (maxL := 4) (ret := (some .int)) RX12 rfl (by decide) rfl (Nat.le_of_ble_eq_true rfl) ?_
  intro p e s m below meth c ls X Z hP hl
  have hx := X.1
  have hb := X.2.1
  have hS : va_S (wA ad 218) s.heap s.heap [] := va_S.rf
  have hA : ∀ i, i < 218 → wA ad 218 (ad i) := fun i h => ⟨i, h, rfl⟩
  have hl : lv_has ls 4 [(0, .ref (ad 197)), (1, .int dy)] := hl
  refine lv_iconst (v := 0) hx hb dX12_dropsOn_0 (by decide) ?_
  refine lv_istore_n (lv' := [(2, .int 0), (0, .ref (ad 197)), (1, .int dy)]) hx hb dX12_dropsOn_1 rfl hl (by decide) rfl (fun ls hl => ?_)
  refine lv_iconst (v := 0) hx hb dX12_dropsOn_2 (by decide) ?_
  refine lv_istore_n (lv' := [(3, .int 0), (2, .int 0), (0, .ref (ad 197)), (1, .int dy)]) hx hb dX12_dropsOn_3 rfl hl (by decide) rfl (fun ls hl => ?_)
  have HL4 : ∀ (n4 : Nat) (v4_3 : Int32) (v4_2 : Int32) (H : Heap) (locs : List Loc) (ls : Array Slot), (8 - v4_3.toInt).toNat < n4 → (0 ≤ v4_3.toInt ∧ v4_3.toInt ≤ 8) → va_P D vwCl (wL ad g 218) H → va_S (wA ad 218) s.heap H locs → lv_has ls 4 [(3, .int v4_3), (2, .int v4_2), (0, .ref (ad 197)), (1, .int dy)] → W p l e ({ frames := 0, cells := 0, slots := 0, locals := 0 } : Room) s m ([.ref (ad 197), .int dy] : List Value).toArray below meth c H locs 0 0 (MQ below (qI D ad 218 (fun r g2 => g2 = g)) ([.ref (ad 197), .int dy] : List Value).toArray s 0 0 (wA ad 218)) (F0 m 4 ls []) := by
    intro n4
    induction n4 with
    | zero =>
      intro v4_3 v4_2 H locs ls hm4 hv4_0 hP hS hl
      exact absurd hm4 (Nat.not_lt_zero _)
    | succ n4 ih4 =>
      intro v4_3 v4_2 H locs ls hm4 hv4_0 hP hS hl
      refine lv_iload_n hx hb dX12_dropsOn_4 rfl (lv_at hl 0 rfl) ?_
      refine lv_aload_n hx hb dX12_dropsOn_5 rfl (lv_at hl 2 rfl) ?_
      obtain ⟨fsc_1, hgc_1, hOc_1⟩ := hW.obj (i := 197) (by decide) (sh_197 ad K)
      have hk_2 := hOc_1.ref 1 rfl
      refine q_get X iX12_dropsOn_12 hP (by decide) hgc_1 rfl 1 (by decide) (List.mem_of_getElem? (i := 1) rfl) (v := .ref (ad 198)) hk_2 dX12_dropsOn_6 ?_
      refine lv_iconst (v := 5) hx hb dX12_dropsOn_9 (by decide) ?_
      obtain ⟨fc_3, hgc_3, hFc_3⟩ := hW.arr (i := 198) (by decide) (sh_198 ad K)
      refine q_iald X hP (by decide) hgc_3 (by unfold vp_in; decide) dX12_dropsOn_10 ?_
      refine lv_topi (fun z_4 ez_4 => ?_)
      have hqz_4 : wq (5) z_4.toInt := ez_4 ▸ hFc_3 _
      have hz_4 : 0 ≤ z_4.toInt ∧ z_4.toInt ≤ 8 := by unfold wq at hqz_4; omega
      clear hqz_4
      refine lv_icmp_ge (tgt := 40) hx hb dX12_dropsOn_11 (by decide) (fun hc_5 => ?_) (fun hc_5 => ?_)
      · have hhc_5 := n_le (rfl : z_4.toInt = z_4.toInt) (rfl : v4_3.toInt = v4_3.toInt) hc_5
        refine lv_iload_n hx hb dX12_dropsOn_40 rfl (lv_at hl 1 rfl) ?_
        exact q_iret X hP hS rfl dX12_dropsOn_41
      · have hhc_5 := n_nle (rfl : z_4.toInt = z_4.toInt) (rfl : v4_3.toInt = v4_3.toInt) hc_5
        refine lv_iload_n hx hb dX12_dropsOn_14 rfl (lv_at hl 1 rfl) ?_
        refine lv_aload_n hx hb dX12_dropsOn_15 rfl (lv_at hl 2 rfl) ?_
        have hk_6 := hOc_1.ref 16 rfl
        refine q_get X iX12_dropsOn_12 hP (by decide) hgc_1 rfl 16 (by decide) (List.mem_of_getElem? (i := 2) rfl) (v := .ref (ad 205)) hk_6 dX12_dropsOn_16 ?_
        refine lv_iload_n hx hb dX12_dropsOn_19 rfl (lv_at hl 0 rfl) ?_
        obtain ⟨fc_7, hgc_7, hFc_7⟩ := hW.arr (i := 205) (by decide) (sh_205 ad K)
        refine q_iald X hP (by decide) hgc_7 (n_in (rfl : v4_3.toInt = v4_3.toInt) (by omega) (by omega)) dX12_dropsOn_20 ?_
        refine lv_topi (fun z_8 ez_8 => ?_)
        have hz_8 : (-1) ≤ z_8.toInt ∧ z_8.toInt ≤ 13 := ez_8 ▸ hFc_7 _
        refine lv_iload_n hx hb dX12_dropsOn_21 rfl (lv_at hl 3 rfl) ?_
        refine lv_icmp_ne (tgt := 31) hx hb dX12_dropsOn_22 (by decide) (fun hc_9 => ?_) (fun hc_9 => ?_)
        · have hhc_9 := n_ne (rfl : z_8.toInt = z_8.toInt) (rfl : dy.toInt = dy.toInt) hc_9
          refine lv_iconst (v := 0) hx hb dX12_dropsOn_31 (by decide) ?_
          refine lv_ior hx hb dX12_dropsOn_32 ?_
          refine lv_topi (fun z_10 ez_10 => ?_)
          refine lv_istore_n (lv' := [(2, .int z_10), (3, .int v4_3), (0, .ref (ad 197)), (1, .int dy)]) hx hb dX12_dropsOn_33 rfl hl (by decide) rfl (fun ls hl => ?_)
          obtain ⟨x_11, ex_11⟩ : ∃ y : Int32, y = v4_3 + 1 := ⟨_, rfl⟩
          have hx_11 : x_11.toInt = v4_3.toInt + 1 := n_add rfl (by decide : (1 : Int32).toInt = 1) ex_11 (by omega) (by omega)
          refine lv_iinc (v := x_11) (lv' := [(3, .int x_11), (2, .int z_10), (0, .ref (ad 197)), (1, .int dy)]) hx hb dX12_dropsOn_34 hl (k := 1) rfl (by rw [ex_11]; rfl) (by decide) rfl (fun ls hl => ?_)
          refine lv_goto (tgt := 4) hx hb dX12_dropsOn_37 (by decide) ?_
          exact ih4 x_11 z_10 _ _ ls (by omega) (by omega) hP hS (lv_sub hl [0, 1, 2, 3] rfl)
        · have hhc_9 := n_eq (rfl : z_8.toInt = z_8.toInt) (rfl : dy.toInt = dy.toInt) hc_9
          refine lv_iconst (v := 1) hx hb dX12_dropsOn_25 (by decide) ?_
          refine lv_iload_n hx hb dX12_dropsOn_26 rfl (lv_at hl 0 rfl) ?_
          refine lv_ishl hx hb dX12_dropsOn_27 ?_
          refine lv_topi (fun z_12 ez_12 => ?_)
          refine lv_goto (tgt := 32) hx hb dX12_dropsOn_28 (by decide) ?_
          refine lv_ior hx hb dX12_dropsOn_32 ?_
          refine lv_topi (fun z_13 ez_13 => ?_)
          refine lv_istore_n (lv' := [(2, .int z_13), (3, .int v4_3), (0, .ref (ad 197)), (1, .int dy)]) hx hb dX12_dropsOn_33 rfl hl (by decide) rfl (fun ls hl => ?_)
          obtain ⟨x_14, ex_14⟩ : ∃ y : Int32, y = v4_3 + 1 := ⟨_, rfl⟩
          have hx_14 : x_14.toInt = v4_3.toInt + 1 := n_add rfl (by decide : (1 : Int32).toInt = 1) ex_14 (by omega) (by omega)
          refine lv_iinc (v := x_14) (lv' := [(3, .int x_14), (2, .int z_13), (0, .ref (ad 197)), (1, .int dy)]) hx hb dX12_dropsOn_34 hl (k := 1) rfl (by rw [ex_14]; rfl) (by decide) rfl (fun ls hl => ?_)
          refine lv_goto (tgt := 4) hx hb dX12_dropsOn_37 (by decide) ?_
          exact ih4 x_14 z_13 _ _ ls (by omega) (by omega) hP hS (lv_sub hl [0, 1, 2, 3] rfl)
  have hiv4_3 : (0 : Int32).toInt = 0 := by decide
  have hiv4_2 : (0 : Int32).toInt = 0 := by decide
  exact HL4 _ 0 0 _ _ ls (Nat.lt_succ_self _) (by omega) hP hS (lv_sub hl [0, 1, 2, 3] rfl)

theorem dX12_drops_0 : decode cX12_drops 0 = .ok (.aload_n 0, 1) := by decide +kernel
theorem dX12_drops_1 : decode cX12_drops 1 = .ok (.iload_n 1, 1) := by decide +kernel
theorem dX12_drops_2 : decode cX12_drops 2 = .ok (.invokevirtual 205, 3) := by decide +kernel
theorem dX12_drops_5 : decode cX12_drops 5 = .ok (.ifCond .ne 6, 3) := by decide +kernel
theorem dX12_drops_8 : decode cX12_drops 8 = .ok (.bipush (-2), 2) := by decide +kernel
theorem dX12_drops_10 : decode cX12_drops 10 = .ok (.ireturn, 1) := by decide +kernel
theorem dX12_drops_11 : decode cX12_drops 11 = .ok (.aload_n 0, 1) := by decide +kernel
theorem dX12_drops_12 : decode cX12_drops 12 = .ok (.invokevirtual 246, 3) := by decide +kernel
theorem dX12_drops_15 : decode cX12_drops 15 = .ok (.aload_n 0, 1) := by decide +kernel
theorem dX12_drops_16 : decode cX12_drops 16 = .ok (.iload_n 1, 1) := by decide +kernel
theorem dX12_drops_17 : decode cX12_drops 17 = .ok (.invokevirtual 255, 3) := by decide +kernel
theorem dX12_drops_20 : decode cX12_drops 20 = .ok (.ireturn, 1) := by decide +kernel
noncomputable def vX12_drops : List Cond := .code yX12_drops cX12_drops 2 (some .int) :: (([.methodLink RX12 205 yX12_isDay, .instanceMethod yX12_isDay, .selects RX12 yX12_isDay yX12_isDay, .initialized RX12, .methodLink RX12 246 yX12_layAll, .instanceMethod yX12_layAll, .selects RX12 yX12_layAll yX12_layAll, .methodLink RX12 255 yX12_dropsOn, .instanceMethod yX12_dropsOn, .selects RX12 yX12_dropsOn yX12_dropsOn] : List Cond) ++ (vX12_isDay ++ (vX12_layAll ++ vX12_dropsOn)))
theorem gs_X12_drops : Gd vX12_drops := Gd.cons (by decide +kernel) (Gd.app (Gd.r (by decide +kernel)) (Gd.app gs_X12_isDay (Gd.app gs_X12_layAll gs_X12_dropsOn)))
theorem gg_X12_drops_X12_isDay : GoodIn vX12_drops (wsV RX12 205 RX12 yX12_isDay vX12_isDay) := goodIn_app (goodIn_r _ [1, 2, 3, 4] (by decide +kernel) (by decide +kernel)) (fun w h => ⟨List.mem_cons_of_mem _ (List.mem_append_right _ (List.mem_append_left _ h)), gs_X12_isDay w h⟩)
theorem gg_X12_drops_X12_layAll : GoodIn vX12_drops (wsV RX12 246 RX12 yX12_layAll vX12_layAll) := goodIn_app (goodIn_r _ [5, 6, 7, 4] (by decide +kernel) (by decide +kernel)) (fun w h => ⟨List.mem_cons_of_mem _ (List.mem_append_right _ (List.mem_append_right _ (List.mem_append_left _ h))), gs_X12_layAll w h⟩)
theorem gg_X12_drops_X12_dropsOn : GoodIn vX12_drops (wsV RX12 255 RX12 yX12_dropsOn vX12_dropsOn) := goodIn_app (goodIn_r _ [8, 9, 10, 4] (by decide +kernel) (by decide +kernel)) (fun w h => ⟨List.mem_cons_of_mem _ (List.mem_append_right _ (List.mem_append_right _ (List.mem_append_right _ (h)))), gs_X12_dropsOn w h⟩)
set_option maxHeartbeats 4000000 in
set_option maxRecDepth 100000 in
theorem s_X12_drops (l : Launch) (D : va_G) (cs : Nat → ClassId) (ad : Nat → Nat) (kS : kSt) (K : sK) (hKO : KO K) (hj : wJ ad 218) (g : Nat → va_E) (hW : WF (shp ad K) ad cs g) (dy : Int32) : sI l yX12_drops vX12_drops { frames := 3, cells := 0, slots := 0, locals := 65 } D cs ad kS [.ref (ad 197), .int dy] g (fun r g2 => WF (shp ad K) ad cs g2 ∧ (∀ j, j ≠ 197 ∧ j ≠ 204 ∧ j ≠ 205 → g2 j = g j)) := by
  refine Met.startS (cc := cX12_drops) (maxL := 2) (ret := (some .int)) RX12 rfl (by decide) rfl (Nat.le_of_ble_eq_true rfl) ?_
  intro p e s m below meth c ls X Z hP hl
  have hx := X.1
  have hb := X.2.1
  have hS : va_S (wA ad 218) s.heap s.heap [] := va_S.rf
  have hA : ∀ i, i < 218 → wA ad 218 (ad i) := fun i h => ⟨i, h, rfl⟩
  have hfr : ∀ j, j ≠ 197 ∧ j ≠ 204 ∧ j ≠ 205 → g j = g j := fun _ _ => rfl
  have hl : lv_has ls 2 [(0, .ref (ad 197)), (1, .int dy)] := hl
  refine lv_aload_n hx hb dX12_drops_0 rfl (lv_at hl 0 rfl) ?_
  refine lv_iload_n hx hb dX12_drops_1 rfl (lv_at hl 1 rfl) ?_
  obtain ⟨fsc_4, hgc_4, hOc_4⟩ := hW.obj (i := 197) (by decide) (sh_197 ad K)
  refine s_calli (q := (RX12, TX12, 40)) (As := [.int dy]) (rest := []) X Z (s_X12_isDay l D cs ad kS K hKO hj g hW dy) (cwV 1 X.2.2.2.2.1 gg_X12_drops_X12_isDay rfl rfl rfl (by decide +kernel) ⟨Nat.le_of_ble_eq_true rfl, Nat.le_of_ble_eq_true rfl⟩) (by decide) hgc_4 rfl hP hA hS.2.1 hS rfl hl.1 rfl (Nat.le_of_ble_eq_true rfl) dX12_drops_2 ⟨Nat.le_of_ble_eq_true rfl, Nat.le_of_ble_eq_true rfl⟩ (fun r_3 g_2 H locs hw_1 hP hS => ?_)
  obtain ⟨hw_1g, hw_1⟩ := hw_1
  rw [hw_1g] at hP
  refine lv_if_ne (tgt := 11) hx hb dX12_drops_5 (by decide) (fun hc_5 => ?_) (fun hc_5 => ?_)
  · have hhc_5 := n_ne (rfl : r_3.toInt = r_3.toInt) (by decide : (0 : Int32).toInt = 0) hc_5
    refine lv_aload_n hx hb dX12_drops_11 rfl (lv_at hl 0 rfl) ?_
    refine s_callv (q := (RX12, TX12, 40)) (As := []) (rest := []) X Z (s_X12_layAll l D cs ad kS K hKO hj g hW) (cwV 0 X.2.2.2.2.1 gg_X12_drops_X12_layAll rfl rfl rfl (by decide +kernel) ⟨Nat.le_of_ble_eq_true rfl, Nat.le_of_ble_eq_true rfl⟩) (by decide) hgc_4 rfl hP hA hS.2.1 hS rfl hl.1 rfl (Nat.le_of_ble_eq_true rfl) dX12_drops_12 ⟨Nat.le_of_ble_eq_true rfl, Nat.le_of_ble_eq_true rfl⟩ (fun g_7 H locs hw_6 hP hS => ?_)
    obtain ⟨hw_6W, hw_6f⟩ := hw_6
    have hfr_9 : ∀ j, j ≠ 197 ∧ j ≠ 204 ∧ j ≠ 205 → g_7 j = g j := fun j hj => (hw_6f j (by omega)).trans (hfr j hj)
    refine lv_aload_n hx hb dX12_drops_15 rfl (lv_at hl 0 rfl) ?_
    refine lv_iload_n hx hb dX12_drops_16 rfl (lv_at hl 1 rfl) ?_
    obtain ⟨fsc_13, hgc_13, hOc_13⟩ := hw_6W.obj (i := 197) (by decide) (sh_197 ad K)
    refine s_calli (q := (RX12, TX12, 40)) (As := [.int dy]) (rest := []) X Z (s_X12_dropsOn l D cs ad kS K hKO hj g_7 hw_6W dy) (cwV 1 X.2.2.2.2.1 gg_X12_drops_X12_dropsOn rfl rfl rfl (by decide +kernel) ⟨Nat.le_of_ble_eq_true rfl, Nat.le_of_ble_eq_true rfl⟩) (by decide) hgc_13 rfl hP hA hS.2.1 hS rfl hl.1 rfl (Nat.le_of_ble_eq_true rfl) dX12_drops_17 ⟨Nat.le_of_ble_eq_true rfl, Nat.le_of_ble_eq_true rfl⟩ (fun r_12 g_11 H locs hw_10 hP hS => ?_)
    rw [hw_10] at hP
    exact q_iret X hP hS ⟨hw_6W, hfr_9⟩ dX12_drops_20
  · have hhc_5 := n_eq (rfl : r_3.toInt = r_3.toInt) (by decide : (0 : Int32).toInt = 0) hc_5
    refine lv_bipush (v := (-2)) hx hb dX12_drops_8 (by decide) ?_
    exact q_iret X hP hS ⟨hW, hfr⟩ dX12_drops_10

theorem dX12_fellBy_0 : decode cX12_fellBy 0 = .ok (.aload_n 0, 1) := by decide +kernel
theorem dX12_fellBy_1 : decode cX12_fellBy 1 = .ok (.getfield 37, 3) := by decide +kernel
theorem dX12_fellBy_4 : decode cX12_fellBy 4 = .ok (.iload_n 1, 1) := by decide +kernel
theorem dX12_fellBy_5 : decode cX12_fellBy 5 = .ok (.iaload, 1) := by decide +kernel
theorem dX12_fellBy_6 : decode cX12_fellBy 6 = .ok (.iconst (-1), 1) := by decide +kernel
theorem dX12_fellBy_7 : decode cX12_fellBy 7 = .ok (.if_icmp .eq 17, 3) := by decide +kernel
theorem dX12_fellBy_10 : decode cX12_fellBy 10 = .ok (.aload_n 0, 1) := by decide +kernel
theorem dX12_fellBy_11 : decode cX12_fellBy 11 = .ok (.getfield 37, 3) := by decide +kernel
theorem dX12_fellBy_14 : decode cX12_fellBy 14 = .ok (.iload_n 1, 1) := by decide +kernel
theorem dX12_fellBy_15 : decode cX12_fellBy 15 = .ok (.iaload, 1) := by decide +kernel
theorem dX12_fellBy_16 : decode cX12_fellBy 16 = .ok (.iload_n 2, 1) := by decide +kernel
theorem dX12_fellBy_17 : decode cX12_fellBy 17 = .ok (.if_icmp .gt 7, 3) := by decide +kernel
theorem dX12_fellBy_20 : decode cX12_fellBy 20 = .ok (.iconst 1, 1) := by decide +kernel
theorem dX12_fellBy_21 : decode cX12_fellBy 21 = .ok (.goto 4, 3) := by decide +kernel
theorem dX12_fellBy_24 : decode cX12_fellBy 24 = .ok (.iconst 0, 1) := by decide +kernel
theorem dX12_fellBy_25 : decode cX12_fellBy 25 = .ok (.ireturn, 1) := by decide +kernel
noncomputable def vX12_fellBy : List Cond := .code yX12_fellBy cX12_fellBy 3 (some .boolean) :: (([.fieldLink RX12 37 "IcicleClockModel" "fell" "[I"] : List Cond) ++ wsX120)
theorem iX12_fellBy_12 : ∀ w ∈ wsX120, w ∈ vX12_fellBy := fun _ h => List.mem_cons_of_mem _ (List.mem_append_right _ (h))
theorem gs_X12_fellBy : Gd vX12_fellBy := Gd.cons (by decide +kernel) (Gd.app (Gd.r (by decide +kernel)) gwX_12)
set_option maxHeartbeats 4000000 in
set_option maxRecDepth 100000 in
theorem s_X12_fellBy (l : Launch) (D : va_G) (cs : Nat → ClassId) (ad : Nat → Nat) (kS : kSt) (K : sK) (hKO : KO K) (hj : wJ ad 218) (g : Nat → va_E) (hW : WF (shp ad K) ad cs g) (ic : Int32) (dy : Int32) (hp0 : 0 ≤ ic.toInt ∧ ic.toInt ≤ 7) : sI l yX12_fellBy vX12_fellBy { frames := 0, cells := 0, slots := 0, locals := 0 } D cs ad kS [.ref (ad 197), .int ic, .int dy] g (fun r g2 => g2 = g ∧ (0 ≤ r.toInt ∧ r.toInt ≤ 1)) := by
  refine Met.startS (cc := cX12_fellBy) (maxL := 3) (ret := (some .boolean)) RX12 rfl (by decide) rfl (Nat.le_of_ble_eq_true rfl) ?_
  intro p e s m below meth c ls X Z hP hl
  have hx := X.1
  have hb := X.2.1
  have hS : va_S (wA ad 218) s.heap s.heap [] := va_S.rf
  have hA : ∀ i, i < 218 → wA ad 218 (ad i) := fun i h => ⟨i, h, rfl⟩
  have hl : lv_has ls 3 [(0, .ref (ad 197)), (1, .int ic), (2, .int dy)] := hl
  refine lv_aload_n hx hb dX12_fellBy_0 rfl (lv_at hl 0 rfl) ?_
  obtain ⟨fsc_1, hgc_1, hOc_1⟩ := hW.obj (i := 197) (by decide) (sh_197 ad K)
  have hk_2 := hOc_1.ref 16 rfl
  refine q_get X iX12_fellBy_12 hP (by decide) hgc_1 rfl 16 (by decide) (List.mem_of_getElem? (i := 1) rfl) (v := .ref (ad 205)) hk_2 dX12_fellBy_1 ?_
  refine lv_iload_n hx hb dX12_fellBy_4 rfl (lv_at hl 1 rfl) ?_
  obtain ⟨fc_3, hgc_3, hFc_3⟩ := hW.arr (i := 205) (by decide) (sh_205 ad K)
  refine q_iald X hP (by decide) hgc_3 (n_in (rfl : ic.toInt = ic.toInt) (by omega) (by omega)) dX12_fellBy_5 ?_
  refine lv_topi (fun z_4 ez_4 => ?_)
  have hz_4 : (-1) ≤ z_4.toInt ∧ z_4.toInt ≤ 13 := ez_4 ▸ hFc_3 _
  refine lv_iconst (v := (-1)) hx hb dX12_fellBy_6 (by decide) ?_
  have HJ24 : ∀ (H : Heap) (locs : List Loc) (ls : Array Slot), va_P D vwCl (wL ad g 218) H → va_S (wA ad 218) s.heap H locs → lv_has ls 3 [] → W p l e ({ frames := 0, cells := 0, slots := 0, locals := 0 } : Room) s m ([.ref (ad 197), .int ic, .int dy] : List Value).toArray below meth c H locs 0 0 (MQ below (qI D ad 218 (fun r g2 => g2 = g ∧ (0 ≤ r.toInt ∧ r.toInt ≤ 1))) ([.ref (ad 197), .int ic, .int dy] : List Value).toArray s 0 0 (wA ad 218)) (F0 m 24 ls []) := by
    intro H locs ls hP hS hl
    refine lv_iconst (v := 0) hx hb dX12_fellBy_24 (by decide) ?_
    have hr0 : (0 : Int32).toInt = 0 := by decide
    exact q_zret X hP hS rfl ⟨rfl, (by omega)⟩ dX12_fellBy_25
  refine lv_icmp_eq (tgt := 24) hx hb dX12_fellBy_7 (by decide) (fun hc_5 => ?_) (fun hc_5 => ?_)
  · have hhc_5 := n_eq (rfl : z_4.toInt = z_4.toInt) (by decide : (-1 : Int32).toInt = -1) hc_5
    exact HJ24 _ _ ls hP hS (lv_sub hl [] rfl)
  · have hhc_5 := n_ne (rfl : z_4.toInt = z_4.toInt) (by decide : (-1 : Int32).toInt = -1) hc_5
    refine lv_aload_n hx hb dX12_fellBy_10 rfl (lv_at hl 0 rfl) ?_
    refine q_get X iX12_fellBy_12 hP (by decide) hgc_1 rfl 16 (by decide) (List.mem_of_getElem? (i := 1) rfl) (v := .ref (ad 205)) hk_2 dX12_fellBy_11 ?_
    refine lv_iload_n hx hb dX12_fellBy_14 rfl (lv_at hl 1 rfl) ?_
    refine q_iald X hP (by decide) hgc_3 (n_in (rfl : ic.toInt = ic.toInt) (by omega) (by omega)) dX12_fellBy_15 ?_
    refine lv_topi (fun z_6 ez_6 => ?_)
    have hz_6 : (-1) ≤ z_6.toInt ∧ z_6.toInt ≤ 13 := ez_6 ▸ hFc_3 _
    have hsz_6 : z_6.toInt = z_4.toInt := by rw [ez_6, ez_4]
    refine lv_iload_n hx hb dX12_fellBy_16 rfl (lv_at hl 2 rfl) ?_
    refine lv_icmp_gt (tgt := 24) hx hb dX12_fellBy_17 (by decide) (fun hc_7 => ?_) (fun hc_7 => ?_)
    · have hhc_7 := n_lt (rfl : dy.toInt = dy.toInt) (rfl : z_6.toInt = z_6.toInt) hc_7
      have := n_hi dy
      have := n_lo dy
      exact HJ24 _ _ ls hP hS (lv_sub hl [] rfl)
    · have hhc_7 := n_nlt (rfl : dy.toInt = dy.toInt) (rfl : z_6.toInt = z_6.toInt) hc_7
      have := n_hi dy
      have := n_lo dy
      refine lv_iconst (v := 1) hx hb dX12_fellBy_20 (by decide) ?_
      refine lv_goto (tgt := 25) hx hb dX12_fellBy_21 (by decide) ?_
      have hr0 : (1 : Int32).toInt = 1 := by decide
      exact q_zret X hP hS rfl ⟨rfl, (by omega)⟩ dX12_fellBy_25

theorem dX12_hang_0 : decode cX12_hang 0 = .ok (.aload_n 0, 1) := by decide +kernel
theorem dX12_hang_1 : decode cX12_hang 1 = .ok (.iload_n 1, 1) := by decide +kernel
theorem dX12_hang_2 : decode cX12_hang 2 = .ok (.invokevirtual 205, 3) := by decide +kernel
theorem dX12_hang_5 : decode cX12_hang 5 = .ok (.ifCond .ne 6, 3) := by decide +kernel
theorem dX12_hang_8 : decode cX12_hang 8 = .ok (.bipush (-2), 2) := by decide +kernel
theorem dX12_hang_10 : decode cX12_hang 10 = .ok (.ireturn, 1) := by decide +kernel
theorem dX12_hang_11 : decode cX12_hang 11 = .ok (.aload_n 0, 1) := by decide +kernel
theorem dX12_hang_12 : decode cX12_hang 12 = .ok (.invokevirtual 246, 3) := by decide +kernel
theorem dX12_hang_15 : decode cX12_hang 15 = .ok (.iconst 0, 1) := by decide +kernel
theorem dX12_hang_16 : decode cX12_hang 16 = .ok (.istore_n 2, 1) := by decide +kernel
theorem dX12_hang_17 : decode cX12_hang 17 = .ok (.iconst 0, 1) := by decide +kernel
theorem dX12_hang_18 : decode cX12_hang 18 = .ok (.istore_n 3, 1) := by decide +kernel
theorem dX12_hang_19 : decode cX12_hang 19 = .ok (.iload_n 3, 1) := by decide +kernel
theorem dX12_hang_20 : decode cX12_hang 20 = .ok (.aload_n 0, 1) := by decide +kernel
theorem dX12_hang_21 : decode cX12_hang 21 = .ok (.getfield 9, 3) := by decide +kernel
theorem dX12_hang_24 : decode cX12_hang 24 = .ok (.iconst 5, 1) := by decide +kernel
theorem dX12_hang_25 : decode cX12_hang 25 = .ok (.iaload, 1) := by decide +kernel
theorem dX12_hang_26 : decode cX12_hang 26 = .ok (.if_icmp .ge 28, 3) := by decide +kernel
theorem dX12_hang_29 : decode cX12_hang 29 = .ok (.iload_n 2, 1) := by decide +kernel
theorem dX12_hang_30 : decode cX12_hang 30 = .ok (.aload_n 0, 1) := by decide +kernel
theorem dX12_hang_31 : decode cX12_hang 31 = .ok (.iload_n 3, 1) := by decide +kernel
theorem dX12_hang_32 : decode cX12_hang 32 = .ok (.iload_n 1, 1) := by decide +kernel
theorem dX12_hang_33 : decode cX12_hang 33 = .ok (.invokevirtual 258, 3) := by decide +kernel
theorem dX12_hang_36 : decode cX12_hang 36 = .ok (.ifCond .eq 7, 3) := by decide +kernel
theorem dX12_hang_39 : decode cX12_hang 39 = .ok (.iconst 0, 1) := by decide +kernel
theorem dX12_hang_40 : decode cX12_hang 40 = .ok (.goto 6, 3) := by decide +kernel
theorem dX12_hang_43 : decode cX12_hang 43 = .ok (.iconst 1, 1) := by decide +kernel
theorem dX12_hang_44 : decode cX12_hang 44 = .ok (.iload_n 3, 1) := by decide +kernel
theorem dX12_hang_45 : decode cX12_hang 45 = .ok (.ishl, 1) := by decide +kernel
theorem dX12_hang_46 : decode cX12_hang 46 = .ok (.ior, 1) := by decide +kernel
theorem dX12_hang_47 : decode cX12_hang 47 = .ok (.istore_n 2, 1) := by decide +kernel
theorem dX12_hang_48 : decode cX12_hang 48 = .ok (.iinc 3 1, 3) := by decide +kernel
theorem dX12_hang_51 : decode cX12_hang 51 = .ok (.goto (-32), 3) := by decide +kernel
theorem dX12_hang_54 : decode cX12_hang 54 = .ok (.iload_n 2, 1) := by decide +kernel
theorem dX12_hang_55 : decode cX12_hang 55 = .ok (.ireturn, 1) := by decide +kernel
noncomputable def vX12_hang : List Cond := .code yX12_hang cX12_hang 4 (some .int) :: (([.methodLink RX12 205 yX12_isDay, .instanceMethod yX12_isDay, .selects RX12 yX12_isDay yX12_isDay, .initialized RX12, .methodLink RX12 246 yX12_layAll, .instanceMethod yX12_layAll, .selects RX12 yX12_layAll yX12_layAll, .fieldLink RX12 9 "IcicleClockModel" "world" "[I", .methodLink RX12 258 yX12_fellBy, .instanceMethod yX12_fellBy, .selects RX12 yX12_fellBy yX12_fellBy] : List Cond) ++ (wsX120 ++ (vX12_isDay ++ (vX12_layAll ++ vX12_fellBy))))
theorem iX12_hang_12 : ∀ w ∈ wsX120, w ∈ vX12_hang := fun _ h => List.mem_cons_of_mem _ (List.mem_append_right _ (List.mem_append_left _ h))
theorem gs_X12_hang : Gd vX12_hang := Gd.cons (by decide +kernel) (Gd.app (Gd.r (by decide +kernel)) (Gd.app gwX_12 (Gd.app gs_X12_isDay (Gd.app gs_X12_layAll gs_X12_fellBy))))
theorem gg_X12_hang_X12_isDay : GoodIn vX12_hang (wsV RX12 205 RX12 yX12_isDay vX12_isDay) := goodIn_app (goodIn_r _ [1, 2, 3, 4] (by decide +kernel) (by decide +kernel)) (fun w h => ⟨List.mem_cons_of_mem _ (List.mem_append_right _ (List.mem_append_right _ (List.mem_append_left _ h))), gs_X12_isDay w h⟩)
theorem gg_X12_hang_X12_layAll : GoodIn vX12_hang (wsV RX12 246 RX12 yX12_layAll vX12_layAll) := goodIn_app (goodIn_r _ [5, 6, 7, 4] (by decide +kernel) (by decide +kernel)) (fun w h => ⟨List.mem_cons_of_mem _ (List.mem_append_right _ (List.mem_append_right _ (List.mem_append_right _ (List.mem_append_left _ h)))), gs_X12_layAll w h⟩)
theorem gg_X12_hang_X12_fellBy : GoodIn vX12_hang (wsV RX12 258 RX12 yX12_fellBy vX12_fellBy) := goodIn_app (goodIn_r _ [9, 10, 11, 4] (by decide +kernel) (by decide +kernel)) (fun w h => ⟨List.mem_cons_of_mem _ (List.mem_append_right _ (List.mem_append_right _ (List.mem_append_right _ (List.mem_append_right _ (h))))), gs_X12_fellBy w h⟩)
set_option maxHeartbeats 4000000 in
set_option maxRecDepth 100000 in
theorem s_X12_hang (l : Launch) (D : va_G) (cs : Nat → ClassId) (ad : Nat → Nat) (kS : kSt) (K : sK) (hKO : KO K) (hj : wJ ad 218) (g : Nat → va_E) (hW : WF (shp ad K) ad cs g) (dy : Int32) : sI l yX12_hang vX12_hang { frames := 3, cells := 0, slots := 0, locals := 65 } D cs ad kS [.ref (ad 197), .int dy] g (fun r g2 => WF (shp ad K) ad cs g2 ∧ (∀ j, j ≠ 197 ∧ j ≠ 204 ∧ j ≠ 205 → g2 j = g j)) := by
  refine Met.startS (cc := cX12_hang) (maxL := 4) (ret := (some .int)) RX12 rfl (by decide) rfl (Nat.le_of_ble_eq_true rfl) ?_
  intro p e s m below meth c ls X Z hP hl
  have hx := X.1
  have hb := X.2.1
  have hS : va_S (wA ad 218) s.heap s.heap [] := va_S.rf
  have hA : ∀ i, i < 218 → wA ad 218 (ad i) := fun i h => ⟨i, h, rfl⟩
  have hfr : ∀ j, j ≠ 197 ∧ j ≠ 204 ∧ j ≠ 205 → g j = g j := fun _ _ => rfl
  have hl : lv_has ls 4 [(0, .ref (ad 197)), (1, .int dy)] := hl
  refine lv_aload_n hx hb dX12_hang_0 rfl (lv_at hl 0 rfl) ?_
  refine lv_iload_n hx hb dX12_hang_1 rfl (lv_at hl 1 rfl) ?_
  obtain ⟨fsc_4, hgc_4, hOc_4⟩ := hW.obj (i := 197) (by decide) (sh_197 ad K)
  refine s_calli (q := (RX12, TX12, 40)) (As := [.int dy]) (rest := []) X Z (s_X12_isDay l D cs ad kS K hKO hj g hW dy) (cwV 1 X.2.2.2.2.1 gg_X12_hang_X12_isDay rfl rfl rfl (by decide +kernel) ⟨Nat.le_of_ble_eq_true rfl, Nat.le_of_ble_eq_true rfl⟩) (by decide) hgc_4 rfl hP hA hS.2.1 hS rfl hl.1 rfl (Nat.le_of_ble_eq_true rfl) dX12_hang_2 ⟨Nat.le_of_ble_eq_true rfl, Nat.le_of_ble_eq_true rfl⟩ (fun r_3 g_2 H locs hw_1 hP hS => ?_)
  obtain ⟨hw_1g, hw_1⟩ := hw_1
  rw [hw_1g] at hP
  refine lv_if_ne (tgt := 11) hx hb dX12_hang_5 (by decide) (fun hc_5 => ?_) (fun hc_5 => ?_)
  · have hhc_5 := n_ne (rfl : r_3.toInt = r_3.toInt) (by decide : (0 : Int32).toInt = 0) hc_5
    refine lv_aload_n hx hb dX12_hang_11 rfl (lv_at hl 0 rfl) ?_
    refine s_callv (q := (RX12, TX12, 40)) (As := []) (rest := []) X Z (s_X12_layAll l D cs ad kS K hKO hj g hW) (cwV 0 X.2.2.2.2.1 gg_X12_hang_X12_layAll rfl rfl rfl (by decide +kernel) ⟨Nat.le_of_ble_eq_true rfl, Nat.le_of_ble_eq_true rfl⟩) (by decide) hgc_4 rfl hP hA hS.2.1 hS rfl hl.1 rfl (Nat.le_of_ble_eq_true rfl) dX12_hang_12 ⟨Nat.le_of_ble_eq_true rfl, Nat.le_of_ble_eq_true rfl⟩ (fun g_7 H locs hw_6 hP hS => ?_)
    obtain ⟨hw_6W, hw_6f⟩ := hw_6
    have hfr_9 : ∀ j, j ≠ 197 ∧ j ≠ 204 ∧ j ≠ 205 → g_7 j = g j := fun j hj => (hw_6f j (by omega)).trans (hfr j hj)
    refine lv_iconst (v := 0) hx hb dX12_hang_15 (by decide) ?_
    refine lv_istore_n (lv' := [(2, .int 0), (0, .ref (ad 197)), (1, .int dy)]) hx hb dX12_hang_16 rfl hl (by decide) rfl (fun ls hl => ?_)
    refine lv_iconst (v := 0) hx hb dX12_hang_17 (by decide) ?_
    refine lv_istore_n (lv' := [(3, .int 0), (2, .int 0), (0, .ref (ad 197)), (1, .int dy)]) hx hb dX12_hang_18 rfl hl (by decide) rfl (fun ls hl => ?_)
    have HL19 : ∀ (n19 : Nat) (v19_3 : Int32) (v19_2 : Int32) (G19 : Nat → va_E) (H : Heap) (locs : List Loc) (ls : Array Slot), (8 - v19_3.toInt).toNat < n19 → (0 ≤ v19_3.toInt ∧ v19_3.toInt ≤ 8) → WF (shp ad K) ad cs G19 → (∀ j, j ≠ 197 ∧ j ≠ 204 ∧ j ≠ 205 → G19 j = g j) → va_P D vwCl (wL ad G19 218) H → va_S (wA ad 218) s.heap H locs → lv_has ls 4 [(3, .int v19_3), (2, .int v19_2), (0, .ref (ad 197)), (1, .int dy)] → W p l e ({ frames := 3, cells := 0, slots := 0, locals := 65 } : Room) s m ([.ref (ad 197), .int dy] : List Value).toArray below meth c H locs 0 0 (MQ below (qI D ad 218 (fun r g2 => WF (shp ad K) ad cs g2 ∧ (∀ j, j ≠ 197 ∧ j ≠ 204 ∧ j ≠ 205 → g2 j = g j))) ([.ref (ad 197), .int dy] : List Value).toArray s 0 0 (wA ad 218)) (F0 m 19 ls []) := by
      intro n19
      induction n19 with
      | zero =>
        intro v19_3 v19_2 G19 H locs ls hm19 hv19_0 hW19 hfr19 hP hS hl
        exact absurd hm19 (Nat.not_lt_zero _)
      | succ n19 ih19 =>
        intro v19_3 v19_2 G19 H locs ls hm19 hv19_0 hW19 hfr19 hP hS hl
        refine lv_iload_n hx hb dX12_hang_19 rfl (lv_at hl 0 rfl) ?_
        refine lv_aload_n hx hb dX12_hang_20 rfl (lv_at hl 2 rfl) ?_
        obtain ⟨fsc_10, hgc_10, hOc_10⟩ := hW19.obj (i := 197) (by decide) (sh_197 ad K)
        have hk_11 := hOc_10.ref 1 rfl
        refine q_get X iX12_hang_12 hP (by decide) hgc_10 rfl 1 (by decide) (List.mem_of_getElem? (i := 8) rfl) (v := .ref (ad 198)) hk_11 dX12_hang_21 ?_
        refine lv_iconst (v := 5) hx hb dX12_hang_24 (by decide) ?_
        obtain ⟨fc_12, hgc_12, hFc_12⟩ := hW19.arr (i := 198) (by decide) (sh_198 ad K)
        refine q_iald X hP (by decide) hgc_12 (by unfold vp_in; decide) dX12_hang_25 ?_
        refine lv_topi (fun z_13 ez_13 => ?_)
        have hqz_13 : wq (5) z_13.toInt := ez_13 ▸ hFc_12 _
        have hz_13 : 0 ≤ z_13.toInt ∧ z_13.toInt ≤ 8 := by unfold wq at hqz_13; omega
        clear hqz_13
        refine lv_icmp_ge (tgt := 54) hx hb dX12_hang_26 (by decide) (fun hc_14 => ?_) (fun hc_14 => ?_)
        · have hhc_14 := n_le (rfl : z_13.toInt = z_13.toInt) (rfl : v19_3.toInt = v19_3.toInt) hc_14
          refine lv_iload_n hx hb dX12_hang_54 rfl (lv_at hl 1 rfl) ?_
          exact q_iret X hP hS ⟨hW19, hfr19⟩ dX12_hang_55
        · have hhc_14 := n_nle (rfl : z_13.toInt = z_13.toInt) (rfl : v19_3.toInt = v19_3.toInt) hc_14
          refine lv_iload_n hx hb dX12_hang_29 rfl (lv_at hl 1 rfl) ?_
          refine lv_aload_n hx hb dX12_hang_30 rfl (lv_at hl 2 rfl) ?_
          refine lv_iload_n hx hb dX12_hang_31 rfl (lv_at hl 0 rfl) ?_
          refine lv_iload_n hx hb dX12_hang_32 rfl (lv_at hl 3 rfl) ?_
          refine s_calli (q := (RX12, TX12, 40)) (As := [.int v19_3, .int dy]) (rest := [.int v19_2]) X Z (s_X12_fellBy l D cs ad kS K hKO hj G19 hW19 v19_3 dy (by omega)) (cwV 2 X.2.2.2.2.1 gg_X12_hang_X12_fellBy rfl rfl rfl (by decide +kernel) ⟨Nat.le_of_ble_eq_true rfl, Nat.le_of_ble_eq_true rfl⟩) (by decide) hgc_10 rfl hP hA hS.2.1 hS rfl hl.1 rfl (Nat.le_of_ble_eq_true rfl) dX12_hang_33 ⟨Nat.le_of_ble_eq_true rfl, Nat.le_of_ble_eq_true rfl⟩ (fun r_17 g_16 H locs hw_15 hP hS => ?_)
          obtain ⟨hw_15g, hw_15⟩ := hw_15
          rw [hw_15g] at hP
          refine lv_if_eq (tgt := 43) hx hb dX12_hang_36 (by decide) (fun hc_18 => ?_) (fun hc_18 => ?_)
          · have hhc_18 := n_eq (rfl : r_17.toInt = r_17.toInt) (by decide : (0 : Int32).toInt = 0) hc_18
            refine lv_iconst (v := 1) hx hb dX12_hang_43 (by decide) ?_
            refine lv_iload_n hx hb dX12_hang_44 rfl (lv_at hl 0 rfl) ?_
            refine lv_ishl hx hb dX12_hang_45 ?_
            refine lv_topi (fun z_19 ez_19 => ?_)
            refine lv_ior hx hb dX12_hang_46 ?_
            refine lv_topi (fun z_20 ez_20 => ?_)
            refine lv_istore_n (lv' := [(2, .int z_20), (3, .int v19_3), (0, .ref (ad 197)), (1, .int dy)]) hx hb dX12_hang_47 rfl hl (by decide) rfl (fun ls hl => ?_)
            obtain ⟨x_21, ex_21⟩ : ∃ y : Int32, y = v19_3 + 1 := ⟨_, rfl⟩
            have hx_21 : x_21.toInt = v19_3.toInt + 1 := n_add rfl (by decide : (1 : Int32).toInt = 1) ex_21 (by omega) (by omega)
            refine lv_iinc (v := x_21) (lv' := [(3, .int x_21), (2, .int z_20), (0, .ref (ad 197)), (1, .int dy)]) hx hb dX12_hang_48 hl (k := 1) rfl (by rw [ex_21]; rfl) (by decide) rfl (fun ls hl => ?_)
            refine lv_goto (tgt := 19) hx hb dX12_hang_51 (by decide) ?_
            exact ih19 x_21 z_20 G19 _ _ ls (by omega) (by omega) hW19 hfr19 hP hS (lv_sub hl [0, 1, 2, 3] rfl)
          · have hhc_18 := n_ne (rfl : r_17.toInt = r_17.toInt) (by decide : (0 : Int32).toInt = 0) hc_18
            refine lv_iconst (v := 0) hx hb dX12_hang_39 (by decide) ?_
            refine lv_goto (tgt := 46) hx hb dX12_hang_40 (by decide) ?_
            refine lv_ior hx hb dX12_hang_46 ?_
            refine lv_topi (fun z_22 ez_22 => ?_)
            refine lv_istore_n (lv' := [(2, .int z_22), (3, .int v19_3), (0, .ref (ad 197)), (1, .int dy)]) hx hb dX12_hang_47 rfl hl (by decide) rfl (fun ls hl => ?_)
            obtain ⟨x_23, ex_23⟩ : ∃ y : Int32, y = v19_3 + 1 := ⟨_, rfl⟩
            have hx_23 : x_23.toInt = v19_3.toInt + 1 := n_add rfl (by decide : (1 : Int32).toInt = 1) ex_23 (by omega) (by omega)
            refine lv_iinc (v := x_23) (lv' := [(3, .int x_23), (2, .int z_22), (0, .ref (ad 197)), (1, .int dy)]) hx hb dX12_hang_48 hl (k := 1) rfl (by rw [ex_23]; rfl) (by decide) rfl (fun ls hl => ?_)
            refine lv_goto (tgt := 19) hx hb dX12_hang_51 (by decide) ?_
            exact ih19 x_23 z_22 G19 _ _ ls (by omega) (by omega) hW19 hfr19 hP hS (lv_sub hl [0, 1, 2, 3] rfl)
    have hiv19_3 : (0 : Int32).toInt = 0 := by decide
    have hiv19_2 : (0 : Int32).toInt = 0 := by decide
    exact HL19 _ 0 0 g_7 _ _ ls (Nat.lt_succ_self _) (by omega) hw_6W hfr_9 hP hS (lv_sub hl [0, 1, 2, 3] rfl)
  · have hhc_5 := n_eq (rfl : r_3.toInt = r_3.toInt) (by decide : (0 : Int32).toInt = 0) hc_5
    refine lv_bipush (v := (-2)) hx hb dX12_hang_8 (by decide) ?_
    exact q_iret X hP hS ⟨hW, hfr⟩ dX12_hang_10

theorem dX12_under_0 : decode cX12_under 0 = .ok (.aload_n 0, 1) := by decide +kernel
theorem dX12_under_1 : decode cX12_under 1 = .ok (.iload_n 1, 1) := by decide +kernel
theorem dX12_under_2 : decode cX12_under 2 = .ok (.invokevirtual 212, 3) := by decide +kernel
theorem dX12_under_5 : decode cX12_under 5 = .ok (.ifCond .ne 6, 3) := by decide +kernel
theorem dX12_under_8 : decode cX12_under 8 = .ok (.bipush (-2), 2) := by decide +kernel
theorem dX12_under_10 : decode cX12_under 10 = .ok (.ireturn, 1) := by decide +kernel
theorem dX12_under_11 : decode cX12_under 11 = .ok (.aload_n 0, 1) := by decide +kernel
theorem dX12_under_12 : decode cX12_under 12 = .ok (.invokevirtual 246, 3) := by decide +kernel
theorem dX12_under_15 : decode cX12_under 15 = .ok (.iconst 0, 1) := by decide +kernel
theorem dX12_under_16 : decode cX12_under 16 = .ok (.istore_n 2, 1) := by decide +kernel
theorem dX12_under_17 : decode cX12_under 17 = .ok (.iconst 0, 1) := by decide +kernel
theorem dX12_under_18 : decode cX12_under 18 = .ok (.istore_n 3, 1) := by decide +kernel
theorem dX12_under_19 : decode cX12_under 19 = .ok (.iload_n 3, 1) := by decide +kernel
theorem dX12_under_20 : decode cX12_under 20 = .ok (.aload_n 0, 1) := by decide +kernel
theorem dX12_under_21 : decode cX12_under 21 = .ok (.getfield 9, 3) := by decide +kernel
theorem dX12_under_24 : decode cX12_under 24 = .ok (.iconst 5, 1) := by decide +kernel
theorem dX12_under_25 : decode cX12_under 25 = .ok (.iaload, 1) := by decide +kernel
theorem dX12_under_26 : decode cX12_under 26 = .ok (.if_icmp .ge 44, 3) := by decide +kernel
theorem dX12_under_29 : decode cX12_under 29 = .ok (.iload_n 2, 1) := by decide +kernel
theorem dX12_under_30 : decode cX12_under 30 = .ok (.aload_n 0, 1) := by decide +kernel
theorem dX12_under_31 : decode cX12_under 31 = .ok (.iload_n 3, 1) := by decide +kernel
theorem dX12_under_32 : decode cX12_under 32 = .ok (.iconst 0, 1) := by decide +kernel
theorem dX12_under_33 : decode cX12_under 33 = .ok (.invokevirtual 225, 3) := by decide +kernel
theorem dX12_under_36 : decode cX12_under 36 = .ok (.iload_n 1, 1) := by decide +kernel
theorem dX12_under_37 : decode cX12_under 37 = .ok (.if_icmp .ne 24, 3) := by decide +kernel
theorem dX12_under_40 : decode cX12_under 40 = .ok (.aload_n 0, 1) := by decide +kernel
theorem dX12_under_41 : decode cX12_under 41 = .ok (.getfield 37, 3) := by decide +kernel
theorem dX12_under_44 : decode cX12_under 44 = .ok (.iload_n 3, 1) := by decide +kernel
theorem dX12_under_45 : decode cX12_under 45 = .ok (.iaload, 1) := by decide +kernel
theorem dX12_under_46 : decode cX12_under 46 = .ok (.iconst (-1), 1) := by decide +kernel
theorem dX12_under_47 : decode cX12_under 47 = .ok (.if_icmp .eq 14, 3) := by decide +kernel
theorem dX12_under_50 : decode cX12_under 50 = .ok (.iconst 1, 1) := by decide +kernel
theorem dX12_under_51 : decode cX12_under 51 = .ok (.aload_n 0, 1) := by decide +kernel
theorem dX12_under_52 : decode cX12_under 52 = .ok (.getfield 37, 3) := by decide +kernel
theorem dX12_under_55 : decode cX12_under 55 = .ok (.iload_n 3, 1) := by decide +kernel
theorem dX12_under_56 : decode cX12_under 56 = .ok (.iaload, 1) := by decide +kernel
theorem dX12_under_57 : decode cX12_under 57 = .ok (.ishl, 1) := by decide +kernel
theorem dX12_under_58 : decode cX12_under 58 = .ok (.goto 4, 3) := by decide +kernel
theorem dX12_under_61 : decode cX12_under 61 = .ok (.iconst 0, 1) := by decide +kernel
theorem dX12_under_62 : decode cX12_under 62 = .ok (.ior, 1) := by decide +kernel
theorem dX12_under_63 : decode cX12_under 63 = .ok (.istore_n 2, 1) := by decide +kernel
theorem dX12_under_64 : decode cX12_under 64 = .ok (.iinc 3 1, 3) := by decide +kernel
theorem dX12_under_67 : decode cX12_under 67 = .ok (.goto (-48), 3) := by decide +kernel
theorem dX12_under_70 : decode cX12_under 70 = .ok (.iload_n 2, 1) := by decide +kernel
theorem dX12_under_71 : decode cX12_under 71 = .ok (.ireturn, 1) := by decide +kernel
noncomputable def vX12_under : List Cond := .code yX12_under cX12_under 4 (some .int) :: (([.methodLink RX12 212 yX12_isEave, .instanceMethod yX12_isEave, .selects RX12 yX12_isEave yX12_isEave, .initialized RX12, .methodLink RX12 246 yX12_layAll, .instanceMethod yX12_layAll, .selects RX12 yX12_layAll yX12_layAll, .fieldLink RX12 9 "IcicleClockModel" "world" "[I", .methodLink RX12 225 yX12_of, .instanceMethod yX12_of, .selects RX12 yX12_of yX12_of, .fieldLink RX12 37 "IcicleClockModel" "fell" "[I"] : List Cond) ++ (wsX120 ++ (vX12_isEave ++ (vX12_layAll ++ vX12_of))))
theorem iX12_under_12 : ∀ w ∈ wsX120, w ∈ vX12_under := fun _ h => List.mem_cons_of_mem _ (List.mem_append_right _ (List.mem_append_left _ h))
theorem gs_X12_under : Gd vX12_under := Gd.cons (by decide +kernel) (Gd.app (Gd.r (by decide +kernel)) (Gd.app gwX_12 (Gd.app gs_X12_isEave (Gd.app gs_X12_layAll gs_X12_of))))
theorem gg_X12_under_X12_isEave : GoodIn vX12_under (wsV RX12 212 RX12 yX12_isEave vX12_isEave) := goodIn_app (goodIn_r _ [1, 2, 3, 4] (by decide +kernel) (by decide +kernel)) (fun w h => ⟨List.mem_cons_of_mem _ (List.mem_append_right _ (List.mem_append_right _ (List.mem_append_left _ h))), gs_X12_isEave w h⟩)
theorem gg_X12_under_X12_layAll : GoodIn vX12_under (wsV RX12 246 RX12 yX12_layAll vX12_layAll) := goodIn_app (goodIn_r _ [5, 6, 7, 4] (by decide +kernel) (by decide +kernel)) (fun w h => ⟨List.mem_cons_of_mem _ (List.mem_append_right _ (List.mem_append_right _ (List.mem_append_right _ (List.mem_append_left _ h)))), gs_X12_layAll w h⟩)
theorem gg_X12_under_X12_of : GoodIn vX12_under (wsV RX12 225 RX12 yX12_of vX12_of) := goodIn_app (goodIn_r _ [9, 10, 11, 4] (by decide +kernel) (by decide +kernel)) (fun w h => ⟨List.mem_cons_of_mem _ (List.mem_append_right _ (List.mem_append_right _ (List.mem_append_right _ (List.mem_append_right _ (h))))), gs_X12_of w h⟩)
set_option maxHeartbeats 4000000 in
set_option maxRecDepth 100000 in
theorem s_X12_under (l : Launch) (D : va_G) (cs : Nat → ClassId) (ad : Nat → Nat) (kS : kSt) (K : sK) (hKO : KO K) (hj : wJ ad 218) (g : Nat → va_E) (hW : WF (shp ad K) ad cs g) (ev : Int32) : sI l yX12_under vX12_under { frames := 3, cells := 0, slots := 0, locals := 65 } D cs ad kS [.ref (ad 197), .int ev] g (fun r g2 => WF (shp ad K) ad cs g2 ∧ (∀ j, j ≠ 197 ∧ j ≠ 204 ∧ j ≠ 205 → g2 j = g j)) := by
  refine Met.startS (cc := cX12_under) (maxL := 4) (ret := (some .int)) RX12 rfl (by decide) rfl (Nat.le_of_ble_eq_true rfl) ?_
  intro p e s m below meth c ls X Z hP hl
  have hx := X.1
  have hb := X.2.1
  have hS : va_S (wA ad 218) s.heap s.heap [] := va_S.rf
  have hA : ∀ i, i < 218 → wA ad 218 (ad i) := fun i h => ⟨i, h, rfl⟩
  have hfr : ∀ j, j ≠ 197 ∧ j ≠ 204 ∧ j ≠ 205 → g j = g j := fun _ _ => rfl
  have hl : lv_has ls 4 [(0, .ref (ad 197)), (1, .int ev)] := hl
  refine lv_aload_n hx hb dX12_under_0 rfl (lv_at hl 0 rfl) ?_
  refine lv_iload_n hx hb dX12_under_1 rfl (lv_at hl 1 rfl) ?_
  obtain ⟨fsc_4, hgc_4, hOc_4⟩ := hW.obj (i := 197) (by decide) (sh_197 ad K)
  refine s_calli (q := (RX12, TX12, 40)) (As := [.int ev]) (rest := []) X Z (s_X12_isEave l D cs ad kS K hKO hj g hW ev) (cwV 1 X.2.2.2.2.1 gg_X12_under_X12_isEave rfl rfl rfl (by decide +kernel) ⟨Nat.le_of_ble_eq_true rfl, Nat.le_of_ble_eq_true rfl⟩) (by decide) hgc_4 rfl hP hA hS.2.1 hS rfl hl.1 rfl (Nat.le_of_ble_eq_true rfl) dX12_under_2 ⟨Nat.le_of_ble_eq_true rfl, Nat.le_of_ble_eq_true rfl⟩ (fun r_3 g_2 H locs hw_1 hP hS => ?_)
  obtain ⟨hw_1g, hw_1⟩ := hw_1
  rw [hw_1g] at hP
  refine lv_if_ne (tgt := 11) hx hb dX12_under_5 (by decide) (fun hc_5 => ?_) (fun hc_5 => ?_)
  · have hhc_5 := n_ne (rfl : r_3.toInt = r_3.toInt) (by decide : (0 : Int32).toInt = 0) hc_5
    refine lv_aload_n hx hb dX12_under_11 rfl (lv_at hl 0 rfl) ?_
    refine s_callv (q := (RX12, TX12, 40)) (As := []) (rest := []) X Z (s_X12_layAll l D cs ad kS K hKO hj g hW) (cwV 0 X.2.2.2.2.1 gg_X12_under_X12_layAll rfl rfl rfl (by decide +kernel) ⟨Nat.le_of_ble_eq_true rfl, Nat.le_of_ble_eq_true rfl⟩) (by decide) hgc_4 rfl hP hA hS.2.1 hS rfl hl.1 rfl (Nat.le_of_ble_eq_true rfl) dX12_under_12 ⟨Nat.le_of_ble_eq_true rfl, Nat.le_of_ble_eq_true rfl⟩ (fun g_7 H locs hw_6 hP hS => ?_)
    obtain ⟨hw_6W, hw_6f⟩ := hw_6
    have hfr_9 : ∀ j, j ≠ 197 ∧ j ≠ 204 ∧ j ≠ 205 → g_7 j = g j := fun j hj => (hw_6f j (by omega)).trans (hfr j hj)
    refine lv_iconst (v := 0) hx hb dX12_under_15 (by decide) ?_
    refine lv_istore_n (lv' := [(2, .int 0), (0, .ref (ad 197)), (1, .int ev)]) hx hb dX12_under_16 rfl hl (by decide) rfl (fun ls hl => ?_)
    refine lv_iconst (v := 0) hx hb dX12_under_17 (by decide) ?_
    refine lv_istore_n (lv' := [(3, .int 0), (2, .int 0), (0, .ref (ad 197)), (1, .int ev)]) hx hb dX12_under_18 rfl hl (by decide) rfl (fun ls hl => ?_)
    have HL19 : ∀ (n19 : Nat) (v19_3 : Int32) (v19_2 : Int32) (G19 : Nat → va_E) (H : Heap) (locs : List Loc) (ls : Array Slot), (8 - v19_3.toInt).toNat < n19 → (0 ≤ v19_3.toInt ∧ v19_3.toInt ≤ 8) → WF (shp ad K) ad cs G19 → (∀ j, j ≠ 197 ∧ j ≠ 204 ∧ j ≠ 205 → G19 j = g j) → va_P D vwCl (wL ad G19 218) H → va_S (wA ad 218) s.heap H locs → lv_has ls 4 [(3, .int v19_3), (2, .int v19_2), (0, .ref (ad 197)), (1, .int ev)] → W p l e ({ frames := 3, cells := 0, slots := 0, locals := 65 } : Room) s m ([.ref (ad 197), .int ev] : List Value).toArray below meth c H locs 0 0 (MQ below (qI D ad 218 (fun r g2 => WF (shp ad K) ad cs g2 ∧ (∀ j, j ≠ 197 ∧ j ≠ 204 ∧ j ≠ 205 → g2 j = g j))) ([.ref (ad 197), .int ev] : List Value).toArray s 0 0 (wA ad 218)) (F0 m 19 ls []) := by
      intro n19
      induction n19 with
      | zero =>
        intro v19_3 v19_2 G19 H locs ls hm19 hv19_0 hW19 hfr19 hP hS hl
        exact absurd hm19 (Nat.not_lt_zero _)
      | succ n19 ih19 =>
        intro v19_3 v19_2 G19 H locs ls hm19 hv19_0 hW19 hfr19 hP hS hl
        refine lv_iload_n hx hb dX12_under_19 rfl (lv_at hl 0 rfl) ?_
        refine lv_aload_n hx hb dX12_under_20 rfl (lv_at hl 2 rfl) ?_
        obtain ⟨fsc_10, hgc_10, hOc_10⟩ := hW19.obj (i := 197) (by decide) (sh_197 ad K)
        have hk_11 := hOc_10.ref 1 rfl
        refine q_get X iX12_under_12 hP (by decide) hgc_10 rfl 1 (by decide) (List.mem_of_getElem? (i := 8) rfl) (v := .ref (ad 198)) hk_11 dX12_under_21 ?_
        refine lv_iconst (v := 5) hx hb dX12_under_24 (by decide) ?_
        obtain ⟨fc_12, hgc_12, hFc_12⟩ := hW19.arr (i := 198) (by decide) (sh_198 ad K)
        refine q_iald X hP (by decide) hgc_12 (by unfold vp_in; decide) dX12_under_25 ?_
        refine lv_topi (fun z_13 ez_13 => ?_)
        have hqz_13 : wq (5) z_13.toInt := ez_13 ▸ hFc_12 _
        have hz_13 : 0 ≤ z_13.toInt ∧ z_13.toInt ≤ 8 := by unfold wq at hqz_13; omega
        clear hqz_13
        refine lv_icmp_ge (tgt := 70) hx hb dX12_under_26 (by decide) (fun hc_14 => ?_) (fun hc_14 => ?_)
        · have hhc_14 := n_le (rfl : z_13.toInt = z_13.toInt) (rfl : v19_3.toInt = v19_3.toInt) hc_14
          refine lv_iload_n hx hb dX12_under_70 rfl (lv_at hl 1 rfl) ?_
          exact q_iret X hP hS ⟨hW19, hfr19⟩ dX12_under_71
        · have hhc_14 := n_nle (rfl : z_13.toInt = z_13.toInt) (rfl : v19_3.toInt = v19_3.toInt) hc_14
          refine lv_iload_n hx hb dX12_under_29 rfl (lv_at hl 1 rfl) ?_
          refine lv_aload_n hx hb dX12_under_30 rfl (lv_at hl 2 rfl) ?_
          refine lv_iload_n hx hb dX12_under_31 rfl (lv_at hl 0 rfl) ?_
          refine lv_iconst (v := 0) hx hb dX12_under_32 (by decide) ?_
          have hqk_15 : (0 : Int32).toInt = 0 := by decide
          refine s_calli (q := (RX12, TX12, 40)) (As := [.int v19_3, .int 0]) (rest := [.int v19_2]) X Z (s_X12_of l D cs ad kS K hKO hj G19 hW19 v19_3 0 (by omega) (by omega)) (cwV 2 X.2.2.2.2.1 gg_X12_under_X12_of rfl rfl rfl (by decide +kernel) ⟨Nat.le_of_ble_eq_true rfl, Nat.le_of_ble_eq_true rfl⟩) (by decide) hgc_10 rfl hP hA hS.2.1 hS rfl hl.1 rfl (Nat.le_of_ble_eq_true rfl) dX12_under_33 ⟨Nat.le_of_ble_eq_true rfl, Nat.le_of_ble_eq_true rfl⟩ (fun r_18 g_17 H locs hw_16 hP hS => ?_)
          obtain ⟨hw_16g, hw_16⟩ := hw_16
          rw [hw_16g] at hP
          have hqk_19 : (0 : Int32).toInt = 0 := by decide
          refine lv_iload_n hx hb dX12_under_36 rfl (lv_at hl 3 rfl) ?_
          refine lv_icmp_ne (tgt := 61) hx hb dX12_under_37 (by decide) (fun hc_20 => ?_) (fun hc_20 => ?_)
          · have hhc_20 := n_ne (rfl : r_18.toInt = r_18.toInt) (rfl : ev.toInt = ev.toInt) hc_20
            refine lv_iconst (v := 0) hx hb dX12_under_61 (by decide) ?_
            refine lv_ior hx hb dX12_under_62 ?_
            refine lv_topi (fun z_21 ez_21 => ?_)
            refine lv_istore_n (lv' := [(2, .int z_21), (3, .int v19_3), (0, .ref (ad 197)), (1, .int ev)]) hx hb dX12_under_63 rfl hl (by decide) rfl (fun ls hl => ?_)
            obtain ⟨x_22, ex_22⟩ : ∃ y : Int32, y = v19_3 + 1 := ⟨_, rfl⟩
            have hx_22 : x_22.toInt = v19_3.toInt + 1 := n_add rfl (by decide : (1 : Int32).toInt = 1) ex_22 (by omega) (by omega)
            refine lv_iinc (v := x_22) (lv' := [(3, .int x_22), (2, .int z_21), (0, .ref (ad 197)), (1, .int ev)]) hx hb dX12_under_64 hl (k := 1) rfl (by rw [ex_22]; rfl) (by decide) rfl (fun ls hl => ?_)
            refine lv_goto (tgt := 19) hx hb dX12_under_67 (by decide) ?_
            exact ih19 x_22 z_21 G19 _ _ ls (by omega) (by omega) hW19 hfr19 hP hS (lv_sub hl [0, 1, 2, 3] rfl)
          · have hhc_20 := n_eq (rfl : r_18.toInt = r_18.toInt) (rfl : ev.toInt = ev.toInt) hc_20
            refine lv_aload_n hx hb dX12_under_40 rfl (lv_at hl 2 rfl) ?_
            have hk_23 := hOc_10.ref 16 rfl
            refine q_get X iX12_under_12 hP (by decide) hgc_10 rfl 16 (by decide) (List.mem_of_getElem? (i := 12) rfl) (v := .ref (ad 205)) hk_23 dX12_under_41 ?_
            refine lv_iload_n hx hb dX12_under_44 rfl (lv_at hl 0 rfl) ?_
            obtain ⟨fc_24, hgc_24, hFc_24⟩ := hW19.arr (i := 205) (by decide) (sh_205 ad K)
            refine q_iald X hP (by decide) hgc_24 (n_in (rfl : v19_3.toInt = v19_3.toInt) (by omega) (by omega)) dX12_under_45 ?_
            refine lv_topi (fun z_25 ez_25 => ?_)
            have hz_25 : (-1) ≤ z_25.toInt ∧ z_25.toInt ≤ 13 := ez_25 ▸ hFc_24 _
            refine lv_iconst (v := (-1)) hx hb dX12_under_46 (by decide) ?_
            refine lv_icmp_eq (tgt := 61) hx hb dX12_under_47 (by decide) (fun hc_26 => ?_) (fun hc_26 => ?_)
            · have hhc_26 := n_eq (rfl : z_25.toInt = z_25.toInt) (by decide : (-1 : Int32).toInt = -1) hc_26
              refine lv_iconst (v := 0) hx hb dX12_under_61 (by decide) ?_
              refine lv_ior hx hb dX12_under_62 ?_
              refine lv_topi (fun z_27 ez_27 => ?_)
              refine lv_istore_n (lv' := [(2, .int z_27), (3, .int v19_3), (0, .ref (ad 197)), (1, .int ev)]) hx hb dX12_under_63 rfl hl (by decide) rfl (fun ls hl => ?_)
              obtain ⟨x_28, ex_28⟩ : ∃ y : Int32, y = v19_3 + 1 := ⟨_, rfl⟩
              have hx_28 : x_28.toInt = v19_3.toInt + 1 := n_add rfl (by decide : (1 : Int32).toInt = 1) ex_28 (by omega) (by omega)
              refine lv_iinc (v := x_28) (lv' := [(3, .int x_28), (2, .int z_27), (0, .ref (ad 197)), (1, .int ev)]) hx hb dX12_under_64 hl (k := 1) rfl (by rw [ex_28]; rfl) (by decide) rfl (fun ls hl => ?_)
              refine lv_goto (tgt := 19) hx hb dX12_under_67 (by decide) ?_
              exact ih19 x_28 z_27 G19 _ _ ls (by omega) (by omega) hW19 hfr19 hP hS (lv_sub hl [0, 1, 2, 3] rfl)
            · have hhc_26 := n_ne (rfl : z_25.toInt = z_25.toInt) (by decide : (-1 : Int32).toInt = -1) hc_26
              refine lv_iconst (v := 1) hx hb dX12_under_50 (by decide) ?_
              refine lv_aload_n hx hb dX12_under_51 rfl (lv_at hl 2 rfl) ?_
              refine q_get X iX12_under_12 hP (by decide) hgc_10 rfl 16 (by decide) (List.mem_of_getElem? (i := 12) rfl) (v := .ref (ad 205)) hk_23 dX12_under_52 ?_
              refine lv_iload_n hx hb dX12_under_55 rfl (lv_at hl 0 rfl) ?_
              refine q_iald X hP (by decide) hgc_24 (n_in (rfl : v19_3.toInt = v19_3.toInt) (by omega) (by omega)) dX12_under_56 ?_
              refine lv_topi (fun z_29 ez_29 => ?_)
              have hz_29 : (-1) ≤ z_29.toInt ∧ z_29.toInt ≤ 13 := ez_29 ▸ hFc_24 _
              have hsz_29 : z_29.toInt = z_25.toInt := by rw [ez_29, ez_25]
              refine lv_ishl hx hb dX12_under_57 ?_
              refine lv_topi (fun z_30 ez_30 => ?_)
              refine lv_goto (tgt := 62) hx hb dX12_under_58 (by decide) ?_
              refine lv_ior hx hb dX12_under_62 ?_
              refine lv_topi (fun z_31 ez_31 => ?_)
              refine lv_istore_n (lv' := [(2, .int z_31), (3, .int v19_3), (0, .ref (ad 197)), (1, .int ev)]) hx hb dX12_under_63 rfl hl (by decide) rfl (fun ls hl => ?_)
              obtain ⟨x_32, ex_32⟩ : ∃ y : Int32, y = v19_3 + 1 := ⟨_, rfl⟩
              have hx_32 : x_32.toInt = v19_3.toInt + 1 := n_add rfl (by decide : (1 : Int32).toInt = 1) ex_32 (by omega) (by omega)
              refine lv_iinc (v := x_32) (lv' := [(3, .int x_32), (2, .int z_31), (0, .ref (ad 197)), (1, .int ev)]) hx hb dX12_under_64 hl (k := 1) rfl (by rw [ex_32]; rfl) (by decide) rfl (fun ls hl => ?_)
              refine lv_goto (tgt := 19) hx hb dX12_under_67 (by decide) ?_
              exact ih19 x_32 z_31 G19 _ _ ls (by omega) (by omega) hW19 hfr19 hP hS (lv_sub hl [0, 1, 2, 3] rfl)
    have hiv19_3 : (0 : Int32).toInt = 0 := by decide
    have hiv19_2 : (0 : Int32).toInt = 0 := by decide
    exact HL19 _ 0 0 g_7 _ _ ls (Nat.lt_succ_self _) (by omega) hw_6W hfr_9 hP hS (lv_sub hl [0, 1, 2, 3] rfl)
  · have hhc_5 := n_eq (rfl : r_3.toInt = r_3.toInt) (by decide : (0 : Int32).toInt = 0) hc_5
    refine lv_bipush (v := (-2)) hx hb dX12_under_8 (by decide) ?_
    exact q_iret X hP hS ⟨hW, hfr⟩ dX12_under_10

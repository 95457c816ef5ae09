theorem dX6_copyFrom_0 : decode cX6_copyFrom 0 = .ok (.aload_n 0, 1) := by decide +kernel
theorem dX6_copyFrom_1 : decode cX6_copyFrom 1 = .ok (.aload_n 1, 1) := by decide +kernel
theorem dX6_copyFrom_2 : decode cX6_copyFrom 2 = .ok (.getfield 47, 3) := by decide +kernel
theorem dX6_copyFrom_5 : decode cX6_copyFrom 5 = .ok (.putfield 47, 3) := by decide +kernel
theorem dX6_copyFrom_8 : decode cX6_copyFrom 8 = .ok (.aload_n 0, 1) := by decide +kernel
theorem dX6_copyFrom_9 : decode cX6_copyFrom 9 = .ok (.aload_n 1, 1) := by decide +kernel
theorem dX6_copyFrom_10 : decode cX6_copyFrom 10 = .ok (.getfield 51, 3) := by decide +kernel
theorem dX6_copyFrom_13 : decode cX6_copyFrom 13 = .ok (.putfield 51, 3) := by decide +kernel
theorem dX6_copyFrom_16 : decode cX6_copyFrom 16 = .ok (.aload_n 0, 1) := by decide +kernel
theorem dX6_copyFrom_17 : decode cX6_copyFrom 17 = .ok (.aload_n 1, 1) := by decide +kernel
theorem dX6_copyFrom_18 : decode cX6_copyFrom 18 = .ok (.getfield 54, 3) := by decide +kernel
theorem dX6_copyFrom_21 : decode cX6_copyFrom 21 = .ok (.putfield 54, 3) := by decide +kernel
theorem dX6_copyFrom_24 : decode cX6_copyFrom 24 = .ok (.aload_n 0, 1) := by decide +kernel
theorem dX6_copyFrom_25 : decode cX6_copyFrom 25 = .ok (.aload_n 1, 1) := by decide +kernel
theorem dX6_copyFrom_26 : decode cX6_copyFrom 26 = .ok (.getfield 57, 3) := by decide +kernel
theorem dX6_copyFrom_29 : decode cX6_copyFrom 29 = .ok (.putfield 57, 3) := by decide +kernel
theorem dX6_copyFrom_32 : decode cX6_copyFrom 32 = .ok (.aload_n 0, 1) := by decide +kernel
theorem dX6_copyFrom_33 : decode cX6_copyFrom 33 = .ok (.aload_n 1, 1) := by decide +kernel
theorem dX6_copyFrom_34 : decode cX6_copyFrom 34 = .ok (.getfield 60, 3) := by decide +kernel
theorem dX6_copyFrom_37 : decode cX6_copyFrom 37 = .ok (.putfield 60, 3) := by decide +kernel
theorem dX6_copyFrom_40 : decode cX6_copyFrom 40 = .ok (.aload_n 0, 1) := by decide +kernel
theorem dX6_copyFrom_41 : decode cX6_copyFrom 41 = .ok (.aload_n 1, 1) := by decide +kernel
theorem dX6_copyFrom_42 : decode cX6_copyFrom 42 = .ok (.getfield 63, 3) := by decide +kernel
theorem dX6_copyFrom_45 : decode cX6_copyFrom 45 = .ok (.putfield 63, 3) := by decide +kernel
theorem dX6_copyFrom_48 : decode cX6_copyFrom 48 = .ok (.aload_n 0, 1) := by decide +kernel
theorem dX6_copyFrom_49 : decode cX6_copyFrom 49 = .ok (.aload_n 1, 1) := by decide +kernel
theorem dX6_copyFrom_50 : decode cX6_copyFrom 50 = .ok (.getfield 66, 3) := by decide +kernel
theorem dX6_copyFrom_53 : decode cX6_copyFrom 53 = .ok (.putfield 66, 3) := by decide +kernel
theorem dX6_copyFrom_56 : decode cX6_copyFrom 56 = .ok (.aload_n 0, 1) := by decide +kernel
theorem dX6_copyFrom_57 : decode cX6_copyFrom 57 = .ok (.aload_n 1, 1) := by decide +kernel
theorem dX6_copyFrom_58 : decode cX6_copyFrom 58 = .ok (.getfield 69, 3) := by decide +kernel
theorem dX6_copyFrom_61 : decode cX6_copyFrom 61 = .ok (.putfield 69, 3) := by decide +kernel
theorem dX6_copyFrom_64 : decode cX6_copyFrom 64 = .ok (.aload_n 1, 1) := by decide +kernel
theorem dX6_copyFrom_65 : decode cX6_copyFrom 65 = .ok (.getfield 9, 3) := by decide +kernel
theorem dX6_copyFrom_68 : decode cX6_copyFrom 68 = .ok (.iconst 0, 1) := by decide +kernel
theorem dX6_copyFrom_69 : decode cX6_copyFrom 69 = .ok (.aload_n 0, 1) := by decide +kernel
theorem dX6_copyFrom_70 : decode cX6_copyFrom 70 = .ok (.getfield 9, 3) := by decide +kernel
theorem dX6_copyFrom_73 : decode cX6_copyFrom 73 = .ok (.iconst 0, 1) := by decide +kernel
theorem dX6_copyFrom_74 : decode cX6_copyFrom 74 = .ok (.bipush 14, 2) := by decide +kernel
theorem dX6_copyFrom_76 : decode cX6_copyFrom 76 = .ok (.invokestatic 75, 3) := by decide +kernel
theorem dX6_copyFrom_79 : decode cX6_copyFrom 79 = .ok (.iconst 0, 1) := by decide +kernel
theorem dX6_copyFrom_80 : decode cX6_copyFrom 80 = .ok (.istore_n 2, 1) := by decide +kernel
theorem dX6_copyFrom_81 : decode cX6_copyFrom 81 = .ok (.iload_n 2, 1) := by decide +kernel
theorem dX6_copyFrom_82 : decode cX6_copyFrom 82 = .ok (.bipush 14, 2) := by decide +kernel
theorem dX6_copyFrom_84 : decode cX6_copyFrom 84 = .ok (.if_icmp .ge 21, 3) := by decide +kernel
theorem dX6_copyFrom_87 : decode cX6_copyFrom 87 = .ok (.aload_n 0, 1) := by decide +kernel
theorem dX6_copyFrom_88 : decode cX6_copyFrom 88 = .ok (.getfield 15, 3) := by decide +kernel
theorem dX6_copyFrom_91 : decode cX6_copyFrom 91 = .ok (.iload_n 2, 1) := by decide +kernel
theorem dX6_copyFrom_92 : decode cX6_copyFrom 92 = .ok (.aload_n 1, 1) := by decide +kernel
theorem dX6_copyFrom_93 : decode cX6_copyFrom 93 = .ok (.getfield 15, 3) := by decide +kernel
theorem dX6_copyFrom_96 : decode cX6_copyFrom 96 = .ok (.iload_n 2, 1) := by decide +kernel
theorem dX6_copyFrom_97 : decode cX6_copyFrom 97 = .ok (.baload, 1) := by decide +kernel
theorem dX6_copyFrom_98 : decode cX6_copyFrom 98 = .ok (.bastore, 1) := by decide +kernel
theorem dX6_copyFrom_99 : decode cX6_copyFrom 99 = .ok (.iinc 2 1, 3) := by decide +kernel
theorem dX6_copyFrom_102 : decode cX6_copyFrom 102 = .ok (.goto (-21), 3) := by decide +kernel
theorem dX6_copyFrom_105 : decode cX6_copyFrom 105 = .ok (.aload_n 1, 1) := by decide +kernel
theorem dX6_copyFrom_106 : decode cX6_copyFrom 106 = .ok (.getfield 19, 3) := by decide +kernel
theorem dX6_copyFrom_109 : decode cX6_copyFrom 109 = .ok (.iconst 0, 1) := by decide +kernel
theorem dX6_copyFrom_110 : decode cX6_copyFrom 110 = .ok (.aload_n 0, 1) := by decide +kernel
theorem dX6_copyFrom_111 : decode cX6_copyFrom 111 = .ok (.getfield 19, 3) := by decide +kernel
theorem dX6_copyFrom_114 : decode cX6_copyFrom 114 = .ok (.iconst 0, 1) := by decide +kernel
theorem dX6_copyFrom_115 : decode cX6_copyFrom 115 = .ok (.iconst 5, 1) := by decide +kernel
theorem dX6_copyFrom_116 : decode cX6_copyFrom 116 = .ok (.invokestatic 75, 3) := by decide +kernel
theorem dX6_copyFrom_119 : decode cX6_copyFrom 119 = .ok (.aload_n 1, 1) := by decide +kernel
theorem dX6_copyFrom_120 : decode cX6_copyFrom 120 = .ok (.getfield 22, 3) := by decide +kernel
theorem dX6_copyFrom_123 : decode cX6_copyFrom 123 = .ok (.iconst 0, 1) := by decide +kernel
theorem dX6_copyFrom_124 : decode cX6_copyFrom 124 = .ok (.aload_n 0, 1) := by decide +kernel
theorem dX6_copyFrom_125 : decode cX6_copyFrom 125 = .ok (.getfield 22, 3) := by decide +kernel
theorem dX6_copyFrom_128 : decode cX6_copyFrom 128 = .ok (.iconst 0, 1) := by decide +kernel
theorem dX6_copyFrom_129 : decode cX6_copyFrom 129 = .ok (.bipush 8, 2) := by decide +kernel
theorem dX6_copyFrom_131 : decode cX6_copyFrom 131 = .ok (.invokestatic 75, 3) := by decide +kernel
theorem dX6_copyFrom_134 : decode cX6_copyFrom 134 = .ok (.aload_n 1, 1) := by decide +kernel
theorem dX6_copyFrom_135 : decode cX6_copyFrom 135 = .ok (.getfield 25, 3) := by decide +kernel
theorem dX6_copyFrom_138 : decode cX6_copyFrom 138 = .ok (.iconst 0, 1) := by decide +kernel
theorem dX6_copyFrom_139 : decode cX6_copyFrom 139 = .ok (.aload_n 0, 1) := by decide +kernel
theorem dX6_copyFrom_140 : decode cX6_copyFrom 140 = .ok (.getfield 25, 3) := by decide +kernel
theorem dX6_copyFrom_143 : decode cX6_copyFrom 143 = .ok (.iconst 0, 1) := by decide +kernel
theorem dX6_copyFrom_144 : decode cX6_copyFrom 144 = .ok (.bipush 8, 2) := by decide +kernel
theorem dX6_copyFrom_146 : decode cX6_copyFrom 146 = .ok (.invokestatic 75, 3) := by decide +kernel
theorem dX6_copyFrom_149 : decode cX6_copyFrom 149 = .ok (.aload_n 1, 1) := by decide +kernel
theorem dX6_copyFrom_150 : decode cX6_copyFrom 150 = .ok (.getfield 28, 3) := by decide +kernel
theorem dX6_copyFrom_153 : decode cX6_copyFrom 153 = .ok (.iconst 0, 1) := by decide +kernel
theorem dX6_copyFrom_154 : decode cX6_copyFrom 154 = .ok (.aload_n 0, 1) := by decide +kernel
theorem dX6_copyFrom_155 : decode cX6_copyFrom 155 = .ok (.getfield 28, 3) := by decide +kernel
theorem dX6_copyFrom_158 : decode cX6_copyFrom 158 = .ok (.iconst 0, 1) := by decide +kernel
theorem dX6_copyFrom_159 : decode cX6_copyFrom 159 = .ok (.bipush 8, 2) := by decide +kernel
theorem dX6_copyFrom_161 : decode cX6_copyFrom 161 = .ok (.invokestatic 75, 3) := by decide +kernel
theorem dX6_copyFrom_164 : decode cX6_copyFrom 164 = .ok (.aload_n 1, 1) := by decide +kernel
theorem dX6_copyFrom_165 : decode cX6_copyFrom 165 = .ok (.getfield 31, 3) := by decide +kernel
theorem dX6_copyFrom_168 : decode cX6_copyFrom 168 = .ok (.iconst 0, 1) := by decide +kernel
theorem dX6_copyFrom_169 : decode cX6_copyFrom 169 = .ok (.aload_n 0, 1) := by decide +kernel
theorem dX6_copyFrom_170 : decode cX6_copyFrom 170 = .ok (.getfield 31, 3) := by decide +kernel
theorem dX6_copyFrom_173 : decode cX6_copyFrom 173 = .ok (.iconst 0, 1) := by decide +kernel
theorem dX6_copyFrom_174 : decode cX6_copyFrom 174 = .ok (.bipush 8, 2) := by decide +kernel
theorem dX6_copyFrom_176 : decode cX6_copyFrom 176 = .ok (.invokestatic 75, 3) := by decide +kernel
theorem dX6_copyFrom_179 : decode cX6_copyFrom 179 = .ok (.aload_n 1, 1) := by decide +kernel
theorem dX6_copyFrom_180 : decode cX6_copyFrom 180 = .ok (.getfield 34, 3) := by decide +kernel
theorem dX6_copyFrom_183 : decode cX6_copyFrom 183 = .ok (.iconst 0, 1) := by decide +kernel
theorem dX6_copyFrom_184 : decode cX6_copyFrom 184 = .ok (.aload_n 0, 1) := by decide +kernel
theorem dX6_copyFrom_185 : decode cX6_copyFrom 185 = .ok (.getfield 34, 3) := by decide +kernel
theorem dX6_copyFrom_188 : decode cX6_copyFrom 188 = .ok (.iconst 0, 1) := by decide +kernel
theorem dX6_copyFrom_189 : decode cX6_copyFrom 189 = .ok (.bipush 6, 2) := by decide +kernel
theorem dX6_copyFrom_191 : decode cX6_copyFrom 191 = .ok (.invokestatic 75, 3) := by decide +kernel
theorem dX6_copyFrom_194 : decode cX6_copyFrom 194 = .ok (.aload_n 1, 1) := by decide +kernel
theorem dX6_copyFrom_195 : decode cX6_copyFrom 195 = .ok (.getfield 37, 3) := by decide +kernel
theorem dX6_copyFrom_198 : decode cX6_copyFrom 198 = .ok (.iconst 0, 1) := by decide +kernel
theorem dX6_copyFrom_199 : decode cX6_copyFrom 199 = .ok (.aload_n 0, 1) := by decide +kernel
theorem dX6_copyFrom_200 : decode cX6_copyFrom 200 = .ok (.getfield 37, 3) := by decide +kernel
theorem dX6_copyFrom_203 : decode cX6_copyFrom 203 = .ok (.iconst 0, 1) := by decide +kernel
theorem dX6_copyFrom_204 : decode cX6_copyFrom 204 = .ok (.bipush 6, 2) := by decide +kernel
theorem dX6_copyFrom_206 : decode cX6_copyFrom 206 = .ok (.invokestatic 75, 3) := by decide +kernel
theorem dX6_copyFrom_209 : decode cX6_copyFrom 209 = .ok (.aload_n 0, 1) := by decide +kernel
theorem dX6_copyFrom_210 : decode cX6_copyFrom 210 = .ok (.getfield 43, 3) := by decide +kernel
theorem dX6_copyFrom_213 : decode cX6_copyFrom 213 = .ok (.aload_n 1, 1) := by decide +kernel
theorem dX6_copyFrom_214 : decode cX6_copyFrom 214 = .ok (.getfield 43, 3) := by decide +kernel
theorem dX6_copyFrom_217 : decode cX6_copyFrom 217 = .ok (.invokevirtual 81, 3) := by decide +kernel
theorem dX6_copyFrom_220 : decode cX6_copyFrom 220 = .ok (.return_, 1) := by decide +kernel
noncomputable def vX6_copyFrom : List Cond := .code yX6_copyFrom cX6_copyFrom 3 none :: (([.fieldLink RX6 47 "IcicleClock$Street" "slamTakes" "I", .fieldLink RX6 51 "IcicleClock$Street" "bellTakes" "I", .fieldLink RX6 54 "IcicleClock$Street" "odds" "I", .fieldLink RX6 57 "IcicleClock$Street" "days" "I", .fieldLink RX6 60 "IcicleClock$Street" "eaves" "I", .fieldLink RX6 63 "IcicleClock$Street" "icicles" "I", .fieldLink RX6 66 "IcicleClock$Street" "works" "I", .fieldLink RX6 69 "IcicleClock$Street" "lines" "I", .fieldLink RX6 9 "IcicleClock$Street" "thaw" "[I", .methodLink RX6 75 arraycopyName, .native arraycopyName, .static arraycopyName, .initialized "java/lang/System", .fieldLink RX6 15 "IcicleClock$Street" "isThaw" "[Z", .fieldLink RX6 19 "IcicleClock$Street" "sun" "[I", .fieldLink RX6 22 "IcicleClock$Street" "eaveOf" "[I", .fieldLink RX6 25 "IcicleClock$Street" "lengthTold" "[I", .fieldLink RX6 28 "IcicleClock$Street" "lengthHung" "[I", .fieldLink RX6 31 "IcicleClock$Street" "hourOf" "[I", .fieldLink RX6 34 "IcicleClock$Street" "dueHour" "[I", .fieldLink RX6 37 "IcicleClock$Street" "dueDay" "[I", .fieldLink RX6 43 "IcicleClock$Street" "acts" "LIcicleClock$Acts;", .methodLink RX6 81 yX0_copyFrom, .instanceMethod yX0_copyFrom, .selects RX0 yX0_copyFrom yX0_copyFrom, .initialized RX0] : List Cond) ++ (wsX60 ++ vX0_copyFrom))
theorem iX6_copyFrom_6 : ∀ w ∈ wsX60, w ∈ vX6_copyFrom := fun _ h => List.mem_cons_of_mem _ (List.mem_append_right _ (List.mem_append_left _ h))
theorem gs_X6_copyFrom : Gd vX6_copyFrom := Gd.cons (by decide +kernel) (Gd.app (Gd.r (by decide +kernel)) (Gd.app gwX_6 gs_X0_copyFrom))
theorem gg_X6_copyFrom_X0_copyFrom : GoodIn vX6_copyFrom (wsV RX6 81 RX0 yX0_copyFrom vX0_copyFrom) := goodIn_app (goodIn_r _ [23, 24, 25, 26] (by decide +kernel) (by decide +kernel)) (fun w h => ⟨List.mem_cons_of_mem _ (List.mem_append_right _ (List.mem_append_right _ (h))), gs_X0_copyFrom w h⟩)
set_option maxHeartbeats 4000000 in
set_option maxRecDepth 100000 in
theorem s_X6_copyFrom (l : Launch) (D : va_G) (cs : Nat → ClassId) (ad : Nat → Nat) (kS : kSt) (K : sK) (hKO : KO K) (hj : wJ ad 218) (g : Nat → va_E) (hW : WF (shp ad K) ad cs g) (b : Nat) (d : Nat) (hp0 : b = 3 ∨ b = 23 ∨ b = 44 ∨ b = 64 ∨ b = 84) (hp1 : d = 3 ∨ d = 23 ∨ d = 44 ∨ d = 64 ∨ d = 84) (hp2 : b ≠ d) : sV l yX6_copyFrom vX6_copyFrom { frames := 4, cells := 0, slots := 0, locals := 86 } D cs ad kS [.ref (ad b), .ref (ad d)] g (fun g2 => WF (shp ad K) ad cs g2 ∧ (∀ j, (j < b ∨ b + 20 ≤ j) → g2 j = g j)) := by
  refine Met.startS (cc := cX6_copyFrom) (maxL := 3) (ret := none) RX6 rfl (by decide) rfl (Nat.le_of_ble_eq_true rfl) ?_
  intro p e s m below meth c ls X Z hP hl
  have hx := X.1
  have hb := X.2.1
  have hS : va_S (wA ad 218) s.heap s.heap [] := va_S.rf
  have hA : ∀ i, i < 218 → wA ad 218 (ad i) := fun i h => ⟨i, h, rfl⟩
  have hfr : ∀ j, (j < b ∨ b + 20 ≤ j) → g j = g j := fun _ _ => rfl
  have hb_b := hp0
  have hb_d := hp1
  have hl : lv_has ls 3 [(0, .ref (ad b)), (1, .ref (ad d))] := hl
  refine lv_aload_n hx hb dX6_copyFrom_0 rfl (lv_at hl 0 rfl) ?_
  refine lv_aload_n hx hb dX6_copyFrom_1 rfl (lv_at hl 1 rfl) ?_
  obtain ⟨fsc_1, hgc_1, hOc_1⟩ := hW.obj (i := d) (by omega) (shS_0 ad K hb_d)
  obtain ⟨x_3, hk_2, -⟩ := hOc_1.int 0 rfl
  refine q_get X iX6_copyFrom_6 hP (by omega) hgc_1 rfl 0 (by decide) (List.mem_of_getElem? (i := 1) rfl) (v := .int x_3) hk_2 dX6_copyFrom_2 ?_
  obtain ⟨fsc_4, hgc_4, hOc_4⟩ := hW.obj (i := b) (by omega) (shS_0 ad K hb_b)
  refine s_put X iX6_copyFrom_6 tyX6 tyX6_ok nmX6 hP hj hA hS (by omega) hgc_4 rfl 0 (by decide) (List.mem_of_getElem? (i := 1) rfl) rfl (ty := .int) (v := .int x_3) (by decide +kernel) rfl rfl dX6_copyFrom_5 hW (shS_0 ad K hb_b) hOc_4 rfl ⟨x_3, rfl, n_lo _, n_hi _⟩ (fun fsc_5 gc_5 H locs hOc_5 hkc_5 hnc_5 hgc_5 hfc_5 hWc_5 hP hS => ?_)
  have hg_7 := (hfc_5 d (by omega)).trans hgc_1
  have hfr_6 : ∀ j, (j < b ∨ b + 20 ≤ j) → gc_5 j = g j := fun j hj => (hfc_5 j (by omega)).trans (hfr j hj)
  refine lv_aload_n hx hb dX6_copyFrom_8 rfl (lv_at hl 0 rfl) ?_
  refine lv_aload_n hx hb dX6_copyFrom_9 rfl (lv_at hl 1 rfl) ?_
  obtain ⟨x_9, hk_8, -⟩ := hOc_1.int 1 rfl
  refine q_get X iX6_copyFrom_6 hP (by omega) hg_7 rfl 1 (by decide) (List.mem_of_getElem? (i := 2) rfl) (v := .int x_9) hk_8 dX6_copyFrom_10 ?_
  refine s_put X iX6_copyFrom_6 tyX6 tyX6_ok nmX6 hP hj hA hS (by omega) hgc_5 rfl 1 (by decide) (List.mem_of_getElem? (i := 2) rfl) rfl (ty := .int) (v := .int x_9) (by decide +kernel) rfl rfl dX6_copyFrom_13 hWc_5 (shS_0 ad K hb_b) hOc_5 rfl ⟨x_9, rfl, n_lo _, n_hi _⟩ (fun fsc_10 gc_10 H locs hOc_10 hkc_10 hnc_10 hgc_10 hfc_10 hWc_10 hP hS => ?_)
  have hk_11 := (hnc_10 0 (by decide)).trans hkc_5
  have hg_13 := (hfc_10 d (by omega)).trans hg_7
  have hfr_12 : ∀ j, (j < b ∨ b + 20 ≤ j) → gc_10 j = g j := fun j hj => (hfc_10 j (by omega)).trans (hfr_6 j hj)
  refine lv_aload_n hx hb dX6_copyFrom_16 rfl (lv_at hl 0 rfl) ?_
  refine lv_aload_n hx hb dX6_copyFrom_17 rfl (lv_at hl 1 rfl) ?_
  obtain ⟨x_15, hk_14, -⟩ := hOc_1.int 2 rfl
  refine q_get X iX6_copyFrom_6 hP (by omega) hg_13 rfl 2 (by decide) (List.mem_of_getElem? (i := 3) rfl) (v := .int x_15) hk_14 dX6_copyFrom_18 ?_
  refine s_put X iX6_copyFrom_6 tyX6 tyX6_ok nmX6 hP hj hA hS (by omega) hgc_10 rfl 2 (by decide) (List.mem_of_getElem? (i := 3) rfl) rfl (ty := .int) (v := .int x_15) (by decide +kernel) rfl rfl dX6_copyFrom_21 hWc_10 (shS_0 ad K hb_b) hOc_10 rfl ⟨x_15, rfl, n_lo _, n_hi _⟩ (fun fsc_16 gc_16 H locs hOc_16 hkc_16 hnc_16 hgc_16 hfc_16 hWc_16 hP hS => ?_)
  have hk_17 := (hnc_16 1 (by decide)).trans hkc_10
  have hk_18 := (hnc_16 0 (by decide)).trans hk_11
  have hg_20 := (hfc_16 d (by omega)).trans hg_13
  have hfr_19 : ∀ j, (j < b ∨ b + 20 ≤ j) → gc_16 j = g j := fun j hj => (hfc_16 j (by omega)).trans (hfr_12 j hj)
  refine lv_aload_n hx hb dX6_copyFrom_24 rfl (lv_at hl 0 rfl) ?_
  refine lv_aload_n hx hb dX6_copyFrom_25 rfl (lv_at hl 1 rfl) ?_
  obtain ⟨x_22, hk_21, hlx_22, hhx_22⟩ := hOc_1.int 3 rfl
  refine q_get X iX6_copyFrom_6 hP (by omega) hg_20 rfl 3 (by decide) (List.mem_of_getElem? (i := 4) rfl) (v := .int x_22) hk_21 dX6_copyFrom_26 ?_
  refine s_put X iX6_copyFrom_6 tyX6 tyX6_ok nmX6 hP hj hA hS (by omega) hgc_16 rfl 3 (by decide) (List.mem_of_getElem? (i := 4) rfl) rfl (ty := .int) (v := .int x_22) (by decide +kernel) rfl rfl dX6_copyFrom_29 hWc_16 (shS_0 ad K hb_b) hOc_16 rfl ⟨x_22, rfl, by omega, by omega⟩ (fun fsc_23 gc_23 H locs hOc_23 hkc_23 hnc_23 hgc_23 hfc_23 hWc_23 hP hS => ?_)
  have hk_24 := (hnc_23 2 (by decide)).trans hkc_16
  have hk_25 := (hnc_23 1 (by decide)).trans hk_17
  have hk_26 := (hnc_23 0 (by decide)).trans hk_18
  have hg_28 := (hfc_23 d (by omega)).trans hg_20
  have hfr_27 : ∀ j, (j < b ∨ b + 20 ≤ j) → gc_23 j = g j := fun j hj => (hfc_23 j (by omega)).trans (hfr_19 j hj)
  refine lv_aload_n hx hb dX6_copyFrom_32 rfl (lv_at hl 0 rfl) ?_
  refine lv_aload_n hx hb dX6_copyFrom_33 rfl (lv_at hl 1 rfl) ?_
  obtain ⟨x_30, hk_29, hlx_30, hhx_30⟩ := hOc_1.int 4 rfl
  refine q_get X iX6_copyFrom_6 hP (by omega) hg_28 rfl 4 (by decide) (List.mem_of_getElem? (i := 5) rfl) (v := .int x_30) hk_29 dX6_copyFrom_34 ?_
  refine s_put X iX6_copyFrom_6 tyX6 tyX6_ok nmX6 hP hj hA hS (by omega) hgc_23 rfl 4 (by decide) (List.mem_of_getElem? (i := 5) rfl) rfl (ty := .int) (v := .int x_30) (by decide +kernel) rfl rfl dX6_copyFrom_37 hWc_23 (shS_0 ad K hb_b) hOc_23 rfl ⟨x_30, rfl, by omega, by omega⟩ (fun fsc_31 gc_31 H locs hOc_31 hkc_31 hnc_31 hgc_31 hfc_31 hWc_31 hP hS => ?_)
  have hk_32 := (hnc_31 3 (by decide)).trans hkc_23
  have hk_33 := (hnc_31 2 (by decide)).trans hk_24
  have hk_34 := (hnc_31 1 (by decide)).trans hk_25
  have hk_35 := (hnc_31 0 (by decide)).trans hk_26
  have hg_37 := (hfc_31 d (by omega)).trans hg_28
  have hfr_36 : ∀ j, (j < b ∨ b + 20 ≤ j) → gc_31 j = g j := fun j hj => (hfc_31 j (by omega)).trans (hfr_27 j hj)
  refine lv_aload_n hx hb dX6_copyFrom_40 rfl (lv_at hl 0 rfl) ?_
  refine lv_aload_n hx hb dX6_copyFrom_41 rfl (lv_at hl 1 rfl) ?_
  obtain ⟨x_39, hk_38, hlx_39, hhx_39⟩ := hOc_1.int 5 rfl
  refine q_get X iX6_copyFrom_6 hP (by omega) hg_37 rfl 5 (by decide) (List.mem_of_getElem? (i := 6) rfl) (v := .int x_39) hk_38 dX6_copyFrom_42 ?_
  refine s_put X iX6_copyFrom_6 tyX6 tyX6_ok nmX6 hP hj hA hS (by omega) hgc_31 rfl 5 (by decide) (List.mem_of_getElem? (i := 6) rfl) rfl (ty := .int) (v := .int x_39) (by decide +kernel) rfl rfl dX6_copyFrom_45 hWc_31 (shS_0 ad K hb_b) hOc_31 rfl ⟨x_39, rfl, by omega, by omega⟩ (fun fsc_40 gc_40 H locs hOc_40 hkc_40 hnc_40 hgc_40 hfc_40 hWc_40 hP hS => ?_)
  have hk_41 := (hnc_40 4 (by decide)).trans hkc_31
  have hk_42 := (hnc_40 3 (by decide)).trans hk_32
  have hk_43 := (hnc_40 2 (by decide)).trans hk_33
  have hk_44 := (hnc_40 1 (by decide)).trans hk_34
  have hk_45 := (hnc_40 0 (by decide)).trans hk_35
  have hg_47 := (hfc_40 d (by omega)).trans hg_37
  have hfr_46 : ∀ j, (j < b ∨ b + 20 ≤ j) → gc_40 j = g j := fun j hj => (hfc_40 j (by omega)).trans (hfr_36 j hj)
  refine lv_aload_n hx hb dX6_copyFrom_48 rfl (lv_at hl 0 rfl) ?_
  refine lv_aload_n hx hb dX6_copyFrom_49 rfl (lv_at hl 1 rfl) ?_
  obtain ⟨x_49, hk_48, hlx_49, hhx_49⟩ := hOc_1.int 6 rfl
  refine q_get X iX6_copyFrom_6 hP (by omega) hg_47 rfl 6 (by decide) (List.mem_of_getElem? (i := 7) rfl) (v := .int x_49) hk_48 dX6_copyFrom_50 ?_
  refine s_put X iX6_copyFrom_6 tyX6 tyX6_ok nmX6 hP hj hA hS (by omega) hgc_40 rfl 6 (by decide) (List.mem_of_getElem? (i := 7) rfl) rfl (ty := .int) (v := .int x_49) (by decide +kernel) rfl rfl dX6_copyFrom_53 hWc_40 (shS_0 ad K hb_b) hOc_40 rfl ⟨x_49, rfl, by omega, by omega⟩ (fun fsc_50 gc_50 H locs hOc_50 hkc_50 hnc_50 hgc_50 hfc_50 hWc_50 hP hS => ?_)
  have hk_51 := (hnc_50 5 (by decide)).trans hkc_40
  have hk_52 := (hnc_50 4 (by decide)).trans hk_41
  have hk_53 := (hnc_50 3 (by decide)).trans hk_42
  have hk_54 := (hnc_50 2 (by decide)).trans hk_43
  have hk_55 := (hnc_50 1 (by decide)).trans hk_44
  have hk_56 := (hnc_50 0 (by decide)).trans hk_45
  have hg_58 := (hfc_50 d (by omega)).trans hg_47
  have hfr_57 : ∀ j, (j < b ∨ b + 20 ≤ j) → gc_50 j = g j := fun j hj => (hfc_50 j (by omega)).trans (hfr_46 j hj)
  refine lv_aload_n hx hb dX6_copyFrom_56 rfl (lv_at hl 0 rfl) ?_
  refine lv_aload_n hx hb dX6_copyFrom_57 rfl (lv_at hl 1 rfl) ?_
  obtain ⟨x_60, hk_59, -⟩ := hOc_1.int 7 rfl
  refine q_get X iX6_copyFrom_6 hP (by omega) hg_58 rfl 7 (by decide) (List.mem_of_getElem? (i := 8) rfl) (v := .int x_60) hk_59 dX6_copyFrom_58 ?_
  refine s_put X iX6_copyFrom_6 tyX6 tyX6_ok nmX6 hP hj hA hS (by omega) hgc_50 rfl 7 (by decide) (List.mem_of_getElem? (i := 8) rfl) rfl (ty := .int) (v := .int x_60) (by decide +kernel) rfl rfl dX6_copyFrom_61 hWc_50 (shS_0 ad K hb_b) hOc_50 rfl ⟨x_60, rfl, n_lo _, n_hi _⟩ (fun fsc_61 gc_61 H locs hOc_61 hkc_61 hnc_61 hgc_61 hfc_61 hWc_61 hP hS => ?_)
  have hk_62 := (hnc_61 6 (by decide)).trans hkc_50
  have hk_63 := (hnc_61 5 (by decide)).trans hk_51
  have hk_64 := (hnc_61 4 (by decide)).trans hk_52
  have hk_65 := (hnc_61 3 (by decide)).trans hk_53
  have hk_66 := (hnc_61 2 (by decide)).trans hk_54
  have hk_67 := (hnc_61 1 (by decide)).trans hk_55
  have hk_68 := (hnc_61 0 (by decide)).trans hk_56
  have hg_70 := (hfc_61 d (by omega)).trans hg_58
  have hfr_69 : ∀ j, (j < b ∨ b + 20 ≤ j) → gc_61 j = g j := fun j hj => (hfc_61 j (by omega)).trans (hfr_57 j hj)
  refine lv_aload_n hx hb dX6_copyFrom_64 rfl (lv_at hl 1 rfl) ?_
  have hk_71 := hOc_1.ref 8 rfl
  refine q_get X iX6_copyFrom_6 hP (by omega) hg_70 rfl 8 (by decide) (List.mem_of_getElem? (i := 9) rfl) (v := .ref (ad (d + 1))) hk_71 dX6_copyFrom_65 ?_
  refine lv_iconst (v := 0) hx hb dX6_copyFrom_68 (by decide) ?_
  refine lv_aload_n hx hb dX6_copyFrom_69 rfl (lv_at hl 0 rfl) ?_
  have hk_72 := hOc_61.ref 8 rfl
  refine q_get X iX6_copyFrom_6 hP (by omega) hgc_61 rfl 8 (by decide) (List.mem_of_getElem? (i := 9) rfl) (v := .ref (ad (b + 1))) hk_72 dX6_copyFrom_70 ?_
  refine lv_iconst (v := 0) hx hb dX6_copyFrom_73 (by decide) ?_
  refine lv_bipush (v := 14) hx hb dX6_copyFrom_74 (by decide) ?_
  obtain ⟨fc_73, hgc_73, hFc_73⟩ := hWc_61.arr (i := (d + 1)) (by omega) (shS_1 ad K hb_d)
  obtain ⟨fc_74, hgc_74, hFc_74⟩ := hWc_61.arr (i := (b + 1)) (by omega) (shS_1 ad K hb_b)
  refine s_copyi X hl.1 (List.mem_of_getElem? (i := 10) rfl) (List.mem_of_getElem? (i := 11) rfl) (List.mem_of_getElem? (i := 12) rfl) (List.mem_of_getElem? (i := 13) rfl) hP hj hA hS 1 rfl rfl (by omega) (by omega) hgc_73 hgc_74 (by decide) (by decide) (by decide) (by decide) (by decide) (fun _ _ => rfl) (Nat.le_of_ble_eq_true rfl) (Nat.le_of_ble_eq_true rfl) dX6_copyFrom_76 hWc_61 (shS_1 ad K hb_b) (rP.cpy hFc_73 hFc_74 (fun _ _ h => h)) (fun fc_75 gc_75 H locs hFc_75 hgc_75 hfc_75 hWc_75 hP hS => ?_)
  have hg_77 := (hfc_75 d (by omega)).trans hg_70
  have hg_78 := (hfc_75 b (by omega)).trans hgc_61
  have hg_79 := (hfc_75 (d + 1) (by omega)).trans hgc_73
  have hfr_76 : ∀ j, (j < b ∨ b + 20 ≤ j) → gc_75 j = g j := fun j hj => (hfc_75 j (by omega)).trans (hfr_69 j hj)
  refine lv_iconst (v := 0) hx hb dX6_copyFrom_79 (by decide) ?_
  refine lv_istore_n (lv' := [(2, .int 0), (0, .ref (ad b)), (1, .ref (ad d))]) hx hb dX6_copyFrom_80 rfl hl (by decide) rfl (fun ls hl => ?_)
  have HL81 : ∀ (n81 : Nat) (v81_2 : Int32) (G81 : Nat → va_E) (H : Heap) (locs : List Loc) (ls : Array Slot), (14 - v81_2.toInt).toNat < n81 → (0 ≤ v81_2.toInt ∧ v81_2.toInt ≤ 14) → WF (shp ad K) ad cs G81 → (∀ j, (j < b ∨ b + 20 ≤ j) → G81 j = g j) → va_P D vwCl (wL ad G81 218) H → va_S (wA ad 218) s.heap H locs → lv_has ls 3 [(2, .int v81_2), (0, .ref (ad b)), (1, .ref (ad d))] → W p l e ({ frames := 4, cells := 0, slots := 0, locals := 86 } : Room) s m ([.ref (ad b), .ref (ad d)] : List Value).toArray below meth c H locs 0 0 (MQ below (qV D ad 218 (fun g2 => WF (shp ad K) ad cs g2 ∧ (∀ j, (j < b ∨ b + 20 ≤ j) → g2 j = g j))) ([.ref (ad b), .ref (ad d)] : List Value).toArray s 0 0 (wA ad 218)) (F0 m 81 ls []) := by
    intro n81
    induction n81 with
    | zero =>
      intro v81_2 G81 H locs ls hm81 hv81_0 hW81 hfr81 hP hS hl
      exact absurd hm81 (Nat.not_lt_zero _)
    | succ n81 ih81 =>
      intro v81_2 G81 H locs ls hm81 hv81_0 hW81 hfr81 hP hS hl
      refine lv_iload_n hx hb dX6_copyFrom_81 rfl (lv_at hl 0 rfl) ?_
      refine lv_bipush (v := 14) hx hb dX6_copyFrom_82 (by decide) ?_
      refine lv_icmp_ge (tgt := 105) hx hb dX6_copyFrom_84 (by decide) (fun hc_80 => ?_) (fun hc_80 => ?_)
      · have hhc_80 := n_le (by decide : (14 : Int32).toInt = 14) (rfl : v81_2.toInt = v81_2.toInt) hc_80
        refine lv_aload_n hx hb dX6_copyFrom_105 rfl (lv_at hl 2 rfl) ?_
        obtain ⟨fsc_81, hgc_81, hOc_81⟩ := hW81.obj (i := d) (by omega) (shS_0 ad K hb_d)
        have hk_82 := hOc_81.ref 10 rfl
        refine q_get X iX6_copyFrom_6 hP (by omega) hgc_81 rfl 10 (by decide) (List.mem_of_getElem? (i := 15) rfl) (v := .ref (ad (d + 3))) hk_82 dX6_copyFrom_106 ?_
        refine lv_iconst (v := 0) hx hb dX6_copyFrom_109 (by decide) ?_
        refine lv_aload_n hx hb dX6_copyFrom_110 rfl (lv_at hl 1 rfl) ?_
        obtain ⟨fsc_83, hgc_83, hOc_83⟩ := hW81.obj (i := b) (by omega) (shS_0 ad K hb_b)
        have hk_84 := hOc_83.ref 10 rfl
        refine q_get X iX6_copyFrom_6 hP (by omega) hgc_83 rfl 10 (by decide) (List.mem_of_getElem? (i := 15) rfl) (v := .ref (ad (b + 3))) hk_84 dX6_copyFrom_111 ?_
        refine lv_iconst (v := 0) hx hb dX6_copyFrom_114 (by decide) ?_
        refine lv_iconst (v := 5) hx hb dX6_copyFrom_115 (by decide) ?_
        obtain ⟨fc_85, hgc_85, hFc_85⟩ := hW81.arr (i := (d + 3)) (by omega) (shS_3 ad K hb_d)
        obtain ⟨fc_86, hgc_86, hFc_86⟩ := hW81.arr (i := (b + 3)) (by omega) (shS_3 ad K hb_b)
        refine s_copyi X hl.1 (List.mem_of_getElem? (i := 10) rfl) (List.mem_of_getElem? (i := 11) rfl) (List.mem_of_getElem? (i := 12) rfl) (List.mem_of_getElem? (i := 13) rfl) hP hj hA hS 1 rfl rfl (by omega) (by omega) hgc_85 hgc_86 (by decide) (by decide) (by decide) (by decide) (by decide) (fun _ _ => rfl) (Nat.le_of_ble_eq_true rfl) (Nat.le_of_ble_eq_true rfl) dX6_copyFrom_116 hW81 (shS_3 ad K hb_b) (rP.cpy hFc_85 hFc_86 (fun _ _ h => h)) (fun fc_87 gc_87 H locs hFc_87 hgc_87 hfc_87 hWc_87 hP hS => ?_)
        have hg_89 := (hfc_87 d (by omega)).trans hgc_81
        have hg_90 := (hfc_87 b (by omega)).trans hgc_83
        have hg_91 := (hfc_87 (d + 3) (by omega)).trans hgc_85
        have hfr_88 : ∀ j, (j < b ∨ b + 20 ≤ j) → gc_87 j = g j := fun j hj => (hfc_87 j (by omega)).trans (hfr81 j hj)
        refine lv_aload_n hx hb dX6_copyFrom_119 rfl (lv_at hl 2 rfl) ?_
        have hk_92 := hOc_81.ref 11 rfl
        refine q_get X iX6_copyFrom_6 hP (by omega) hg_89 rfl 11 (by decide) (List.mem_of_getElem? (i := 16) rfl) (v := .ref (ad (d + 4))) hk_92 dX6_copyFrom_120 ?_
        refine lv_iconst (v := 0) hx hb dX6_copyFrom_123 (by decide) ?_
        refine lv_aload_n hx hb dX6_copyFrom_124 rfl (lv_at hl 1 rfl) ?_
        have hk_93 := hOc_83.ref 11 rfl
        refine q_get X iX6_copyFrom_6 hP (by omega) hg_90 rfl 11 (by decide) (List.mem_of_getElem? (i := 16) rfl) (v := .ref (ad (b + 4))) hk_93 dX6_copyFrom_125 ?_
        refine lv_iconst (v := 0) hx hb dX6_copyFrom_128 (by decide) ?_
        refine lv_bipush (v := 8) hx hb dX6_copyFrom_129 (by decide) ?_
        obtain ⟨fc_94, hgc_94, hFc_94⟩ := hWc_87.arr (i := (d + 4)) (by omega) (shS_4 ad K hb_d)
        obtain ⟨fc_95, hgc_95, hFc_95⟩ := hWc_87.arr (i := (b + 4)) (by omega) (shS_4 ad K hb_b)
        refine s_copyi X hl.1 (List.mem_of_getElem? (i := 10) rfl) (List.mem_of_getElem? (i := 11) rfl) (List.mem_of_getElem? (i := 12) rfl) (List.mem_of_getElem? (i := 13) rfl) hP hj hA hS 1 rfl rfl (by omega) (by omega) hgc_94 hgc_95 (by decide) (by decide) (by decide) (by decide) (by decide) (fun _ _ => rfl) (Nat.le_of_ble_eq_true rfl) (Nat.le_of_ble_eq_true rfl) dX6_copyFrom_131 hWc_87 (shS_4 ad K hb_b) (rP.cpy hFc_94 hFc_95 (fun _ _ h => h)) (fun fc_96 gc_96 H locs hFc_96 hgc_96 hfc_96 hWc_96 hP hS => ?_)
        have hg_98 := (hfc_96 d (by omega)).trans hg_89
        have hg_99 := (hfc_96 b (by omega)).trans hg_90
        have hg_100 := (hfc_96 (d + 3) (by omega)).trans hg_91
        have hg_101 := (hfc_96 (b + 3) (by omega)).trans hgc_87
        have hg_102 := (hfc_96 (d + 4) (by omega)).trans hgc_94
        have hfr_97 : ∀ j, (j < b ∨ b + 20 ≤ j) → gc_96 j = g j := fun j hj => (hfc_96 j (by omega)).trans (hfr_88 j hj)
        refine lv_aload_n hx hb dX6_copyFrom_134 rfl (lv_at hl 2 rfl) ?_
        have hk_103 := hOc_81.ref 12 rfl
        refine q_get X iX6_copyFrom_6 hP (by omega) hg_98 rfl 12 (by decide) (List.mem_of_getElem? (i := 17) rfl) (v := .ref (ad (d + 5))) hk_103 dX6_copyFrom_135 ?_
        refine lv_iconst (v := 0) hx hb dX6_copyFrom_138 (by decide) ?_
        refine lv_aload_n hx hb dX6_copyFrom_139 rfl (lv_at hl 1 rfl) ?_
        have hk_104 := hOc_83.ref 12 rfl
        refine q_get X iX6_copyFrom_6 hP (by omega) hg_99 rfl 12 (by decide) (List.mem_of_getElem? (i := 17) rfl) (v := .ref (ad (b + 5))) hk_104 dX6_copyFrom_140 ?_
        refine lv_iconst (v := 0) hx hb dX6_copyFrom_143 (by decide) ?_
        refine lv_bipush (v := 8) hx hb dX6_copyFrom_144 (by decide) ?_
        obtain ⟨fc_105, hgc_105, hFc_105⟩ := hWc_96.arr (i := (d + 5)) (by omega) (shS_5 ad K hb_d)
        obtain ⟨fc_106, hgc_106, hFc_106⟩ := hWc_96.arr (i := (b + 5)) (by omega) (shS_5 ad K hb_b)
        refine s_copyi X hl.1 (List.mem_of_getElem? (i := 10) rfl) (List.mem_of_getElem? (i := 11) rfl) (List.mem_of_getElem? (i := 12) rfl) (List.mem_of_getElem? (i := 13) rfl) hP hj hA hS 1 rfl rfl (by omega) (by omega) hgc_105 hgc_106 (by decide) (by decide) (by decide) (by decide) (by decide) (fun _ _ => rfl) (Nat.le_of_ble_eq_true rfl) (Nat.le_of_ble_eq_true rfl) dX6_copyFrom_146 hWc_96 (shS_5 ad K hb_b) (rP.cpy hFc_105 hFc_106 (fun _ _ h => h)) (fun fc_107 gc_107 H locs hFc_107 hgc_107 hfc_107 hWc_107 hP hS => ?_)
        have hg_109 := (hfc_107 d (by omega)).trans hg_98
        have hg_110 := (hfc_107 b (by omega)).trans hg_99
        have hg_111 := (hfc_107 (d + 3) (by omega)).trans hg_100
        have hg_112 := (hfc_107 (b + 3) (by omega)).trans hg_101
        have hg_113 := (hfc_107 (d + 4) (by omega)).trans hg_102
        have hg_114 := (hfc_107 (b + 4) (by omega)).trans hgc_96
        have hg_115 := (hfc_107 (d + 5) (by omega)).trans hgc_105
        have hfr_108 : ∀ j, (j < b ∨ b + 20 ≤ j) → gc_107 j = g j := fun j hj => (hfc_107 j (by omega)).trans (hfr_97 j hj)
        refine lv_aload_n hx hb dX6_copyFrom_149 rfl (lv_at hl 2 rfl) ?_
        have hk_116 := hOc_81.ref 13 rfl
        refine q_get X iX6_copyFrom_6 hP (by omega) hg_109 rfl 13 (by decide) (List.mem_of_getElem? (i := 18) rfl) (v := .ref (ad (d + 6))) hk_116 dX6_copyFrom_150 ?_
        refine lv_iconst (v := 0) hx hb dX6_copyFrom_153 (by decide) ?_
        refine lv_aload_n hx hb dX6_copyFrom_154 rfl (lv_at hl 1 rfl) ?_
        have hk_117 := hOc_83.ref 13 rfl
        refine q_get X iX6_copyFrom_6 hP (by omega) hg_110 rfl 13 (by decide) (List.mem_of_getElem? (i := 18) rfl) (v := .ref (ad (b + 6))) hk_117 dX6_copyFrom_155 ?_
        refine lv_iconst (v := 0) hx hb dX6_copyFrom_158 (by decide) ?_
        refine lv_bipush (v := 8) hx hb dX6_copyFrom_159 (by decide) ?_
        obtain ⟨fc_118, hgc_118, hFc_118⟩ := hWc_107.arr (i := (d + 6)) (by omega) (shS_6 ad K hb_d)
        obtain ⟨fc_119, hgc_119, hFc_119⟩ := hWc_107.arr (i := (b + 6)) (by omega) (shS_6 ad K hb_b)
        refine s_copyi X hl.1 (List.mem_of_getElem? (i := 10) rfl) (List.mem_of_getElem? (i := 11) rfl) (List.mem_of_getElem? (i := 12) rfl) (List.mem_of_getElem? (i := 13) rfl) hP hj hA hS 1 rfl rfl (by omega) (by omega) hgc_118 hgc_119 (by decide) (by decide) (by decide) (by decide) (by decide) (fun _ _ => rfl) (Nat.le_of_ble_eq_true rfl) (Nat.le_of_ble_eq_true rfl) dX6_copyFrom_161 hWc_107 (shS_6 ad K hb_b) (rP.cpy hFc_118 hFc_119 (fun _ _ h => h)) (fun fc_120 gc_120 H locs hFc_120 hgc_120 hfc_120 hWc_120 hP hS => ?_)
        have hg_122 := (hfc_120 d (by omega)).trans hg_109
        have hg_123 := (hfc_120 b (by omega)).trans hg_110
        have hg_124 := (hfc_120 (d + 3) (by omega)).trans hg_111
        have hg_125 := (hfc_120 (b + 3) (by omega)).trans hg_112
        have hg_126 := (hfc_120 (d + 4) (by omega)).trans hg_113
        have hg_127 := (hfc_120 (b + 4) (by omega)).trans hg_114
        have hg_128 := (hfc_120 (d + 5) (by omega)).trans hg_115
        have hg_129 := (hfc_120 (b + 5) (by omega)).trans hgc_107
        have hg_130 := (hfc_120 (d + 6) (by omega)).trans hgc_118
        have hfr_121 : ∀ j, (j < b ∨ b + 20 ≤ j) → gc_120 j = g j := fun j hj => (hfc_120 j (by omega)).trans (hfr_108 j hj)
        refine lv_aload_n hx hb dX6_copyFrom_164 rfl (lv_at hl 2 rfl) ?_
        have hk_131 := hOc_81.ref 14 rfl
        refine q_get X iX6_copyFrom_6 hP (by omega) hg_122 rfl 14 (by decide) (List.mem_of_getElem? (i := 19) rfl) (v := .ref (ad (d + 7))) hk_131 dX6_copyFrom_165 ?_
        refine lv_iconst (v := 0) hx hb dX6_copyFrom_168 (by decide) ?_
        refine lv_aload_n hx hb dX6_copyFrom_169 rfl (lv_at hl 1 rfl) ?_
        have hk_132 := hOc_83.ref 14 rfl
        refine q_get X iX6_copyFrom_6 hP (by omega) hg_123 rfl 14 (by decide) (List.mem_of_getElem? (i := 19) rfl) (v := .ref (ad (b + 7))) hk_132 dX6_copyFrom_170 ?_
        refine lv_iconst (v := 0) hx hb dX6_copyFrom_173 (by decide) ?_
        refine lv_bipush (v := 8) hx hb dX6_copyFrom_174 (by decide) ?_
        obtain ⟨fc_133, hgc_133, hFc_133⟩ := hWc_120.arr (i := (d + 7)) (by omega) (shS_7 ad K hb_d)
        obtain ⟨fc_134, hgc_134, hFc_134⟩ := hWc_120.arr (i := (b + 7)) (by omega) (shS_7 ad K hb_b)
        refine s_copyi X hl.1 (List.mem_of_getElem? (i := 10) rfl) (List.mem_of_getElem? (i := 11) rfl) (List.mem_of_getElem? (i := 12) rfl) (List.mem_of_getElem? (i := 13) rfl) hP hj hA hS 1 rfl rfl (by omega) (by omega) hgc_133 hgc_134 (by decide) (by decide) (by decide) (by decide) (by decide) (fun _ _ => rfl) (Nat.le_of_ble_eq_true rfl) (Nat.le_of_ble_eq_true rfl) dX6_copyFrom_176 hWc_120 (shS_7 ad K hb_b) (rP.cpy hFc_133 hFc_134 (fun _ _ h => h)) (fun fc_135 gc_135 H locs hFc_135 hgc_135 hfc_135 hWc_135 hP hS => ?_)
        have hg_137 := (hfc_135 d (by omega)).trans hg_122
        have hg_138 := (hfc_135 b (by omega)).trans hg_123
        have hg_139 := (hfc_135 (d + 3) (by omega)).trans hg_124
        have hg_140 := (hfc_135 (b + 3) (by omega)).trans hg_125
        have hg_141 := (hfc_135 (d + 4) (by omega)).trans hg_126
        have hg_142 := (hfc_135 (b + 4) (by omega)).trans hg_127
        have hg_143 := (hfc_135 (d + 5) (by omega)).trans hg_128
        have hg_144 := (hfc_135 (b + 5) (by omega)).trans hg_129
        have hg_145 := (hfc_135 (d + 6) (by omega)).trans hg_130
        have hg_146 := (hfc_135 (b + 6) (by omega)).trans hgc_120
        have hg_147 := (hfc_135 (d + 7) (by omega)).trans hgc_133
        have hfr_136 : ∀ j, (j < b ∨ b + 20 ≤ j) → gc_135 j = g j := fun j hj => (hfc_135 j (by omega)).trans (hfr_121 j hj)
        refine lv_aload_n hx hb dX6_copyFrom_179 rfl (lv_at hl 2 rfl) ?_
        have hk_148 := hOc_81.ref 15 rfl
        refine q_get X iX6_copyFrom_6 hP (by omega) hg_137 rfl 15 (by decide) (List.mem_of_getElem? (i := 20) rfl) (v := .ref (ad (d + 8))) hk_148 dX6_copyFrom_180 ?_
        refine lv_iconst (v := 0) hx hb dX6_copyFrom_183 (by decide) ?_
        refine lv_aload_n hx hb dX6_copyFrom_184 rfl (lv_at hl 1 rfl) ?_
        have hk_149 := hOc_83.ref 15 rfl
        refine q_get X iX6_copyFrom_6 hP (by omega) hg_138 rfl 15 (by decide) (List.mem_of_getElem? (i := 20) rfl) (v := .ref (ad (b + 8))) hk_149 dX6_copyFrom_185 ?_
        refine lv_iconst (v := 0) hx hb dX6_copyFrom_188 (by decide) ?_
        refine lv_bipush (v := 6) hx hb dX6_copyFrom_189 (by decide) ?_
        obtain ⟨fc_150, hgc_150, hFc_150⟩ := hWc_135.arr (i := (d + 8)) (by omega) (shS_8 ad K hb_d)
        obtain ⟨fc_151, hgc_151, hFc_151⟩ := hWc_135.arr (i := (b + 8)) (by omega) (shS_8 ad K hb_b)
        refine s_copyi X hl.1 (List.mem_of_getElem? (i := 10) rfl) (List.mem_of_getElem? (i := 11) rfl) (List.mem_of_getElem? (i := 12) rfl) (List.mem_of_getElem? (i := 13) rfl) hP hj hA hS 1 rfl rfl (by omega) (by omega) hgc_150 hgc_151 (by decide) (by decide) (by decide) (by decide) (by decide) (fun _ _ => rfl) (Nat.le_of_ble_eq_true rfl) (Nat.le_of_ble_eq_true rfl) dX6_copyFrom_191 hWc_135 (shS_8 ad K hb_b) (rP.cpy hFc_150 hFc_151 (fun _ _ h => h)) (fun fc_152 gc_152 H locs hFc_152 hgc_152 hfc_152 hWc_152 hP hS => ?_)
        have hg_154 := (hfc_152 d (by omega)).trans hg_137
        have hg_155 := (hfc_152 b (by omega)).trans hg_138
        have hg_156 := (hfc_152 (d + 3) (by omega)).trans hg_139
        have hg_157 := (hfc_152 (b + 3) (by omega)).trans hg_140
        have hg_158 := (hfc_152 (d + 4) (by omega)).trans hg_141
        have hg_159 := (hfc_152 (b + 4) (by omega)).trans hg_142
        have hg_160 := (hfc_152 (d + 5) (by omega)).trans hg_143
        have hg_161 := (hfc_152 (b + 5) (by omega)).trans hg_144
        have hg_162 := (hfc_152 (d + 6) (by omega)).trans hg_145
        have hg_163 := (hfc_152 (b + 6) (by omega)).trans hg_146
        have hg_164 := (hfc_152 (d + 7) (by omega)).trans hg_147
        have hg_165 := (hfc_152 (b + 7) (by omega)).trans hgc_135
        have hg_166 := (hfc_152 (d + 8) (by omega)).trans hgc_150
        have hfr_153 : ∀ j, (j < b ∨ b + 20 ≤ j) → gc_152 j = g j := fun j hj => (hfc_152 j (by omega)).trans (hfr_136 j hj)
        refine lv_aload_n hx hb dX6_copyFrom_194 rfl (lv_at hl 2 rfl) ?_
        have hk_167 := hOc_81.ref 16 rfl
        refine q_get X iX6_copyFrom_6 hP (by omega) hg_154 rfl 16 (by decide) (List.mem_of_getElem? (i := 21) rfl) (v := .ref (ad (d + 9))) hk_167 dX6_copyFrom_195 ?_
        refine lv_iconst (v := 0) hx hb dX6_copyFrom_198 (by decide) ?_
        refine lv_aload_n hx hb dX6_copyFrom_199 rfl (lv_at hl 1 rfl) ?_
        have hk_168 := hOc_83.ref 16 rfl
        refine q_get X iX6_copyFrom_6 hP (by omega) hg_155 rfl 16 (by decide) (List.mem_of_getElem? (i := 21) rfl) (v := .ref (ad (b + 9))) hk_168 dX6_copyFrom_200 ?_
        refine lv_iconst (v := 0) hx hb dX6_copyFrom_203 (by decide) ?_
        refine lv_bipush (v := 6) hx hb dX6_copyFrom_204 (by decide) ?_
        obtain ⟨fc_169, hgc_169, hFc_169⟩ := hWc_152.arr (i := (d + 9)) (by omega) (shS_9 ad K hb_d)
        obtain ⟨fc_170, hgc_170, hFc_170⟩ := hWc_152.arr (i := (b + 9)) (by omega) (shS_9 ad K hb_b)
        refine s_copyi X hl.1 (List.mem_of_getElem? (i := 10) rfl) (List.mem_of_getElem? (i := 11) rfl) (List.mem_of_getElem? (i := 12) rfl) (List.mem_of_getElem? (i := 13) rfl) hP hj hA hS 1 rfl rfl (by omega) (by omega) hgc_169 hgc_170 (by decide) (by decide) (by decide) (by decide) (by decide) (fun _ _ => rfl) (Nat.le_of_ble_eq_true rfl) (Nat.le_of_ble_eq_true rfl) dX6_copyFrom_206 hWc_152 (shS_9 ad K hb_b) (rP.cpy hFc_169 hFc_170 (fun _ _ h => h)) (fun fc_171 gc_171 H locs hFc_171 hgc_171 hfc_171 hWc_171 hP hS => ?_)
        have hg_173 := (hfc_171 d (by omega)).trans hg_154
        have hg_174 := (hfc_171 b (by omega)).trans hg_155
        have hg_175 := (hfc_171 (d + 3) (by omega)).trans hg_156
        have hg_176 := (hfc_171 (b + 3) (by omega)).trans hg_157
        have hg_177 := (hfc_171 (d + 4) (by omega)).trans hg_158
        have hg_178 := (hfc_171 (b + 4) (by omega)).trans hg_159
        have hg_179 := (hfc_171 (d + 5) (by omega)).trans hg_160
        have hg_180 := (hfc_171 (b + 5) (by omega)).trans hg_161
        have hg_181 := (hfc_171 (d + 6) (by omega)).trans hg_162
        have hg_182 := (hfc_171 (b + 6) (by omega)).trans hg_163
        have hg_183 := (hfc_171 (d + 7) (by omega)).trans hg_164
        have hg_184 := (hfc_171 (b + 7) (by omega)).trans hg_165
        have hg_185 := (hfc_171 (d + 8) (by omega)).trans hg_166
        have hg_186 := (hfc_171 (b + 8) (by omega)).trans hgc_152
        have hg_187 := (hfc_171 (d + 9) (by omega)).trans hgc_169
        have hfr_172 : ∀ j, (j < b ∨ b + 20 ≤ j) → gc_171 j = g j := fun j hj => (hfc_171 j (by omega)).trans (hfr_153 j hj)
        refine lv_aload_n hx hb dX6_copyFrom_209 rfl (lv_at hl 1 rfl) ?_
        have hk_188 := hOc_83.ref 17 rfl
        refine q_get X iX6_copyFrom_6 hP (by omega) hg_174 rfl 17 (by decide) (List.mem_of_getElem? (i := 22) rfl) (v := .ref (ad (b + 10))) hk_188 dX6_copyFrom_210 ?_
        refine lv_aload_n hx hb dX6_copyFrom_213 rfl (lv_at hl 2 rfl) ?_
        have hk_189 := hOc_81.ref 17 rfl
        refine q_get X iX6_copyFrom_6 hP (by omega) hg_173 rfl 17 (by decide) (List.mem_of_getElem? (i := 22) rfl) (v := .ref (ad (d + 10))) hk_189 dX6_copyFrom_214 ?_
        obtain ⟨fsc_193, hgc_193, hOc_193⟩ := hWc_171.obj (i := (b + 10)) (by omega) (shS_10 ad K hb_b)
        refine s_callv (q := (RX0, TX0, 5)) (As := [.ref (ad (d + 10))]) (rest := []) X Z (s_X0_copyFrom l D cs ad kS K hKO hj gc_171 hWc_171 b d (by omega) (by omega) (by omega)) (cwV 1 X.2.2.2.2.1 gg_X6_copyFrom_X0_copyFrom rfl rfl rfl (by decide +kernel) ⟨Nat.le_of_ble_eq_true rfl, Nat.le_of_ble_eq_true rfl⟩) (by omega) hgc_193 rfl hP hA hS.2.1 hS rfl hl.1 rfl (Nat.le_of_ble_eq_true rfl) dX6_copyFrom_217 ⟨Nat.le_of_ble_eq_true rfl, Nat.le_of_ble_eq_true rfl⟩ (fun g_191 H locs hw_190 hP hS => ?_)
        obtain ⟨hw_190W, hw_190f⟩ := hw_190
        have hfr_194 : ∀ j, (j < b ∨ b + 20 ≤ j) → g_191 j = g j := fun j hj => (hw_190f j (by omega)).trans (hfr_172 j hj)
        have hg_195 := (hw_190f d (by omega)).trans hg_173
        have hg_196 := (hw_190f b (by omega)).trans hg_174
        have hg_197 := (hw_190f (d + 3) (by omega)).trans hg_175
        have hg_198 := (hw_190f (b + 3) (by omega)).trans hg_176
        have hg_199 := (hw_190f (d + 4) (by omega)).trans hg_177
        have hg_200 := (hw_190f (b + 4) (by omega)).trans hg_178
        have hg_201 := (hw_190f (d + 5) (by omega)).trans hg_179
        have hg_202 := (hw_190f (b + 5) (by omega)).trans hg_180
        have hg_203 := (hw_190f (d + 6) (by omega)).trans hg_181
        have hg_204 := (hw_190f (b + 6) (by omega)).trans hg_182
        have hg_205 := (hw_190f (d + 7) (by omega)).trans hg_183
        have hg_206 := (hw_190f (b + 7) (by omega)).trans hg_184
        have hg_207 := (hw_190f (d + 8) (by omega)).trans hg_185
        have hg_208 := (hw_190f (b + 8) (by omega)).trans hg_186
        have hg_209 := (hw_190f (d + 9) (by omega)).trans hg_187
        have hg_210 := (hw_190f (b + 9) (by omega)).trans hgc_171
        exact q_vret X hP hS ⟨hw_190W, hfr_194⟩ dX6_copyFrom_220
      · have hhc_80 := n_nle (by decide : (14 : Int32).toInt = 14) (rfl : v81_2.toInt = v81_2.toInt) hc_80
        refine lv_aload_n hx hb dX6_copyFrom_87 rfl (lv_at hl 1 rfl) ?_
        obtain ⟨fsc_211, hgc_211, hOc_211⟩ := hW81.obj (i := b) (by omega) (shS_0 ad K hb_b)
        have hk_212 := hOc_211.ref 9 rfl
        refine q_get X iX6_copyFrom_6 hP (by omega) hgc_211 rfl 9 (by decide) (List.mem_of_getElem? (i := 14) rfl) (v := .ref (ad (b + 2))) hk_212 dX6_copyFrom_88 ?_
        refine lv_iload_n hx hb dX6_copyFrom_91 rfl (lv_at hl 0 rfl) ?_
        refine lv_aload_n hx hb dX6_copyFrom_92 rfl (lv_at hl 2 rfl) ?_
        obtain ⟨fsc_213, hgc_213, hOc_213⟩ := hW81.obj (i := d) (by omega) (shS_0 ad K hb_d)
        have hk_214 := hOc_213.ref 9 rfl
        refine q_get X iX6_copyFrom_6 hP (by omega) hgc_213 rfl 9 (by decide) (List.mem_of_getElem? (i := 14) rfl) (v := .ref (ad (d + 2))) hk_214 dX6_copyFrom_93 ?_
        refine lv_iload_n hx hb dX6_copyFrom_96 rfl (lv_at hl 0 rfl) ?_
        obtain ⟨fc_215, hgc_215, hFc_215⟩ := hW81.arr (i := (d + 2)) (by omega) (shS_2 ad K hb_d)
        refine q_zald X hP (by omega) hgc_215 (n_in (rfl : v81_2.toInt = v81_2.toInt) (by omega) (by omega)) dX6_copyFrom_97 ?_
        refine lv_topi (fun z_216 ez_216 => ?_)
        obtain ⟨fc_217, hgc_217, hFc_217⟩ := hW81.arr (i := (b + 2)) (by omega) (shS_2 ad K hb_b)
        refine s_zast X hP hj hA hS (by omega) hgc_217 (n_in (rfl : v81_2.toInt = v81_2.toInt) (by omega) (by omega)) dX6_copyFrom_98 hW81 (shS_2 ad K hb_b) (hFc_217.put trivial) (fun fc_218 gc_218 H locs ec_218 hFc_218 hgc_218 hfc_218 hWc_218 hP hS => ?_)
        have hg_220 := (hfc_218 b (by omega)).trans hgc_211
        have hg_221 := (hfc_218 d (by omega)).trans hgc_213
        have hg_222 := (hfc_218 (d + 2) (by omega)).trans hgc_215
        have hfr_219 : ∀ j, (j < b ∨ b + 20 ≤ j) → gc_218 j = g j := fun j hj => (hfc_218 j (by omega)).trans (hfr81 j hj)
        obtain ⟨x_223, ex_223⟩ : ∃ y : Int32, y = v81_2 + 1 := ⟨_, rfl⟩
        have hx_223 : x_223.toInt = v81_2.toInt + 1 := n_add rfl (by decide : (1 : Int32).toInt = 1) ex_223 (by omega) (by omega)
        refine lv_iinc (v := x_223) (lv' := [(2, .int x_223), (0, .ref (ad b)), (1, .ref (ad d))]) hx hb dX6_copyFrom_99 hl (k := 0) rfl (by rw [ex_223]; rfl) (by decide) rfl (fun ls hl => ?_)
        refine lv_goto (tgt := 81) hx hb dX6_copyFrom_102 (by decide) ?_
        exact ih81 x_223 gc_218 _ _ ls (by omega) (by omega) hWc_218 hfr_219 hP hS (lv_sub hl [0, 1, 2] rfl)
  have hiv81_2 : (0 : Int32).toInt = 0 := by decide
  exact HL81 _ 0 gc_75 _ _ ls (Nat.lt_succ_self _) (by omega) hWc_75 hfr_76 hP hS (lv_sub hl [0, 1, 2] rfl)

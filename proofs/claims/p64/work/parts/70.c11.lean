theorem dX8_planFrom_0 : decode cX8_planFrom 0 = .ok (.aload_n 0, 1) := by decide +kernel
theorem dX8_planFrom_1 : decode cX8_planFrom 1 = .ok (.getfield 16, 3) := by decide +kernel
theorem dX8_planFrom_4 : decode cX8_planFrom 4 = .ok (.iload_n 1, 1) := by decide +kernel
theorem dX8_planFrom_5 : decode cX8_planFrom 5 = .ok (.aaload, 1) := by decide +kernel
theorem dX8_planFrom_6 : decode cX8_planFrom 6 = .ok (.iload_n 2, 1) := by decide +kernel
theorem dX8_planFrom_7 : decode cX8_planFrom 7 = .ok (.aload_n 0, 1) := by decide +kernel
theorem dX8_planFrom_8 : decode cX8_planFrom 8 = .ok (.getfield 11, 3) := by decide +kernel
theorem dX8_planFrom_11 : decode cX8_planFrom 11 = .ok (.iload_n 1, 1) := by decide +kernel
theorem dX8_planFrom_12 : decode cX8_planFrom 12 = .ok (.aaload, 1) := by decide +kernel
theorem dX8_planFrom_13 : decode cX8_planFrom 13 = .ok (.iload_n 2, 1) := by decide +kernel
theorem dX8_planFrom_14 : decode cX8_planFrom 14 = .ok (.iaload, 1) := by decide +kernel
theorem dX8_planFrom_15 : decode cX8_planFrom 15 = .ok (.iastore, 1) := by decide +kernel
theorem dX8_planFrom_16 : decode cX8_planFrom 16 = .ok (.aload_n 0, 1) := by decide +kernel
theorem dX8_planFrom_17 : decode cX8_planFrom 17 = .ok (.getfield 19, 3) := by decide +kernel
theorem dX8_planFrom_20 : decode cX8_planFrom 20 = .ok (.iload_n 1, 1) := by decide +kernel
theorem dX8_planFrom_21 : decode cX8_planFrom 21 = .ok (.aaload, 1) := by decide +kernel
theorem dX8_planFrom_22 : decode cX8_planFrom 22 = .ok (.iload_n 2, 1) := by decide +kernel
theorem dX8_planFrom_23 : decode cX8_planFrom 23 = .ok (.iconst 1, 1) := by decide +kernel
theorem dX8_planFrom_24 : decode cX8_planFrom 24 = .ok (.iastore, 1) := by decide +kernel
theorem dX8_planFrom_25 : decode cX8_planFrom 25 = .ok (.iload_n 1, 1) := by decide +kernel
theorem dX8_planFrom_26 : decode cX8_planFrom 26 = .ok (.iconst 1, 1) := by decide +kernel
theorem dX8_planFrom_27 : decode cX8_planFrom 27 = .ok (.iadd, 1) := by decide +kernel
theorem dX8_planFrom_28 : decode cX8_planFrom 28 = .ok (.aload_n 0, 1) := by decide +kernel
theorem dX8_planFrom_29 : decode cX8_planFrom 29 = .ok (.getfield 28, 3) := by decide +kernel
theorem dX8_planFrom_32 : decode cX8_planFrom 32 = .ok (.if_icmp .lt 4, 3) := by decide +kernel
theorem dX8_planFrom_35 : decode cX8_planFrom 35 = .ok (.return_, 1) := by decide +kernel
theorem dX8_planFrom_36 : decode cX8_planFrom 36 = .ok (.iconst 0, 1) := by decide +kernel
theorem dX8_planFrom_37 : decode cX8_planFrom 37 = .ok (.iload_n 2, 1) := by decide +kernel
theorem dX8_planFrom_38 : decode cX8_planFrom 38 = .ok (.iconst 1, 1) := by decide +kernel
theorem dX8_planFrom_39 : decode cX8_planFrom 39 = .ok (.isub, 1) := by decide +kernel
theorem dX8_planFrom_40 : decode cX8_planFrom 40 = .ok (.invokestatic 52, 3) := by decide +kernel
theorem dX8_planFrom_43 : decode cX8_planFrom 43 = .ok (.istore_n 3, 1) := by decide +kernel
theorem dX8_planFrom_44 : decode cX8_planFrom 44 = .ok (.aload_n 0, 1) := by decide +kernel
theorem dX8_planFrom_45 : decode cX8_planFrom 45 = .ok (.getfield 32, 3) := by decide +kernel
theorem dX8_planFrom_48 : decode cX8_planFrom 48 = .ok (.iconst 1, 1) := by decide +kernel
theorem dX8_planFrom_49 : decode cX8_planFrom 49 = .ok (.isub, 1) := by decide +kernel
theorem dX8_planFrom_50 : decode cX8_planFrom 50 = .ok (.iload_n 2, 1) := by decide +kernel
theorem dX8_planFrom_51 : decode cX8_planFrom 51 = .ok (.iconst 1, 1) := by decide +kernel
theorem dX8_planFrom_52 : decode cX8_planFrom 52 = .ok (.iadd, 1) := by decide +kernel
theorem dX8_planFrom_53 : decode cX8_planFrom 53 = .ok (.invokestatic 46, 3) := by decide +kernel
theorem dX8_planFrom_56 : decode cX8_planFrom 56 = .ok (.istore 4, 2) := by decide +kernel
theorem dX8_planFrom_58 : decode cX8_planFrom 58 = .ok (.aload_n 0, 1) := by decide +kernel
theorem dX8_planFrom_59 : decode cX8_planFrom 59 = .ok (.getfield 16, 3) := by decide +kernel
theorem dX8_planFrom_62 : decode cX8_planFrom 62 = .ok (.iload_n 1, 1) := by decide +kernel
theorem dX8_planFrom_63 : decode cX8_planFrom 63 = .ok (.iconst 1, 1) := by decide +kernel
theorem dX8_planFrom_64 : decode cX8_planFrom 64 = .ok (.iadd, 1) := by decide +kernel
theorem dX8_planFrom_65 : decode cX8_planFrom 65 = .ok (.aaload, 1) := by decide +kernel
theorem dX8_planFrom_66 : decode cX8_planFrom 66 = .ok (.iload_n 2, 1) := by decide +kernel
theorem dX8_planFrom_67 : decode cX8_planFrom 67 = .ok (.iaload, 1) := by decide +kernel
theorem dX8_planFrom_68 : decode cX8_planFrom 68 = .ok (.istore 5, 2) := by decide +kernel
theorem dX8_planFrom_70 : decode cX8_planFrom 70 = .ok (.iload_n 3, 1) := by decide +kernel
theorem dX8_planFrom_71 : decode cX8_planFrom 71 = .ok (.istore 6, 2) := by decide +kernel
theorem dX8_planFrom_73 : decode cX8_planFrom 73 = .ok (.iload 6, 2) := by decide +kernel
theorem dX8_planFrom_75 : decode cX8_planFrom 75 = .ok (.iload 4, 2) := by decide +kernel
theorem dX8_planFrom_77 : decode cX8_planFrom 77 = .ok (.if_icmp .gt 27, 3) := by decide +kernel
theorem dX8_planFrom_80 : decode cX8_planFrom 80 = .ok (.iload 5, 2) := by decide +kernel
theorem dX8_planFrom_82 : decode cX8_planFrom 82 = .ok (.aload_n 0, 1) := by decide +kernel
theorem dX8_planFrom_83 : decode cX8_planFrom 83 = .ok (.getfield 16, 3) := by decide +kernel
theorem dX8_planFrom_86 : decode cX8_planFrom 86 = .ok (.iload_n 1, 1) := by decide +kernel
theorem dX8_planFrom_87 : decode cX8_planFrom 87 = .ok (.iconst 1, 1) := by decide +kernel
theorem dX8_planFrom_88 : decode cX8_planFrom 88 = .ok (.iadd, 1) := by decide +kernel
theorem dX8_planFrom_89 : decode cX8_planFrom 89 = .ok (.aaload, 1) := by decide +kernel
theorem dX8_planFrom_90 : decode cX8_planFrom 90 = .ok (.iload 6, 2) := by decide +kernel
theorem dX8_planFrom_92 : decode cX8_planFrom 92 = .ok (.iaload, 1) := by decide +kernel
theorem dX8_planFrom_93 : decode cX8_planFrom 93 = .ok (.invokestatic 46, 3) := by decide +kernel
theorem dX8_planFrom_96 : decode cX8_planFrom 96 = .ok (.istore 5, 2) := by decide +kernel
theorem dX8_planFrom_98 : decode cX8_planFrom 98 = .ok (.iinc 6 1, 3) := by decide +kernel
theorem dX8_planFrom_101 : decode cX8_planFrom 101 = .ok (.goto (-28), 3) := by decide +kernel
theorem dX8_planFrom_104 : decode cX8_planFrom 104 = .ok (.iconst 0, 1) := by decide +kernel
theorem dX8_planFrom_105 : decode cX8_planFrom 105 = .ok (.istore 6, 2) := by decide +kernel
theorem dX8_planFrom_107 : decode cX8_planFrom 107 = .ok (.iload_n 3, 1) := by decide +kernel
theorem dX8_planFrom_108 : decode cX8_planFrom 108 = .ok (.istore 7, 2) := by decide +kernel
theorem dX8_planFrom_110 : decode cX8_planFrom 110 = .ok (.iload 7, 2) := by decide +kernel
theorem dX8_planFrom_112 : decode cX8_planFrom 112 = .ok (.iload 4, 2) := by decide +kernel
theorem dX8_planFrom_114 : decode cX8_planFrom 114 = .ok (.if_icmp .gt 41, 3) := by decide +kernel
theorem dX8_planFrom_117 : decode cX8_planFrom 117 = .ok (.aload_n 0, 1) := by decide +kernel
theorem dX8_planFrom_118 : decode cX8_planFrom 118 = .ok (.getfield 16, 3) := by decide +kernel
theorem dX8_planFrom_121 : decode cX8_planFrom 121 = .ok (.iload_n 1, 1) := by decide +kernel
theorem dX8_planFrom_122 : decode cX8_planFrom 122 = .ok (.iconst 1, 1) := by decide +kernel
theorem dX8_planFrom_123 : decode cX8_planFrom 123 = .ok (.iadd, 1) := by decide +kernel
theorem dX8_planFrom_124 : decode cX8_planFrom 124 = .ok (.aaload, 1) := by decide +kernel
theorem dX8_planFrom_125 : decode cX8_planFrom 125 = .ok (.iload 7, 2) := by decide +kernel
theorem dX8_planFrom_127 : decode cX8_planFrom 127 = .ok (.iaload, 1) := by decide +kernel
theorem dX8_planFrom_128 : decode cX8_planFrom 128 = .ok (.iload 5, 2) := by decide +kernel
theorem dX8_planFrom_130 : decode cX8_planFrom 130 = .ok (.if_icmp .ne 19, 3) := by decide +kernel
theorem dX8_planFrom_133 : decode cX8_planFrom 133 = .ok (.iload 6, 2) := by decide +kernel
theorem dX8_planFrom_135 : decode cX8_planFrom 135 = .ok (.aload_n 0, 1) := by decide +kernel
theorem dX8_planFrom_136 : decode cX8_planFrom 136 = .ok (.getfield 19, 3) := by decide +kernel
theorem dX8_planFrom_139 : decode cX8_planFrom 139 = .ok (.iload_n 1, 1) := by decide +kernel
theorem dX8_planFrom_140 : decode cX8_planFrom 140 = .ok (.iconst 1, 1) := by decide +kernel
theorem dX8_planFrom_141 : decode cX8_planFrom 141 = .ok (.iadd, 1) := by decide +kernel
theorem dX8_planFrom_142 : decode cX8_planFrom 142 = .ok (.aaload, 1) := by decide +kernel
theorem dX8_planFrom_143 : decode cX8_planFrom 143 = .ok (.iload 7, 2) := by decide +kernel
theorem dX8_planFrom_145 : decode cX8_planFrom 145 = .ok (.iaload, 1) := by decide +kernel
theorem dX8_planFrom_146 : decode cX8_planFrom 146 = .ok (.iadd, 1) := by decide +kernel
theorem dX8_planFrom_147 : decode cX8_planFrom 147 = .ok (.istore 6, 2) := by decide +kernel
theorem dX8_planFrom_149 : decode cX8_planFrom 149 = .ok (.iinc 7 1, 3) := by decide +kernel
theorem dX8_planFrom_152 : decode cX8_planFrom 152 = .ok (.goto (-42), 3) := by decide +kernel
theorem dX8_planFrom_155 : decode cX8_planFrom 155 = .ok (.aload_n 0, 1) := by decide +kernel
theorem dX8_planFrom_156 : decode cX8_planFrom 156 = .ok (.getfield 16, 3) := by decide +kernel
theorem dX8_planFrom_159 : decode cX8_planFrom 159 = .ok (.iload_n 1, 1) := by decide +kernel
theorem dX8_planFrom_160 : decode cX8_planFrom 160 = .ok (.aaload, 1) := by decide +kernel
theorem dX8_planFrom_161 : decode cX8_planFrom 161 = .ok (.iload_n 2, 1) := by decide +kernel
theorem dX8_planFrom_162 : decode cX8_planFrom 162 = .ok (.dup2, 1) := by decide +kernel
theorem dX8_planFrom_163 : decode cX8_planFrom 163 = .ok (.iaload, 1) := by decide +kernel
theorem dX8_planFrom_164 : decode cX8_planFrom 164 = .ok (.iload 5, 2) := by decide +kernel
theorem dX8_planFrom_166 : decode cX8_planFrom 166 = .ok (.iadd, 1) := by decide +kernel
theorem dX8_planFrom_167 : decode cX8_planFrom 167 = .ok (.iastore, 1) := by decide +kernel
theorem dX8_planFrom_168 : decode cX8_planFrom 168 = .ok (.aload_n 0, 1) := by decide +kernel
theorem dX8_planFrom_169 : decode cX8_planFrom 169 = .ok (.getfield 19, 3) := by decide +kernel
theorem dX8_planFrom_172 : decode cX8_planFrom 172 = .ok (.iload_n 1, 1) := by decide +kernel
theorem dX8_planFrom_173 : decode cX8_planFrom 173 = .ok (.aaload, 1) := by decide +kernel
theorem dX8_planFrom_174 : decode cX8_planFrom 174 = .ok (.iload_n 2, 1) := by decide +kernel
theorem dX8_planFrom_175 : decode cX8_planFrom 175 = .ok (.iload 6, 2) := by decide +kernel
theorem dX8_planFrom_177 : decode cX8_planFrom 177 = .ok (.iastore, 1) := by decide +kernel
theorem dX8_planFrom_178 : decode cX8_planFrom 178 = .ok (.return_, 1) := by decide +kernel
noncomputable def vX8_planFrom : List Cond := .code yX8_planFrom cX8_planFrom 8 none :: (([.fieldLink RX8 16 "IcicleClock$Walker" "least" "[[I", .fieldLink RX8 11 "IcicleClock$Walker" "struck" "[[I", .fieldLink RX8 19 "IcicleClock$Walker" "many" "[[I", .fieldLink RX8 28 "IcicleClock$Walker" "days" "I", .methodLink RX8 52 Lib.Math.max.name, .static Lib.Math.max.name, .initialized "java/lang/Math", .code Lib.Math.max.name Lib.Math.max.code 2 (some .int), .fieldLink RX8 32 "IcicleClock$Walker" "eaves" "I", .methodLink RX8 46 Lib.Math.min.name, .static Lib.Math.min.name, .code Lib.Math.min.name Lib.Math.min.code 2 (some .int)] : List Cond) ++ wsX80)
theorem iX8_planFrom_8 : ∀ w ∈ wsX80, w ∈ vX8_planFrom := fun _ h => List.mem_cons_of_mem _ (List.mem_append_right _ (h))
theorem gs_X8_planFrom : Gd vX8_planFrom := Gd.cons (by decide +kernel) (Gd.app (Gd.r (by decide +kernel)) gwX_8)
set_option maxHeartbeats 4000000 in
set_option maxRecDepth 100000 in
theorem s_X8_planFrom (l : Launch) (D : va_G) (cs : Nat → ClassId) (ad : Nat → Nat) (kS : kSt) (K : sK) (hKO : KO K) (hj : wJ ad 218) (g : Nat → va_E) (hW : WF (shp ad K) ad cs g) (dy : Int32) (ev : Int32) (hp0 : 0 ≤ dy.toInt ∧ dy.toInt ≤ 13) (hp1 : 0 ≤ ev.toInt ∧ ev.toInt ≤ 4) : sV l yX8_planFrom vX8_planFrom { frames := 1, cells := 0, slots := 0, locals := 13 } D cs ad kS [.ref (ad 144), .int dy, .int ev] g (fun g2 => WF (shp ad K) ad cs g2 ∧ (∀ j, (j < 161 ∨ 175 ≤ j) ∧ (j < 176 ∨ 190 ≤ j) → g2 j = g j)) := by
  refine Met.startS (cc := cX8_planFrom) (maxL := 8) (ret := none) RX8 rfl (by decide) rfl (Nat.le_of_ble_eq_true rfl) ?_
  intro p e s m below meth c ls X Z hP hl
  have hx := X.1
  have hb := X.2.1
  have hS : va_S (wA ad 218) s.heap s.heap [] := va_S.rf
  have hA : ∀ i, i < 218 → wA ad 218 (ad i) := fun i h => ⟨i, h, rfl⟩
  have hfr : ∀ j, (j < 161 ∨ 175 ≤ j) ∧ (j < 176 ∨ 190 ≤ j) → g j = g j := fun _ _ => rfl
  have hl : lv_has ls 8 [(0, .ref (ad 144)), (1, .int dy), (2, .int ev)] := hl
  refine lv_aload_n hx hb dX8_planFrom_0 rfl (lv_at hl 0 rfl) ?_
  obtain ⟨fsc_1, hgc_1, hOc_1⟩ := hW.obj (i := 144) (by decide) (sh_144 ad K)
  have hk_2 := hOc_1.ref 2 rfl
  refine q_get X iX8_planFrom_8 hP (by decide) hgc_1 rfl 2 (by decide) (List.mem_of_getElem? (i := 1) rfl) (v := .ref (ad 160)) hk_2 dX8_planFrom_1 ?_
  refine lv_iload_n hx hb dX8_planFrom_4 rfl (lv_at hl 1 rfl) ?_
  obtain ⟨fc_3, hgc_3, hFc_3⟩ := hW.aref (i := 160) (by decide) (sh_160 ad K)
  obtain ⟨e_4, h_e_4, e_e_4⟩ : ∃ q : Nat, q < 14 ∧ dy.toNatClampNeg = q := ⟨_, by have := n_cl (rfl : dy.toInt = dy.toInt) (by omega); omega, rfl⟩
  refine s_aald X hP 6 rfl rfl (by decide) hgc_3 (n_in (rfl : dy.toInt = dy.toInt) (by omega) (by omega)) (v := ad (161 + e_4)) (by rw [e_e_4, hFc_3 _ h_e_4, Nat.one_mul]) dX8_planFrom_5 ?_
  refine lv_iload_n hx hb dX8_planFrom_6 rfl (lv_at hl 2 rfl) ?_
  refine lv_aload_n hx hb dX8_planFrom_7 rfl (lv_at hl 0 rfl) ?_
  have hk_5 := hOc_1.ref 1 rfl
  refine q_get X iX8_planFrom_8 hP (by decide) hgc_1 rfl 1 (by decide) (List.mem_of_getElem? (i := 2) rfl) (v := .ref (ad 145)) hk_5 dX8_planFrom_8 ?_
  refine lv_iload_n hx hb dX8_planFrom_11 rfl (lv_at hl 1 rfl) ?_
  obtain ⟨fc_6, hgc_6, hFc_6⟩ := hW.aref (i := 145) (by decide) (sh_145 ad K)
  obtain ⟨e_7, h_e_7, e_e_7⟩ : ∃ q : Nat, q < 14 ∧ dy.toNatClampNeg = q := ⟨_, by have := n_cl (rfl : dy.toInt = dy.toInt) (by omega); omega, rfl⟩
  refine s_aald X hP 6 rfl rfl (by decide) hgc_6 (n_in (rfl : dy.toInt = dy.toInt) (by omega) (by omega)) (v := ad (146 + e_7)) (by rw [e_e_7, hFc_6 _ h_e_7, Nat.one_mul]) dX8_planFrom_12 ?_
  refine lv_iload_n hx hb dX8_planFrom_13 rfl (lv_at hl 2 rfl) ?_
  obtain ⟨fc_8, hgc_8, hFc_8⟩ := hW.arr (i := (146 + e_7)) (by omega) (shR_146 ad K h_e_7)
  refine q_iald X hP (by omega) hgc_8 (n_in (rfl : ev.toInt = ev.toInt) (by omega) (by omega)) dX8_planFrom_14 ?_
  refine lv_topi (fun z_9 ez_9 => ?_)
  obtain ⟨fc_10, hgc_10, hFc_10⟩ := hW.arr (i := (161 + e_4)) (by omega) (shR_161 ad K h_e_4)
  refine s_iast X hP hj hA hS (by omega) hgc_10 (n_in (rfl : ev.toInt = ev.toInt) (by omega) (by omega)) dX8_planFrom_15 hW (shR_161 ad K h_e_4) (hFc_10.put trivial) (fun fc_11 gc_11 H locs ec_11 hFc_11 hgc_11 hfc_11 hWc_11 hP hS => ?_)
  have hg_13 := (hfc_11 144 (by omega)).trans hgc_1
  have hg_14 := (hfc_11 160 (by omega)).trans hgc_3
  have hg_15 := (hfc_11 145 (by omega)).trans hgc_6
  have hg_16 := (hfc_11 (146 + e_7) (by omega)).trans hgc_8
  have hfr_12 : ∀ j, (j < 161 ∨ 175 ≤ j) ∧ (j < 176 ∨ 190 ≤ j) → gc_11 j = g j := fun j hj => (hfc_11 j (by omega)).trans (hfr j hj)
  refine lv_aload_n hx hb dX8_planFrom_16 rfl (lv_at hl 0 rfl) ?_
  have hk_17 := hOc_1.ref 3 rfl
  refine q_get X iX8_planFrom_8 hP (by decide) hg_13 rfl 3 (by decide) (List.mem_of_getElem? (i := 3) rfl) (v := .ref (ad 175)) hk_17 dX8_planFrom_17 ?_
  refine lv_iload_n hx hb dX8_planFrom_20 rfl (lv_at hl 1 rfl) ?_
  obtain ⟨fc_18, hgc_18, hFc_18⟩ := hWc_11.aref (i := 175) (by decide) (sh_175 ad K)
  obtain ⟨e_19, h_e_19, e_e_19⟩ : ∃ q : Nat, q < 14 ∧ dy.toNatClampNeg = q := ⟨_, by have := n_cl (rfl : dy.toInt = dy.toInt) (by omega); omega, rfl⟩
  refine s_aald X hP 6 rfl rfl (by decide) hgc_18 (n_in (rfl : dy.toInt = dy.toInt) (by omega) (by omega)) (v := ad (176 + e_19)) (by rw [e_e_19, hFc_18 _ h_e_19, Nat.one_mul]) dX8_planFrom_21 ?_
  refine lv_iload_n hx hb dX8_planFrom_22 rfl (lv_at hl 2 rfl) ?_
  refine lv_iconst (v := 1) hx hb dX8_planFrom_23 (by decide) ?_
  obtain ⟨fc_20, hgc_20, hFc_20⟩ := hWc_11.arr (i := (176 + e_19)) (by omega) (shR_176 ad K h_e_19)
  refine s_iast X hP hj hA hS (by omega) hgc_20 (n_in (rfl : ev.toInt = ev.toInt) (by omega) (by omega)) dX8_planFrom_24 hWc_11 (shR_176 ad K h_e_19) (hFc_20.put trivial) (fun fc_21 gc_21 H locs ec_21 hFc_21 hgc_21 hfc_21 hWc_21 hP hS => ?_)
  have hg_23 := (hfc_21 144 (by omega)).trans hg_13
  have hg_24 := (hfc_21 160 (by omega)).trans hg_14
  have hg_25 := (hfc_21 145 (by omega)).trans hg_15
  have hg_26 := (hfc_21 (146 + e_7) (by omega)).trans hg_16
  have hg_27 := (hfc_21 (161 + e_4) (by omega)).trans hgc_11
  have hg_28 := (hfc_21 175 (by omega)).trans hgc_18
  have hfr_22 : ∀ j, (j < 161 ∨ 175 ≤ j) ∧ (j < 176 ∨ 190 ≤ j) → gc_21 j = g j := fun j hj => (hfc_21 j (by omega)).trans (hfr_12 j hj)
  refine lv_iload_n hx hb dX8_planFrom_25 rfl (lv_at hl 1 rfl) ?_
  refine lv_iconst (v := 1) hx hb dX8_planFrom_26 (by decide) ?_
  refine lv_iadd hx hb dX8_planFrom_27 ?_
  refine lv_topi (fun z_29 ez_29 => ?_)
  have hz_29 : z_29.toInt = dy.toInt + 1 := n_add (rfl : dy.toInt = dy.toInt) (by decide : (1 : Int32).toInt = 1) ez_29 (by omega) (by omega)
  refine lv_aload_n hx hb dX8_planFrom_28 rfl (lv_at hl 0 rfl) ?_
  obtain ⟨x_31, hk_30, hlx_31, hhx_31⟩ := hOc_1.int 4 rfl
  refine q_get X iX8_planFrom_8 hP (by decide) hg_23 rfl 4 (by decide) (List.mem_of_getElem? (i := 4) rfl) (v := .int x_31) hk_30 dX8_planFrom_29 ?_
  refine lv_icmp_lt (tgt := 36) hx hb dX8_planFrom_32 (by decide) (fun hc_32 => ?_) (fun hc_32 => ?_)
  · have hhc_32 := n_lt (rfl : z_29.toInt = z_29.toInt) (rfl : x_31.toInt = x_31.toInt) hc_32
    refine lv_iconst (v := 0) hx hb dX8_planFrom_36 (by decide) ?_
    refine lv_iload_n hx hb dX8_planFrom_37 rfl (lv_at hl 2 rfl) ?_
    refine lv_iconst (v := 1) hx hb dX8_planFrom_38 (by decide) ?_
    refine lv_isub hx hb dX8_planFrom_39 ?_
    refine lv_topi (fun z_33 ez_33 => ?_)
    have hz_33 : z_33.toInt = ev.toInt - 1 := n_sub (rfl : ev.toInt = ev.toInt) (by decide : (1 : Int32).toInt = 1) ez_33 (by omega) (by omega)
    refine va_mmax hx hb (X.2.2.2.1.trans hl.1.symm) X.2.2.2.2.2.1 (X.2.2.2.2.1 _ (List.mem_of_getElem? (i := 5) rfl)) (X.2.2.2.2.1 _ (List.mem_of_getElem? (i := 6) rfl)) (X.2.2.2.2.1 _ (List.mem_of_getElem? (i := 7) rfl)) (X.2.2.2.2.1 _ (List.mem_of_getElem? (i := 8) rfl)) (Nat.le_of_ble_eq_true rfl) (Nat.le_of_ble_eq_true rfl) (Nat.le_of_ble_eq_true rfl) (Nat.le_of_ble_eq_true rfl) dX8_planFrom_40 ?_
    refine lv_topi (fun z_34 ez_34 => ?_)
    have hz_34 := n_max (by decide : (0 : Int32).toInt = 0) (rfl : z_33.toInt = z_33.toInt) ez_34
    refine lv_istore_n (lv' := [(3, .int z_34), (0, .ref (ad 144)), (1, .int dy), (2, .int ev)]) hx hb dX8_planFrom_43 rfl hl (by decide) rfl (fun ls hl => ?_)
    refine lv_aload_n hx hb dX8_planFrom_44 rfl (lv_at hl 1 rfl) ?_
    obtain ⟨x_36, hk_35, hlx_36, hhx_36⟩ := hOc_1.int 5 rfl
    refine q_get X iX8_planFrom_8 hP (by decide) hg_23 rfl 5 (by decide) (List.mem_of_getElem? (i := 9) rfl) (v := .int x_36) hk_35 dX8_planFrom_45 ?_
    refine lv_iconst (v := 1) hx hb dX8_planFrom_48 (by decide) ?_
    refine lv_isub hx hb dX8_planFrom_49 ?_
    refine lv_topi (fun z_37 ez_37 => ?_)
    have hz_37 : z_37.toInt = x_36.toInt - 1 := n_sub (rfl : x_36.toInt = x_36.toInt) (by decide : (1 : Int32).toInt = 1) ez_37 (by omega) (by omega)
    refine lv_iload_n hx hb dX8_planFrom_50 rfl (lv_at hl 3 rfl) ?_
    refine lv_iconst (v := 1) hx hb dX8_planFrom_51 (by decide) ?_
    refine lv_iadd hx hb dX8_planFrom_52 ?_
    refine lv_topi (fun z_38 ez_38 => ?_)
    have hz_38 : z_38.toInt = ev.toInt + 1 := n_add (rfl : ev.toInt = ev.toInt) (by decide : (1 : Int32).toInt = 1) ez_38 (by omega) (by omega)
    refine va_mmin hx hb (X.2.2.2.1.trans hl.1.symm) X.2.2.2.2.2.1 (X.2.2.2.2.1 _ (List.mem_of_getElem? (i := 10) rfl)) (X.2.2.2.2.1 _ (List.mem_of_getElem? (i := 11) rfl)) (X.2.2.2.2.1 _ (List.mem_of_getElem? (i := 7) rfl)) (X.2.2.2.2.1 _ (List.mem_of_getElem? (i := 12) rfl)) (Nat.le_of_ble_eq_true rfl) (Nat.le_of_ble_eq_true rfl) (Nat.le_of_ble_eq_true rfl) (Nat.le_of_ble_eq_true rfl) dX8_planFrom_53 ?_
    refine lv_topi (fun z_39 ez_39 => ?_)
    have hz_39 := n_min (rfl : z_37.toInt = z_37.toInt) (rfl : z_38.toInt = z_38.toInt) ez_39
    refine lv_istore (lv' := [(4, .int z_39), (3, .int z_34), (0, .ref (ad 144)), (1, .int dy), (2, .int ev)]) hx hb dX8_planFrom_56 hl (by decide) rfl (fun ls hl => ?_)
    refine lv_aload_n hx hb dX8_planFrom_58 rfl (lv_at hl 2 rfl) ?_
    refine q_get X iX8_planFrom_8 hP (by decide) hg_23 rfl 2 (by decide) (List.mem_of_getElem? (i := 1) rfl) (v := .ref (ad 160)) hk_2 dX8_planFrom_59 ?_
    refine lv_iload_n hx hb dX8_planFrom_62 rfl (lv_at hl 3 rfl) ?_
    refine lv_iconst (v := 1) hx hb dX8_planFrom_63 (by decide) ?_
    refine lv_iadd hx hb dX8_planFrom_64 ?_
    refine lv_topi (fun z_40 ez_40 => ?_)
    have hz_40 : z_40.toInt = dy.toInt + 1 := n_add (rfl : dy.toInt = dy.toInt) (by decide : (1 : Int32).toInt = 1) ez_40 (by omega) (by omega)
    obtain ⟨e_41, h_e_41, e_e_41⟩ : ∃ q : Nat, q < 14 ∧ z_40.toNatClampNeg = q := ⟨_, by have := n_cl (rfl : z_40.toInt = z_40.toInt) (by omega); omega, rfl⟩
    refine s_aald X hP 6 rfl rfl (by decide) hg_24 (n_in (rfl : z_40.toInt = z_40.toInt) (by omega) (by omega)) (v := ad (161 + e_41)) (by rw [e_e_41, hFc_3 _ h_e_41, Nat.one_mul]) dX8_planFrom_65 ?_
    refine lv_iload_n hx hb dX8_planFrom_66 rfl (lv_at hl 4 rfl) ?_
    obtain ⟨fc_42, hgc_42, hFc_42⟩ := hWc_21.arr (i := (161 + e_41)) (by omega) (shR_161 ad K h_e_41)
    refine q_iald X hP (by omega) hgc_42 (n_in (rfl : ev.toInt = ev.toInt) (by omega) (by omega)) dX8_planFrom_67 ?_
    refine lv_topi (fun z_43 ez_43 => ?_)
    refine lv_istore (lv' := [(5, .int z_43), (4, .int z_39), (3, .int z_34), (0, .ref (ad 144)), (1, .int dy), (2, .int ev)]) hx hb dX8_planFrom_68 hl (by decide) rfl (fun ls hl => ?_)
    refine lv_iload_n hx hb dX8_planFrom_70 rfl (lv_at hl 2 rfl) ?_
    refine lv_istore (lv' := [(6, .int z_34), (5, .int z_43), (4, .int z_39), (3, .int z_34), (0, .ref (ad 144)), (1, .int dy), (2, .int ev)]) hx hb dX8_planFrom_71 hl (by decide) rfl (fun ls hl => ?_)
    have HL73 : ∀ (n73 : Nat) (v73_6 : Int32) (v73_5 : Int32) (G73 : Nat → va_E) (H : Heap) (locs : List Loc) (ls : Array Slot), (5 - v73_6.toInt).toNat < n73 → (0 ≤ v73_6.toInt ∧ v73_6.toInt ≤ 5) → WF (shp ad K) ad cs G73 → (∀ j, (j < 161 ∨ 175 ≤ j) ∧ (j < 176 ∨ 190 ≤ j) → G73 j = g j) → va_P D vwCl (wL ad G73 218) H → va_S (wA ad 218) s.heap H locs → lv_has ls 8 [(6, .int v73_6), (5, .int v73_5), (4, .int z_39), (3, .int z_34), (0, .ref (ad 144)), (1, .int dy), (2, .int ev)] → W p l e ({ frames := 1, cells := 0, slots := 0, locals := 13 } : Room) s m ([.ref (ad 144), .int dy, .int ev] : List Value).toArray below meth c H locs 0 0 (MQ below (qV D ad 218 (fun g2 => WF (shp ad K) ad cs g2 ∧ (∀ j, (j < 161 ∨ 175 ≤ j) ∧ (j < 176 ∨ 190 ≤ j) → g2 j = g j))) ([.ref (ad 144), .int dy, .int ev] : List Value).toArray s 0 0 (wA ad 218)) (F0 m 73 ls []) := by
      intro n73
      induction n73 with
      | zero =>
        intro v73_6 v73_5 G73 H locs ls hm73 hv73_0 hW73 hfr73 hP hS hl
        exact absurd hm73 (Nat.not_lt_zero _)
      | succ n73 ih73 =>
        intro v73_6 v73_5 G73 H locs ls hm73 hv73_0 hW73 hfr73 hP hS hl
        refine lv_iload hx hb dX8_planFrom_73 (lv_at hl 0 rfl) ?_
        refine lv_iload hx hb dX8_planFrom_75 (lv_at hl 2 rfl) ?_
        refine lv_icmp_gt (tgt := 104) hx hb dX8_planFrom_77 (by decide) (fun hc_44 => ?_) (fun hc_44 => ?_)
        · have hhc_44 := n_lt (rfl : z_39.toInt = z_39.toInt) (rfl : v73_6.toInt = v73_6.toInt) hc_44
          refine lv_iconst (v := 0) hx hb dX8_planFrom_104 (by decide) ?_
          refine lv_istore (lv' := [(6, .int 0), (5, .int v73_5), (4, .int z_39), (3, .int z_34), (0, .ref (ad 144)), (1, .int dy), (2, .int ev)]) hx hb dX8_planFrom_105 hl (by decide) rfl (fun ls hl => ?_)
          refine lv_iload_n hx hb dX8_planFrom_107 rfl (lv_at hl 3 rfl) ?_
          refine lv_istore (lv' := [(7, .int z_34), (6, .int 0), (5, .int v73_5), (4, .int z_39), (3, .int z_34), (0, .ref (ad 144)), (1, .int dy), (2, .int ev)]) hx hb dX8_planFrom_108 hl (by decide) rfl (fun ls hl => ?_)
          have HL110 : ∀ (n110 : Nat) (v110_7 : Int32) (v110_6 : Int32) (G110 : Nat → va_E) (H : Heap) (locs : List Loc) (ls : Array Slot), (5 - v110_7.toInt).toNat < n110 → (0 ≤ v110_7.toInt ∧ v110_7.toInt ≤ 5) → WF (shp ad K) ad cs G110 → (∀ j, (j < 161 ∨ 175 ≤ j) ∧ (j < 176 ∨ 190 ≤ j) → G110 j = g j) → va_P D vwCl (wL ad G110 218) H → va_S (wA ad 218) s.heap H locs → lv_has ls 8 [(7, .int v110_7), (6, .int v110_6), (5, .int v73_5), (4, .int z_39), (0, .ref (ad 144)), (1, .int dy), (2, .int ev)] → W p l e ({ frames := 1, cells := 0, slots := 0, locals := 13 } : Room) s m ([.ref (ad 144), .int dy, .int ev] : List Value).toArray below meth c H locs 0 0 (MQ below (qV D ad 218 (fun g2 => WF (shp ad K) ad cs g2 ∧ (∀ j, (j < 161 ∨ 175 ≤ j) ∧ (j < 176 ∨ 190 ≤ j) → g2 j = g j))) ([.ref (ad 144), .int dy, .int ev] : List Value).toArray s 0 0 (wA ad 218)) (F0 m 110 ls []) := by
            intro n110
            induction n110 with
            | zero =>
              intro v110_7 v110_6 G110 H locs ls hm110 hv110_0 hW110 hfr110 hP hS hl
              exact absurd hm110 (Nat.not_lt_zero _)
            | succ n110 ih110 =>
              intro v110_7 v110_6 G110 H locs ls hm110 hv110_0 hW110 hfr110 hP hS hl
              refine lv_iload hx hb dX8_planFrom_110 (lv_at hl 0 rfl) ?_
              refine lv_iload hx hb dX8_planFrom_112 (lv_at hl 3 rfl) ?_
              refine lv_icmp_gt (tgt := 155) hx hb dX8_planFrom_114 (by decide) (fun hc_45 => ?_) (fun hc_45 => ?_)
              · have hhc_45 := n_lt (rfl : z_39.toInt = z_39.toInt) (rfl : v110_7.toInt = v110_7.toInt) hc_45
                refine lv_aload_n hx hb dX8_planFrom_155 rfl (lv_at hl 4 rfl) ?_
                obtain ⟨fsc_46, hgc_46, hOc_46⟩ := hW110.obj (i := 144) (by decide) (sh_144 ad K)
                have hk_47 := hOc_46.ref 2 rfl
                refine q_get X iX8_planFrom_8 hP (by decide) hgc_46 rfl 2 (by decide) (List.mem_of_getElem? (i := 1) rfl) (v := .ref (ad 160)) hk_47 dX8_planFrom_156 ?_
                refine lv_iload_n hx hb dX8_planFrom_159 rfl (lv_at hl 5 rfl) ?_
                obtain ⟨fc_48, hgc_48, hFc_48⟩ := hW110.aref (i := 160) (by decide) (sh_160 ad K)
                obtain ⟨e_49, h_e_49, e_e_49⟩ : ∃ q : Nat, q < 14 ∧ dy.toNatClampNeg = q := ⟨_, by have := n_cl (rfl : dy.toInt = dy.toInt) (by omega); omega, rfl⟩
                refine s_aald X hP 6 rfl rfl (by decide) hgc_48 (n_in (rfl : dy.toInt = dy.toInt) (by omega) (by omega)) (v := ad (161 + e_49)) (by rw [e_e_49, hFc_48 _ h_e_49, Nat.one_mul]) dX8_planFrom_160 ?_
                refine lv_iload_n hx hb dX8_planFrom_161 rfl (lv_at hl 6 rfl) ?_
                refine lv_dup2_11 hx hb dX8_planFrom_162 rfl rfl ?_
                obtain ⟨fc_50, hgc_50, hFc_50⟩ := hW110.arr (i := (161 + e_49)) (by omega) (shR_161 ad K h_e_49)
                refine q_iald X hP (by omega) hgc_50 (n_in (rfl : ev.toInt = ev.toInt) (by omega) (by omega)) dX8_planFrom_163 ?_
                refine lv_topi (fun z_51 ez_51 => ?_)
                refine lv_iload hx hb dX8_planFrom_164 (lv_at hl 2 rfl) ?_
                refine lv_iadd hx hb dX8_planFrom_166 ?_
                refine lv_topi (fun z_52 ez_52 => ?_)
                refine s_iast X hP hj hA hS (by omega) hgc_50 (n_in (rfl : ev.toInt = ev.toInt) (by omega) (by omega)) dX8_planFrom_167 hW110 (shR_161 ad K h_e_49) (hFc_50.put trivial) (fun fc_53 gc_53 H locs ec_53 hFc_53 hgc_53 hfc_53 hWc_53 hP hS => ?_)
                have hg_55 := (hfc_53 144 (by omega)).trans hgc_46
                have hg_56 := (hfc_53 160 (by omega)).trans hgc_48
                have hfr_54 : ∀ j, (j < 161 ∨ 175 ≤ j) ∧ (j < 176 ∨ 190 ≤ j) → gc_53 j = g j := fun j hj => (hfc_53 j (by omega)).trans (hfr110 j hj)
                refine lv_aload_n hx hb dX8_planFrom_168 rfl (lv_at hl 4 rfl) ?_
                have hk_57 := hOc_46.ref 3 rfl
                refine q_get X iX8_planFrom_8 hP (by decide) hg_55 rfl 3 (by decide) (List.mem_of_getElem? (i := 3) rfl) (v := .ref (ad 175)) hk_57 dX8_planFrom_169 ?_
                refine lv_iload_n hx hb dX8_planFrom_172 rfl (lv_at hl 5 rfl) ?_
                obtain ⟨fc_58, hgc_58, hFc_58⟩ := hWc_53.aref (i := 175) (by decide) (sh_175 ad K)
                obtain ⟨e_59, h_e_59, e_e_59⟩ : ∃ q : Nat, q < 14 ∧ dy.toNatClampNeg = q := ⟨_, by have := n_cl (rfl : dy.toInt = dy.toInt) (by omega); omega, rfl⟩
                refine s_aald X hP 6 rfl rfl (by decide) hgc_58 (n_in (rfl : dy.toInt = dy.toInt) (by omega) (by omega)) (v := ad (176 + e_59)) (by rw [e_e_59, hFc_58 _ h_e_59, Nat.one_mul]) dX8_planFrom_173 ?_
                refine lv_iload_n hx hb dX8_planFrom_174 rfl (lv_at hl 6 rfl) ?_
                refine lv_iload hx hb dX8_planFrom_175 (lv_at hl 1 rfl) ?_
                obtain ⟨fc_60, hgc_60, hFc_60⟩ := hWc_53.arr (i := (176 + e_59)) (by omega) (shR_176 ad K h_e_59)
                refine s_iast X hP hj hA hS (by omega) hgc_60 (n_in (rfl : ev.toInt = ev.toInt) (by omega) (by omega)) dX8_planFrom_177 hWc_53 (shR_176 ad K h_e_59) (hFc_60.put trivial) (fun fc_61 gc_61 H locs ec_61 hFc_61 hgc_61 hfc_61 hWc_61 hP hS => ?_)
                have hg_63 := (hfc_61 144 (by omega)).trans hg_55
                have hg_64 := (hfc_61 160 (by omega)).trans hg_56
                have hg_65 := (hfc_61 (161 + e_49) (by omega)).trans hgc_53
                have hg_66 := (hfc_61 175 (by omega)).trans hgc_58
                have hfr_62 : ∀ j, (j < 161 ∨ 175 ≤ j) ∧ (j < 176 ∨ 190 ≤ j) → gc_61 j = g j := fun j hj => (hfc_61 j (by omega)).trans (hfr_54 j hj)
                exact q_vret X hP hS ⟨hWc_61, hfr_62⟩ dX8_planFrom_178
              · have hhc_45 := n_nlt (rfl : z_39.toInt = z_39.toInt) (rfl : v110_7.toInt = v110_7.toInt) hc_45
                refine lv_aload_n hx hb dX8_planFrom_117 rfl (lv_at hl 4 rfl) ?_
                obtain ⟨fsc_67, hgc_67, hOc_67⟩ := hW110.obj (i := 144) (by decide) (sh_144 ad K)
                have hk_68 := hOc_67.ref 2 rfl
                refine q_get X iX8_planFrom_8 hP (by decide) hgc_67 rfl 2 (by decide) (List.mem_of_getElem? (i := 1) rfl) (v := .ref (ad 160)) hk_68 dX8_planFrom_118 ?_
                refine lv_iload_n hx hb dX8_planFrom_121 rfl (lv_at hl 5 rfl) ?_
                refine lv_iconst (v := 1) hx hb dX8_planFrom_122 (by decide) ?_
                refine lv_iadd hx hb dX8_planFrom_123 ?_
                refine lv_topi (fun z_69 ez_69 => ?_)
                have hz_69 : z_69.toInt = dy.toInt + 1 := n_add (rfl : dy.toInt = dy.toInt) (by decide : (1 : Int32).toInt = 1) ez_69 (by omega) (by omega)
                obtain ⟨fc_70, hgc_70, hFc_70⟩ := hW110.aref (i := 160) (by decide) (sh_160 ad K)
                obtain ⟨e_71, h_e_71, e_e_71⟩ : ∃ q : Nat, q < 14 ∧ z_69.toNatClampNeg = q := ⟨_, by have := n_cl (rfl : z_69.toInt = z_69.toInt) (by omega); omega, rfl⟩
                refine s_aald X hP 6 rfl rfl (by decide) hgc_70 (n_in (rfl : z_69.toInt = z_69.toInt) (by omega) (by omega)) (v := ad (161 + e_71)) (by rw [e_e_71, hFc_70 _ h_e_71, Nat.one_mul]) dX8_planFrom_124 ?_
                refine lv_iload hx hb dX8_planFrom_125 (lv_at hl 0 rfl) ?_
                obtain ⟨fc_72, hgc_72, hFc_72⟩ := hW110.arr (i := (161 + e_71)) (by omega) (shR_161 ad K h_e_71)
                refine q_iald X hP (by omega) hgc_72 (n_in (rfl : v110_7.toInt = v110_7.toInt) (by omega) (by omega)) dX8_planFrom_127 ?_
                refine lv_topi (fun z_73 ez_73 => ?_)
                refine lv_iload hx hb dX8_planFrom_128 (lv_at hl 2 rfl) ?_
                have HJ149 : ∀ (v149_6 : Int32) (G149 : Nat → va_E) (H : Heap) (locs : List Loc) (ls : Array Slot), WF (shp ad K) ad cs G149 → (∀ j, (j < 161 ∨ 175 ≤ j) ∧ (j < 176 ∨ 190 ≤ j) → G149 j = g j) → G149 144 = .inr (8, fsc_67) → G149 160 = .inl (cs 6, 14, .inr (.inr (.inr (.inr fc_70)))) → va_P D vwCl (wL ad G149 218) H → va_S (wA ad 218) s.heap H locs → lv_has ls 8 [(7, .int v110_7), (6, .int v149_6), (5, .int v73_5), (4, .int z_39), (0, .ref (ad 144)), (1, .int dy), (2, .int ev)] → W p l e ({ frames := 1, cells := 0, slots := 0, locals := 13 } : Room) s m ([.ref (ad 144), .int dy, .int ev] : List Value).toArray below meth c H locs 0 0 (MQ below (qV D ad 218 (fun g2 => WF (shp ad K) ad cs g2 ∧ (∀ j, (j < 161 ∨ 175 ≤ j) ∧ (j < 176 ∨ 190 ≤ j) → g2 j = g j))) ([.ref (ad 144), .int dy, .int ev] : List Value).toArray s 0 0 (wA ad 218)) (F0 m 149 ls []) := by
                  intro v149_6 G149 H locs ls hW149 hfr149 hg149_0 hg149_1 hP hS hl
                  obtain ⟨x_74, ex_74⟩ : ∃ y : Int32, y = v110_7 + 1 := ⟨_, rfl⟩
                  have hx_74 : x_74.toInt = v110_7.toInt + 1 := n_add rfl (by decide : (1 : Int32).toInt = 1) ex_74 (by omega) (by omega)
                  refine lv_iinc (v := x_74) (lv' := [(7, .int x_74), (6, .int v149_6), (5, .int v73_5), (4, .int z_39), (0, .ref (ad 144)), (1, .int dy), (2, .int ev)]) hx hb dX8_planFrom_149 hl (k := 0) rfl (by rw [ex_74]; rfl) (by decide) rfl (fun ls hl => ?_)
                  refine lv_goto (tgt := 110) hx hb dX8_planFrom_152 (by decide) ?_
                  exact ih110 x_74 v149_6 G149 _ _ ls (by omega) (by omega) hW149 hfr149 hP hS (lv_sub hl [0, 1, 2, 3, 4, 5, 6] rfl)
                refine lv_icmp_ne (tgt := 149) hx hb dX8_planFrom_130 (by decide) (fun hc_75 => ?_) (fun hc_75 => ?_)
                · have hhc_75 := n_ne (rfl : z_73.toInt = z_73.toInt) (rfl : v73_5.toInt = v73_5.toInt) hc_75
                  exact HJ149 v110_6 G110 _ _ ls hW110 hfr110 hgc_67 hgc_70 hP hS (lv_sub hl [0, 1, 2, 3, 4, 5, 6] rfl)
                · have hhc_75 := n_eq (rfl : z_73.toInt = z_73.toInt) (rfl : v73_5.toInt = v73_5.toInt) hc_75
                  refine lv_iload hx hb dX8_planFrom_133 (lv_at hl 1 rfl) ?_
                  refine lv_aload_n hx hb dX8_planFrom_135 rfl (lv_at hl 4 rfl) ?_
                  have hk_76 := hOc_67.ref 3 rfl
                  refine q_get X iX8_planFrom_8 hP (by decide) hgc_67 rfl 3 (by decide) (List.mem_of_getElem? (i := 3) rfl) (v := .ref (ad 175)) hk_76 dX8_planFrom_136 ?_
                  refine lv_iload_n hx hb dX8_planFrom_139 rfl (lv_at hl 5 rfl) ?_
                  refine lv_iconst (v := 1) hx hb dX8_planFrom_140 (by decide) ?_
                  refine lv_iadd hx hb dX8_planFrom_141 ?_
                  refine lv_topi (fun z_77 ez_77 => ?_)
                  have hz_77 : z_77.toInt = dy.toInt + 1 := n_add (rfl : dy.toInt = dy.toInt) (by decide : (1 : Int32).toInt = 1) ez_77 (by omega) (by omega)
                  obtain ⟨fc_78, hgc_78, hFc_78⟩ := hW110.aref (i := 175) (by decide) (sh_175 ad K)
                  obtain ⟨e_79, h_e_79, e_e_79⟩ : ∃ q : Nat, q < 14 ∧ z_77.toNatClampNeg = q := ⟨_, by have := n_cl (rfl : z_77.toInt = z_77.toInt) (by omega); omega, rfl⟩
                  refine s_aald X hP 6 rfl rfl (by decide) hgc_78 (n_in (rfl : z_77.toInt = z_77.toInt) (by omega) (by omega)) (v := ad (176 + e_79)) (by rw [e_e_79, hFc_78 _ h_e_79, Nat.one_mul]) dX8_planFrom_142 ?_
                  refine lv_iload hx hb dX8_planFrom_143 (lv_at hl 0 rfl) ?_
                  obtain ⟨fc_80, hgc_80, hFc_80⟩ := hW110.arr (i := (176 + e_79)) (by omega) (shR_176 ad K h_e_79)
                  refine q_iald X hP (by omega) hgc_80 (n_in (rfl : v110_7.toInt = v110_7.toInt) (by omega) (by omega)) dX8_planFrom_145 ?_
                  refine lv_topi (fun z_81 ez_81 => ?_)
                  refine lv_iadd hx hb dX8_planFrom_146 ?_
                  refine lv_topi (fun z_82 ez_82 => ?_)
                  refine lv_istore (lv' := [(6, .int z_82), (7, .int v110_7), (5, .int v73_5), (4, .int z_39), (0, .ref (ad 144)), (1, .int dy), (2, .int ev)]) hx hb dX8_planFrom_147 hl (by decide) rfl (fun ls hl => ?_)
                  exact HJ149 z_82 G110 _ _ ls hW110 hfr110 hgc_67 hgc_70 hP hS (lv_sub hl [1, 0, 2, 3, 4, 5, 6] rfl)
          have hiv110_6 : (0 : Int32).toInt = 0 := by decide
          exact HL110 _ z_34 0 G73 _ _ ls (Nat.lt_succ_self _) (by omega) hW73 hfr73 hP hS (lv_sub hl [0, 1, 2, 3, 5, 6, 7] rfl)
        · have hhc_44 := n_nlt (rfl : z_39.toInt = z_39.toInt) (rfl : v73_6.toInt = v73_6.toInt) hc_44
          refine lv_iload hx hb dX8_planFrom_80 (lv_at hl 1 rfl) ?_
          refine lv_aload_n hx hb dX8_planFrom_82 rfl (lv_at hl 4 rfl) ?_
          obtain ⟨fsc_83, hgc_83, hOc_83⟩ := hW73.obj (i := 144) (by decide) (sh_144 ad K)
          have hk_84 := hOc_83.ref 2 rfl
          refine q_get X iX8_planFrom_8 hP (by decide) hgc_83 rfl 2 (by decide) (List.mem_of_getElem? (i := 1) rfl) (v := .ref (ad 160)) hk_84 dX8_planFrom_83 ?_
          refine lv_iload_n hx hb dX8_planFrom_86 rfl (lv_at hl 5 rfl) ?_
          refine lv_iconst (v := 1) hx hb dX8_planFrom_87 (by decide) ?_
          refine lv_iadd hx hb dX8_planFrom_88 ?_
          refine lv_topi (fun z_85 ez_85 => ?_)
          have hz_85 : z_85.toInt = dy.toInt + 1 := n_add (rfl : dy.toInt = dy.toInt) (by decide : (1 : Int32).toInt = 1) ez_85 (by omega) (by omega)
          obtain ⟨fc_86, hgc_86, hFc_86⟩ := hW73.aref (i := 160) (by decide) (sh_160 ad K)
          obtain ⟨e_87, h_e_87, e_e_87⟩ : ∃ q : Nat, q < 14 ∧ z_85.toNatClampNeg = q := ⟨_, by have := n_cl (rfl : z_85.toInt = z_85.toInt) (by omega); omega, rfl⟩
          refine s_aald X hP 6 rfl rfl (by decide) hgc_86 (n_in (rfl : z_85.toInt = z_85.toInt) (by omega) (by omega)) (v := ad (161 + e_87)) (by rw [e_e_87, hFc_86 _ h_e_87, Nat.one_mul]) dX8_planFrom_89 ?_
          refine lv_iload hx hb dX8_planFrom_90 (lv_at hl 0 rfl) ?_
          obtain ⟨fc_88, hgc_88, hFc_88⟩ := hW73.arr (i := (161 + e_87)) (by omega) (shR_161 ad K h_e_87)
          refine q_iald X hP (by omega) hgc_88 (n_in (rfl : v73_6.toInt = v73_6.toInt) (by omega) (by omega)) dX8_planFrom_92 ?_
          refine lv_topi (fun z_89 ez_89 => ?_)
          refine va_mmin hx hb (X.2.2.2.1.trans hl.1.symm) X.2.2.2.2.2.1 (X.2.2.2.2.1 _ (List.mem_of_getElem? (i := 10) rfl)) (X.2.2.2.2.1 _ (List.mem_of_getElem? (i := 11) rfl)) (X.2.2.2.2.1 _ (List.mem_of_getElem? (i := 7) rfl)) (X.2.2.2.2.1 _ (List.mem_of_getElem? (i := 12) rfl)) (Nat.le_of_ble_eq_true rfl) (Nat.le_of_ble_eq_true rfl) (Nat.le_of_ble_eq_true rfl) (Nat.le_of_ble_eq_true rfl) dX8_planFrom_93 ?_
          refine lv_topi (fun z_90 ez_90 => ?_)
          have hz_90 := n_min (rfl : v73_5.toInt = v73_5.toInt) (rfl : z_89.toInt = z_89.toInt) ez_90
          refine lv_istore (lv' := [(5, .int z_90), (6, .int v73_6), (4, .int z_39), (3, .int z_34), (0, .ref (ad 144)), (1, .int dy), (2, .int ev)]) hx hb dX8_planFrom_96 hl (by decide) rfl (fun ls hl => ?_)
          obtain ⟨x_91, ex_91⟩ : ∃ y : Int32, y = v73_6 + 1 := ⟨_, rfl⟩
          have hx_91 : x_91.toInt = v73_6.toInt + 1 := n_add rfl (by decide : (1 : Int32).toInt = 1) ex_91 (by omega) (by omega)
          refine lv_iinc (v := x_91) (lv' := [(6, .int x_91), (5, .int z_90), (4, .int z_39), (3, .int z_34), (0, .ref (ad 144)), (1, .int dy), (2, .int ev)]) hx hb dX8_planFrom_98 hl (k := 1) rfl (by rw [ex_91]; rfl) (by decide) rfl (fun ls hl => ?_)
          refine lv_goto (tgt := 73) hx hb dX8_planFrom_101 (by decide) ?_
          exact ih73 x_91 z_90 G73 _ _ ls (by omega) (by omega) hW73 hfr73 hP hS (lv_sub hl [0, 1, 2, 3, 4, 5, 6] rfl)
    exact HL73 _ z_34 z_43 gc_21 _ _ ls (Nat.lt_succ_self _) (by omega) hWc_21 hfr_22 hP hS (lv_sub hl [0, 1, 2, 3, 4, 5, 6] rfl)
  · have hhc_32 := n_nlt (rfl : z_29.toInt = z_29.toInt) (rfl : x_31.toInt = x_31.toInt) hc_32
    exact q_vret X hP hS ⟨hWc_21, hfr_22⟩ dX8_planFrom_35

theorem dX8_plan_0 : decode cX8_plan 0 = .ok (.aload_n 0, 1) := by decide +kernel
theorem dX8_plan_1 : decode cX8_plan 1 = .ok (.aload_n 1, 1) := by decide +kernel
theorem dX8_plan_2 : decode cX8_plan 2 = .ok (.getfield 22, 3) := by decide +kernel
theorem dX8_plan_5 : decode cX8_plan 5 = .ok (.putfield 28, 3) := by decide +kernel
theorem dX8_plan_8 : decode cX8_plan 8 = .ok (.aload_n 0, 1) := by decide +kernel
theorem dX8_plan_9 : decode cX8_plan 9 = .ok (.aload_n 1, 1) := by decide +kernel
theorem dX8_plan_10 : decode cX8_plan 10 = .ok (.getfield 29, 3) := by decide +kernel
theorem dX8_plan_13 : decode cX8_plan 13 = .ok (.putfield 32, 3) := by decide +kernel
theorem dX8_plan_16 : decode cX8_plan 16 = .ok (.aload_n 0, 1) := by decide +kernel
theorem dX8_plan_17 : decode cX8_plan 17 = .ok (.getfield 28, 3) := by decide +kernel
theorem dX8_plan_20 : decode cX8_plan 20 = .ok (.iconst 1, 1) := by decide +kernel
theorem dX8_plan_21 : decode cX8_plan 21 = .ok (.isub, 1) := by decide +kernel
theorem dX8_plan_22 : decode cX8_plan 22 = .ok (.istore_n 3, 1) := by decide +kernel
theorem dX8_plan_23 : decode cX8_plan 23 = .ok (.iload_n 3, 1) := by decide +kernel
theorem dX8_plan_24 : decode cX8_plan 24 = .ok (.ifCond .lt 51, 3) := by decide +kernel
theorem dX8_plan_27 : decode cX8_plan 27 = .ok (.iconst 0, 1) := by decide +kernel
theorem dX8_plan_28 : decode cX8_plan 28 = .ok (.istore 4, 2) := by decide +kernel
theorem dX8_plan_30 : decode cX8_plan 30 = .ok (.iload 4, 2) := by decide +kernel
theorem dX8_plan_32 : decode cX8_plan 32 = .ok (.aload_n 0, 1) := by decide +kernel
theorem dX8_plan_33 : decode cX8_plan 33 = .ok (.getfield 32, 3) := by decide +kernel
theorem dX8_plan_36 : decode cX8_plan 36 = .ok (.if_icmp .ge 33, 3) := by decide +kernel
theorem dX8_plan_39 : decode cX8_plan 39 = .ok (.aload_n 0, 1) := by decide +kernel
theorem dX8_plan_40 : decode cX8_plan 40 = .ok (.getfield 11, 3) := by decide +kernel
theorem dX8_plan_43 : decode cX8_plan 43 = .ok (.iload_n 3, 1) := by decide +kernel
theorem dX8_plan_44 : decode cX8_plan 44 = .ok (.aaload, 1) := by decide +kernel
theorem dX8_plan_45 : decode cX8_plan 45 = .ok (.iload 4, 2) := by decide +kernel
theorem dX8_plan_47 : decode cX8_plan 47 = .ok (.aload_n 2, 1) := by decide +kernel
theorem dX8_plan_48 : decode cX8_plan 48 = .ok (.aload_n 1, 1) := by decide +kernel
theorem dX8_plan_49 : decode cX8_plan 49 = .ok (.iload 4, 2) := by decide +kernel
theorem dX8_plan_51 : decode cX8_plan 51 = .ok (.iload_n 3, 1) := by decide +kernel
theorem dX8_plan_52 : decode cX8_plan 52 = .ok (.invokevirtual 33, 3) := by decide +kernel
theorem dX8_plan_55 : decode cX8_plan 55 = .ok (.iastore, 1) := by decide +kernel
theorem dX8_plan_56 : decode cX8_plan 56 = .ok (.aload_n 0, 1) := by decide +kernel
theorem dX8_plan_57 : decode cX8_plan 57 = .ok (.iload_n 3, 1) := by decide +kernel
theorem dX8_plan_58 : decode cX8_plan 58 = .ok (.iload 4, 2) := by decide +kernel
theorem dX8_plan_60 : decode cX8_plan 60 = .ok (.invokevirtual 39, 3) := by decide +kernel
theorem dX8_plan_63 : decode cX8_plan 63 = .ok (.iinc 4 1, 3) := by decide +kernel
theorem dX8_plan_66 : decode cX8_plan 66 = .ok (.goto (-36), 3) := by decide +kernel
theorem dX8_plan_69 : decode cX8_plan 69 = .ok (.iinc 3 (-1), 3) := by decide +kernel
theorem dX8_plan_72 : decode cX8_plan 72 = .ok (.goto (-49), 3) := by decide +kernel
theorem dX8_plan_75 : decode cX8_plan 75 = .ok (.aload_n 0, 1) := by decide +kernel
theorem dX8_plan_76 : decode cX8_plan 76 = .ok (.aload_n 0, 1) := by decide +kernel
theorem dX8_plan_77 : decode cX8_plan 77 = .ok (.getfield 16, 3) := by decide +kernel
theorem dX8_plan_80 : decode cX8_plan 80 = .ok (.iconst 0, 1) := by decide +kernel
theorem dX8_plan_81 : decode cX8_plan 81 = .ok (.aaload, 1) := by decide +kernel
theorem dX8_plan_82 : decode cX8_plan 82 = .ok (.iconst 0, 1) := by decide +kernel
theorem dX8_plan_83 : decode cX8_plan 83 = .ok (.iaload, 1) := by decide +kernel
theorem dX8_plan_84 : decode cX8_plan 84 = .ok (.putfield 43, 3) := by decide +kernel
theorem dX8_plan_87 : decode cX8_plan 87 = .ok (.iconst 1, 1) := by decide +kernel
theorem dX8_plan_88 : decode cX8_plan 88 = .ok (.istore_n 3, 1) := by decide +kernel
theorem dX8_plan_89 : decode cX8_plan 89 = .ok (.iload_n 3, 1) := by decide +kernel
theorem dX8_plan_90 : decode cX8_plan 90 = .ok (.aload_n 0, 1) := by decide +kernel
theorem dX8_plan_91 : decode cX8_plan 91 = .ok (.getfield 32, 3) := by decide +kernel
theorem dX8_plan_94 : decode cX8_plan 94 = .ok (.if_icmp .ge 28, 3) := by decide +kernel
theorem dX8_plan_97 : decode cX8_plan 97 = .ok (.aload_n 0, 1) := by decide +kernel
theorem dX8_plan_98 : decode cX8_plan 98 = .ok (.aload_n 0, 1) := by decide +kernel
theorem dX8_plan_99 : decode cX8_plan 99 = .ok (.getfield 43, 3) := by decide +kernel
theorem dX8_plan_102 : decode cX8_plan 102 = .ok (.aload_n 0, 1) := by decide +kernel
theorem dX8_plan_103 : decode cX8_plan 103 = .ok (.getfield 16, 3) := by decide +kernel
theorem dX8_plan_106 : decode cX8_plan 106 = .ok (.iconst 0, 1) := by decide +kernel
theorem dX8_plan_107 : decode cX8_plan 107 = .ok (.aaload, 1) := by decide +kernel
theorem dX8_plan_108 : decode cX8_plan 108 = .ok (.iload_n 3, 1) := by decide +kernel
theorem dX8_plan_109 : decode cX8_plan 109 = .ok (.iaload, 1) := by decide +kernel
theorem dX8_plan_110 : decode cX8_plan 110 = .ok (.invokestatic 46, 3) := by decide +kernel
theorem dX8_plan_113 : decode cX8_plan 113 = .ok (.putfield 43, 3) := by decide +kernel
theorem dX8_plan_116 : decode cX8_plan 116 = .ok (.iinc 3 1, 3) := by decide +kernel
theorem dX8_plan_119 : decode cX8_plan 119 = .ok (.goto (-30), 3) := by decide +kernel
theorem dX8_plan_122 : decode cX8_plan 122 = .ok (.return_, 1) := by decide +kernel
noncomputable def vX8_plan : List Cond := .code yX8_plan cX8_plan 5 none :: (([.fieldLink RX8 22 "IcicleClock$Street" "days" "I", .fieldLink RX8 28 "IcicleClock$Walker" "days" "I", .fieldLink RX8 29 "IcicleClock$Street" "eaves" "I", .fieldLink RX8 32 "IcicleClock$Walker" "eaves" "I", .fieldLink RX8 11 "IcicleClock$Walker" "struck" "[[I", .methodLink RX8 33 yX10_fallsUnder, .instanceMethod yX10_fallsUnder, .selects RX10 yX10_fallsUnder yX10_fallsUnder, .initialized RX10, .methodLink RX8 39 yX8_planFrom, .instanceMethod yX8_planFrom, .selects RX8 yX8_planFrom yX8_planFrom, .initialized RX8, .fieldLink RX8 16 "IcicleClock$Walker" "least" "[[I", .fieldLink RX8 43 "IcicleClock$Walker" "leastOfAll" "I", .methodLink RX8 46 Lib.Math.min.name, .static Lib.Math.min.name, .initialized "java/lang/Math", .code Lib.Math.min.name Lib.Math.min.code 2 (some .int)] : List Cond) ++ (wsX60 ++ (wsX80 ++ (vX10_fallsUnder ++ vX8_planFrom))))
theorem iX8_plan_6 : ∀ w ∈ wsX60, w ∈ vX8_plan := fun _ h => List.mem_cons_of_mem _ (List.mem_append_right _ (List.mem_append_left _ h))
theorem iX8_plan_8 : ∀ w ∈ wsX80, w ∈ vX8_plan := fun _ h => List.mem_cons_of_mem _ (List.mem_append_right _ (List.mem_append_right _ (List.mem_append_left _ h)))
theorem gs_X8_plan : Gd vX8_plan := Gd.cons (by decide +kernel) (Gd.app (Gd.r (by decide +kernel)) (Gd.app gwX_6 (Gd.app gwX_8 (Gd.app gs_X10_fallsUnder gs_X8_planFrom))))
theorem gg_X8_plan_X10_fallsUnder : GoodIn vX8_plan (wsV RX8 33 RX10 yX10_fallsUnder vX10_fallsUnder) := goodIn_app (goodIn_r _ [6, 7, 8, 9] (by decide +kernel) (by decide +kernel)) (fun w h => ⟨List.mem_cons_of_mem _ (List.mem_append_right _ (List.mem_append_right _ (List.mem_append_right _ (List.mem_append_left _ h)))), gs_X10_fallsUnder w h⟩)
theorem gg_X8_plan_X8_planFrom : GoodIn vX8_plan (wsV RX8 39 RX8 yX8_planFrom vX8_planFrom) := goodIn_app (goodIn_r _ [10, 11, 12, 13] (by decide +kernel) (by decide +kernel)) (fun w h => ⟨List.mem_cons_of_mem _ (List.mem_append_right _ (List.mem_append_right _ (List.mem_append_right _ (List.mem_append_right _ (h))))), gs_X8_planFrom w h⟩)
set_option maxHeartbeats 4000000 in
set_option maxRecDepth 100000 in
theorem s_X8_plan (l : Launch) (D : va_G) (cs : Nat → ClassId) (ad : Nat → Nat) (kS : kSt) (K : sK) (hKO : KO K) (hj : wJ ad 218) (g : Nat → va_E) (hW : WF (shp ad K) ad cs g) : sV l yX8_plan vX8_plan { frames := 2, cells := 0, slots := 0, locals := 40 } D cs ad kS [.ref (ad 144), .ref (ad 3), .ref (ad 114)] g (fun g2 => WF (shp ad K) ad cs g2 ∧ (∀ j, j ≠ 144 ∧ (j < 146 ∨ 160 ≤ j) ∧ (j < 161 ∨ 175 ≤ j) ∧ (j < 176 ∨ 190 ≤ j) → g2 j = g j)) := by
  refine Met.startS (cc := cX8_plan) (maxL := 5) (ret := none) RX8 rfl (by decide) rfl (Nat.le_of_ble_eq_true rfl) ?_
  intro p e s m below meth c ls X Z hP hl
  have hx := X.1
  have hb := X.2.1
  have hS : va_S (wA ad 218) s.heap s.heap [] := va_S.rf
  have hA : ∀ i, i < 218 → wA ad 218 (ad i) := fun i h => ⟨i, h, rfl⟩
  have hfr : ∀ j, j ≠ 144 ∧ (j < 146 ∨ 160 ≤ j) ∧ (j < 161 ∨ 175 ≤ j) ∧ (j < 176 ∨ 190 ≤ j) → g j = g j := fun _ _ => rfl
  have hl : lv_has ls 5 [(0, .ref (ad 144)), (1, .ref (ad 3)), (2, .ref (ad 114))] := hl
  refine lv_aload_n hx hb dX8_plan_0 rfl (lv_at hl 0 rfl) ?_
  refine lv_aload_n hx hb dX8_plan_1 rfl (lv_at hl 1 rfl) ?_
  obtain ⟨fsc_1, hgc_1, hOc_1⟩ := hW.obj (i := 3) (by decide) (sh_3 ad K)
  obtain ⟨x_3, hk_2, hlx_3, hhx_3⟩ := hOc_1.int 3 rfl
  refine q_get X iX8_plan_6 hP (by decide) hgc_1 rfl 3 (by decide) (List.mem_of_getElem? (i := 1) rfl) (v := .int x_3) hk_2 dX8_plan_2 ?_
  obtain ⟨fsc_4, hgc_4, hOc_4⟩ := hW.obj (i := 144) (by decide) (sh_144 ad K)
  refine s_put X iX8_plan_8 tyX8 tyX8_ok nmX8 hP hj hA hS (by decide) hgc_4 rfl 4 (by decide) (List.mem_of_getElem? (i := 2) rfl) rfl (ty := .int) (v := .int x_3) (by decide +kernel) rfl rfl dX8_plan_5 hW (sh_144 ad K) hOc_4 rfl ⟨x_3, rfl, by omega, by omega⟩ (fun fsc_5 gc_5 H locs hOc_5 hkc_5 hnc_5 hgc_5 hfc_5 hWc_5 hP hS => ?_)
  have hg_7 := (hfc_5 3 (by decide)).trans hgc_1
  have hfr_6 : ∀ j, j ≠ 144 ∧ (j < 146 ∨ 160 ≤ j) ∧ (j < 161 ∨ 175 ≤ j) ∧ (j < 176 ∨ 190 ≤ j) → gc_5 j = g j := fun j hj => (hfc_5 j (by omega)).trans (hfr j hj)
  refine lv_aload_n hx hb dX8_plan_8 rfl (lv_at hl 0 rfl) ?_
  refine lv_aload_n hx hb dX8_plan_9 rfl (lv_at hl 1 rfl) ?_
  obtain ⟨x_9, hk_8, hlx_9, hhx_9⟩ := hOc_1.int 4 rfl
  refine q_get X iX8_plan_6 hP (by decide) hg_7 rfl 4 (by decide) (List.mem_of_getElem? (i := 3) rfl) (v := .int x_9) hk_8 dX8_plan_10 ?_
  refine s_put X iX8_plan_8 tyX8 tyX8_ok nmX8 hP hj hA hS (by decide) hgc_5 rfl 5 (by decide) (List.mem_of_getElem? (i := 4) rfl) rfl (ty := .int) (v := .int x_9) (by decide +kernel) rfl rfl dX8_plan_13 hWc_5 (sh_144 ad K) hOc_5 rfl ⟨x_9, rfl, by omega, by omega⟩ (fun fsc_10 gc_10 H locs hOc_10 hkc_10 hnc_10 hgc_10 hfc_10 hWc_10 hP hS => ?_)
  have hk_11 := (hnc_10 4 (by decide)).trans hkc_5
  have hg_13 := (hfc_10 3 (by decide)).trans hg_7
  have hfr_12 : ∀ j, j ≠ 144 ∧ (j < 146 ∨ 160 ≤ j) ∧ (j < 161 ∨ 175 ≤ j) ∧ (j < 176 ∨ 190 ≤ j) → gc_10 j = g j := fun j hj => (hfc_10 j (by omega)).trans (hfr_6 j hj)
  refine lv_aload_n hx hb dX8_plan_16 rfl (lv_at hl 0 rfl) ?_
  refine q_get X iX8_plan_8 hP (by decide) hgc_10 rfl 4 (by decide) (List.mem_of_getElem? (i := 2) rfl) (v := .int x_3) hk_11 dX8_plan_17 ?_
  refine lv_iconst (v := 1) hx hb dX8_plan_20 (by decide) ?_
  refine lv_isub hx hb dX8_plan_21 ?_
  refine lv_topi (fun z_14 ez_14 => ?_)
  have hz_14 : z_14.toInt = x_3.toInt - 1 := n_sub (rfl : x_3.toInt = x_3.toInt) (by decide : (1 : Int32).toInt = 1) ez_14 (by omega) (by omega)
  refine lv_istore_n (lv' := [(3, .int z_14), (0, .ref (ad 144)), (1, .ref (ad 3)), (2, .ref (ad 114))]) hx hb dX8_plan_22 rfl hl (by decide) rfl (fun ls hl => ?_)
  have HL23 : ∀ (n23 : Nat) (v23_3 : Int32) (G23 : Nat → va_E) (H : Heap) (locs : List Loc) (ls : Array Slot), (v23_3.toInt - (-1)).toNat < n23 → ((-1) ≤ v23_3.toInt ∧ v23_3.toInt ≤ 13) → WF (shp ad K) ad cs G23 → (∀ j, j ≠ 144 ∧ (j < 146 ∨ 160 ≤ j) ∧ (j < 161 ∨ 175 ≤ j) ∧ (j < 176 ∨ 190 ≤ j) → G23 j = g j) → va_P D vwCl (wL ad G23 218) H → va_S (wA ad 218) s.heap H locs → lv_has ls 5 [(3, .int v23_3), (0, .ref (ad 144)), (1, .ref (ad 3)), (2, .ref (ad 114))] → W p l e ({ frames := 2, cells := 0, slots := 0, locals := 40 } : Room) s m ([.ref (ad 144), .ref (ad 3), .ref (ad 114)] : List Value).toArray below meth c H locs 0 0 (MQ below (qV D ad 218 (fun g2 => WF (shp ad K) ad cs g2 ∧ (∀ j, j ≠ 144 ∧ (j < 146 ∨ 160 ≤ j) ∧ (j < 161 ∨ 175 ≤ j) ∧ (j < 176 ∨ 190 ≤ j) → g2 j = g j))) ([.ref (ad 144), .ref (ad 3), .ref (ad 114)] : List Value).toArray s 0 0 (wA ad 218)) (F0 m 23 ls []) := by
    intro n23
    induction n23 with
    | zero =>
      intro v23_3 G23 H locs ls hm23 hv23_0 hW23 hfr23 hP hS hl
      exact absurd hm23 (Nat.not_lt_zero _)
    | succ n23 ih23 =>
      intro v23_3 G23 H locs ls hm23 hv23_0 hW23 hfr23 hP hS hl
      refine lv_iload_n hx hb dX8_plan_23 rfl (lv_at hl 0 rfl) ?_
      refine lv_if_lt (tgt := 75) hx hb dX8_plan_24 (by decide) (fun hc_15 => ?_) (fun hc_15 => ?_)
      · have hhc_15 := n_lt (rfl : v23_3.toInt = v23_3.toInt) (by decide : (0 : Int32).toInt = 0) hc_15
        refine lv_aload_n hx hb dX8_plan_75 rfl (lv_at hl 1 rfl) ?_
        refine lv_aload_n hx hb dX8_plan_76 rfl (lv_at hl 1 rfl) ?_
        obtain ⟨fsc_16, hgc_16, hOc_16⟩ := hW23.obj (i := 144) (by decide) (sh_144 ad K)
        have hk_17 := hOc_16.ref 2 rfl
        refine q_get X iX8_plan_8 hP (by decide) hgc_16 rfl 2 (by decide) (List.mem_of_getElem? (i := 14) rfl) (v := .ref (ad 160)) hk_17 dX8_plan_77 ?_
        refine lv_iconst (v := 0) hx hb dX8_plan_80 (by decide) ?_
        obtain ⟨fc_18, hgc_18, hFc_18⟩ := hW23.aref (i := 160) (by decide) (sh_160 ad K)
        have e_0 : (0 : Int32).toNatClampNeg = 0 := by decide
        have h_0 : 0 < 14 := by decide
        refine s_aald X hP 6 rfl rfl (by decide) hgc_18 (by unfold vp_in; decide) (v := ad (161 + 0)) (by rw [e_0, hFc_18 _ (by decide), Nat.one_mul]) dX8_plan_81 ?_
        refine lv_iconst (v := 0) hx hb dX8_plan_82 (by decide) ?_
        obtain ⟨fc_19, hgc_19, hFc_19⟩ := hW23.arr (i := (161 + 0)) (by omega) (shR_161 ad K h_0)
        refine q_iald X hP (by omega) hgc_19 (by unfold vp_in; decide) dX8_plan_83 ?_
        refine lv_topi (fun z_20 ez_20 => ?_)
        refine s_put X iX8_plan_8 tyX8 tyX8_ok nmX8 hP hj hA hS (by decide) hgc_16 rfl 0 (by decide) (List.mem_of_getElem? (i := 15) rfl) rfl (ty := .int) (v := .int z_20) (by decide +kernel) rfl rfl dX8_plan_84 hW23 (sh_144 ad K) hOc_16 rfl ⟨z_20, rfl, n_lo _, n_hi _⟩ (fun fsc_21 gc_21 H locs hOc_21 hkc_21 hnc_21 hgc_21 hfc_21 hWc_21 hP hS => ?_)
        have hk_22 := (hnc_21 2 (by decide)).trans hk_17
        have hg_24 := (hfc_21 160 (by decide)).trans hgc_18
        have hg_25 := (hfc_21 (161 + 0) (by omega)).trans hgc_19
        have hfr_23 : ∀ j, j ≠ 144 ∧ (j < 146 ∨ 160 ≤ j) ∧ (j < 161 ∨ 175 ≤ j) ∧ (j < 176 ∨ 190 ≤ j) → gc_21 j = g j := fun j hj => (hfc_21 j (by omega)).trans (hfr23 j hj)
        refine lv_iconst (v := 1) hx hb dX8_plan_87 (by decide) ?_
        refine lv_istore_n (lv' := [(3, .int 1), (0, .ref (ad 144)), (1, .ref (ad 3)), (2, .ref (ad 114))]) hx hb dX8_plan_88 rfl hl (by decide) rfl (fun ls hl => ?_)
        have HL89 : ∀ (n89 : Nat) (v89_3 : Int32) (G89 : Nat → va_E) (H : Heap) (locs : List Loc) (ls : Array Slot), (5 - v89_3.toInt).toNat < n89 → (1 ≤ v89_3.toInt ∧ v89_3.toInt ≤ 5) → WF (shp ad K) ad cs G89 → (∀ j, j ≠ 144 ∧ (j < 146 ∨ 160 ≤ j) ∧ (j < 161 ∨ 175 ≤ j) ∧ (j < 176 ∨ 190 ≤ j) → G89 j = g j) → va_P D vwCl (wL ad G89 218) H → va_S (wA ad 218) s.heap H locs → lv_has ls 5 [(3, .int v89_3), (0, .ref (ad 144))] → W p l e ({ frames := 2, cells := 0, slots := 0, locals := 40 } : Room) s m ([.ref (ad 144), .ref (ad 3), .ref (ad 114)] : List Value).toArray below meth c H locs 0 0 (MQ below (qV D ad 218 (fun g2 => WF (shp ad K) ad cs g2 ∧ (∀ j, j ≠ 144 ∧ (j < 146 ∨ 160 ≤ j) ∧ (j < 161 ∨ 175 ≤ j) ∧ (j < 176 ∨ 190 ≤ j) → g2 j = g j))) ([.ref (ad 144), .ref (ad 3), .ref (ad 114)] : List Value).toArray s 0 0 (wA ad 218)) (F0 m 89 ls []) := by
          intro n89
          induction n89 with
          | zero =>
            intro v89_3 G89 H locs ls hm89 hv89_0 hW89 hfr89 hP hS hl
            exact absurd hm89 (Nat.not_lt_zero _)
          | succ n89 ih89 =>
            intro v89_3 G89 H locs ls hm89 hv89_0 hW89 hfr89 hP hS hl
            refine lv_iload_n hx hb dX8_plan_89 rfl (lv_at hl 0 rfl) ?_
            refine lv_aload_n hx hb dX8_plan_90 rfl (lv_at hl 1 rfl) ?_
            obtain ⟨fsc_26, hgc_26, hOc_26⟩ := hW89.obj (i := 144) (by decide) (sh_144 ad K)
            obtain ⟨x_28, hk_27, hlx_28, hhx_28⟩ := hOc_26.int 5 rfl
            refine q_get X iX8_plan_8 hP (by decide) hgc_26 rfl 5 (by decide) (List.mem_of_getElem? (i := 4) rfl) (v := .int x_28) hk_27 dX8_plan_91 ?_
            refine lv_icmp_ge (tgt := 122) hx hb dX8_plan_94 (by decide) (fun hc_29 => ?_) (fun hc_29 => ?_)
            · have hhc_29 := n_le (rfl : x_28.toInt = x_28.toInt) (rfl : v89_3.toInt = v89_3.toInt) hc_29
              exact q_vret X hP hS ⟨hW89, hfr89⟩ dX8_plan_122
            · have hhc_29 := n_nle (rfl : x_28.toInt = x_28.toInt) (rfl : v89_3.toInt = v89_3.toInt) hc_29
              refine lv_aload_n hx hb dX8_plan_97 rfl (lv_at hl 1 rfl) ?_
              refine lv_aload_n hx hb dX8_plan_98 rfl (lv_at hl 1 rfl) ?_
              obtain ⟨x_31, hk_30, -⟩ := hOc_26.int 0 rfl
              refine q_get X iX8_plan_8 hP (by decide) hgc_26 rfl 0 (by decide) (List.mem_of_getElem? (i := 15) rfl) (v := .int x_31) hk_30 dX8_plan_99 ?_
              refine lv_aload_n hx hb dX8_plan_102 rfl (lv_at hl 1 rfl) ?_
              have hk_32 := hOc_26.ref 2 rfl
              refine q_get X iX8_plan_8 hP (by decide) hgc_26 rfl 2 (by decide) (List.mem_of_getElem? (i := 14) rfl) (v := .ref (ad 160)) hk_32 dX8_plan_103 ?_
              refine lv_iconst (v := 0) hx hb dX8_plan_106 (by decide) ?_
              obtain ⟨fc_33, hgc_33, hFc_33⟩ := hW89.aref (i := 160) (by decide) (sh_160 ad K)
              have e_0 : (0 : Int32).toNatClampNeg = 0 := by decide
              have h_0 : 0 < 14 := by decide
              refine s_aald X hP 6 rfl rfl (by decide) hgc_33 (by unfold vp_in; decide) (v := ad (161 + 0)) (by rw [e_0, hFc_33 _ (by decide), Nat.one_mul]) dX8_plan_107 ?_
              refine lv_iload_n hx hb dX8_plan_108 rfl (lv_at hl 0 rfl) ?_
              obtain ⟨fc_34, hgc_34, hFc_34⟩ := hW89.arr (i := (161 + 0)) (by omega) (shR_161 ad K h_0)
              refine q_iald X hP (by omega) hgc_34 (n_in (rfl : v89_3.toInt = v89_3.toInt) (by omega) (by omega)) dX8_plan_109 ?_
              refine lv_topi (fun z_35 ez_35 => ?_)
              refine va_mmin hx hb (X.2.2.2.1.trans hl.1.symm) X.2.2.2.2.2.1 (X.2.2.2.2.1 _ (List.mem_of_getElem? (i := 16) rfl)) (X.2.2.2.2.1 _ (List.mem_of_getElem? (i := 17) rfl)) (X.2.2.2.2.1 _ (List.mem_of_getElem? (i := 18) rfl)) (X.2.2.2.2.1 _ (List.mem_of_getElem? (i := 19) rfl)) (Nat.le_of_ble_eq_true rfl) (Nat.le_of_ble_eq_true rfl) (Nat.le_of_ble_eq_true rfl) (Nat.le_of_ble_eq_true rfl) dX8_plan_110 ?_
              refine lv_topi (fun z_36 ez_36 => ?_)
              have hz_36 := n_min (rfl : x_31.toInt = x_31.toInt) (rfl : z_35.toInt = z_35.toInt) ez_36
              refine s_put X iX8_plan_8 tyX8 tyX8_ok nmX8 hP hj hA hS (by decide) hgc_26 rfl 0 (by decide) (List.mem_of_getElem? (i := 15) rfl) rfl (ty := .int) (v := .int z_36) (by decide +kernel) rfl rfl dX8_plan_113 hW89 (sh_144 ad K) hOc_26 rfl ⟨z_36, rfl, n_lo _, n_hi _⟩ (fun fsc_37 gc_37 H locs hOc_37 hkc_37 hnc_37 hgc_37 hfc_37 hWc_37 hP hS => ?_)
              have hk_38 := (hnc_37 5 (by decide)).trans hk_27
              have hk_39 := (hnc_37 2 (by decide)).trans hk_32
              have hg_41 := (hfc_37 160 (by decide)).trans hgc_33
              have hg_42 := (hfc_37 (161 + 0) (by omega)).trans hgc_34
              have hfr_40 : ∀ j, j ≠ 144 ∧ (j < 146 ∨ 160 ≤ j) ∧ (j < 161 ∨ 175 ≤ j) ∧ (j < 176 ∨ 190 ≤ j) → gc_37 j = g j := fun j hj => (hfc_37 j (by omega)).trans (hfr89 j hj)
              obtain ⟨x_43, ex_43⟩ : ∃ y : Int32, y = v89_3 + 1 := ⟨_, rfl⟩
              have hx_43 : x_43.toInt = v89_3.toInt + 1 := n_add rfl (by decide : (1 : Int32).toInt = 1) ex_43 (by omega) (by omega)
              refine lv_iinc (v := x_43) (lv' := [(3, .int x_43), (0, .ref (ad 144))]) hx hb dX8_plan_116 hl (k := 0) rfl (by rw [ex_43]; rfl) (by decide) rfl (fun ls hl => ?_)
              refine lv_goto (tgt := 89) hx hb dX8_plan_119 (by decide) ?_
              exact ih89 x_43 gc_37 _ _ ls (by omega) (by omega) hWc_37 hfr_40 hP hS (lv_sub hl [0, 1] rfl)
        have hiv89_3 : (1 : Int32).toInt = 1 := by decide
        exact HL89 _ 1 gc_21 _ _ ls (Nat.lt_succ_self _) (by omega) hWc_21 hfr_23 hP hS (lv_sub hl [0, 1] rfl)
      · have hhc_15 := n_nlt (rfl : v23_3.toInt = v23_3.toInt) (by decide : (0 : Int32).toInt = 0) hc_15
        refine lv_iconst (v := 0) hx hb dX8_plan_27 (by decide) ?_
        refine lv_istore (lv' := [(4, .int 0), (3, .int v23_3), (0, .ref (ad 144)), (1, .ref (ad 3)), (2, .ref (ad 114))]) hx hb dX8_plan_28 hl (by decide) rfl (fun ls hl => ?_)
        have HL30 : ∀ (n30 : Nat) (v30_4 : Int32) (G30 : Nat → va_E) (H : Heap) (locs : List Loc) (ls : Array Slot), (5 - v30_4.toInt).toNat < n30 → (0 ≤ v30_4.toInt ∧ v30_4.toInt ≤ 5) → WF (shp ad K) ad cs G30 → (∀ j, j ≠ 144 ∧ (j < 146 ∨ 160 ≤ j) ∧ (j < 161 ∨ 175 ≤ j) ∧ (j < 176 ∨ 190 ≤ j) → G30 j = g j) → va_P D vwCl (wL ad G30 218) H → va_S (wA ad 218) s.heap H locs → lv_has ls 5 [(4, .int v30_4), (3, .int v23_3), (0, .ref (ad 144)), (1, .ref (ad 3)), (2, .ref (ad 114))] → W p l e ({ frames := 2, cells := 0, slots := 0, locals := 40 } : Room) s m ([.ref (ad 144), .ref (ad 3), .ref (ad 114)] : List Value).toArray below meth c H locs 0 0 (MQ below (qV D ad 218 (fun g2 => WF (shp ad K) ad cs g2 ∧ (∀ j, j ≠ 144 ∧ (j < 146 ∨ 160 ≤ j) ∧ (j < 161 ∨ 175 ≤ j) ∧ (j < 176 ∨ 190 ≤ j) → g2 j = g j))) ([.ref (ad 144), .ref (ad 3), .ref (ad 114)] : List Value).toArray s 0 0 (wA ad 218)) (F0 m 30 ls []) := by
          intro n30
          induction n30 with
          | zero =>
            intro v30_4 G30 H locs ls hm30 hv30_0 hW30 hfr30 hP hS hl
            exact absurd hm30 (Nat.not_lt_zero _)
          | succ n30 ih30 =>
            intro v30_4 G30 H locs ls hm30 hv30_0 hW30 hfr30 hP hS hl
            refine lv_iload hx hb dX8_plan_30 (lv_at hl 0 rfl) ?_
            refine lv_aload_n hx hb dX8_plan_32 rfl (lv_at hl 2 rfl) ?_
            obtain ⟨fsc_44, hgc_44, hOc_44⟩ := hW30.obj (i := 144) (by decide) (sh_144 ad K)
            obtain ⟨x_46, hk_45, hlx_46, hhx_46⟩ := hOc_44.int 5 rfl
            refine q_get X iX8_plan_8 hP (by decide) hgc_44 rfl 5 (by decide) (List.mem_of_getElem? (i := 4) rfl) (v := .int x_46) hk_45 dX8_plan_33 ?_
            refine lv_icmp_ge (tgt := 69) hx hb dX8_plan_36 (by decide) (fun hc_47 => ?_) (fun hc_47 => ?_)
            · have hhc_47 := n_le (rfl : x_46.toInt = x_46.toInt) (rfl : v30_4.toInt = v30_4.toInt) hc_47
              obtain ⟨x_48, ex_48⟩ : ∃ y : Int32, y = v23_3 + (-1) := ⟨_, rfl⟩
              have hx_48 : x_48.toInt = v23_3.toInt + (-1) := n_add rfl (by decide : (-1 : Int32).toInt = -1) ex_48 (by omega) (by omega)
              refine lv_iinc (v := x_48) (lv' := [(3, .int x_48), (4, .int v30_4), (0, .ref (ad 144)), (1, .ref (ad 3)), (2, .ref (ad 114))]) hx hb dX8_plan_69 hl (k := 1) rfl (by rw [ex_48]; rfl) (by decide) rfl (fun ls hl => ?_)
              refine lv_goto (tgt := 23) hx hb dX8_plan_72 (by decide) ?_
              exact ih23 x_48 G30 _ _ ls (by omega) (by omega) hW30 hfr30 hP hS (lv_sub hl [0, 2, 3, 4] rfl)
            · have hhc_47 := n_nle (rfl : x_46.toInt = x_46.toInt) (rfl : v30_4.toInt = v30_4.toInt) hc_47
              refine lv_aload_n hx hb dX8_plan_39 rfl (lv_at hl 2 rfl) ?_
              have hk_49 := hOc_44.ref 1 rfl
              refine q_get X iX8_plan_8 hP (by decide) hgc_44 rfl 1 (by decide) (List.mem_of_getElem? (i := 5) rfl) (v := .ref (ad 145)) hk_49 dX8_plan_40 ?_
              refine lv_iload_n hx hb dX8_plan_43 rfl (lv_at hl 1 rfl) ?_
              obtain ⟨fc_50, hgc_50, hFc_50⟩ := hW30.aref (i := 145) (by decide) (sh_145 ad K)
              obtain ⟨e_51, h_e_51, e_e_51⟩ : ∃ q : Nat, q < 14 ∧ v23_3.toNatClampNeg = q := ⟨_, by have := n_cl (rfl : v23_3.toInt = v23_3.toInt) (by omega); omega, rfl⟩
              refine s_aald X hP 6 rfl rfl (by decide) hgc_50 (n_in (rfl : v23_3.toInt = v23_3.toInt) (by omega) (by omega)) (v := ad (146 + e_51)) (by rw [e_e_51, hFc_50 _ h_e_51, Nat.one_mul]) dX8_plan_44 ?_
              refine lv_iload hx hb dX8_plan_45 (lv_at hl 0 rfl) ?_
              refine lv_aload_n hx hb dX8_plan_47 rfl (lv_at hl 4 rfl) ?_
              refine lv_aload_n hx hb dX8_plan_48 rfl (lv_at hl 3 rfl) ?_
              refine lv_iload hx hb dX8_plan_49 (lv_at hl 0 rfl) ?_
              refine lv_iload_n hx hb dX8_plan_51 rfl (lv_at hl 1 rfl) ?_
              obtain ⟨fsc_55, hgc_55, hOc_55⟩ := hW30.obj (i := 114) (by decide) (sh_114 ad K)
              refine s_calli (q := (RX10, TX10, 4)) (As := [.ref (ad 3), .int v30_4, .int v23_3]) (rest := [.int v30_4, .ref (ad (146 + e_51))]) X Z (s_X10_fallsUnder l D cs ad kS K hKO hj G30 hW30 114 v30_4 v23_3 (by omega)) (cwV 3 X.2.2.2.2.1 gg_X8_plan_X10_fallsUnder rfl rfl rfl (by decide +kernel) ⟨Nat.le_of_ble_eq_true rfl, Nat.le_of_ble_eq_true rfl⟩) (by decide) hgc_55 rfl hP hA hS.2.1 hS rfl hl.1 rfl (Nat.le_of_ble_eq_true rfl) dX8_plan_52 ⟨Nat.le_of_ble_eq_true rfl, Nat.le_of_ble_eq_true rfl⟩ (fun r_54 g_53 H locs hw_52 hP hS => ?_)
              rw [hw_52] at hP
              obtain ⟨fc_56, hgc_56, hFc_56⟩ := hW30.arr (i := (146 + e_51)) (by omega) (shR_146 ad K h_e_51)
              refine s_iast X hP hj hA hS (by omega) hgc_56 (n_in (rfl : v30_4.toInt = v30_4.toInt) (by omega) (by omega)) dX8_plan_55 hW30 (shR_146 ad K h_e_51) (hFc_56.put trivial) (fun fc_57 gc_57 H locs ec_57 hFc_57 hgc_57 hfc_57 hWc_57 hP hS => ?_)
              have hg_59 := (hfc_57 144 (by omega)).trans hgc_44
              have hg_60 := (hfc_57 145 (by omega)).trans hgc_50
              have hg_61 := (hfc_57 114 (by omega)).trans hgc_55
              have hfr_58 : ∀ j, j ≠ 144 ∧ (j < 146 ∨ 160 ≤ j) ∧ (j < 161 ∨ 175 ≤ j) ∧ (j < 176 ∨ 190 ≤ j) → gc_57 j = g j := fun j hj => (hfc_57 j (by omega)).trans (hfr30 j hj)
              refine lv_aload_n hx hb dX8_plan_56 rfl (lv_at hl 2 rfl) ?_
              refine lv_iload_n hx hb dX8_plan_57 rfl (lv_at hl 1 rfl) ?_
              refine lv_iload hx hb dX8_plan_58 (lv_at hl 0 rfl) ?_
              refine s_callv (q := (RX8, TX8, 6)) (As := [.int v23_3, .int v30_4]) (rest := []) X Z (s_X8_planFrom l D cs ad kS K hKO hj gc_57 hWc_57 v23_3 v30_4 (by omega) (by omega)) (cwV 2 X.2.2.2.2.1 gg_X8_plan_X8_planFrom rfl rfl rfl (by decide +kernel) ⟨Nat.le_of_ble_eq_true rfl, Nat.le_of_ble_eq_true rfl⟩) (by decide) hg_59 rfl hP hA hS.2.1 hS rfl hl.1 rfl (Nat.le_of_ble_eq_true rfl) dX8_plan_60 ⟨Nat.le_of_ble_eq_true rfl, Nat.le_of_ble_eq_true rfl⟩ (fun g_63 H locs hw_62 hP hS => ?_)
              obtain ⟨hw_62W, hw_62f⟩ := hw_62
              have hfr_65 : ∀ j, j ≠ 144 ∧ (j < 146 ∨ 160 ≤ j) ∧ (j < 161 ∨ 175 ≤ j) ∧ (j < 176 ∨ 190 ≤ j) → g_63 j = g j := fun j hj => (hw_62f j (by omega)).trans (hfr_58 j hj)
              have hg_66 := (hw_62f 144 (by omega)).trans hg_59
              have hg_67 := (hw_62f 145 (by omega)).trans hg_60
              have hg_68 := (hw_62f 114 (by omega)).trans hg_61
              have hg_69 := (hw_62f (146 + e_51) (by omega)).trans hgc_57
              obtain ⟨x_70, ex_70⟩ : ∃ y : Int32, y = v30_4 + 1 := ⟨_, rfl⟩
              have hx_70 : x_70.toInt = v30_4.toInt + 1 := n_add rfl (by decide : (1 : Int32).toInt = 1) ex_70 (by omega) (by omega)
              refine lv_iinc (v := x_70) (lv' := [(4, .int x_70), (3, .int v23_3), (0, .ref (ad 144)), (1, .ref (ad 3)), (2, .ref (ad 114))]) hx hb dX8_plan_63 hl (k := 0) rfl (by rw [ex_70]; rfl) (by decide) rfl (fun ls hl => ?_)
              refine lv_goto (tgt := 30) hx hb dX8_plan_66 (by decide) ?_
              exact ih30 x_70 g_63 _ _ ls (by omega) (by omega) hw_62W hfr_65 hP hS (lv_sub hl [0, 1, 2, 3, 4] rfl)
        have hiv30_4 : (0 : Int32).toInt = 0 := by decide
        exact HL30 _ 0 G23 _ _ ls (Nat.lt_succ_self _) (by omega) hW23 hfr23 hP hS (lv_sub hl [0, 1, 2, 3, 4] rfl)
  exact HL23 _ z_14 gc_10 _ _ ls (Nat.lt_succ_self _) (by omega) hWc_10 hfr_12 hP hS (lv_sub hl [0, 1, 2, 3] rfl)

theorem dX8_howMany_0 : decode cX8_howMany 0 = .ok (.iconst 0, 1) := by decide +kernel
theorem dX8_howMany_1 : decode cX8_howMany 1 = .ok (.istore_n 1, 1) := by decide +kernel
theorem dX8_howMany_2 : decode cX8_howMany 2 = .ok (.iconst 0, 1) := by decide +kernel
theorem dX8_howMany_3 : decode cX8_howMany 3 = .ok (.istore_n 2, 1) := by decide +kernel
theorem dX8_howMany_4 : decode cX8_howMany 4 = .ok (.iload_n 2, 1) := by decide +kernel
theorem dX8_howMany_5 : decode cX8_howMany 5 = .ok (.aload_n 0, 1) := by decide +kernel
theorem dX8_howMany_6 : decode cX8_howMany 6 = .ok (.getfield 32, 3) := by decide +kernel
theorem dX8_howMany_9 : decode cX8_howMany 9 = .ok (.if_icmp .ge 35, 3) := by decide +kernel
theorem dX8_howMany_12 : decode cX8_howMany 12 = .ok (.aload_n 0, 1) := by decide +kernel
theorem dX8_howMany_13 : decode cX8_howMany 13 = .ok (.getfield 16, 3) := by decide +kernel
theorem dX8_howMany_16 : decode cX8_howMany 16 = .ok (.iconst 0, 1) := by decide +kernel
theorem dX8_howMany_17 : decode cX8_howMany 17 = .ok (.aaload, 1) := by decide +kernel
theorem dX8_howMany_18 : decode cX8_howMany 18 = .ok (.iload_n 2, 1) := by decide +kernel
theorem dX8_howMany_19 : decode cX8_howMany 19 = .ok (.iaload, 1) := by decide +kernel
theorem dX8_howMany_20 : decode cX8_howMany 20 = .ok (.aload_n 0, 1) := by decide +kernel
theorem dX8_howMany_21 : decode cX8_howMany 21 = .ok (.getfield 43, 3) := by decide +kernel
theorem dX8_howMany_24 : decode cX8_howMany 24 = .ok (.if_icmp .ne 14, 3) := by decide +kernel
theorem dX8_howMany_27 : decode cX8_howMany 27 = .ok (.iload_n 1, 1) := by decide +kernel
theorem dX8_howMany_28 : decode cX8_howMany 28 = .ok (.aload_n 0, 1) := by decide +kernel
theorem dX8_howMany_29 : decode cX8_howMany 29 = .ok (.getfield 19, 3) := by decide +kernel
theorem dX8_howMany_32 : decode cX8_howMany 32 = .ok (.iconst 0, 1) := by decide +kernel
theorem dX8_howMany_33 : decode cX8_howMany 33 = .ok (.aaload, 1) := by decide +kernel
theorem dX8_howMany_34 : decode cX8_howMany 34 = .ok (.iload_n 2, 1) := by decide +kernel
theorem dX8_howMany_35 : decode cX8_howMany 35 = .ok (.iaload, 1) := by decide +kernel
theorem dX8_howMany_36 : decode cX8_howMany 36 = .ok (.iadd, 1) := by decide +kernel
theorem dX8_howMany_37 : decode cX8_howMany 37 = .ok (.istore_n 1, 1) := by decide +kernel
theorem dX8_howMany_38 : decode cX8_howMany 38 = .ok (.iinc 2 1, 3) := by decide +kernel
theorem dX8_howMany_41 : decode cX8_howMany 41 = .ok (.goto (-37), 3) := by decide +kernel
theorem dX8_howMany_44 : decode cX8_howMany 44 = .ok (.iload_n 1, 1) := by decide +kernel
theorem dX8_howMany_45 : decode cX8_howMany 45 = .ok (.ireturn, 1) := by decide +kernel
noncomputable def vX8_howMany : List Cond := .code yX8_howMany cX8_howMany 3 (some .int) :: (([.fieldLink RX8 32 "IcicleClock$Walker" "eaves" "I", .fieldLink RX8 16 "IcicleClock$Walker" "least" "[[I", .fieldLink RX8 43 "IcicleClock$Walker" "leastOfAll" "I", .fieldLink RX8 19 "IcicleClock$Walker" "many" "[[I"] : List Cond) ++ wsX80)
theorem iX8_howMany_8 : ∀ w ∈ wsX80, w ∈ vX8_howMany := fun _ h => List.mem_cons_of_mem _ (List.mem_append_right _ (h))
theorem gs_X8_howMany : Gd vX8_howMany := Gd.cons (by decide +kernel) (Gd.app (Gd.r (by decide +kernel)) gwX_8)
set_option maxHeartbeats 4000000 in
set_option maxRecDepth 100000 in
theorem s_X8_howMany (l : Launch) (D : va_G) (cs : Nat → ClassId) (ad : Nat → Nat) (kS : kSt) (K : sK) (hKO : KO K) (hj : wJ ad 218) (g : Nat → va_E) (hW : WF (shp ad K) ad cs g) : sI l yX8_howMany vX8_howMany { frames := 0, cells := 0, slots := 0, locals := 0 } D cs ad kS [.ref (ad 144)] g (fun r g2 => g2 = g) := by
  refine Met.startS (cc := cX8_howMany) (maxL := 3) (ret := (some .int)) RX8 rfl (by decide) rfl (Nat.le_of_ble_eq_true rfl) ?_
  intro p e s m below meth c ls X Z hP hl
  have hx := X.1
  have hb := X.2.1
  have hS : va_S (wA ad 218) s.heap s.heap [] := va_S.rf
  have hA : ∀ i, i < 218 → wA ad 218 (ad i) := fun i h => ⟨i, h, rfl⟩
  have hl : lv_has ls 3 [(0, .ref (ad 144))] := hl
  refine lv_iconst (v := 0) hx hb dX8_howMany_0 (by decide) ?_
  refine lv_istore_n (lv' := [(1, .int 0), (0, .ref (ad 144))]) hx hb dX8_howMany_1 rfl hl (by decide) rfl (fun ls hl => ?_)
  refine lv_iconst (v := 0) hx hb dX8_howMany_2 (by decide) ?_
  refine lv_istore_n (lv' := [(2, .int 0), (1, .int 0), (0, .ref (ad 144))]) hx hb dX8_howMany_3 rfl hl (by decide) rfl (fun ls hl => ?_)
  have HL4 : ∀ (n4 : Nat) (v4_2 : Int32) (v4_1 : Int32) (H : Heap) (locs : List Loc) (ls : Array Slot), (5 - v4_2.toInt).toNat < n4 → (0 ≤ v4_2.toInt ∧ v4_2.toInt ≤ 5) → va_P D vwCl (wL ad g 218) H → va_S (wA ad 218) s.heap H locs → lv_has ls 3 [(2, .int v4_2), (1, .int v4_1), (0, .ref (ad 144))] → W p l e ({ frames := 0, cells := 0, slots := 0, locals := 0 } : Room) s m ([.ref (ad 144)] : List Value).toArray below meth c H locs 0 0 (MQ below (qI D ad 218 (fun r g2 => g2 = g)) ([.ref (ad 144)] : List Value).toArray s 0 0 (wA ad 218)) (F0 m 4 ls []) := by
    intro n4
    induction n4 with
    | zero =>
      intro v4_2 v4_1 H locs ls hm4 hv4_0 hP hS hl
      exact absurd hm4 (Nat.not_lt_zero _)
    | succ n4 ih4 =>
      intro v4_2 v4_1 H locs ls hm4 hv4_0 hP hS hl
      refine lv_iload_n hx hb dX8_howMany_4 rfl (lv_at hl 0 rfl) ?_
      refine lv_aload_n hx hb dX8_howMany_5 rfl (lv_at hl 2 rfl) ?_
      obtain ⟨fsc_1, hgc_1, hOc_1⟩ := hW.obj (i := 144) (by decide) (sh_144 ad K)
      obtain ⟨x_3, hk_2, hlx_3, hhx_3⟩ := hOc_1.int 5 rfl
      refine q_get X iX8_howMany_8 hP (by decide) hgc_1 rfl 5 (by decide) (List.mem_of_getElem? (i := 1) rfl) (v := .int x_3) hk_2 dX8_howMany_6 ?_
      refine lv_icmp_ge (tgt := 44) hx hb dX8_howMany_9 (by decide) (fun hc_4 => ?_) (fun hc_4 => ?_)
      · have hhc_4 := n_le (rfl : x_3.toInt = x_3.toInt) (rfl : v4_2.toInt = v4_2.toInt) hc_4
        refine lv_iload_n hx hb dX8_howMany_44 rfl (lv_at hl 1 rfl) ?_
        exact q_iret X hP hS rfl dX8_howMany_45
      · have hhc_4 := n_nle (rfl : x_3.toInt = x_3.toInt) (rfl : v4_2.toInt = v4_2.toInt) hc_4
        refine lv_aload_n hx hb dX8_howMany_12 rfl (lv_at hl 2 rfl) ?_
        have hk_5 := hOc_1.ref 2 rfl
        refine q_get X iX8_howMany_8 hP (by decide) hgc_1 rfl 2 (by decide) (List.mem_of_getElem? (i := 2) rfl) (v := .ref (ad 160)) hk_5 dX8_howMany_13 ?_
        refine lv_iconst (v := 0) hx hb dX8_howMany_16 (by decide) ?_
        obtain ⟨fc_6, hgc_6, hFc_6⟩ := hW.aref (i := 160) (by decide) (sh_160 ad K)
        have e_0 : (0 : Int32).toNatClampNeg = 0 := by decide
        have h_0 : 0 < 14 := by decide
        refine s_aald X hP 6 rfl rfl (by decide) hgc_6 (by unfold vp_in; decide) (v := ad (161 + 0)) (by rw [e_0, hFc_6 _ (by decide), Nat.one_mul]) dX8_howMany_17 ?_
        refine lv_iload_n hx hb dX8_howMany_18 rfl (lv_at hl 0 rfl) ?_
        obtain ⟨fc_7, hgc_7, hFc_7⟩ := hW.arr (i := (161 + 0)) (by omega) (shR_161 ad K h_0)
        refine q_iald X hP (by omega) hgc_7 (n_in (rfl : v4_2.toInt = v4_2.toInt) (by omega) (by omega)) dX8_howMany_19 ?_
        refine lv_topi (fun z_8 ez_8 => ?_)
        refine lv_aload_n hx hb dX8_howMany_20 rfl (lv_at hl 2 rfl) ?_
        obtain ⟨x_10, hk_9, -⟩ := hOc_1.int 0 rfl
        refine q_get X iX8_howMany_8 hP (by decide) hgc_1 rfl 0 (by decide) (List.mem_of_getElem? (i := 3) rfl) (v := .int x_10) hk_9 dX8_howMany_21 ?_
        have HJ38 : ∀ (v38_1 : Int32) (H : Heap) (locs : List Loc) (ls : Array Slot), va_P D vwCl (wL ad g 218) H → va_S (wA ad 218) s.heap H locs → lv_has ls 3 [(2, .int v4_2), (1, .int v38_1), (0, .ref (ad 144))] → W p l e ({ frames := 0, cells := 0, slots := 0, locals := 0 } : Room) s m ([.ref (ad 144)] : List Value).toArray below meth c H locs 0 0 (MQ below (qI D ad 218 (fun r g2 => g2 = g)) ([.ref (ad 144)] : List Value).toArray s 0 0 (wA ad 218)) (F0 m 38 ls []) := by
          intro v38_1 H locs ls hP hS hl
          obtain ⟨x_11, ex_11⟩ : ∃ y : Int32, y = v4_2 + 1 := ⟨_, rfl⟩
          have hx_11 : x_11.toInt = v4_2.toInt + 1 := n_add rfl (by decide : (1 : Int32).toInt = 1) ex_11 (by omega) (by omega)
          refine lv_iinc (v := x_11) (lv' := [(2, .int x_11), (1, .int v38_1), (0, .ref (ad 144))]) hx hb dX8_howMany_38 hl (k := 0) rfl (by rw [ex_11]; rfl) (by decide) rfl (fun ls hl => ?_)
          refine lv_goto (tgt := 4) hx hb dX8_howMany_41 (by decide) ?_
          exact ih4 x_11 v38_1 _ _ ls (by omega) (by omega) hP hS (lv_sub hl [0, 1, 2] rfl)
        refine lv_icmp_ne (tgt := 38) hx hb dX8_howMany_24 (by decide) (fun hc_12 => ?_) (fun hc_12 => ?_)
        · have hhc_12 := n_ne (rfl : z_8.toInt = z_8.toInt) (rfl : x_10.toInt = x_10.toInt) hc_12
          exact HJ38 v4_1 _ _ ls hP hS (lv_sub hl [0, 1, 2] rfl)
        · have hhc_12 := n_eq (rfl : z_8.toInt = z_8.toInt) (rfl : x_10.toInt = x_10.toInt) hc_12
          refine lv_iload_n hx hb dX8_howMany_27 rfl (lv_at hl 1 rfl) ?_
          refine lv_aload_n hx hb dX8_howMany_28 rfl (lv_at hl 2 rfl) ?_
          have hk_13 := hOc_1.ref 3 rfl
          refine q_get X iX8_howMany_8 hP (by decide) hgc_1 rfl 3 (by decide) (List.mem_of_getElem? (i := 4) rfl) (v := .ref (ad 175)) hk_13 dX8_howMany_29 ?_
          refine lv_iconst (v := 0) hx hb dX8_howMany_32 (by decide) ?_
          obtain ⟨fc_14, hgc_14, hFc_14⟩ := hW.aref (i := 175) (by decide) (sh_175 ad K)
          have e_0 : (0 : Int32).toNatClampNeg = 0 := by decide
          have h_0 : 0 < 14 := by decide
          refine s_aald X hP 6 rfl rfl (by decide) hgc_14 (by unfold vp_in; decide) (v := ad (176 + 0)) (by rw [e_0, hFc_14 _ (by decide), Nat.one_mul]) dX8_howMany_33 ?_
          refine lv_iload_n hx hb dX8_howMany_34 rfl (lv_at hl 0 rfl) ?_
          obtain ⟨fc_15, hgc_15, hFc_15⟩ := hW.arr (i := (176 + 0)) (by omega) (shR_176 ad K h_0)
          refine q_iald X hP (by omega) hgc_15 (n_in (rfl : v4_2.toInt = v4_2.toInt) (by omega) (by omega)) dX8_howMany_35 ?_
          refine lv_topi (fun z_16 ez_16 => ?_)
          refine lv_iadd hx hb dX8_howMany_36 ?_
          refine lv_topi (fun z_17 ez_17 => ?_)
          refine lv_istore_n (lv' := [(1, .int z_17), (2, .int v4_2), (0, .ref (ad 144))]) hx hb dX8_howMany_37 rfl hl (by decide) rfl (fun ls hl => ?_)
          exact HJ38 z_17 _ _ ls hP hS (lv_sub hl [1, 0, 2] rfl)
  have hiv4_2 : (0 : Int32).toInt = 0 := by decide
  have hiv4_1 : (0 : Int32).toInt = 0 := by decide
  exact HL4 _ 0 0 _ _ ls (Nat.lt_succ_self _) (by omega) hP hS (lv_sub hl [0, 1, 2] rfl)

theorem dX8_firstOf_0 : decode cX8_firstOf 0 = .ok (.iload_n 2, 1) := by decide +kernel
theorem dX8_firstOf_1 : decode cX8_firstOf 1 = .ok (.istore 5, 2) := by decide +kernel
theorem dX8_firstOf_3 : decode cX8_firstOf 3 = .ok (.iload 5, 2) := by decide +kernel
theorem dX8_firstOf_5 : decode cX8_firstOf 5 = .ok (.iload_n 3, 1) := by decide +kernel
theorem dX8_firstOf_6 : decode cX8_firstOf 6 = .ok (.if_icmp .gt 26, 3) := by decide +kernel
theorem dX8_firstOf_9 : decode cX8_firstOf 9 = .ok (.aload_n 0, 1) := by decide +kernel
theorem dX8_firstOf_10 : decode cX8_firstOf 10 = .ok (.getfield 16, 3) := by decide +kernel
theorem dX8_firstOf_13 : decode cX8_firstOf 13 = .ok (.iload_n 1, 1) := by decide +kernel
theorem dX8_firstOf_14 : decode cX8_firstOf 14 = .ok (.aaload, 1) := by decide +kernel
theorem dX8_firstOf_15 : decode cX8_firstOf 15 = .ok (.iload 5, 2) := by decide +kernel
theorem dX8_firstOf_17 : decode cX8_firstOf 17 = .ok (.iaload, 1) := by decide +kernel
theorem dX8_firstOf_18 : decode cX8_firstOf 18 = .ok (.iload 4, 2) := by decide +kernel
theorem dX8_firstOf_20 : decode cX8_firstOf 20 = .ok (.if_icmp .ne 6, 3) := by decide +kernel
theorem dX8_firstOf_23 : decode cX8_firstOf 23 = .ok (.iload 5, 2) := by decide +kernel
theorem dX8_firstOf_25 : decode cX8_firstOf 25 = .ok (.ireturn, 1) := by decide +kernel
theorem dX8_firstOf_26 : decode cX8_firstOf 26 = .ok (.iinc 5 1, 3) := by decide +kernel
theorem dX8_firstOf_29 : decode cX8_firstOf 29 = .ok (.goto (-26), 3) := by decide +kernel
theorem dX8_firstOf_32 : decode cX8_firstOf 32 = .ok (.iload_n 2, 1) := by decide +kernel
theorem dX8_firstOf_33 : decode cX8_firstOf 33 = .ok (.ireturn, 1) := by decide +kernel
noncomputable def vX8_firstOf : List Cond := .code yX8_firstOf cX8_firstOf 6 (some .int) :: (([.fieldLink RX8 16 "IcicleClock$Walker" "least" "[[I"] : List Cond) ++ wsX80)
theorem iX8_firstOf_8 : ∀ w ∈ wsX80, w ∈ vX8_firstOf := fun _ h => List.mem_cons_of_mem _ (List.mem_append_right _ (h))
theorem gs_X8_firstOf : Gd vX8_firstOf := Gd.cons (by decide +kernel) (Gd.app (Gd.r (by decide +kernel)) gwX_8)
set_option maxHeartbeats 4000000 in
set_option maxRecDepth 100000 in
theorem s_X8_firstOf (l : Launch) (D : va_G) (cs : Nat → ClassId) (ad : Nat → Nat) (kS : kSt) (K : sK) (hKO : KO K) (hj : wJ ad 218) (g : Nat → va_E) (hW : WF (shp ad K) ad cs g) (dy : Int32) (lw : Int32) (hg : Int32) (du : Int32) (hp0 : 0 ≤ dy.toInt ∧ dy.toInt ≤ 13) (hp1 : 0 ≤ lw.toInt ∧ lw.toInt ≤ 4) (hp2 : (-1) ≤ hg.toInt ∧ hg.toInt ≤ 4) : sI l yX8_firstOf vX8_firstOf { frames := 0, cells := 0, slots := 0, locals := 0 } D cs ad kS [.ref (ad 144), .int dy, .int lw, .int hg, .int du] g (fun r g2 => g2 = g ∧ (0 ≤ r.toInt ∧ r.toInt ≤ 4)) := by
  refine Met.startS (cc := cX8_firstOf) (maxL := 6) (ret := (some .int)) RX8 rfl (by decide) rfl (Nat.le_of_ble_eq_true rfl) ?_
  intro p e s m below meth c ls X Z hP hl
  have hx := X.1
  have hb := X.2.1
  have hS : va_S (wA ad 218) s.heap s.heap [] := va_S.rf
  have hA : ∀ i, i < 218 → wA ad 218 (ad i) := fun i h => ⟨i, h, rfl⟩
  have hl : lv_has ls 6 [(0, .ref (ad 144)), (1, .int dy), (2, .int lw), (3, .int hg), (4, .int du)] := hl
  refine lv_iload_n hx hb dX8_firstOf_0 rfl (lv_at hl 2 rfl) ?_
  refine lv_istore (lv' := [(5, .int lw), (0, .ref (ad 144)), (1, .int dy), (2, .int lw), (3, .int hg), (4, .int du)]) hx hb dX8_firstOf_1 hl (by decide) rfl (fun ls hl => ?_)
  have HL3 : ∀ (n3 : Nat) (v3_5 : Int32) (H : Heap) (locs : List Loc) (ls : Array Slot), (5 - v3_5.toInt).toNat < n3 → (0 ≤ v3_5.toInt ∧ v3_5.toInt ≤ 5) → va_P D vwCl (wL ad g 218) H → va_S (wA ad 218) s.heap H locs → lv_has ls 6 [(5, .int v3_5), (0, .ref (ad 144)), (1, .int dy), (2, .int lw), (3, .int hg), (4, .int du)] → W p l e ({ frames := 0, cells := 0, slots := 0, locals := 0 } : Room) s m ([.ref (ad 144), .int dy, .int lw, .int hg, .int du] : List Value).toArray below meth c H locs 0 0 (MQ below (qI D ad 218 (fun r g2 => g2 = g ∧ (0 ≤ r.toInt ∧ r.toInt ≤ 4))) ([.ref (ad 144), .int dy, .int lw, .int hg, .int du] : List Value).toArray s 0 0 (wA ad 218)) (F0 m 3 ls []) := by
    intro n3
    induction n3 with
    | zero =>
      intro v3_5 H locs ls hm3 hv3_0 hP hS hl
      exact absurd hm3 (Nat.not_lt_zero _)
    | succ n3 ih3 =>
      intro v3_5 H locs ls hm3 hv3_0 hP hS hl
      refine lv_iload hx hb dX8_firstOf_3 (lv_at hl 0 rfl) ?_
      refine lv_iload_n hx hb dX8_firstOf_5 rfl (lv_at hl 4 rfl) ?_
      refine lv_icmp_gt (tgt := 32) hx hb dX8_firstOf_6 (by decide) (fun hc_1 => ?_) (fun hc_1 => ?_)
      · have hhc_1 := n_lt (rfl : hg.toInt = hg.toInt) (rfl : v3_5.toInt = v3_5.toInt) hc_1
        refine lv_iload_n hx hb dX8_firstOf_32 rfl (lv_at hl 3 rfl) ?_
        exact q_iret X hP hS ⟨rfl, (by omega)⟩ dX8_firstOf_33
      · have hhc_1 := n_nlt (rfl : hg.toInt = hg.toInt) (rfl : v3_5.toInt = v3_5.toInt) hc_1
        refine lv_aload_n hx hb dX8_firstOf_9 rfl (lv_at hl 1 rfl) ?_
        obtain ⟨fsc_2, hgc_2, hOc_2⟩ := hW.obj (i := 144) (by decide) (sh_144 ad K)
        have hk_3 := hOc_2.ref 2 rfl
        refine q_get X iX8_firstOf_8 hP (by decide) hgc_2 rfl 2 (by decide) (List.mem_of_getElem? (i := 1) rfl) (v := .ref (ad 160)) hk_3 dX8_firstOf_10 ?_
        refine lv_iload_n hx hb dX8_firstOf_13 rfl (lv_at hl 2 rfl) ?_
        obtain ⟨fc_4, hgc_4, hFc_4⟩ := hW.aref (i := 160) (by decide) (sh_160 ad K)
        obtain ⟨e_5, h_e_5, e_e_5⟩ : ∃ q : Nat, q < 14 ∧ dy.toNatClampNeg = q := ⟨_, by have := n_cl (rfl : dy.toInt = dy.toInt) (by omega); omega, rfl⟩
        refine s_aald X hP 6 rfl rfl (by decide) hgc_4 (n_in (rfl : dy.toInt = dy.toInt) (by omega) (by omega)) (v := ad (161 + e_5)) (by rw [e_e_5, hFc_4 _ h_e_5, Nat.one_mul]) dX8_firstOf_14 ?_
        refine lv_iload hx hb dX8_firstOf_15 (lv_at hl 0 rfl) ?_
        obtain ⟨fc_6, hgc_6, hFc_6⟩ := hW.arr (i := (161 + e_5)) (by omega) (shR_161 ad K h_e_5)
        refine q_iald X hP (by omega) hgc_6 (n_in (rfl : v3_5.toInt = v3_5.toInt) (by omega) (by omega)) dX8_firstOf_17 ?_
        refine lv_topi (fun z_7 ez_7 => ?_)
        refine lv_iload hx hb dX8_firstOf_18 (lv_at hl 5 rfl) ?_
        refine lv_icmp_ne (tgt := 26) hx hb dX8_firstOf_20 (by decide) (fun hc_8 => ?_) (fun hc_8 => ?_)
        · have hhc_8 := n_ne (rfl : z_7.toInt = z_7.toInt) (rfl : du.toInt = du.toInt) hc_8
          obtain ⟨x_9, ex_9⟩ : ∃ y : Int32, y = v3_5 + 1 := ⟨_, rfl⟩
          have hx_9 : x_9.toInt = v3_5.toInt + 1 := n_add rfl (by decide : (1 : Int32).toInt = 1) ex_9 (by omega) (by omega)
          refine lv_iinc (v := x_9) (lv' := [(5, .int x_9), (0, .ref (ad 144)), (1, .int dy), (2, .int lw), (3, .int hg), (4, .int du)]) hx hb dX8_firstOf_26 hl (k := 0) rfl (by rw [ex_9]; rfl) (by decide) rfl (fun ls hl => ?_)
          refine lv_goto (tgt := 3) hx hb dX8_firstOf_29 (by decide) ?_
          exact ih3 x_9 _ _ ls (by omega) (by omega) hP hS (lv_sub hl [0, 1, 2, 3, 4, 5] rfl)
        · have hhc_8 := n_eq (rfl : z_7.toInt = z_7.toInt) (rfl : du.toInt = du.toInt) hc_8
          refine lv_iload hx hb dX8_firstOf_23 (lv_at hl 0 rfl) ?_
          exact q_iret X hP hS ⟨rfl, (by omega)⟩ dX8_firstOf_25
  exact HL3 _ lw _ _ ls (Nat.lt_succ_self _) (by omega) hP hS (lv_sub hl [0, 1, 2, 3, 4, 5] rfl)

theorem dX8_eaveOfFirst_0 : decode cX8_eaveOfFirst 0 = .ok (.aload_n 0, 1) := by decide +kernel
theorem dX8_eaveOfFirst_1 : decode cX8_eaveOfFirst 1 = .ok (.iconst 0, 1) := by decide +kernel
theorem dX8_eaveOfFirst_2 : decode cX8_eaveOfFirst 2 = .ok (.iconst 0, 1) := by decide +kernel
theorem dX8_eaveOfFirst_3 : decode cX8_eaveOfFirst 3 = .ok (.aload_n 0, 1) := by decide +kernel
theorem dX8_eaveOfFirst_4 : decode cX8_eaveOfFirst 4 = .ok (.getfield 32, 3) := by decide +kernel
theorem dX8_eaveOfFirst_7 : decode cX8_eaveOfFirst 7 = .ok (.iconst 1, 1) := by decide +kernel
theorem dX8_eaveOfFirst_8 : decode cX8_eaveOfFirst 8 = .ok (.isub, 1) := by decide +kernel
theorem dX8_eaveOfFirst_9 : decode cX8_eaveOfFirst 9 = .ok (.aload_n 0, 1) := by decide +kernel
theorem dX8_eaveOfFirst_10 : decode cX8_eaveOfFirst 10 = .ok (.getfield 43, 3) := by decide +kernel
theorem dX8_eaveOfFirst_13 : decode cX8_eaveOfFirst 13 = .ok (.invokevirtual 55, 3) := by decide +kernel
theorem dX8_eaveOfFirst_16 : decode cX8_eaveOfFirst 16 = .ok (.istore_n 2, 1) := by decide +kernel
theorem dX8_eaveOfFirst_17 : decode cX8_eaveOfFirst 17 = .ok (.iconst 1, 1) := by decide +kernel
theorem dX8_eaveOfFirst_18 : decode cX8_eaveOfFirst 18 = .ok (.istore_n 3, 1) := by decide +kernel
theorem dX8_eaveOfFirst_19 : decode cX8_eaveOfFirst 19 = .ok (.iload_n 3, 1) := by decide +kernel
theorem dX8_eaveOfFirst_20 : decode cX8_eaveOfFirst 20 = .ok (.iload_n 1, 1) := by decide +kernel
theorem dX8_eaveOfFirst_21 : decode cX8_eaveOfFirst 21 = .ok (.if_icmp .gt 67, 3) := by decide +kernel
theorem dX8_eaveOfFirst_24 : decode cX8_eaveOfFirst 24 = .ok (.iload_n 3, 1) := by decide +kernel
theorem dX8_eaveOfFirst_25 : decode cX8_eaveOfFirst 25 = .ok (.aload_n 0, 1) := by decide +kernel
theorem dX8_eaveOfFirst_26 : decode cX8_eaveOfFirst 26 = .ok (.getfield 28, 3) := by decide +kernel
theorem dX8_eaveOfFirst_29 : decode cX8_eaveOfFirst 29 = .ok (.if_icmp .ge 59, 3) := by decide +kernel
theorem dX8_eaveOfFirst_32 : decode cX8_eaveOfFirst 32 = .ok (.aload_n 0, 1) := by decide +kernel
theorem dX8_eaveOfFirst_33 : decode cX8_eaveOfFirst 33 = .ok (.getfield 16, 3) := by decide +kernel
theorem dX8_eaveOfFirst_36 : decode cX8_eaveOfFirst 36 = .ok (.iload_n 3, 1) := by decide +kernel
theorem dX8_eaveOfFirst_37 : decode cX8_eaveOfFirst 37 = .ok (.iconst 1, 1) := by decide +kernel
theorem dX8_eaveOfFirst_38 : decode cX8_eaveOfFirst 38 = .ok (.isub, 1) := by decide +kernel
theorem dX8_eaveOfFirst_39 : decode cX8_eaveOfFirst 39 = .ok (.aaload, 1) := by decide +kernel
theorem dX8_eaveOfFirst_40 : decode cX8_eaveOfFirst 40 = .ok (.iload_n 2, 1) := by decide +kernel
theorem dX8_eaveOfFirst_41 : decode cX8_eaveOfFirst 41 = .ok (.iaload, 1) := by decide +kernel
theorem dX8_eaveOfFirst_42 : decode cX8_eaveOfFirst 42 = .ok (.aload_n 0, 1) := by decide +kernel
theorem dX8_eaveOfFirst_43 : decode cX8_eaveOfFirst 43 = .ok (.getfield 11, 3) := by decide +kernel
theorem dX8_eaveOfFirst_46 : decode cX8_eaveOfFirst 46 = .ok (.iload_n 3, 1) := by decide +kernel
theorem dX8_eaveOfFirst_47 : decode cX8_eaveOfFirst 47 = .ok (.iconst 1, 1) := by decide +kernel
theorem dX8_eaveOfFirst_48 : decode cX8_eaveOfFirst 48 = .ok (.isub, 1) := by decide +kernel
theorem dX8_eaveOfFirst_49 : decode cX8_eaveOfFirst 49 = .ok (.aaload, 1) := by decide +kernel
theorem dX8_eaveOfFirst_50 : decode cX8_eaveOfFirst 50 = .ok (.iload_n 2, 1) := by decide +kernel
theorem dX8_eaveOfFirst_51 : decode cX8_eaveOfFirst 51 = .ok (.iaload, 1) := by decide +kernel
theorem dX8_eaveOfFirst_52 : decode cX8_eaveOfFirst 52 = .ok (.isub, 1) := by decide +kernel
theorem dX8_eaveOfFirst_53 : decode cX8_eaveOfFirst 53 = .ok (.istore 4, 2) := by decide +kernel
theorem dX8_eaveOfFirst_55 : decode cX8_eaveOfFirst 55 = .ok (.aload_n 0, 1) := by decide +kernel
theorem dX8_eaveOfFirst_56 : decode cX8_eaveOfFirst 56 = .ok (.iload_n 3, 1) := by decide +kernel
theorem dX8_eaveOfFirst_57 : decode cX8_eaveOfFirst 57 = .ok (.iconst 0, 1) := by decide +kernel
theorem dX8_eaveOfFirst_58 : decode cX8_eaveOfFirst 58 = .ok (.iload_n 2, 1) := by decide +kernel
theorem dX8_eaveOfFirst_59 : decode cX8_eaveOfFirst 59 = .ok (.iconst 1, 1) := by decide +kernel
theorem dX8_eaveOfFirst_60 : decode cX8_eaveOfFirst 60 = .ok (.isub, 1) := by decide +kernel
theorem dX8_eaveOfFirst_61 : decode cX8_eaveOfFirst 61 = .ok (.invokestatic 52, 3) := by decide +kernel
theorem dX8_eaveOfFirst_64 : decode cX8_eaveOfFirst 64 = .ok (.aload_n 0, 1) := by decide +kernel
theorem dX8_eaveOfFirst_65 : decode cX8_eaveOfFirst 65 = .ok (.getfield 32, 3) := by decide +kernel
theorem dX8_eaveOfFirst_68 : decode cX8_eaveOfFirst 68 = .ok (.iconst 1, 1) := by decide +kernel
theorem dX8_eaveOfFirst_69 : decode cX8_eaveOfFirst 69 = .ok (.isub, 1) := by decide +kernel
theorem dX8_eaveOfFirst_70 : decode cX8_eaveOfFirst 70 = .ok (.iload_n 2, 1) := by decide +kernel
theorem dX8_eaveOfFirst_71 : decode cX8_eaveOfFirst 71 = .ok (.iconst 1, 1) := by decide +kernel
theorem dX8_eaveOfFirst_72 : decode cX8_eaveOfFirst 72 = .ok (.iadd, 1) := by decide +kernel
theorem dX8_eaveOfFirst_73 : decode cX8_eaveOfFirst 73 = .ok (.invokestatic 46, 3) := by decide +kernel
theorem dX8_eaveOfFirst_76 : decode cX8_eaveOfFirst 76 = .ok (.iload 4, 2) := by decide +kernel
theorem dX8_eaveOfFirst_78 : decode cX8_eaveOfFirst 78 = .ok (.invokevirtual 55, 3) := by decide +kernel
theorem dX8_eaveOfFirst_81 : decode cX8_eaveOfFirst 81 = .ok (.istore_n 2, 1) := by decide +kernel
theorem dX8_eaveOfFirst_82 : decode cX8_eaveOfFirst 82 = .ok (.iinc 3 1, 3) := by decide +kernel
theorem dX8_eaveOfFirst_85 : decode cX8_eaveOfFirst 85 = .ok (.goto (-66), 3) := by decide +kernel
theorem dX8_eaveOfFirst_88 : decode cX8_eaveOfFirst 88 = .ok (.iload_n 2, 1) := by decide +kernel
theorem dX8_eaveOfFirst_89 : decode cX8_eaveOfFirst 89 = .ok (.ireturn, 1) := by decide +kernel
noncomputable def vX8_eaveOfFirst : List Cond := .code yX8_eaveOfFirst cX8_eaveOfFirst 5 (some .int) :: (([.fieldLink RX8 32 "IcicleClock$Walker" "eaves" "I", .fieldLink RX8 43 "IcicleClock$Walker" "leastOfAll" "I", .methodLink RX8 55 yX8_firstOf, .instanceMethod yX8_firstOf, .selects RX8 yX8_firstOf yX8_firstOf, .initialized RX8, .fieldLink RX8 28 "IcicleClock$Walker" "days" "I", .fieldLink RX8 16 "IcicleClock$Walker" "least" "[[I", .fieldLink RX8 11 "IcicleClock$Walker" "struck" "[[I", .methodLink RX8 52 Lib.Math.max.name, .static Lib.Math.max.name, .initialized "java/lang/Math", .code Lib.Math.max.name Lib.Math.max.code 2 (some .int), .methodLink RX8 46 Lib.Math.min.name, .static Lib.Math.min.name, .code Lib.Math.min.name Lib.Math.min.code 2 (some .int)] : List Cond) ++ (wsX80 ++ vX8_firstOf))
theorem iX8_eaveOfFirst_8 : ∀ w ∈ wsX80, w ∈ vX8_eaveOfFirst := fun _ h => List.mem_cons_of_mem _ (List.mem_append_right _ (List.mem_append_left _ h))
theorem gs_X8_eaveOfFirst : Gd vX8_eaveOfFirst := Gd.cons (by decide +kernel) (Gd.app (Gd.r (by decide +kernel)) (Gd.app gwX_8 gs_X8_firstOf))
theorem gg_X8_eaveOfFirst_X8_firstOf : GoodIn vX8_eaveOfFirst (wsV RX8 55 RX8 yX8_firstOf vX8_firstOf) := goodIn_app (goodIn_r _ [3, 4, 5, 6] (by decide +kernel) (by decide +kernel)) (fun w h => ⟨List.mem_cons_of_mem _ (List.mem_append_right _ (List.mem_append_right _ (h))), gs_X8_firstOf w h⟩)
set_option maxHeartbeats 4000000 in
set_option maxRecDepth 100000 in
theorem s_X8_eaveOfFirst (l : Launch) (D : va_G) (cs : Nat → ClassId) (ad : Nat → Nat) (kS : kSt) (K : sK) (hKO : KO K) (hj : wJ ad 218) (g : Nat → va_E) (hW : WF (shp ad K) ad cs g) (wa : Int32) : sI l yX8_eaveOfFirst vX8_eaveOfFirst { frames := 1, cells := 0, slots := 0, locals := 25 } D cs ad kS [.ref (ad 144), .int wa] g (fun r g2 => g2 = g ∧ (0 ≤ r.toInt ∧ r.toInt ≤ 4)) := by
  refine Met.startS (cc := cX8_eaveOfFirst) (maxL := 5) (ret := (some .int)) RX8 rfl (by decide) rfl (Nat.le_of_ble_eq_true rfl) ?_
  intro p e s m below meth c ls X Z hP hl
  have hx := X.1
  have hb := X.2.1
  have hS : va_S (wA ad 218) s.heap s.heap [] := va_S.rf
  have hA : ∀ i, i < 218 → wA ad 218 (ad i) := fun i h => ⟨i, h, rfl⟩
  have hl : lv_has ls 5 [(0, .ref (ad 144)), (1, .int wa)] := hl
  refine lv_aload_n hx hb dX8_eaveOfFirst_0 rfl (lv_at hl 0 rfl) ?_
  refine lv_iconst (v := 0) hx hb dX8_eaveOfFirst_1 (by decide) ?_
  refine lv_iconst (v := 0) hx hb dX8_eaveOfFirst_2 (by decide) ?_
  refine lv_aload_n hx hb dX8_eaveOfFirst_3 rfl (lv_at hl 0 rfl) ?_
  obtain ⟨fsc_1, hgc_1, hOc_1⟩ := hW.obj (i := 144) (by decide) (sh_144 ad K)
  obtain ⟨x_3, hk_2, hlx_3, hhx_3⟩ := hOc_1.int 5 rfl
  refine q_get X iX8_eaveOfFirst_8 hP (by decide) hgc_1 rfl 5 (by decide) (List.mem_of_getElem? (i := 1) rfl) (v := .int x_3) hk_2 dX8_eaveOfFirst_4 ?_
  refine lv_iconst (v := 1) hx hb dX8_eaveOfFirst_7 (by decide) ?_
  refine lv_isub hx hb dX8_eaveOfFirst_8 ?_
  refine lv_topi (fun z_4 ez_4 => ?_)
  have hz_4 : z_4.toInt = x_3.toInt - 1 := n_sub (rfl : x_3.toInt = x_3.toInt) (by decide : (1 : Int32).toInt = 1) ez_4 (by omega) (by omega)
  refine lv_aload_n hx hb dX8_eaveOfFirst_9 rfl (lv_at hl 0 rfl) ?_
  obtain ⟨x_6, hk_5, -⟩ := hOc_1.int 0 rfl
  refine q_get X iX8_eaveOfFirst_8 hP (by decide) hgc_1 rfl 0 (by decide) (List.mem_of_getElem? (i := 2) rfl) (v := .int x_6) hk_5 dX8_eaveOfFirst_10 ?_
  have hqk_7 : (0 : Int32).toInt = 0 := by decide
  have hqk_8 : (0 : Int32).toInt = 0 := by decide
  refine s_calli (q := (RX8, TX8, 6)) (As := [.int 0, .int 0, .int z_4, .int x_6]) (rest := []) X Z (s_X8_firstOf l D cs ad kS K hKO hj g hW 0 0 z_4 x_6 (by omega) (by omega) (by omega)) (cwV 4 X.2.2.2.2.1 gg_X8_eaveOfFirst_X8_firstOf rfl rfl rfl (by decide +kernel) ⟨Nat.le_of_ble_eq_true rfl, Nat.le_of_ble_eq_true rfl⟩) (by decide) hgc_1 rfl hP hA hS.2.1 hS rfl hl.1 rfl (Nat.le_of_ble_eq_true rfl) dX8_eaveOfFirst_13 ⟨Nat.le_of_ble_eq_true rfl, Nat.le_of_ble_eq_true rfl⟩ (fun r_11 g_10 H locs hw_9 hP hS => ?_)
  obtain ⟨hw_9g, hw_9⟩ := hw_9
  rw [hw_9g] at hP
  refine lv_istore_n (lv' := [(2, .int r_11), (0, .ref (ad 144)), (1, .int wa)]) hx hb dX8_eaveOfFirst_16 rfl hl (by decide) rfl (fun ls hl => ?_)
  refine lv_iconst (v := 1) hx hb dX8_eaveOfFirst_17 (by decide) ?_
  refine lv_istore_n (lv' := [(3, .int 1), (2, .int r_11), (0, .ref (ad 144)), (1, .int wa)]) hx hb dX8_eaveOfFirst_18 rfl hl (by decide) rfl (fun ls hl => ?_)
  have HL19 : ∀ (n19 : Nat) (v19_3 : Int32) (v19_2 : Int32) (H : Heap) (locs : List Loc) (ls : Array Slot), (14 - v19_3.toInt).toNat < n19 → (1 ≤ v19_3.toInt ∧ v19_3.toInt ≤ 14) → (0 ≤ v19_2.toInt ∧ v19_2.toInt ≤ 4) → va_P D vwCl (wL ad g 218) H → va_S (wA ad 218) s.heap H locs → lv_has ls 5 [(3, .int v19_3), (2, .int v19_2), (0, .ref (ad 144)), (1, .int wa)] → W p l e ({ frames := 1, cells := 0, slots := 0, locals := 25 } : Room) s m ([.ref (ad 144), .int wa] : List Value).toArray below meth c H locs 0 0 (MQ below (qI D ad 218 (fun r g2 => g2 = g ∧ (0 ≤ r.toInt ∧ r.toInt ≤ 4))) ([.ref (ad 144), .int wa] : List Value).toArray s 0 0 (wA ad 218)) (F0 m 19 ls []) := by
    intro n19
    induction n19 with
    | zero =>
      intro v19_3 v19_2 H locs ls hm19 hv19_0 hv19_1 hP hS hl
      exact absurd hm19 (Nat.not_lt_zero _)
    | succ n19 ih19 =>
      intro v19_3 v19_2 H locs ls hm19 hv19_0 hv19_1 hP hS hl
      refine lv_iload_n hx hb dX8_eaveOfFirst_19 rfl (lv_at hl 0 rfl) ?_
      refine lv_iload_n hx hb dX8_eaveOfFirst_20 rfl (lv_at hl 3 rfl) ?_
      have HJ88 : ∀ (H : Heap) (locs : List Loc) (ls : Array Slot), va_P D vwCl (wL ad g 218) H → va_S (wA ad 218) s.heap H locs → lv_has ls 5 [(2, .int v19_2)] → W p l e ({ frames := 1, cells := 0, slots := 0, locals := 25 } : Room) s m ([.ref (ad 144), .int wa] : List Value).toArray below meth c H locs 0 0 (MQ below (qI D ad 218 (fun r g2 => g2 = g ∧ (0 ≤ r.toInt ∧ r.toInt ≤ 4))) ([.ref (ad 144), .int wa] : List Value).toArray s 0 0 (wA ad 218)) (F0 m 88 ls []) := by
        intro H locs ls hP hS hl
        refine lv_iload_n hx hb dX8_eaveOfFirst_88 rfl (lv_at hl 0 rfl) ?_
        exact q_iret X hP hS ⟨rfl, (by omega)⟩ dX8_eaveOfFirst_89
      refine lv_icmp_gt (tgt := 88) hx hb dX8_eaveOfFirst_21 (by decide) (fun hc_12 => ?_) (fun hc_12 => ?_)
      · have hhc_12 := n_lt (rfl : wa.toInt = wa.toInt) (rfl : v19_3.toInt = v19_3.toInt) hc_12
        have := n_hi wa
        have := n_lo wa
        exact HJ88 _ _ ls hP hS (lv_sub hl [1] rfl)
      · have hhc_12 := n_nlt (rfl : wa.toInt = wa.toInt) (rfl : v19_3.toInt = v19_3.toInt) hc_12
        have := n_hi wa
        have := n_lo wa
        refine lv_iload_n hx hb dX8_eaveOfFirst_24 rfl (lv_at hl 0 rfl) ?_
        refine lv_aload_n hx hb dX8_eaveOfFirst_25 rfl (lv_at hl 2 rfl) ?_
        obtain ⟨x_14, hk_13, hlx_14, hhx_14⟩ := hOc_1.int 4 rfl
        refine q_get X iX8_eaveOfFirst_8 hP (by decide) hgc_1 rfl 4 (by decide) (List.mem_of_getElem? (i := 7) rfl) (v := .int x_14) hk_13 dX8_eaveOfFirst_26 ?_
        refine lv_icmp_ge (tgt := 88) hx hb dX8_eaveOfFirst_29 (by decide) (fun hc_15 => ?_) (fun hc_15 => ?_)
        · have hhc_15 := n_le (rfl : x_14.toInt = x_14.toInt) (rfl : v19_3.toInt = v19_3.toInt) hc_15
          exact HJ88 _ _ ls hP hS (lv_sub hl [1] rfl)
        · have hhc_15 := n_nle (rfl : x_14.toInt = x_14.toInt) (rfl : v19_3.toInt = v19_3.toInt) hc_15
          refine lv_aload_n hx hb dX8_eaveOfFirst_32 rfl (lv_at hl 2 rfl) ?_
          have hk_16 := hOc_1.ref 2 rfl
          refine q_get X iX8_eaveOfFirst_8 hP (by decide) hgc_1 rfl 2 (by decide) (List.mem_of_getElem? (i := 8) rfl) (v := .ref (ad 160)) hk_16 dX8_eaveOfFirst_33 ?_
          refine lv_iload_n hx hb dX8_eaveOfFirst_36 rfl (lv_at hl 0 rfl) ?_
          refine lv_iconst (v := 1) hx hb dX8_eaveOfFirst_37 (by decide) ?_
          refine lv_isub hx hb dX8_eaveOfFirst_38 ?_
          refine lv_topi (fun z_17 ez_17 => ?_)
          have hz_17 : z_17.toInt = v19_3.toInt - 1 := n_sub (rfl : v19_3.toInt = v19_3.toInt) (by decide : (1 : Int32).toInt = 1) ez_17 (by omega) (by omega)
          obtain ⟨fc_18, hgc_18, hFc_18⟩ := hW.aref (i := 160) (by decide) (sh_160 ad K)
          obtain ⟨e_19, h_e_19, e_e_19⟩ : ∃ q : Nat, q < 14 ∧ z_17.toNatClampNeg = q := ⟨_, by have := n_cl (rfl : z_17.toInt = z_17.toInt) (by omega); omega, rfl⟩
          refine s_aald X hP 6 rfl rfl (by decide) hgc_18 (n_in (rfl : z_17.toInt = z_17.toInt) (by omega) (by omega)) (v := ad (161 + e_19)) (by rw [e_e_19, hFc_18 _ h_e_19, Nat.one_mul]) dX8_eaveOfFirst_39 ?_
          refine lv_iload_n hx hb dX8_eaveOfFirst_40 rfl (lv_at hl 1 rfl) ?_
          obtain ⟨fc_20, hgc_20, hFc_20⟩ := hW.arr (i := (161 + e_19)) (by omega) (shR_161 ad K h_e_19)
          refine q_iald X hP (by omega) hgc_20 (n_in (rfl : v19_2.toInt = v19_2.toInt) (by omega) (by omega)) dX8_eaveOfFirst_41 ?_
          refine lv_topi (fun z_21 ez_21 => ?_)
          refine lv_aload_n hx hb dX8_eaveOfFirst_42 rfl (lv_at hl 2 rfl) ?_
          have hk_22 := hOc_1.ref 1 rfl
          refine q_get X iX8_eaveOfFirst_8 hP (by decide) hgc_1 rfl 1 (by decide) (List.mem_of_getElem? (i := 9) rfl) (v := .ref (ad 145)) hk_22 dX8_eaveOfFirst_43 ?_
          refine lv_iload_n hx hb dX8_eaveOfFirst_46 rfl (lv_at hl 0 rfl) ?_
          refine lv_iconst (v := 1) hx hb dX8_eaveOfFirst_47 (by decide) ?_
          refine lv_isub hx hb dX8_eaveOfFirst_48 ?_
          refine lv_topi (fun z_23 ez_23 => ?_)
          have hz_23 : z_23.toInt = v19_3.toInt - 1 := n_sub (rfl : v19_3.toInt = v19_3.toInt) (by decide : (1 : Int32).toInt = 1) ez_23 (by omega) (by omega)
          obtain ⟨fc_24, hgc_24, hFc_24⟩ := hW.aref (i := 145) (by decide) (sh_145 ad K)
          obtain ⟨e_25, h_e_25, e_e_25⟩ : ∃ q : Nat, q < 14 ∧ z_23.toNatClampNeg = q := ⟨_, by have := n_cl (rfl : z_23.toInt = z_23.toInt) (by omega); omega, rfl⟩
          refine s_aald X hP 6 rfl rfl (by decide) hgc_24 (n_in (rfl : z_23.toInt = z_23.toInt) (by omega) (by omega)) (v := ad (146 + e_25)) (by rw [e_e_25, hFc_24 _ h_e_25, Nat.one_mul]) dX8_eaveOfFirst_49 ?_
          refine lv_iload_n hx hb dX8_eaveOfFirst_50 rfl (lv_at hl 1 rfl) ?_
          obtain ⟨fc_26, hgc_26, hFc_26⟩ := hW.arr (i := (146 + e_25)) (by omega) (shR_146 ad K h_e_25)
          refine q_iald X hP (by omega) hgc_26 (n_in (rfl : v19_2.toInt = v19_2.toInt) (by omega) (by omega)) dX8_eaveOfFirst_51 ?_
          refine lv_topi (fun z_27 ez_27 => ?_)
          refine lv_isub hx hb dX8_eaveOfFirst_52 ?_
          refine lv_topi (fun z_28 ez_28 => ?_)
          refine lv_istore (lv' := [(4, .int z_28), (3, .int v19_3), (2, .int v19_2), (0, .ref (ad 144)), (1, .int wa)]) hx hb dX8_eaveOfFirst_53 hl (by decide) rfl (fun ls hl => ?_)
          refine lv_aload_n hx hb dX8_eaveOfFirst_55 rfl (lv_at hl 3 rfl) ?_
          refine lv_iload_n hx hb dX8_eaveOfFirst_56 rfl (lv_at hl 1 rfl) ?_
          refine lv_iconst (v := 0) hx hb dX8_eaveOfFirst_57 (by decide) ?_
          refine lv_iload_n hx hb dX8_eaveOfFirst_58 rfl (lv_at hl 2 rfl) ?_
          refine lv_iconst (v := 1) hx hb dX8_eaveOfFirst_59 (by decide) ?_
          refine lv_isub hx hb dX8_eaveOfFirst_60 ?_
          refine lv_topi (fun z_29 ez_29 => ?_)
          have hz_29 : z_29.toInt = v19_2.toInt - 1 := n_sub (rfl : v19_2.toInt = v19_2.toInt) (by decide : (1 : Int32).toInt = 1) ez_29 (by omega) (by omega)
          refine va_mmax hx hb (X.2.2.2.1.trans hl.1.symm) X.2.2.2.2.2.1 (X.2.2.2.2.1 _ (List.mem_of_getElem? (i := 10) rfl)) (X.2.2.2.2.1 _ (List.mem_of_getElem? (i := 11) rfl)) (X.2.2.2.2.1 _ (List.mem_of_getElem? (i := 12) rfl)) (X.2.2.2.2.1 _ (List.mem_of_getElem? (i := 13) rfl)) (Nat.le_of_ble_eq_true rfl) (Nat.le_of_ble_eq_true rfl) (Nat.le_of_ble_eq_true rfl) (Nat.le_of_ble_eq_true rfl) dX8_eaveOfFirst_61 ?_
          refine lv_topi (fun z_30 ez_30 => ?_)
          have hz_30 := n_max (by decide : (0 : Int32).toInt = 0) (rfl : z_29.toInt = z_29.toInt) ez_30
          refine lv_aload_n hx hb dX8_eaveOfFirst_64 rfl (lv_at hl 3 rfl) ?_
          refine q_get X iX8_eaveOfFirst_8 hP (by decide) hgc_1 rfl 5 (by decide) (List.mem_of_getElem? (i := 1) rfl) (v := .int x_3) hk_2 dX8_eaveOfFirst_65 ?_
          refine lv_iconst (v := 1) hx hb dX8_eaveOfFirst_68 (by decide) ?_
          refine lv_isub hx hb dX8_eaveOfFirst_69 ?_
          refine lv_topi (fun z_31 ez_31 => ?_)
          have hz_31 : z_31.toInt = x_3.toInt - 1 := n_sub (rfl : x_3.toInt = x_3.toInt) (by decide : (1 : Int32).toInt = 1) ez_31 (by omega) (by omega)
          refine lv_iload_n hx hb dX8_eaveOfFirst_70 rfl (lv_at hl 2 rfl) ?_
          refine lv_iconst (v := 1) hx hb dX8_eaveOfFirst_71 (by decide) ?_
          refine lv_iadd hx hb dX8_eaveOfFirst_72 ?_
          refine lv_topi (fun z_32 ez_32 => ?_)
          have hz_32 : z_32.toInt = v19_2.toInt + 1 := n_add (rfl : v19_2.toInt = v19_2.toInt) (by decide : (1 : Int32).toInt = 1) ez_32 (by omega) (by omega)
          refine va_mmin hx hb (X.2.2.2.1.trans hl.1.symm) X.2.2.2.2.2.1 (X.2.2.2.2.1 _ (List.mem_of_getElem? (i := 14) rfl)) (X.2.2.2.2.1 _ (List.mem_of_getElem? (i := 15) rfl)) (X.2.2.2.2.1 _ (List.mem_of_getElem? (i := 12) rfl)) (X.2.2.2.2.1 _ (List.mem_of_getElem? (i := 16) rfl)) (Nat.le_of_ble_eq_true rfl) (Nat.le_of_ble_eq_true rfl) (Nat.le_of_ble_eq_true rfl) (Nat.le_of_ble_eq_true rfl) dX8_eaveOfFirst_73 ?_
          refine lv_topi (fun z_33 ez_33 => ?_)
          have hz_33 := n_min (rfl : z_31.toInt = z_31.toInt) (rfl : z_32.toInt = z_32.toInt) ez_33
          refine lv_iload hx hb dX8_eaveOfFirst_76 (lv_at hl 0 rfl) ?_
          refine s_calli (q := (RX8, TX8, 6)) (As := [.int v19_3, .int z_30, .int z_33, .int z_28]) (rest := []) X Z (s_X8_firstOf l D cs ad kS K hKO hj g hW v19_3 z_30 z_33 z_28 (by omega) (by omega) (by omega)) (cwV 4 X.2.2.2.2.1 gg_X8_eaveOfFirst_X8_firstOf rfl rfl rfl (by decide +kernel) ⟨Nat.le_of_ble_eq_true rfl, Nat.le_of_ble_eq_true rfl⟩) (by decide) hgc_1 rfl hP hA hS.2.1 hS rfl hl.1 rfl (Nat.le_of_ble_eq_true rfl) dX8_eaveOfFirst_78 ⟨Nat.le_of_ble_eq_true rfl, Nat.le_of_ble_eq_true rfl⟩ (fun r_36 g_35 H locs hw_34 hP hS => ?_)
          obtain ⟨hw_34g, hw_34⟩ := hw_34
          rw [hw_34g] at hP
          refine lv_istore_n (lv' := [(2, .int r_36), (4, .int z_28), (3, .int v19_3), (0, .ref (ad 144)), (1, .int wa)]) hx hb dX8_eaveOfFirst_81 rfl hl (by decide) rfl (fun ls hl => ?_)
          obtain ⟨x_37, ex_37⟩ : ∃ y : Int32, y = v19_3 + 1 := ⟨_, rfl⟩
          have hx_37 : x_37.toInt = v19_3.toInt + 1 := n_add rfl (by decide : (1 : Int32).toInt = 1) ex_37 (by omega) (by omega)
          refine lv_iinc (v := x_37) (lv' := [(3, .int x_37), (2, .int r_36), (4, .int z_28), (0, .ref (ad 144)), (1, .int wa)]) hx hb dX8_eaveOfFirst_82 hl (k := 2) rfl (by rw [ex_37]; rfl) (by decide) rfl (fun ls hl => ?_)
          refine lv_goto (tgt := 19) hx hb dX8_eaveOfFirst_85 (by decide) ?_
          exact ih19 x_37 r_36 _ _ ls (by omega) (by omega) (by omega) hP hS (lv_sub hl [0, 1, 3, 4] rfl)
  have hiv19_3 : (1 : Int32).toInt = 1 := by decide
  exact HL19 _ 1 r_11 _ _ ls (Nat.lt_succ_self _) (by omega) (by omega) hP hS (lv_sub hl [0, 1, 2, 3] rfl)

theorem dX11_walk_0 : decode cX11_walk 0 = .ok (.aload_n 0, 1) := by decide +kernel
theorem dX11_walk_1 : decode cX11_walk 1 = .ok (.getfield 19, 3) := by decide +kernel
theorem dX11_walk_4 : decode cX11_walk 4 = .ok (.getfield 177, 3) := by decide +kernel
theorem dX11_walk_7 : decode cX11_walk 7 = .ok (.ifCond .eq 13, 3) := by decide +kernel
theorem dX11_walk_10 : decode cX11_walk 10 = .ok (.aload_n 0, 1) := by decide +kernel
theorem dX11_walk_11 : decode cX11_walk 11 = .ok (.getfield 19, 3) := by decide +kernel
theorem dX11_walk_14 : decode cX11_walk 14 = .ok (.getfield 208, 3) := by decide +kernel
theorem dX11_walk_17 : decode cX11_walk 17 = .ok (.ifCond .ne 6, 3) := by decide +kernel
theorem dX11_walk_23 : decode cX11_walk 23 = .ok (.aload_n 0, 1) := by decide +kernel
theorem dX11_walk_24 : decode cX11_walk 24 = .ok (.getfield 82, 3) := by decide +kernel
theorem dX11_walk_27 : decode cX11_walk 27 = .ok (.aload_n 0, 1) := by decide +kernel
theorem dX11_walk_28 : decode cX11_walk 28 = .ok (.getfield 19, 3) := by decide +kernel
theorem dX11_walk_31 : decode cX11_walk 31 = .ok (.aload_n 0, 1) := by decide +kernel
theorem dX11_walk_32 : decode cX11_walk 32 = .ok (.getfield 44, 3) := by decide +kernel
theorem dX11_walk_35 : decode cX11_walk 35 = .ok (.invokevirtual 320, 3) := by decide +kernel
theorem dX11_walk_38 : decode cX11_walk 38 = .ok (.aload_n 0, 1) := by decide +kernel
theorem dX11_walk_39 : decode cX11_walk 39 = .ok (.getfield 82, 3) := by decide +kernel
theorem dX11_walk_42 : decode cX11_walk 42 = .ok (.getfield 324, 3) := by decide +kernel
theorem dX11_walk_45 : decode cX11_walk 45 = .ok (.ireturn, 1) := by decide +kernel
theorem dX11_walk_20 : decode cX11_walk 20 = .ok (.bipush (-2), 2) := by decide +kernel
theorem dX11_walk_22 : decode cX11_walk 22 = .ok (.ireturn, 1) := by decide +kernel
noncomputable def vX11_walk : List Cond := .code yX11_walk cX11_walk 1 (some .int) :: (([.fieldLink RX11 19 "IcicleClock" "now" "LIcicleClock$Street;", .fieldLink RX11 177 "IcicleClock$Street" "days" "I", .fieldLink RX11 208 "IcicleClock$Street" "eaves" "I", .fieldLink RX11 82 "IcicleClock" "walker" "LIcicleClock$Walker;", .fieldLink RX11 44 "IcicleClock" "winter" "LIcicleClock$Winter;", .methodLink RX11 320 yX8_plan, .instanceMethod yX8_plan, .selects RX8 yX8_plan yX8_plan, .initialized RX8, .fieldLink RX11 324 "IcicleClock$Walker" "leastOfAll" "I"] : List Cond) ++ (wsX110 ++ (wsX60 ++ (wsX80 ++ vX8_plan))))
theorem iX11_walk_11 : ∀ w ∈ wsX110, w ∈ vX11_walk := fun _ h => List.mem_cons_of_mem _ (List.mem_append_right _ (List.mem_append_left _ h))
theorem iX11_walk_6 : ∀ w ∈ wsX60, w ∈ vX11_walk := fun _ h => List.mem_cons_of_mem _ (List.mem_append_right _ (List.mem_append_right _ (List.mem_append_left _ h)))
theorem iX11_walk_8 : ∀ w ∈ wsX80, w ∈ vX11_walk := fun _ h => List.mem_cons_of_mem _ (List.mem_append_right _ (List.mem_append_right _ (List.mem_append_right _ (List.mem_append_left _ h))))
theorem gs_X11_walk : Gd vX11_walk := Gd.cons (by decide +kernel) (Gd.app (Gd.r (by decide +kernel)) (Gd.app gwX_11 (Gd.app gwX_6 (Gd.app gwX_8 gs_X8_plan))))
theorem gg_X11_walk_X8_plan : GoodIn vX11_walk (wsV RX11 320 RX8 yX8_plan vX8_plan) := goodIn_app (goodIn_r _ [6, 7, 8, 9] (by decide +kernel) (by decide +kernel)) (fun w h => ⟨List.mem_cons_of_mem _ (List.mem_append_right _ (List.mem_append_right _ (List.mem_append_right _ (List.mem_append_right _ (h))))), gs_X8_plan w h⟩)
set_option maxHeartbeats 4000000 in
set_option maxRecDepth 100000 in
theorem s_X11_walk (l : Launch) (D : va_G) (cs : Nat → ClassId) (ad : Nat → Nat) (kS : kSt) (K : sK) (hKO : KO K) (hj : wJ ad 218) (g : Nat → va_E) (hW : WF (shp ad K) ad cs g) : sI l yX11_walk vX11_walk { frames := 3, cells := 0, slots := 0, locals := 64 } D cs ad kS [.ref (ad 0)] g (fun r g2 => WF (shp ad K) ad cs g2 ∧ (∀ j, j ≠ 144 ∧ (j < 146 ∨ 160 ≤ j) ∧ (j < 161 ∨ 175 ≤ j) ∧ (j < 176 ∨ 190 ≤ j) → g2 j = g j)) := by
  refine Met.startS (cc := cX11_walk) (maxL := 1) (ret := (some .int)) RX11 rfl (by decide) rfl (Nat.le_of_ble_eq_true rfl) ?_
  intro p e s m below meth c ls X Z hP hl
  have hx := X.1
  have hb := X.2.1
  have hS : va_S (wA ad 218) s.heap s.heap [] := va_S.rf
  have hA : ∀ i, i < 218 → wA ad 218 (ad i) := fun i h => ⟨i, h, rfl⟩
  have hfr : ∀ j, j ≠ 144 ∧ (j < 146 ∨ 160 ≤ j) ∧ (j < 161 ∨ 175 ≤ j) ∧ (j < 176 ∨ 190 ≤ j) → g j = g j := fun _ _ => rfl
  have hl : lv_has ls 1 [(0, .ref (ad 0))] := hl
  refine lv_aload_n hx hb dX11_walk_0 rfl (lv_at hl 0 rfl) ?_
  obtain ⟨fsc_1, hgc_1, hOc_1⟩ := hW.obj (i := 0) (by decide) (sh_0 ad K)
  have hk_2 := hOc_1.ref 1 rfl
  refine q_get X iX11_walk_11 hP (by decide) hgc_1 rfl 1 (by decide) (List.mem_of_getElem? (i := 1) rfl) (v := .ref (ad 3)) hk_2 dX11_walk_1 ?_
  obtain ⟨fsc_3, hgc_3, hOc_3⟩ := hW.obj (i := 3) (by decide) (sh_3 ad K)
  obtain ⟨x_5, hk_4, hlx_5, hhx_5⟩ := hOc_3.int 3 rfl
  refine q_get X iX11_walk_6 hP (by decide) hgc_3 rfl 3 (by decide) (List.mem_of_getElem? (i := 2) rfl) (v := .int x_5) hk_4 dX11_walk_4 ?_
  have HJ20 : ∀ (G20 : Nat → va_E) (H : Heap) (locs : List Loc) (ls : Array Slot), WF (shp ad K) ad cs G20 → (∀ j, j ≠ 144 ∧ (j < 146 ∨ 160 ≤ j) ∧ (j < 161 ∨ 175 ≤ j) ∧ (j < 176 ∨ 190 ≤ j) → G20 j = g j) → G20 0 = .inr (11, fsc_1) → G20 3 = .inr (6, fsc_3) → va_P D vwCl (wL ad G20 218) H → va_S (wA ad 218) s.heap H locs → lv_has ls 1 [] → W p l e ({ frames := 3, cells := 0, slots := 0, locals := 64 } : Room) s m ([.ref (ad 0)] : List Value).toArray below meth c H locs 0 0 (MQ below (qI D ad 218 (fun r g2 => WF (shp ad K) ad cs g2 ∧ (∀ j, j ≠ 144 ∧ (j < 146 ∨ 160 ≤ j) ∧ (j < 161 ∨ 175 ≤ j) ∧ (j < 176 ∨ 190 ≤ j) → g2 j = g j))) ([.ref (ad 0)] : List Value).toArray s 0 0 (wA ad 218)) (F0 m 20 ls []) := by
    intro G20 H locs ls hW20 hfr20 hg20_0 hg20_1 hP hS hl
    refine lv_bipush (v := (-2)) hx hb dX11_walk_20 (by decide) ?_
    exact q_iret X hP hS ⟨hW20, hfr20⟩ dX11_walk_22
  refine lv_if_eq (tgt := 20) hx hb dX11_walk_7 (by decide) (fun hc_6 => ?_) (fun hc_6 => ?_)
  · have hhc_6 := n_eq (rfl : x_5.toInt = x_5.toInt) (by decide : (0 : Int32).toInt = 0) hc_6
    exact HJ20 g _ _ ls hW hfr hgc_1 hgc_3 hP hS (lv_sub hl [] rfl)
  · have hhc_6 := n_ne (rfl : x_5.toInt = x_5.toInt) (by decide : (0 : Int32).toInt = 0) hc_6
    refine lv_aload_n hx hb dX11_walk_10 rfl (lv_at hl 0 rfl) ?_
    refine q_get X iX11_walk_11 hP (by decide) hgc_1 rfl 1 (by decide) (List.mem_of_getElem? (i := 1) rfl) (v := .ref (ad 3)) hk_2 dX11_walk_11 ?_
    obtain ⟨x_8, hk_7, hlx_8, hhx_8⟩ := hOc_3.int 4 rfl
    refine q_get X iX11_walk_6 hP (by decide) hgc_3 rfl 4 (by decide) (List.mem_of_getElem? (i := 3) rfl) (v := .int x_8) hk_7 dX11_walk_14 ?_
    refine lv_if_ne (tgt := 23) hx hb dX11_walk_17 (by decide) (fun hc_9 => ?_) (fun hc_9 => ?_)
    · have hhc_9 := n_ne (rfl : x_8.toInt = x_8.toInt) (by decide : (0 : Int32).toInt = 0) hc_9
      refine lv_aload_n hx hb dX11_walk_23 rfl (lv_at hl 0 rfl) ?_
      have hk_10 := hOc_1.ref 12 rfl
      refine q_get X iX11_walk_11 hP (by decide) hgc_1 rfl 12 (by decide) (List.mem_of_getElem? (i := 4) rfl) (v := .ref (ad 144)) hk_10 dX11_walk_24 ?_
      refine lv_aload_n hx hb dX11_walk_27 rfl (lv_at hl 0 rfl) ?_
      refine q_get X iX11_walk_11 hP (by decide) hgc_1 rfl 1 (by decide) (List.mem_of_getElem? (i := 1) rfl) (v := .ref (ad 3)) hk_2 dX11_walk_28 ?_
      refine lv_aload_n hx hb dX11_walk_31 rfl (lv_at hl 0 rfl) ?_
      have hk_11 := hOc_1.ref 6 rfl
      refine q_get X iX11_walk_11 hP (by decide) hgc_1 rfl 6 (by decide) (List.mem_of_getElem? (i := 5) rfl) (v := .ref (ad 114)) hk_11 dX11_walk_32 ?_
      obtain ⟨fsc_15, hgc_15, hOc_15⟩ := hW.obj (i := 144) (by decide) (sh_144 ad K)
      refine s_callv (q := (RX8, TX8, 6)) (As := [.ref (ad 3), .ref (ad 114)]) (rest := []) X Z (s_X8_plan l D cs ad kS K hKO hj g hW) (cwV 2 X.2.2.2.2.1 gg_X11_walk_X8_plan rfl rfl rfl (by decide +kernel) ⟨Nat.le_of_ble_eq_true rfl, Nat.le_of_ble_eq_true rfl⟩) (by decide) hgc_15 rfl hP hA hS.2.1 hS rfl hl.1 rfl (Nat.le_of_ble_eq_true rfl) dX11_walk_35 ⟨Nat.le_of_ble_eq_true rfl, Nat.le_of_ble_eq_true rfl⟩ (fun g_13 H locs hw_12 hP hS => ?_)
      obtain ⟨hw_12W, hw_12f⟩ := hw_12
      have hfr_16 : ∀ j, j ≠ 144 ∧ (j < 146 ∨ 160 ≤ j) ∧ (j < 161 ∨ 175 ≤ j) ∧ (j < 176 ∨ 190 ≤ j) → g_13 j = g j := fun j hj => (hw_12f j (by omega)).trans (hfr j hj)
      have hg_17 := (hw_12f 0 (by omega)).trans hgc_1
      have hg_18 := (hw_12f 3 (by omega)).trans hgc_3
      refine lv_aload_n hx hb dX11_walk_38 rfl (lv_at hl 0 rfl) ?_
      refine q_get X iX11_walk_11 hP (by decide) hg_17 rfl 12 (by decide) (List.mem_of_getElem? (i := 4) rfl) (v := .ref (ad 144)) hk_10 dX11_walk_39 ?_
      obtain ⟨fsc_19, hgc_19, hOc_19⟩ := hw_12W.obj (i := 144) (by decide) (sh_144 ad K)
      obtain ⟨x_21, hk_20, -⟩ := hOc_19.int 0 rfl
      refine q_get X iX11_walk_8 hP (by decide) hgc_19 rfl 0 (by decide) (List.mem_of_getElem? (i := 10) rfl) (v := .int x_21) hk_20 dX11_walk_42 ?_
      exact q_iret X hP hS ⟨hw_12W, hfr_16⟩ dX11_walk_45
    · have hhc_9 := n_eq (rfl : x_8.toInt = x_8.toInt) (by decide : (0 : Int32).toInt = 0) hc_9
      exact HJ20 g _ _ ls hW hfr hgc_1 hgc_3 hP hS (lv_sub hl [] rfl)

theorem dX11_ways_0 : decode cX11_ways 0 = .ok (.aload_n 0, 1) := by decide +kernel
theorem dX11_ways_1 : decode cX11_ways 1 = .ok (.getfield 19, 3) := by decide +kernel
theorem dX11_ways_4 : decode cX11_ways 4 = .ok (.getfield 177, 3) := by decide +kernel
theorem dX11_ways_7 : decode cX11_ways 7 = .ok (.ifCond .eq 13, 3) := by decide +kernel
theorem dX11_ways_10 : decode cX11_ways 10 = .ok (.aload_n 0, 1) := by decide +kernel
theorem dX11_ways_11 : decode cX11_ways 11 = .ok (.getfield 19, 3) := by decide +kernel
theorem dX11_ways_14 : decode cX11_ways 14 = .ok (.getfield 208, 3) := by decide +kernel
theorem dX11_ways_17 : decode cX11_ways 17 = .ok (.ifCond .ne 6, 3) := by decide +kernel
theorem dX11_ways_23 : decode cX11_ways 23 = .ok (.aload_n 0, 1) := by decide +kernel
theorem dX11_ways_24 : decode cX11_ways 24 = .ok (.getfield 82, 3) := by decide +kernel
theorem dX11_ways_27 : decode cX11_ways 27 = .ok (.aload_n 0, 1) := by decide +kernel
theorem dX11_ways_28 : decode cX11_ways 28 = .ok (.getfield 19, 3) := by decide +kernel
theorem dX11_ways_31 : decode cX11_ways 31 = .ok (.aload_n 0, 1) := by decide +kernel
theorem dX11_ways_32 : decode cX11_ways 32 = .ok (.getfield 44, 3) := by decide +kernel
theorem dX11_ways_35 : decode cX11_ways 35 = .ok (.invokevirtual 320, 3) := by decide +kernel
theorem dX11_ways_38 : decode cX11_ways 38 = .ok (.aload_n 0, 1) := by decide +kernel
theorem dX11_ways_39 : decode cX11_ways 39 = .ok (.getfield 82, 3) := by decide +kernel
theorem dX11_ways_42 : decode cX11_ways 42 = .ok (.invokevirtual 330, 3) := by decide +kernel
theorem dX11_ways_45 : decode cX11_ways 45 = .ok (.ireturn, 1) := by decide +kernel
theorem dX11_ways_20 : decode cX11_ways 20 = .ok (.bipush (-2), 2) := by decide +kernel
theorem dX11_ways_22 : decode cX11_ways 22 = .ok (.ireturn, 1) := by decide +kernel
noncomputable def vX11_ways : List Cond := .code yX11_ways cX11_ways 1 (some .int) :: (([.fieldLink RX11 19 "IcicleClock" "now" "LIcicleClock$Street;", .fieldLink RX11 177 "IcicleClock$Street" "days" "I", .fieldLink RX11 208 "IcicleClock$Street" "eaves" "I", .fieldLink RX11 82 "IcicleClock" "walker" "LIcicleClock$Walker;", .fieldLink RX11 44 "IcicleClock" "winter" "LIcicleClock$Winter;", .methodLink RX11 320 yX8_plan, .instanceMethod yX8_plan, .selects RX8 yX8_plan yX8_plan, .initialized RX8, .methodLink RX11 330 yX8_howMany, .instanceMethod yX8_howMany, .selects RX8 yX8_howMany yX8_howMany] : List Cond) ++ (wsX110 ++ (wsX60 ++ (vX8_plan ++ vX8_howMany))))
theorem iX11_ways_11 : ∀ w ∈ wsX110, w ∈ vX11_ways := fun _ h => List.mem_cons_of_mem _ (List.mem_append_right _ (List.mem_append_left _ h))
theorem iX11_ways_6 : ∀ w ∈ wsX60, w ∈ vX11_ways := fun _ h => List.mem_cons_of_mem _ (List.mem_append_right _ (List.mem_append_right _ (List.mem_append_left _ h)))
theorem gs_X11_ways : Gd vX11_ways := Gd.cons (by decide +kernel) (Gd.app (Gd.r (by decide +kernel)) (Gd.app gwX_11 (Gd.app gwX_6 (Gd.app gs_X8_plan gs_X8_howMany))))
theorem gg_X11_ways_X8_plan : GoodIn vX11_ways (wsV RX11 320 RX8 yX8_plan vX8_plan) := goodIn_app (goodIn_r _ [6, 7, 8, 9] (by decide +kernel) (by decide +kernel)) (fun w h => ⟨List.mem_cons_of_mem _ (List.mem_append_right _ (List.mem_append_right _ (List.mem_append_right _ (List.mem_append_left _ h)))), gs_X8_plan w h⟩)
theorem gg_X11_ways_X8_howMany : GoodIn vX11_ways (wsV RX11 330 RX8 yX8_howMany vX8_howMany) := goodIn_app (goodIn_r _ [10, 11, 12, 9] (by decide +kernel) (by decide +kernel)) (fun w h => ⟨List.mem_cons_of_mem _ (List.mem_append_right _ (List.mem_append_right _ (List.mem_append_right _ (List.mem_append_right _ (h))))), gs_X8_howMany w h⟩)
set_option maxHeartbeats 4000000 in
set_option maxRecDepth 100000 in
theorem s_X11_ways (l : Launch) (D : va_G) (cs : Nat → ClassId) (ad : Nat → Nat) (kS : kSt) (K : sK) (hKO : KO K) (hj : wJ ad 218) (g : Nat → va_E) (hW : WF (shp ad K) ad cs g) : sI l yX11_ways vX11_ways { frames := 3, cells := 0, slots := 0, locals := 64 } D cs ad kS [.ref (ad 0)] g (fun r g2 => WF (shp ad K) ad cs g2 ∧ (∀ j, j ≠ 144 ∧ (j < 146 ∨ 160 ≤ j) ∧ (j < 161 ∨ 175 ≤ j) ∧ (j < 176 ∨ 190 ≤ j) → g2 j = g j)) := by
  refine Met.startS (cc := cX11_ways) (maxL := 1) (ret := (some .int)) RX11 rfl (by decide) rfl (Nat.le_of_ble_eq_true rfl) ?_
  intro p e s m below meth c ls X Z hP hl
  have hx := X.1
  have hb := X.2.1
  have hS : va_S (wA ad 218) s.heap s.heap [] := va_S.rf
  have hA : ∀ i, i < 218 → wA ad 218 (ad i) := fun i h => ⟨i, h, rfl⟩
  have hfr : ∀ j, j ≠ 144 ∧ (j < 146 ∨ 160 ≤ j) ∧ (j < 161 ∨ 175 ≤ j) ∧ (j < 176 ∨ 190 ≤ j) → g j = g j := fun _ _ => rfl
  have hl : lv_has ls 1 [(0, .ref (ad 0))] := hl
  refine lv_aload_n hx hb dX11_ways_0 rfl (lv_at hl 0 rfl) ?_
  obtain ⟨fsc_1, hgc_1, hOc_1⟩ := hW.obj (i := 0) (by decide) (sh_0 ad K)
  have hk_2 := hOc_1.ref 1 rfl
  refine q_get X iX11_ways_11 hP (by decide) hgc_1 rfl 1 (by decide) (List.mem_of_getElem? (i := 1) rfl) (v := .ref (ad 3)) hk_2 dX11_ways_1 ?_
  obtain ⟨fsc_3, hgc_3, hOc_3⟩ := hW.obj (i := 3) (by decide) (sh_3 ad K)
  obtain ⟨x_5, hk_4, hlx_5, hhx_5⟩ := hOc_3.int 3 rfl
  refine q_get X iX11_ways_6 hP (by decide) hgc_3 rfl 3 (by decide) (List.mem_of_getElem? (i := 2) rfl) (v := .int x_5) hk_4 dX11_ways_4 ?_
  have HJ20 : ∀ (G20 : Nat → va_E) (H : Heap) (locs : List Loc) (ls : Array Slot), WF (shp ad K) ad cs G20 → (∀ j, j ≠ 144 ∧ (j < 146 ∨ 160 ≤ j) ∧ (j < 161 ∨ 175 ≤ j) ∧ (j < 176 ∨ 190 ≤ j) → G20 j = g j) → G20 0 = .inr (11, fsc_1) → G20 3 = .inr (6, fsc_3) → va_P D vwCl (wL ad G20 218) H → va_S (wA ad 218) s.heap H locs → lv_has ls 1 [] → W p l e ({ frames := 3, cells := 0, slots := 0, locals := 64 } : Room) s m ([.ref (ad 0)] : List Value).toArray below meth c H locs 0 0 (MQ below (qI D ad 218 (fun r g2 => WF (shp ad K) ad cs g2 ∧ (∀ j, j ≠ 144 ∧ (j < 146 ∨ 160 ≤ j) ∧ (j < 161 ∨ 175 ≤ j) ∧ (j < 176 ∨ 190 ≤ j) → g2 j = g j))) ([.ref (ad 0)] : List Value).toArray s 0 0 (wA ad 218)) (F0 m 20 ls []) := by
    intro G20 H locs ls hW20 hfr20 hg20_0 hg20_1 hP hS hl
    refine lv_bipush (v := (-2)) hx hb dX11_ways_20 (by decide) ?_
    exact q_iret X hP hS ⟨hW20, hfr20⟩ dX11_ways_22
  refine lv_if_eq (tgt := 20) hx hb dX11_ways_7 (by decide) (fun hc_6 => ?_) (fun hc_6 => ?_)
  · have hhc_6 := n_eq (rfl : x_5.toInt = x_5.toInt) (by decide : (0 : Int32).toInt = 0) hc_6
    exact HJ20 g _ _ ls hW hfr hgc_1 hgc_3 hP hS (lv_sub hl [] rfl)
  · have hhc_6 := n_ne (rfl : x_5.toInt = x_5.toInt) (by decide : (0 : Int32).toInt = 0) hc_6
    refine lv_aload_n hx hb dX11_ways_10 rfl (lv_at hl 0 rfl) ?_
    refine q_get X iX11_ways_11 hP (by decide) hgc_1 rfl 1 (by decide) (List.mem_of_getElem? (i := 1) rfl) (v := .ref (ad 3)) hk_2 dX11_ways_11 ?_
    obtain ⟨x_8, hk_7, hlx_8, hhx_8⟩ := hOc_3.int 4 rfl
    refine q_get X iX11_ways_6 hP (by decide) hgc_3 rfl 4 (by decide) (List.mem_of_getElem? (i := 3) rfl) (v := .int x_8) hk_7 dX11_ways_14 ?_
    refine lv_if_ne (tgt := 23) hx hb dX11_ways_17 (by decide) (fun hc_9 => ?_) (fun hc_9 => ?_)
    · have hhc_9 := n_ne (rfl : x_8.toInt = x_8.toInt) (by decide : (0 : Int32).toInt = 0) hc_9
      refine lv_aload_n hx hb dX11_ways_23 rfl (lv_at hl 0 rfl) ?_
      have hk_10 := hOc_1.ref 12 rfl
      refine q_get X iX11_ways_11 hP (by decide) hgc_1 rfl 12 (by decide) (List.mem_of_getElem? (i := 4) rfl) (v := .ref (ad 144)) hk_10 dX11_ways_24 ?_
      refine lv_aload_n hx hb dX11_ways_27 rfl (lv_at hl 0 rfl) ?_
      refine q_get X iX11_ways_11 hP (by decide) hgc_1 rfl 1 (by decide) (List.mem_of_getElem? (i := 1) rfl) (v := .ref (ad 3)) hk_2 dX11_ways_28 ?_
      refine lv_aload_n hx hb dX11_ways_31 rfl (lv_at hl 0 rfl) ?_
      have hk_11 := hOc_1.ref 6 rfl
      refine q_get X iX11_ways_11 hP (by decide) hgc_1 rfl 6 (by decide) (List.mem_of_getElem? (i := 5) rfl) (v := .ref (ad 114)) hk_11 dX11_ways_32 ?_
      obtain ⟨fsc_15, hgc_15, hOc_15⟩ := hW.obj (i := 144) (by decide) (sh_144 ad K)
      refine s_callv (q := (RX8, TX8, 6)) (As := [.ref (ad 3), .ref (ad 114)]) (rest := []) X Z (s_X8_plan l D cs ad kS K hKO hj g hW) (cwV 2 X.2.2.2.2.1 gg_X11_ways_X8_plan rfl rfl rfl (by decide +kernel) ⟨Nat.le_of_ble_eq_true rfl, Nat.le_of_ble_eq_true rfl⟩) (by decide) hgc_15 rfl hP hA hS.2.1 hS rfl hl.1 rfl (Nat.le_of_ble_eq_true rfl) dX11_ways_35 ⟨Nat.le_of_ble_eq_true rfl, Nat.le_of_ble_eq_true rfl⟩ (fun g_13 H locs hw_12 hP hS => ?_)
      obtain ⟨hw_12W, hw_12f⟩ := hw_12
      have hfr_16 : ∀ j, j ≠ 144 ∧ (j < 146 ∨ 160 ≤ j) ∧ (j < 161 ∨ 175 ≤ j) ∧ (j < 176 ∨ 190 ≤ j) → g_13 j = g j := fun j hj => (hw_12f j (by omega)).trans (hfr j hj)
      have hg_17 := (hw_12f 0 (by omega)).trans hgc_1
      have hg_18 := (hw_12f 3 (by omega)).trans hgc_3
      refine lv_aload_n hx hb dX11_ways_38 rfl (lv_at hl 0 rfl) ?_
      refine q_get X iX11_ways_11 hP (by decide) hg_17 rfl 12 (by decide) (List.mem_of_getElem? (i := 4) rfl) (v := .ref (ad 144)) hk_10 dX11_ways_39 ?_
      obtain ⟨fsc_22, hgc_22, hOc_22⟩ := hw_12W.obj (i := 144) (by decide) (sh_144 ad K)
      refine s_calli (q := (RX8, TX8, 6)) (As := []) (rest := []) X Z (s_X8_howMany l D cs ad kS K hKO hj g_13 hw_12W) (cwV 0 X.2.2.2.2.1 gg_X11_ways_X8_howMany rfl rfl rfl (by decide +kernel) ⟨Nat.le_of_ble_eq_true rfl, Nat.le_of_ble_eq_true rfl⟩) (by decide) hgc_22 rfl hP hA hS.2.1 hS rfl hl.1 rfl (Nat.le_of_ble_eq_true rfl) dX11_ways_42 ⟨Nat.le_of_ble_eq_true rfl, Nat.le_of_ble_eq_true rfl⟩ (fun r_21 g_20 H locs hw_19 hP hS => ?_)
      rw [hw_19] at hP
      exact q_iret X hP hS ⟨hw_12W, hfr_16⟩ dX11_ways_45
    · have hhc_9 := n_eq (rfl : x_8.toInt = x_8.toInt) (by decide : (0 : Int32).toInt = 0) hc_9
      exact HJ20 g _ _ ls hW hfr hgc_1 hgc_3 hP hS (lv_sub hl [] rfl)

theorem dX11_walks_0 : decode cX11_walks 0 = .ok (.aload_n 0, 1) := by decide +kernel
theorem dX11_walks_1 : decode cX11_walks 1 = .ok (.iload_n 1, 1) := by decide +kernel
theorem dX11_walks_2 : decode cX11_walks 2 = .ok (.invokevirtual 121, 3) := by decide +kernel
theorem dX11_walks_5 : decode cX11_walks 5 = .ok (.ifCond .eq 13, 3) := by decide +kernel
theorem dX11_walks_8 : decode cX11_walks 8 = .ok (.aload_n 0, 1) := by decide +kernel
theorem dX11_walks_9 : decode cX11_walks 9 = .ok (.getfield 19, 3) := by decide +kernel
theorem dX11_walks_12 : decode cX11_walks 12 = .ok (.getfield 208, 3) := by decide +kernel
theorem dX11_walks_15 : decode cX11_walks 15 = .ok (.ifCond .ne 6, 3) := by decide +kernel
theorem dX11_walks_21 : decode cX11_walks 21 = .ok (.aload_n 0, 1) := by decide +kernel
theorem dX11_walks_22 : decode cX11_walks 22 = .ok (.getfield 82, 3) := by decide +kernel
theorem dX11_walks_25 : decode cX11_walks 25 = .ok (.aload_n 0, 1) := by decide +kernel
theorem dX11_walks_26 : decode cX11_walks 26 = .ok (.getfield 19, 3) := by decide +kernel
theorem dX11_walks_29 : decode cX11_walks 29 = .ok (.aload_n 0, 1) := by decide +kernel
theorem dX11_walks_30 : decode cX11_walks 30 = .ok (.getfield 44, 3) := by decide +kernel
theorem dX11_walks_33 : decode cX11_walks 33 = .ok (.invokevirtual 320, 3) := by decide +kernel
theorem dX11_walks_36 : decode cX11_walks 36 = .ok (.aload_n 0, 1) := by decide +kernel
theorem dX11_walks_37 : decode cX11_walks 37 = .ok (.getfield 82, 3) := by decide +kernel
theorem dX11_walks_40 : decode cX11_walks 40 = .ok (.iload_n 1, 1) := by decide +kernel
theorem dX11_walks_41 : decode cX11_walks 41 = .ok (.invokevirtual 327, 3) := by decide +kernel
theorem dX11_walks_44 : decode cX11_walks 44 = .ok (.ireturn, 1) := by decide +kernel
theorem dX11_walks_18 : decode cX11_walks 18 = .ok (.bipush (-2), 2) := by decide +kernel
theorem dX11_walks_20 : decode cX11_walks 20 = .ok (.ireturn, 1) := by decide +kernel
noncomputable def vX11_walks : List Cond := .code yX11_walks cX11_walks 2 (some .int) :: (([.methodLink RX11 121 yX11_isDay, .instanceMethod yX11_isDay, .selects RX11 yX11_isDay yX11_isDay, .initialized RX11, .fieldLink RX11 19 "IcicleClock" "now" "LIcicleClock$Street;", .fieldLink RX11 208 "IcicleClock$Street" "eaves" "I", .fieldLink RX11 82 "IcicleClock" "walker" "LIcicleClock$Walker;", .fieldLink RX11 44 "IcicleClock" "winter" "LIcicleClock$Winter;", .methodLink RX11 320 yX8_plan, .instanceMethod yX8_plan, .selects RX8 yX8_plan yX8_plan, .initialized RX8, .methodLink RX11 327 yX8_eaveOfFirst, .instanceMethod yX8_eaveOfFirst, .selects RX8 yX8_eaveOfFirst yX8_eaveOfFirst] : List Cond) ++ (wsX110 ++ (wsX60 ++ (vX11_isDay ++ (vX8_plan ++ vX8_eaveOfFirst)))))
theorem iX11_walks_11 : ∀ w ∈ wsX110, w ∈ vX11_walks := fun _ h => List.mem_cons_of_mem _ (List.mem_append_right _ (List.mem_append_left _ h))
theorem iX11_walks_6 : ∀ w ∈ wsX60, w ∈ vX11_walks := fun _ h => List.mem_cons_of_mem _ (List.mem_append_right _ (List.mem_append_right _ (List.mem_append_left _ h)))
theorem gs_X11_walks : Gd vX11_walks := Gd.cons (by decide +kernel) (Gd.app (Gd.r (by decide +kernel)) (Gd.app gwX_11 (Gd.app gwX_6 (Gd.app gs_X11_isDay (Gd.app gs_X8_plan gs_X8_eaveOfFirst)))))
theorem gg_X11_walks_X11_isDay : GoodIn vX11_walks (wsV RX11 121 RX11 yX11_isDay vX11_isDay) := goodIn_app (goodIn_r _ [1, 2, 3, 4] (by decide +kernel) (by decide +kernel)) (fun w h => ⟨List.mem_cons_of_mem _ (List.mem_append_right _ (List.mem_append_right _ (List.mem_append_right _ (List.mem_append_left _ h)))), gs_X11_isDay w h⟩)
theorem gg_X11_walks_X8_plan : GoodIn vX11_walks (wsV RX11 320 RX8 yX8_plan vX8_plan) := goodIn_app (goodIn_r _ [9, 10, 11, 12] (by decide +kernel) (by decide +kernel)) (fun w h => ⟨List.mem_cons_of_mem _ (List.mem_append_right _ (List.mem_append_right _ (List.mem_append_right _ (List.mem_append_right _ (List.mem_append_left _ h))))), gs_X8_plan w h⟩)
theorem gg_X11_walks_X8_eaveOfFirst : GoodIn vX11_walks (wsV RX11 327 RX8 yX8_eaveOfFirst vX8_eaveOfFirst) := goodIn_app (goodIn_r _ [13, 14, 15, 12] (by decide +kernel) (by decide +kernel)) (fun w h => ⟨List.mem_cons_of_mem _ (List.mem_append_right _ (List.mem_append_right _ (List.mem_append_right _ (List.mem_append_right _ (List.mem_append_right _ (h)))))), gs_X8_eaveOfFirst w h⟩)
set_option maxHeartbeats 4000000 in
set_option maxRecDepth 100000 in
theorem s_X11_walks (l : Launch) (D : va_G) (cs : Nat → ClassId) (ad : Nat → Nat) (kS : kSt) (K : sK) (hKO : KO K) (hj : wJ ad 218) (g : Nat → va_E) (hW : WF (shp ad K) ad cs g) (dy : Int32) : sI l yX11_walks vX11_walks { frames := 3, cells := 0, slots := 0, locals := 64 } D cs ad kS [.ref (ad 0), .int dy] g (fun r g2 => WF (shp ad K) ad cs g2 ∧ (∀ j, j ≠ 144 ∧ (j < 146 ∨ 160 ≤ j) ∧ (j < 161 ∨ 175 ≤ j) ∧ (j < 176 ∨ 190 ≤ j) → g2 j = g j)) := by
  refine Met.startS (cc := cX11_walks) (maxL := 2) (ret := (some .int)) RX11 rfl (by decide) rfl (Nat.le_of_ble_eq_true rfl) ?_
  intro p e s m below meth c ls X Z hP hl
  have hx := X.1
  have hb := X.2.1
  have hS : va_S (wA ad 218) s.heap s.heap [] := va_S.rf
  have hA : ∀ i, i < 218 → wA ad 218 (ad i) := fun i h => ⟨i, h, rfl⟩
  have hfr : ∀ j, j ≠ 144 ∧ (j < 146 ∨ 160 ≤ j) ∧ (j < 161 ∨ 175 ≤ j) ∧ (j < 176 ∨ 190 ≤ j) → g j = g j := fun _ _ => rfl
  have hl : lv_has ls 2 [(0, .ref (ad 0)), (1, .int dy)] := hl
  refine lv_aload_n hx hb dX11_walks_0 rfl (lv_at hl 0 rfl) ?_
  refine lv_iload_n hx hb dX11_walks_1 rfl (lv_at hl 1 rfl) ?_
  obtain ⟨fsc_4, hgc_4, hOc_4⟩ := hW.obj (i := 0) (by decide) (sh_0 ad K)
  refine s_calli (q := (RX11, TX11, 14)) (As := [.int dy]) (rest := []) X Z (s_X11_isDay l D cs ad kS K hKO hj g hW dy) (cwV 1 X.2.2.2.2.1 gg_X11_walks_X11_isDay rfl rfl rfl (by decide +kernel) ⟨Nat.le_of_ble_eq_true rfl, Nat.le_of_ble_eq_true rfl⟩) (by decide) hgc_4 rfl hP hA hS.2.1 hS rfl hl.1 rfl (Nat.le_of_ble_eq_true rfl) dX11_walks_2 ⟨Nat.le_of_ble_eq_true rfl, Nat.le_of_ble_eq_true rfl⟩ (fun r_3 g_2 H locs hw_1 hP hS => ?_)
  obtain ⟨hw_1g, hw_1⟩ := hw_1
  rw [hw_1g] at hP
  have HJ18 : ∀ (G18 : Nat → va_E) (H : Heap) (locs : List Loc) (ls : Array Slot), WF (shp ad K) ad cs G18 → (∀ j, j ≠ 144 ∧ (j < 146 ∨ 160 ≤ j) ∧ (j < 161 ∨ 175 ≤ j) ∧ (j < 176 ∨ 190 ≤ j) → G18 j = g j) → G18 0 = .inr (11, fsc_4) → va_P D vwCl (wL ad G18 218) H → va_S (wA ad 218) s.heap H locs → lv_has ls 2 [] → W p l e ({ frames := 3, cells := 0, slots := 0, locals := 64 } : Room) s m ([.ref (ad 0), .int dy] : List Value).toArray below meth c H locs 0 0 (MQ below (qI D ad 218 (fun r g2 => WF (shp ad K) ad cs g2 ∧ (∀ j, j ≠ 144 ∧ (j < 146 ∨ 160 ≤ j) ∧ (j < 161 ∨ 175 ≤ j) ∧ (j < 176 ∨ 190 ≤ j) → g2 j = g j))) ([.ref (ad 0), .int dy] : List Value).toArray s 0 0 (wA ad 218)) (F0 m 18 ls []) := by
    intro G18 H locs ls hW18 hfr18 hg18_0 hP hS hl
    refine lv_bipush (v := (-2)) hx hb dX11_walks_18 (by decide) ?_
    exact q_iret X hP hS ⟨hW18, hfr18⟩ dX11_walks_20
  refine lv_if_eq (tgt := 18) hx hb dX11_walks_5 (by decide) (fun hc_5 => ?_) (fun hc_5 => ?_)
  · have hhc_5 := n_eq (rfl : r_3.toInt = r_3.toInt) (by decide : (0 : Int32).toInt = 0) hc_5
    exact HJ18 g _ _ ls hW hfr hgc_4 hP hS (lv_sub hl [] rfl)
  · have hhc_5 := n_ne (rfl : r_3.toInt = r_3.toInt) (by decide : (0 : Int32).toInt = 0) hc_5
    refine lv_aload_n hx hb dX11_walks_8 rfl (lv_at hl 0 rfl) ?_
    have hk_6 := hOc_4.ref 1 rfl
    refine q_get X iX11_walks_11 hP (by decide) hgc_4 rfl 1 (by decide) (List.mem_of_getElem? (i := 5) rfl) (v := .ref (ad 3)) hk_6 dX11_walks_9 ?_
    obtain ⟨fsc_7, hgc_7, hOc_7⟩ := hW.obj (i := 3) (by decide) (sh_3 ad K)
    obtain ⟨x_9, hk_8, hlx_9, hhx_9⟩ := hOc_7.int 4 rfl
    refine q_get X iX11_walks_6 hP (by decide) hgc_7 rfl 4 (by decide) (List.mem_of_getElem? (i := 6) rfl) (v := .int x_9) hk_8 dX11_walks_12 ?_
    refine lv_if_ne (tgt := 21) hx hb dX11_walks_15 (by decide) (fun hc_10 => ?_) (fun hc_10 => ?_)
    · have hhc_10 := n_ne (rfl : x_9.toInt = x_9.toInt) (by decide : (0 : Int32).toInt = 0) hc_10
      refine lv_aload_n hx hb dX11_walks_21 rfl (lv_at hl 0 rfl) ?_
      have hk_11 := hOc_4.ref 12 rfl
      refine q_get X iX11_walks_11 hP (by decide) hgc_4 rfl 12 (by decide) (List.mem_of_getElem? (i := 7) rfl) (v := .ref (ad 144)) hk_11 dX11_walks_22 ?_
      refine lv_aload_n hx hb dX11_walks_25 rfl (lv_at hl 0 rfl) ?_
      refine q_get X iX11_walks_11 hP (by decide) hgc_4 rfl 1 (by decide) (List.mem_of_getElem? (i := 5) rfl) (v := .ref (ad 3)) hk_6 dX11_walks_26 ?_
      refine lv_aload_n hx hb dX11_walks_29 rfl (lv_at hl 0 rfl) ?_
      have hk_12 := hOc_4.ref 6 rfl
      refine q_get X iX11_walks_11 hP (by decide) hgc_4 rfl 6 (by decide) (List.mem_of_getElem? (i := 8) rfl) (v := .ref (ad 114)) hk_12 dX11_walks_30 ?_
      obtain ⟨fsc_16, hgc_16, hOc_16⟩ := hW.obj (i := 144) (by decide) (sh_144 ad K)
      refine s_callv (q := (RX8, TX8, 6)) (As := [.ref (ad 3), .ref (ad 114)]) (rest := []) X Z (s_X8_plan l D cs ad kS K hKO hj g hW) (cwV 2 X.2.2.2.2.1 gg_X11_walks_X8_plan rfl rfl rfl (by decide +kernel) ⟨Nat.le_of_ble_eq_true rfl, Nat.le_of_ble_eq_true rfl⟩) (by decide) hgc_16 rfl hP hA hS.2.1 hS rfl hl.1 rfl (Nat.le_of_ble_eq_true rfl) dX11_walks_33 ⟨Nat.le_of_ble_eq_true rfl, Nat.le_of_ble_eq_true rfl⟩ (fun g_14 H locs hw_13 hP hS => ?_)
      obtain ⟨hw_13W, hw_13f⟩ := hw_13
      have hfr_17 : ∀ j, j ≠ 144 ∧ (j < 146 ∨ 160 ≤ j) ∧ (j < 161 ∨ 175 ≤ j) ∧ (j < 176 ∨ 190 ≤ j) → g_14 j = g j := fun j hj => (hw_13f j (by omega)).trans (hfr j hj)
      have hg_18 := (hw_13f 0 (by omega)).trans hgc_4
      have hg_19 := (hw_13f 3 (by omega)).trans hgc_7
      refine lv_aload_n hx hb dX11_walks_36 rfl (lv_at hl 0 rfl) ?_
      refine q_get X iX11_walks_11 hP (by decide) hg_18 rfl 12 (by decide) (List.mem_of_getElem? (i := 7) rfl) (v := .ref (ad 144)) hk_11 dX11_walks_37 ?_
      refine lv_iload_n hx hb dX11_walks_40 rfl (lv_at hl 1 rfl) ?_
      obtain ⟨fsc_23, hgc_23, hOc_23⟩ := hw_13W.obj (i := 144) (by decide) (sh_144 ad K)
      refine s_calli (q := (RX8, TX8, 6)) (As := [.int dy]) (rest := []) X Z (s_X8_eaveOfFirst l D cs ad kS K hKO hj g_14 hw_13W dy) (cwV 1 X.2.2.2.2.1 gg_X11_walks_X8_eaveOfFirst rfl rfl rfl (by decide +kernel) ⟨Nat.le_of_ble_eq_true rfl, Nat.le_of_ble_eq_true rfl⟩) (by decide) hgc_23 rfl hP hA hS.2.1 hS rfl hl.1 rfl (Nat.le_of_ble_eq_true rfl) dX11_walks_41 ⟨Nat.le_of_ble_eq_true rfl, Nat.le_of_ble_eq_true rfl⟩ (fun r_22 g_21 H locs hw_20 hP hS => ?_)
      obtain ⟨hw_20g, hw_20⟩ := hw_20
      rw [hw_20g] at hP
      exact q_iret X hP hS ⟨hw_13W, hfr_17⟩ dX11_walks_44
    · have hhc_10 := n_eq (rfl : x_9.toInt = x_9.toInt) (by decide : (0 : Int32).toInt = 0) hc_10
      exact HJ18 g _ _ ls hW hfr hgc_4 hP hS (lv_sub hl [] rfl)

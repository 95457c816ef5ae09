theorem dX6_copyFrom_0 : decode cX6_copyFrom 0 = .ok (.aload_n 0, 1) := by decide +kernel
theorem dX6_copyFrom_1 : decode cX6_copyFrom 1 = .ok (.aload_n 1, 1) := by decide +kernel
theorem dX6_copyFrom_2 : decode cX6_copyFrom 2 = .ok (.getfield 47, 3) := by decide +kernel
theorem dX6_copyFrom_5 : decode cX6_copyFrom 5 = .ok (.putfield 47, 3) := by decide +kernel
theorem dX6_copyFrom_8 : decode cX6_copyFrom 8 = .ok (.aload_n 0, 1) := by decide +kernel
theorem dX6_copyFrom_9 : decode cX6_copyFrom 9 = .ok (.aload_n 1, 1) := by decide +kernel
theorem dX6_copyFrom_10 : decode cX6_copyFrom 10 = .ok (.getfield 51, 3) := by decide +kernel
theorem dX6_copyFrom_13 : decode cX6_copyFrom 13 = .ok (.putfield 51, 3) := by decide +kernel
theorem dX6_copyFrom_16 : decode cX6_copyFrom 16 = .ok (.aload_n 0, 1) := by decide +kernel
theorem dX6_copyFrom_17 : decode cX6_copyFrom 17 = .ok (.aload_n 1, 1) := by decide +kernel
theorem dX6_copyFrom_18 : decode cX6_copyFrom 18 = .ok (.getfield 54, 3) := by decide +kernel
theorem dX6_copyFrom_21 : decode cX6_copyFrom 21 = .ok (.putfield 54, 3) := by decide +kernel
theorem dX6_copyFrom_24 : decode cX6_copyFrom 24 = .ok (.aload_n 0, 1) := by decide +kernel
theorem dX6_copyFrom_25 : decode cX6_copyFrom 25 = .ok (.aload_n 1, 1) := by decide +kernel
theorem dX6_copyFrom_26 : decode cX6_copyFrom 26 = .ok (.getfield 57, 3) := by decide +kernel
theorem dX6_copyFrom_29 : decode cX6_copyFrom 29 = .ok (.putfield 57, 3) := by decide +kernel
theorem dX6_copyFrom_32 : decode cX6_copyFrom 32 = .ok (.aload_n 0, 1) := by decide +kernel
theorem dX6_copyFrom_33 : decode cX6_copyFrom 33 = .ok (.aload_n 1, 1) := by decide +kernel
theorem dX6_copyFrom_34 : decode cX6_copyFrom 34 = .ok (.getfield 60, 3) := by decide +kernel
theorem dX6_copyFrom_37 : decode cX6_copyFrom 37 = .ok (.putfield 60, 3) := by decide +kernel
theorem dX6_copyFrom_40 : decode cX6_copyFrom 40 = .ok (.aload_n 0, 1) := by decide +kernel
theorem dX6_copyFrom_41 : decode cX6_copyFrom 41 = .ok (.aload_n 1, 1) := by decide +kernel
theorem dX6_copyFrom_42 : decode cX6_copyFrom 42 = .ok (.getfield 63, 3) := by decide +kernel
theorem dX6_copyFrom_45 : decode cX6_copyFrom 45 = .ok (.putfield 63, 3) := by decide +kernel
theorem dX6_copyFrom_48 : decode cX6_copyFrom 48 = .ok (.aload_n 0, 1) := by decide +kernel
theorem dX6_copyFrom_49 : decode cX6_copyFrom 49 = .ok (.aload_n 1, 1) := by decide +kernel
theorem dX6_copyFrom_50 : decode cX6_copyFrom 50 = .ok (.getfield 66, 3) := by decide +kernel
theorem dX6_copyFrom_53 : decode cX6_copyFrom 53 = .ok (.putfield 66, 3) := by decide +kernel
theorem dX6_copyFrom_56 : decode cX6_copyFrom 56 = .ok (.aload_n 0, 1) := by decide +kernel
theorem dX6_copyFrom_57 : decode cX6_copyFrom 57 = .ok (.aload_n 1, 1) := by decide +kernel
theorem dX6_copyFrom_58 : decode cX6_copyFrom 58 = .ok (.getfield 69, 3) := by decide +kernel
theorem dX6_copyFrom_61 : decode cX6_copyFrom 61 = .ok (.putfield 69, 3) := by decide +kernel
theorem dX6_copyFrom_64 : decode cX6_copyFrom 64 = .ok (.aload_n 1, 1) := by decide +kernel
theorem dX6_copyFrom_65 : decode cX6_copyFrom 65 = .ok (.getfield 9, 3) := by decide +kernel
theorem dX6_copyFrom_68 : decode cX6_copyFrom 68 = .ok (.iconst 0, 1) := by decide +kernel
theorem dX6_copyFrom_69 : decode cX6_copyFrom 69 = .ok (.aload_n 0, 1) := by decide +kernel
theorem dX6_copyFrom_70 : decode cX6_copyFrom 70 = .ok (.getfield 9, 3) := by decide +kernel
theorem dX6_copyFrom_73 : decode cX6_copyFrom 73 = .ok (.iconst 0, 1) := by decide +kernel
theorem dX6_copyFrom_74 : decode cX6_copyFrom 74 = .ok (.bipush 14, 2) := by decide +kernel
theorem dX6_copyFrom_76 : decode cX6_copyFrom 76 = .ok (.invokestatic 75, 3) := by decide +kernel
theorem dX6_copyFrom_79 : decode cX6_copyFrom 79 = .ok (.iconst 0, 1) := by decide +kernel
theorem dX6_copyFrom_80 : decode cX6_copyFrom 80 = .ok (.istore_n 2, 1) := by decide +kernel
theorem dX6_copyFrom_81 : decode cX6_copyFrom 81 = .ok (.iload_n 2, 1) := by decide +kernel
theorem dX6_copyFrom_82 : decode cX6_copyFrom 82 = .ok (.bipush 14, 2) := by decide +kernel
theorem dX6_copyFrom_84 : decode cX6_copyFrom 84 = .ok (.if_icmp .ge 21, 3) := by decide +kernel
theorem dX6_copyFrom_105 : decode cX6_copyFrom 105 = .ok (.aload_n 1, 1) := by decide +kernel
theorem dX6_copyFrom_106 : decode cX6_copyFrom 106 = .ok (.getfield 19, 3) := by decide +kernel
theorem dX6_copyFrom_109 : decode cX6_copyFrom 109 = .ok (.iconst 0, 1) := by decide +kernel
theorem dX6_copyFrom_110 : decode cX6_copyFrom 110 = .ok (.aload_n 0, 1) := by decide +kernel
theorem dX6_copyFrom_111 : decode cX6_copyFrom 111 = .ok (.getfield 19, 3) := by decide +kernel
theorem dX6_copyFrom_114 : decode cX6_copyFrom 114 = .ok (.iconst 0, 1) := by decide +kernel
theorem dX6_copyFrom_115 : decode cX6_copyFrom 115 = .ok (.iconst 5, 1) := by decide +kernel
theorem dX6_copyFrom_116 : decode cX6_copyFrom 116 = .ok (.invokestatic 75, 3) := by decide +kernel
theorem dX6_copyFrom_119 : decode cX6_copyFrom 119 = .ok (.aload_n 1, 1) := by decide +kernel
theorem dX6_copyFrom_120 : decode cX6_copyFrom 120 = .ok (.getfield 22, 3) := by decide +kernel
theorem dX6_copyFrom_123 : decode cX6_copyFrom 123 = .ok (.iconst 0, 1) := by decide +kernel
theorem dX6_copyFrom_124 : decode cX6_copyFrom 124 = .ok (.aload_n 0, 1) := by decide +kernel
theorem dX6_copyFrom_125 : decode cX6_copyFrom 125 = .ok (.getfield 22, 3) := by decide +kernel
theorem dX6_copyFrom_128 : decode cX6_copyFrom 128 = .ok (.iconst 0, 1) := by decide +kernel
theorem dX6_copyFrom_129 : decode cX6_copyFrom 129 = .ok (.bipush 8, 2) := by decide +kernel
theorem dX6_copyFrom_131 : decode cX6_copyFrom 131 = .ok (.invokestatic 75, 3) := by decide +kernel
theorem dX6_copyFrom_134 : decode cX6_copyFrom 134 = .ok (.aload_n 1, 1) := by decide +kernel
theorem dX6_copyFrom_135 : decode cX6_copyFrom 135 = .ok (.getfield 25, 3) := by decide +kernel
theorem dX6_copyFrom_138 : decode cX6_copyFrom 138 = .ok (.iconst 0, 1) := by decide +kernel
theorem dX6_copyFrom_139 : decode cX6_copyFrom 139 = .ok (.aload_n 0, 1) := by decide +kernel
theorem dX6_copyFrom_140 : decode cX6_copyFrom 140 = .ok (.getfield 25, 3) := by decide +kernel
theorem dX6_copyFrom_143 : decode cX6_copyFrom 143 = .ok (.iconst 0, 1) := by decide +kernel
theorem dX6_copyFrom_144 : decode cX6_copyFrom 144 = .ok (.bipush 8, 2) := by decide +kernel
theorem dX6_copyFrom_146 : decode cX6_copyFrom 146 = .ok (.invokestatic 75, 3) := by decide +kernel
theorem dX6_copyFrom_149 : decode cX6_copyFrom 149 = .ok (.aload_n 1, 1) := by decide +kernel
theorem dX6_copyFrom_150 : decode cX6_copyFrom 150 = .ok (.getfield 28, 3) := by decide +kernel
theorem dX6_copyFrom_153 : decode cX6_copyFrom 153 = .ok (.iconst 0, 1) := by decide +kernel
theorem dX6_copyFrom_154 : decode cX6_copyFrom 154 = .ok (.aload_n 0, 1) := by decide +kernel
theorem dX6_copyFrom_155 : decode cX6_copyFrom 155 = .ok (.getfield 28, 3) := by decide +kernel
theorem dX6_copyFrom_158 : decode cX6_copyFrom 158 = .ok (.iconst 0, 1) := by decide +kernel
theorem dX6_copyFrom_159 : decode cX6_copyFrom 159 = .ok (.bipush 8, 2) := by decide +kernel
theorem dX6_copyFrom_161 : decode cX6_copyFrom 161 = .ok (.invokestatic 75, 3) := by decide +kernel
theorem dX6_copyFrom_164 : decode cX6_copyFrom 164 = .ok (.aload_n 1, 1) := by decide +kernel
theorem dX6_copyFrom_165 : decode cX6_copyFrom 165 = .ok (.getfield 31, 3) := by decide +kernel
theorem dX6_copyFrom_168 : decode cX6_copyFrom 168 = .ok (.iconst 0, 1) := by decide +kernel
theorem dX6_copyFrom_169 : decode cX6_copyFrom 169 = .ok (.aload_n 0, 1) := by decide +kernel
theorem dX6_copyFrom_170 : decode cX6_copyFrom 170 = .ok (.getfield 31, 3) := by decide +kernel
theorem dX6_copyFrom_173 : decode cX6_copyFrom 173 = .ok (.iconst 0, 1) := by decide +kernel
theorem dX6_copyFrom_174 : decode cX6_copyFrom 174 = .ok (.bipush 8, 2) := by decide +kernel
theorem dX6_copyFrom_176 : decode cX6_copyFrom 176 = .ok (.invokestatic 75, 3) := by decide +kernel
theorem dX6_copyFrom_179 : decode cX6_copyFrom 179 = .ok (.aload_n 1, 1) := by decide +kernel
theorem dX6_copyFrom_180 : decode cX6_copyFrom 180 = .ok (.getfield 34, 3) := by decide +kernel
theorem dX6_copyFrom_183 : decode cX6_copyFrom 183 = .ok (.iconst 0, 1) := by decide +kernel
theorem dX6_copyFrom_184 : decode cX6_copyFrom 184 = .ok (.aload_n 0, 1) := by decide +kernel
theorem dX6_copyFrom_185 : decode cX6_copyFrom 185 = .ok (.getfield 34, 3) := by decide +kernel
theorem dX6_copyFrom_188 : decode cX6_copyFrom 188 = .ok (.iconst 0, 1) := by decide +kernel
theorem dX6_copyFrom_189 : decode cX6_copyFrom 189 = .ok (.bipush 6, 2) := by decide +kernel
theorem dX6_copyFrom_191 : decode cX6_copyFrom 191 = .ok (.invokestatic 75, 3) := by decide +kernel
theorem dX6_copyFrom_194 : decode cX6_copyFrom 194 = .ok (.aload_n 1, 1) := by decide +kernel
theorem dX6_copyFrom_195 : decode cX6_copyFrom 195 = .ok (.getfield 37, 3) := by decide +kernel
theorem dX6_copyFrom_198 : decode cX6_copyFrom 198 = .ok (.iconst 0, 1) := by decide +kernel
theorem dX6_copyFrom_199 : decode cX6_copyFrom 199 = .ok (.aload_n 0, 1) := by decide +kernel
theorem dX6_copyFrom_200 : decode cX6_copyFrom 200 = .ok (.getfield 37, 3) := by decide +kernel
theorem dX6_copyFrom_203 : decode cX6_copyFrom 203 = .ok (.iconst 0, 1) := by decide +kernel
theorem dX6_copyFrom_204 : decode cX6_copyFrom 204 = .ok (.bipush 6, 2) := by decide +kernel
theorem dX6_copyFrom_206 : decode cX6_copyFrom 206 = .ok (.invokestatic 75, 3) := by decide +kernel
theorem dX6_copyFrom_209 : decode cX6_copyFrom 209 = .ok (.aload_n 0, 1) := by decide +kernel
theorem dX6_copyFrom_210 : decode cX6_copyFrom 210 = .ok (.getfield 43, 3) := by decide +kernel
theorem dX6_copyFrom_213 : decode cX6_copyFrom 213 = .ok (.aload_n 1, 1) := by decide +kernel
theorem dX6_copyFrom_214 : decode cX6_copyFrom 214 = .ok (.getfield 43, 3) := by decide +kernel
theorem dX6_copyFrom_217 : decode cX6_copyFrom 217 = .ok (.invokevirtual 81, 3) := by decide +kernel
theorem dX6_copyFrom_220 : decode cX6_copyFrom 220 = .ok (.return_, 1) := by decide +kernel
theorem dX6_copyFrom_87 : decode cX6_copyFrom 87 = .ok (.aload_n 0, 1) := by decide +kernel
theorem dX6_copyFrom_88 : decode cX6_copyFrom 88 = .ok (.getfield 15, 3) := by decide +kernel
theorem dX6_copyFrom_91 : decode cX6_copyFrom 91 = .ok (.iload_n 2, 1) := by decide +kernel
theorem dX6_copyFrom_92 : decode cX6_copyFrom 92 = .ok (.aload_n 1, 1) := by decide +kernel
theorem dX6_copyFrom_93 : decode cX6_copyFrom 93 = .ok (.getfield 15, 3) := by decide +kernel
theorem dX6_copyFrom_96 : decode cX6_copyFrom 96 = .ok (.iload_n 2, 1) := by decide +kernel
theorem dX6_copyFrom_97 : decode cX6_copyFrom 97 = .ok (.baload, 1) := by decide +kernel
theorem dX6_copyFrom_98 : decode cX6_copyFrom 98 = .ok (.bastore, 1) := by decide +kernel
theorem dX6_copyFrom_99 : decode cX6_copyFrom 99 = .ok (.iinc 2 1, 3) := by decide +kernel
theorem dX6_copyFrom_102 : decode cX6_copyFrom 102 = .ok (.goto (-21), 3) := by decide +kernel
def vX6_copyFrom : List Cond := .code yX6_copyFrom cX6_copyFrom 3 none :: ([.fieldLink RX6 47 "IcicleClock$Street" "slamTakes" "I", .fieldLink RX6 51 "IcicleClock$Street" "bellTakes" "I", .fieldLink RX6 54 "IcicleClock$Street" "odds" "I", .fieldLink RX6 57 "IcicleClock$Street" "days" "I", .fieldLink RX6 60 "IcicleClock$Street" "eaves" "I", .fieldLink RX6 63 "IcicleClock$Street" "icicles" "I", .fieldLink RX6 66 "IcicleClock$Street" "works" "I", .fieldLink RX6 69 "IcicleClock$Street" "lines" "I", .fieldLink RX6 9 "IcicleClock$Street" "thaw" "[I", .methodLink RX6 75 arraycopyName, .native arraycopyName, .static arraycopyName, .initialized "java/lang/System", .fieldLink RX6 19 "IcicleClock$Street" "sun" "[I", .fieldLink RX6 22 "IcicleClock$Street" "eaveOf" "[I", .fieldLink RX6 25 "IcicleClock$Street" "lengthTold" "[I", .fieldLink RX6 28 "IcicleClock$Street" "lengthHung" "[I", .fieldLink RX6 31 "IcicleClock$Street" "hourOf" "[I", .fieldLink RX6 34 "IcicleClock$Street" "dueHour" "[I", .fieldLink RX6 37 "IcicleClock$Street" "dueDay" "[I", .fieldLink RX6 43 "IcicleClock$Street" "acts" "LIcicleClock$Acts;", .methodLink RX6 81 yX0_copyFrom, .instanceMethod yX0_copyFrom, .selects RX0 yX0_copyFrom yX0_copyFrom, .initialized RX0, .code yX0_copyFrom cX0_copyFrom 3 none, .methodLink RX0 38 yX0_clear, .instanceMethod yX0_clear, .selects RX0 yX0_clear yX0_clear, .code yX0_clear cX0_clear 2 none, .fieldLink RX0 26 "IcicleClock$Acts" "done" "I", .fieldLink RX6 15 "IcicleClock$Street" "isThaw" "[Z"] ++ wsX60 ++ wsX00)
theorem iX6_copyFrom_6 : ∀ w ∈ wsX60, w ∈ vX6_copyFrom := fun _ h => List.mem_cons_of_mem _ (List.mem_append_left _ (List.mem_append_right _ h))
theorem iX6_copyFrom_0 : ∀ w ∈ wsX00, w ∈ vX6_copyFrom := fun _ h => List.mem_cons_of_mem _ (List.mem_append_right _ h)
set_option maxRecDepth 20000 in
theorem gg_X6_copyFrom_X0_copyFrom : GoodIn vX6_copyFrom (wsV RX6 81 RX0 yX0_copyFrom vX0_copyFrom) := goodIn_r _ [22, 23, 24, 25, 26, 27, 28, 29, 25, 30, 31, 51, 52, 53, 54, 55] (by decide +kernel) (by decide +kernel)
set_option maxHeartbeats 4000000 in
set_option maxRecDepth 100000 in
theorem k_copy3 (l : Launch) (D : va_G) (cs : Nat → ClassId) (ad : Nat → Nat) (hj : wJ ad nW) (g : Nat → va_E) (h3 : g 3 = .inr (6, [.int 0, .int 0, .int 0, .int 0, .int 0, .int 0, .int 0, .int 0, .ref (ad 4), .ref (ad 5), .ref (ad 6), .ref (ad 7), .ref (ad 8), .ref (ad 9), .ref (ad 10), .ref (ad 11), .ref (ad 12), .ref (ad 13)])) (h23 : g 23 = .inr (6, [.int 0, .int 0, .int 0, .int 0, .int 0, .int 0, .int 0, .int 0, .ref (ad 24), .ref (ad 25), .ref (ad 26), .ref (ad 27), .ref (ad 28), .ref (ad 29), .ref (ad 30), .ref (ad 31), .ref (ad 32), .ref (ad 33)])) (h4 : g 4 = .inl (cs 1, 14, .inl (fun _ => 0))) (h5 : g 5 = .inl (cs 3, 14, .inl (fun _ => 0))) (h6 : g 6 = .inl (cs 1, 5, .inl (fun _ => 0))) (h7 : g 7 = .inl (cs 1, 8, .inl (fun _ => 0))) (h8 : g 8 = .inl (cs 1, 8, .inl (fun _ => 0))) (h9 : g 9 = .inl (cs 1, 8, .inl (fun _ => 0))) (h10 : g 10 = .inl (cs 1, 8, .inl (fun _ => 0))) (h11 : g 11 = .inl (cs 1, 6, .inl (fun _ => 0))) (h12 : g 12 = .inl (cs 1, 6, .inl (fun _ => 0))) (h24 : g 24 = .inl (cs 1, 14, .inl (fun _ => 0))) (h25 : g 25 = .inl (cs 3, 14, .inl (fun _ => 0))) (h26 : g 26 = .inl (cs 1, 5, .inl (fun _ => 0))) (h27 : g 27 = .inl (cs 1, 8, .inl (fun _ => 0))) (h28 : g 28 = .inl (cs 1, 8, .inl (fun _ => 0))) (h29 : g 29 = .inl (cs 1, 8, .inl (fun _ => 0))) (h30 : g 30 = .inl (cs 1, 8, .inl (fun _ => 0))) (h31 : g 31 = .inl (cs 1, 6, .inl (fun _ => 0))) (h32 : g 32 = .inl (cs 1, 6, .inl (fun _ => 0))) (h13 : g 13 = .inr (0, [.int 0, .ref (ad 14), .ref (ad 15), .ref (ad 16), .ref (ad 22)])) (h33 : g 33 = .inr (0, [.int 0, .ref (ad 34), .ref (ad 35), .ref (ad 36), .ref (ad 42)])) : cV l yX6_copyFrom vX6_copyFrom { frames := 2, cells := 0, slots := 0, locals := 43 } D cs ad nW [.ref (ad 3), .ref (ad 23)] g (fun g2 => g2 3 = .inr (6, [.int 0, .int 0, .int 0, .int 0, .int 0, .int 0, .int 0, .int 0, .ref (ad 4), .ref (ad 5), .ref (ad 6), .ref (ad 7), .ref (ad 8), .ref (ad 9), .ref (ad 10), .ref (ad 11), .ref (ad 12), .ref (ad 13)]) ∧ ∀ j, (j < 3 ∨ 3 + 10 < j) → g2 j = g j) := by
  refine Met.start (cc := cX6_copyFrom) (maxL := 3) (ret := none) RX6 rfl (by decide) rfl (Nat.le_of_ble_eq_true rfl) ?_
  intro p e s m below meth c ls X hP hl
  have hx := X.1
  have hb := X.2.1
  have hS : va_S (wA ad nW) s.heap s.heap [] := va_S.rf
  have hA : ∀ i, i < nW → wA ad nW (ad i) := fun i h => ⟨i, h, rfl⟩
  have hfr : ∀ j, (j < 3 ∨ 3 + 10 < j) → g j = g j := fun _ _ => rfl
  have hl : lv_has ls 3 [(0, .ref (ad 3)), (1, .ref (ad 23))] := hl
  refine lv_aload_n hx hb dX6_copyFrom_0 rfl (lv_at hl 0 rfl) ?_
  refine lv_aload_n hx hb dX6_copyFrom_1 rfl (lv_at hl 1 rfl) ?_
  refine q_get X iX6_copyFrom_6 hP (by decide) h23 rfl 0 (by decide) (List.mem_of_getElem? (i := 1) rfl) (v := .int 0) rfl dX6_copyFrom_2 ?_
  refine q_put X iX6_copyFrom_6 tyX6 tyX6_ok nmX6 hP hj hA hS (by decide) h3 rfl 0 (by decide) (List.mem_of_getElem? (i := 1) rfl) rfl (ty := .int) (v := .int 0) (by decide +kernel) rfl rfl (Nat.le_of_ble_eq_true rfl) dX6_copyFrom_5 (fun H locs hP hS => ?_)
  generalize eg_1 : va_up g 3 _ = g_1 at hP
  have hfr_2 : ∀ j, (j < 3 ∨ 3 + 10 < j) → g_1 j = g j := fun j hj => by rw [← eg_1]; exact (va_up_ne _ _ (by omega)).trans (hfr j hj)
  have h_3 : g_1 3 = .inr (6, [.int 0, .int 0, .int 0, .int 0, .int 0, .int 0, .int 0, .int 0, .ref (ad 4), .ref (ad 5), .ref (ad 6), .ref (ad 7), .ref (ad 8), .ref (ad 9), .ref (ad 10), .ref (ad 11), .ref (ad 12), .ref (ad 13)]) := by rw [← eg_1]; exact va_up_self _ _ _
  have h_4 : g_1 23 = .inr (6, [.int 0, .int 0, .int 0, .int 0, .int 0, .int 0, .int 0, .int 0, .ref (ad 24), .ref (ad 25), .ref (ad 26), .ref (ad 27), .ref (ad 28), .ref (ad 29), .ref (ad 30), .ref (ad 31), .ref (ad 32), .ref (ad 33)]) := by rw [← eg_1, va_up_ne _ _ (by decide)]; exact h23
  have h_5 : g_1 4 = .inl (cs 1, 14, .inl (fun _ => 0)) := by rw [← eg_1, va_up_ne _ _ (by decide)]; exact h4
  have h_6 : g_1 5 = .inl (cs 3, 14, .inl (fun _ => 0)) := by rw [← eg_1, va_up_ne _ _ (by decide)]; exact h5
  have h_7 : g_1 6 = .inl (cs 1, 5, .inl (fun _ => 0)) := by rw [← eg_1, va_up_ne _ _ (by decide)]; exact h6
  have h_8 : g_1 7 = .inl (cs 1, 8, .inl (fun _ => 0)) := by rw [← eg_1, va_up_ne _ _ (by decide)]; exact h7
  have h_9 : g_1 8 = .inl (cs 1, 8, .inl (fun _ => 0)) := by rw [← eg_1, va_up_ne _ _ (by decide)]; exact h8
  have h_10 : g_1 9 = .inl (cs 1, 8, .inl (fun _ => 0)) := by rw [← eg_1, va_up_ne _ _ (by decide)]; exact h9
  have h_11 : g_1 10 = .inl (cs 1, 8, .inl (fun _ => 0)) := by rw [← eg_1, va_up_ne _ _ (by decide)]; exact h10
  have h_12 : g_1 11 = .inl (cs 1, 6, .inl (fun _ => 0)) := by rw [← eg_1, va_up_ne _ _ (by decide)]; exact h11
  have h_13 : g_1 12 = .inl (cs 1, 6, .inl (fun _ => 0)) := by rw [← eg_1, va_up_ne _ _ (by decide)]; exact h12
  have h_14 : g_1 24 = .inl (cs 1, 14, .inl (fun _ => 0)) := by rw [← eg_1, va_up_ne _ _ (by decide)]; exact h24
  have h_15 : g_1 25 = .inl (cs 3, 14, .inl (fun _ => 0)) := by rw [← eg_1, va_up_ne _ _ (by decide)]; exact h25
  have h_16 : g_1 26 = .inl (cs 1, 5, .inl (fun _ => 0)) := by rw [← eg_1, va_up_ne _ _ (by decide)]; exact h26
  have h_17 : g_1 27 = .inl (cs 1, 8, .inl (fun _ => 0)) := by rw [← eg_1, va_up_ne _ _ (by decide)]; exact h27
  have h_18 : g_1 28 = .inl (cs 1, 8, .inl (fun _ => 0)) := by rw [← eg_1, va_up_ne _ _ (by decide)]; exact h28
  have h_19 : g_1 29 = .inl (cs 1, 8, .inl (fun _ => 0)) := by rw [← eg_1, va_up_ne _ _ (by decide)]; exact h29
  have h_20 : g_1 30 = .inl (cs 1, 8, .inl (fun _ => 0)) := by rw [← eg_1, va_up_ne _ _ (by decide)]; exact h30
  have h_21 : g_1 31 = .inl (cs 1, 6, .inl (fun _ => 0)) := by rw [← eg_1, va_up_ne _ _ (by decide)]; exact h31
  have h_22 : g_1 32 = .inl (cs 1, 6, .inl (fun _ => 0)) := by rw [← eg_1, va_up_ne _ _ (by decide)]; exact h32
  have h_23 : g_1 13 = .inr (0, [.int 0, .ref (ad 14), .ref (ad 15), .ref (ad 16), .ref (ad 22)]) := by rw [← eg_1, va_up_ne _ _ (by decide)]; exact h13
  have h_24 : g_1 33 = .inr (0, [.int 0, .ref (ad 34), .ref (ad 35), .ref (ad 36), .ref (ad 42)]) := by rw [← eg_1, va_up_ne _ _ (by decide)]; exact h33
  refine lv_aload_n hx hb dX6_copyFrom_8 rfl (lv_at hl 0 rfl) ?_
  refine lv_aload_n hx hb dX6_copyFrom_9 rfl (lv_at hl 1 rfl) ?_
  refine q_get X iX6_copyFrom_6 hP (by decide) h_4 rfl 1 (by decide) (List.mem_of_getElem? (i := 2) rfl) (v := .int 0) rfl dX6_copyFrom_10 ?_
  refine q_put X iX6_copyFrom_6 tyX6 tyX6_ok nmX6 hP hj hA hS (by decide) h_3 rfl 1 (by decide) (List.mem_of_getElem? (i := 2) rfl) rfl (ty := .int) (v := .int 0) (by decide +kernel) rfl rfl (Nat.le_of_ble_eq_true rfl) dX6_copyFrom_13 (fun H locs hP hS => ?_)
  generalize eg_25 : va_up g_1 3 _ = g_25 at hP
  have hfr_26 : ∀ j, (j < 3 ∨ 3 + 10 < j) → g_25 j = g j := fun j hj => by rw [← eg_25]; exact (va_up_ne _ _ (by omega)).trans (hfr_2 j hj)
  have h_27 : g_25 3 = .inr (6, [.int 0, .int 0, .int 0, .int 0, .int 0, .int 0, .int 0, .int 0, .ref (ad 4), .ref (ad 5), .ref (ad 6), .ref (ad 7), .ref (ad 8), .ref (ad 9), .ref (ad 10), .ref (ad 11), .ref (ad 12), .ref (ad 13)]) := by rw [← eg_25]; exact va_up_self _ _ _
  have h_28 : g_25 23 = .inr (6, [.int 0, .int 0, .int 0, .int 0, .int 0, .int 0, .int 0, .int 0, .ref (ad 24), .ref (ad 25), .ref (ad 26), .ref (ad 27), .ref (ad 28), .ref (ad 29), .ref (ad 30), .ref (ad 31), .ref (ad 32), .ref (ad 33)]) := by rw [← eg_25, va_up_ne _ _ (by decide)]; exact h_4
  have h_29 : g_25 4 = .inl (cs 1, 14, .inl (fun _ => 0)) := by rw [← eg_25, va_up_ne _ _ (by decide)]; exact h_5
  have h_30 : g_25 5 = .inl (cs 3, 14, .inl (fun _ => 0)) := by rw [← eg_25, va_up_ne _ _ (by decide)]; exact h_6
  have h_31 : g_25 6 = .inl (cs 1, 5, .inl (fun _ => 0)) := by rw [← eg_25, va_up_ne _ _ (by decide)]; exact h_7
  have h_32 : g_25 7 = .inl (cs 1, 8, .inl (fun _ => 0)) := by rw [← eg_25, va_up_ne _ _ (by decide)]; exact h_8
  have h_33 : g_25 8 = .inl (cs 1, 8, .inl (fun _ => 0)) := by rw [← eg_25, va_up_ne _ _ (by decide)]; exact h_9
  have h_34 : g_25 9 = .inl (cs 1, 8, .inl (fun _ => 0)) := by rw [← eg_25, va_up_ne _ _ (by decide)]; exact h_10
  have h_35 : g_25 10 = .inl (cs 1, 8, .inl (fun _ => 0)) := by rw [← eg_25, va_up_ne _ _ (by decide)]; exact h_11
  have h_36 : g_25 11 = .inl (cs 1, 6, .inl (fun _ => 0)) := by rw [← eg_25, va_up_ne _ _ (by decide)]; exact h_12
  have h_37 : g_25 12 = .inl (cs 1, 6, .inl (fun _ => 0)) := by rw [← eg_25, va_up_ne _ _ (by decide)]; exact h_13
  have h_38 : g_25 24 = .inl (cs 1, 14, .inl (fun _ => 0)) := by rw [← eg_25, va_up_ne _ _ (by decide)]; exact h_14
  have h_39 : g_25 25 = .inl (cs 3, 14, .inl (fun _ => 0)) := by rw [← eg_25, va_up_ne _ _ (by decide)]; exact h_15
  have h_40 : g_25 26 = .inl (cs 1, 5, .inl (fun _ => 0)) := by rw [← eg_25, va_up_ne _ _ (by decide)]; exact h_16
  have h_41 : g_25 27 = .inl (cs 1, 8, .inl (fun _ => 0)) := by rw [← eg_25, va_up_ne _ _ (by decide)]; exact h_17
  have h_42 : g_25 28 = .inl (cs 1, 8, .inl (fun _ => 0)) := by rw [← eg_25, va_up_ne _ _ (by decide)]; exact h_18
  have h_43 : g_25 29 = .inl (cs 1, 8, .inl (fun _ => 0)) := by rw [← eg_25, va_up_ne _ _ (by decide)]; exact h_19
  have h_44 : g_25 30 = .inl (cs 1, 8, .inl (fun _ => 0)) := by rw [← eg_25, va_up_ne _ _ (by decide)]; exact h_20
  have h_45 : g_25 31 = .inl (cs 1, 6, .inl (fun _ => 0)) := by rw [← eg_25, va_up_ne _ _ (by decide)]; exact h_21
  have h_46 : g_25 32 = .inl (cs 1, 6, .inl (fun _ => 0)) := by rw [← eg_25, va_up_ne _ _ (by decide)]; exact h_22
  have h_47 : g_25 13 = .inr (0, [.int 0, .ref (ad 14), .ref (ad 15), .ref (ad 16), .ref (ad 22)]) := by rw [← eg_25, va_up_ne _ _ (by decide)]; exact h_23
  have h_48 : g_25 33 = .inr (0, [.int 0, .ref (ad 34), .ref (ad 35), .ref (ad 36), .ref (ad 42)]) := by rw [← eg_25, va_up_ne _ _ (by decide)]; exact h_24
  refine lv_aload_n hx hb dX6_copyFrom_16 rfl (lv_at hl 0 rfl) ?_
  refine lv_aload_n hx hb dX6_copyFrom_17 rfl (lv_at hl 1 rfl) ?_
  refine q_get X iX6_copyFrom_6 hP (by decide) h_28 rfl 2 (by decide) (List.mem_of_getElem? (i := 3) rfl) (v := .int 0) rfl dX6_copyFrom_18 ?_
  refine q_put X iX6_copyFrom_6 tyX6 tyX6_ok nmX6 hP hj hA hS (by decide) h_27 rfl 2 (by decide) (List.mem_of_getElem? (i := 3) rfl) rfl (ty := .int) (v := .int 0) (by decide +kernel) rfl rfl (Nat.le_of_ble_eq_true rfl) dX6_copyFrom_21 (fun H locs hP hS => ?_)
  generalize eg_49 : va_up g_25 3 _ = g_49 at hP
  have hfr_50 : ∀ j, (j < 3 ∨ 3 + 10 < j) → g_49 j = g j := fun j hj => by rw [← eg_49]; exact (va_up_ne _ _ (by omega)).trans (hfr_26 j hj)
  have h_51 : g_49 3 = .inr (6, [.int 0, .int 0, .int 0, .int 0, .int 0, .int 0, .int 0, .int 0, .ref (ad 4), .ref (ad 5), .ref (ad 6), .ref (ad 7), .ref (ad 8), .ref (ad 9), .ref (ad 10), .ref (ad 11), .ref (ad 12), .ref (ad 13)]) := by rw [← eg_49]; exact va_up_self _ _ _
  have h_52 : g_49 23 = .inr (6, [.int 0, .int 0, .int 0, .int 0, .int 0, .int 0, .int 0, .int 0, .ref (ad 24), .ref (ad 25), .ref (ad 26), .ref (ad 27), .ref (ad 28), .ref (ad 29), .ref (ad 30), .ref (ad 31), .ref (ad 32), .ref (ad 33)]) := by rw [← eg_49, va_up_ne _ _ (by decide)]; exact h_28
  have h_53 : g_49 4 = .inl (cs 1, 14, .inl (fun _ => 0)) := by rw [← eg_49, va_up_ne _ _ (by decide)]; exact h_29
  have h_54 : g_49 5 = .inl (cs 3, 14, .inl (fun _ => 0)) := by rw [← eg_49, va_up_ne _ _ (by decide)]; exact h_30
  have h_55 : g_49 6 = .inl (cs 1, 5, .inl (fun _ => 0)) := by rw [← eg_49, va_up_ne _ _ (by decide)]; exact h_31
  have h_56 : g_49 7 = .inl (cs 1, 8, .inl (fun _ => 0)) := by rw [← eg_49, va_up_ne _ _ (by decide)]; exact h_32
  have h_57 : g_49 8 = .inl (cs 1, 8, .inl (fun _ => 0)) := by rw [← eg_49, va_up_ne _ _ (by decide)]; exact h_33
  have h_58 : g_49 9 = .inl (cs 1, 8, .inl (fun _ => 0)) := by rw [← eg_49, va_up_ne _ _ (by decide)]; exact h_34
  have h_59 : g_49 10 = .inl (cs 1, 8, .inl (fun _ => 0)) := by rw [← eg_49, va_up_ne _ _ (by decide)]; exact h_35
  have h_60 : g_49 11 = .inl (cs 1, 6, .inl (fun _ => 0)) := by rw [← eg_49, va_up_ne _ _ (by decide)]; exact h_36
  have h_61 : g_49 12 = .inl (cs 1, 6, .inl (fun _ => 0)) := by rw [← eg_49, va_up_ne _ _ (by decide)]; exact h_37
  have h_62 : g_49 24 = .inl (cs 1, 14, .inl (fun _ => 0)) := by rw [← eg_49, va_up_ne _ _ (by decide)]; exact h_38
  have h_63 : g_49 25 = .inl (cs 3, 14, .inl (fun _ => 0)) := by rw [← eg_49, va_up_ne _ _ (by decide)]; exact h_39
  have h_64 : g_49 26 = .inl (cs 1, 5, .inl (fun _ => 0)) := by rw [← eg_49, va_up_ne _ _ (by decide)]; exact h_40
  have h_65 : g_49 27 = .inl (cs 1, 8, .inl (fun _ => 0)) := by rw [← eg_49, va_up_ne _ _ (by decide)]; exact h_41
  have h_66 : g_49 28 = .inl (cs 1, 8, .inl (fun _ => 0)) := by rw [← eg_49, va_up_ne _ _ (by decide)]; exact h_42
  have h_67 : g_49 29 = .inl (cs 1, 8, .inl (fun _ => 0)) := by rw [← eg_49, va_up_ne _ _ (by decide)]; exact h_43
  have h_68 : g_49 30 = .inl (cs 1, 8, .inl (fun _ => 0)) := by rw [← eg_49, va_up_ne _ _ (by decide)]; exact h_44
  have h_69 : g_49 31 = .inl (cs 1, 6, .inl (fun _ => 0)) := by rw [← eg_49, va_up_ne _ _ (by decide)]; exact h_45
  have h_70 : g_49 32 = .inl (cs 1, 6, .inl (fun _ => 0)) := by rw [← eg_49, va_up_ne _ _ (by decide)]; exact h_46
  have h_71 : g_49 13 = .inr (0, [.int 0, .ref (ad 14), .ref (ad 15), .ref (ad 16), .ref (ad 22)]) := by rw [← eg_49, va_up_ne _ _ (by decide)]; exact h_47
  have h_72 : g_49 33 = .inr (0, [.int 0, .ref (ad 34), .ref (ad 35), .ref (ad 36), .ref (ad 42)]) := by rw [← eg_49, va_up_ne _ _ (by decide)]; exact h_48
  refine lv_aload_n hx hb dX6_copyFrom_24 rfl (lv_at hl 0 rfl) ?_
  refine lv_aload_n hx hb dX6_copyFrom_25 rfl (lv_at hl 1 rfl) ?_
  refine q_get X iX6_copyFrom_6 hP (by decide) h_52 rfl 3 (by decide) (List.mem_of_getElem? (i := 4) rfl) (v := .int 0) rfl dX6_copyFrom_26 ?_
  refine q_put X iX6_copyFrom_6 tyX6 tyX6_ok nmX6 hP hj hA hS (by decide) h_51 rfl 3 (by decide) (List.mem_of_getElem? (i := 4) rfl) rfl (ty := .int) (v := .int 0) (by decide +kernel) rfl rfl (Nat.le_of_ble_eq_true rfl) dX6_copyFrom_29 (fun H locs hP hS => ?_)
  generalize eg_73 : va_up g_49 3 _ = g_73 at hP
  have hfr_74 : ∀ j, (j < 3 ∨ 3 + 10 < j) → g_73 j = g j := fun j hj => by rw [← eg_73]; exact (va_up_ne _ _ (by omega)).trans (hfr_50 j hj)
  have h_75 : g_73 3 = .inr (6, [.int 0, .int 0, .int 0, .int 0, .int 0, .int 0, .int 0, .int 0, .ref (ad 4), .ref (ad 5), .ref (ad 6), .ref (ad 7), .ref (ad 8), .ref (ad 9), .ref (ad 10), .ref (ad 11), .ref (ad 12), .ref (ad 13)]) := by rw [← eg_73]; exact va_up_self _ _ _
  have h_76 : g_73 23 = .inr (6, [.int 0, .int 0, .int 0, .int 0, .int 0, .int 0, .int 0, .int 0, .ref (ad 24), .ref (ad 25), .ref (ad 26), .ref (ad 27), .ref (ad 28), .ref (ad 29), .ref (ad 30), .ref (ad 31), .ref (ad 32), .ref (ad 33)]) := by rw [← eg_73, va_up_ne _ _ (by decide)]; exact h_52
  have h_77 : g_73 4 = .inl (cs 1, 14, .inl (fun _ => 0)) := by rw [← eg_73, va_up_ne _ _ (by decide)]; exact h_53
  have h_78 : g_73 5 = .inl (cs 3, 14, .inl (fun _ => 0)) := by rw [← eg_73, va_up_ne _ _ (by decide)]; exact h_54
  have h_79 : g_73 6 = .inl (cs 1, 5, .inl (fun _ => 0)) := by rw [← eg_73, va_up_ne _ _ (by decide)]; exact h_55
  have h_80 : g_73 7 = .inl (cs 1, 8, .inl (fun _ => 0)) := by rw [← eg_73, va_up_ne _ _ (by decide)]; exact h_56
  have h_81 : g_73 8 = .inl (cs 1, 8, .inl (fun _ => 0)) := by rw [← eg_73, va_up_ne _ _ (by decide)]; exact h_57
  have h_82 : g_73 9 = .inl (cs 1, 8, .inl (fun _ => 0)) := by rw [← eg_73, va_up_ne _ _ (by decide)]; exact h_58
  have h_83 : g_73 10 = .inl (cs 1, 8, .inl (fun _ => 0)) := by rw [← eg_73, va_up_ne _ _ (by decide)]; exact h_59
  have h_84 : g_73 11 = .inl (cs 1, 6, .inl (fun _ => 0)) := by rw [← eg_73, va_up_ne _ _ (by decide)]; exact h_60
  have h_85 : g_73 12 = .inl (cs 1, 6, .inl (fun _ => 0)) := by rw [← eg_73, va_up_ne _ _ (by decide)]; exact h_61
  have h_86 : g_73 24 = .inl (cs 1, 14, .inl (fun _ => 0)) := by rw [← eg_73, va_up_ne _ _ (by decide)]; exact h_62
  have h_87 : g_73 25 = .inl (cs 3, 14, .inl (fun _ => 0)) := by rw [← eg_73, va_up_ne _ _ (by decide)]; exact h_63
  have h_88 : g_73 26 = .inl (cs 1, 5, .inl (fun _ => 0)) := by rw [← eg_73, va_up_ne _ _ (by decide)]; exact h_64
  have h_89 : g_73 27 = .inl (cs 1, 8, .inl (fun _ => 0)) := by rw [← eg_73, va_up_ne _ _ (by decide)]; exact h_65
  have h_90 : g_73 28 = .inl (cs 1, 8, .inl (fun _ => 0)) := by rw [← eg_73, va_up_ne _ _ (by decide)]; exact h_66
  have h_91 : g_73 29 = .inl (cs 1, 8, .inl (fun _ => 0)) := by rw [← eg_73, va_up_ne _ _ (by decide)]; exact h_67
  have h_92 : g_73 30 = .inl (cs 1, 8, .inl (fun _ => 0)) := by rw [← eg_73, va_up_ne _ _ (by decide)]; exact h_68
  have h_93 : g_73 31 = .inl (cs 1, 6, .inl (fun _ => 0)) := by rw [← eg_73, va_up_ne _ _ (by decide)]; exact h_69
  have h_94 : g_73 32 = .inl (cs 1, 6, .inl (fun _ => 0)) := by rw [← eg_73, va_up_ne _ _ (by decide)]; exact h_70
  have h_95 : g_73 13 = .inr (0, [.int 0, .ref (ad 14), .ref (ad 15), .ref (ad 16), .ref (ad 22)]) := by rw [← eg_73, va_up_ne _ _ (by decide)]; exact h_71
  have h_96 : g_73 33 = .inr (0, [.int 0, .ref (ad 34), .ref (ad 35), .ref (ad 36), .ref (ad 42)]) := by rw [← eg_73, va_up_ne _ _ (by decide)]; exact h_72
  refine lv_aload_n hx hb dX6_copyFrom_32 rfl (lv_at hl 0 rfl) ?_
  refine lv_aload_n hx hb dX6_copyFrom_33 rfl (lv_at hl 1 rfl) ?_
  refine q_get X iX6_copyFrom_6 hP (by decide) h_76 rfl 4 (by decide) (List.mem_of_getElem? (i := 5) rfl) (v := .int 0) rfl dX6_copyFrom_34 ?_
  refine q_put X iX6_copyFrom_6 tyX6 tyX6_ok nmX6 hP hj hA hS (by decide) h_75 rfl 4 (by decide) (List.mem_of_getElem? (i := 5) rfl) rfl (ty := .int) (v := .int 0) (by decide +kernel) rfl rfl (Nat.le_of_ble_eq_true rfl) dX6_copyFrom_37 (fun H locs hP hS => ?_)
  generalize eg_97 : va_up g_73 3 _ = g_97 at hP
  have hfr_98 : ∀ j, (j < 3 ∨ 3 + 10 < j) → g_97 j = g j := fun j hj => by rw [← eg_97]; exact (va_up_ne _ _ (by omega)).trans (hfr_74 j hj)
  have h_99 : g_97 3 = .inr (6, [.int 0, .int 0, .int 0, .int 0, .int 0, .int 0, .int 0, .int 0, .ref (ad 4), .ref (ad 5), .ref (ad 6), .ref (ad 7), .ref (ad 8), .ref (ad 9), .ref (ad 10), .ref (ad 11), .ref (ad 12), .ref (ad 13)]) := by rw [← eg_97]; exact va_up_self _ _ _
  have h_100 : g_97 23 = .inr (6, [.int 0, .int 0, .int 0, .int 0, .int 0, .int 0, .int 0, .int 0, .ref (ad 24), .ref (ad 25), .ref (ad 26), .ref (ad 27), .ref (ad 28), .ref (ad 29), .ref (ad 30), .ref (ad 31), .ref (ad 32), .ref (ad 33)]) := by rw [← eg_97, va_up_ne _ _ (by decide)]; exact h_76
  have h_101 : g_97 4 = .inl (cs 1, 14, .inl (fun _ => 0)) := by rw [← eg_97, va_up_ne _ _ (by decide)]; exact h_77
  have h_102 : g_97 5 = .inl (cs 3, 14, .inl (fun _ => 0)) := by rw [← eg_97, va_up_ne _ _ (by decide)]; exact h_78
  have h_103 : g_97 6 = .inl (cs 1, 5, .inl (fun _ => 0)) := by rw [← eg_97, va_up_ne _ _ (by decide)]; exact h_79
  have h_104 : g_97 7 = .inl (cs 1, 8, .inl (fun _ => 0)) := by rw [← eg_97, va_up_ne _ _ (by decide)]; exact h_80
  have h_105 : g_97 8 = .inl (cs 1, 8, .inl (fun _ => 0)) := by rw [← eg_97, va_up_ne _ _ (by decide)]; exact h_81
  have h_106 : g_97 9 = .inl (cs 1, 8, .inl (fun _ => 0)) := by rw [← eg_97, va_up_ne _ _ (by decide)]; exact h_82
  have h_107 : g_97 10 = .inl (cs 1, 8, .inl (fun _ => 0)) := by rw [← eg_97, va_up_ne _ _ (by decide)]; exact h_83
  have h_108 : g_97 11 = .inl (cs 1, 6, .inl (fun _ => 0)) := by rw [← eg_97, va_up_ne _ _ (by decide)]; exact h_84
  have h_109 : g_97 12 = .inl (cs 1, 6, .inl (fun _ => 0)) := by rw [← eg_97, va_up_ne _ _ (by decide)]; exact h_85
  have h_110 : g_97 24 = .inl (cs 1, 14, .inl (fun _ => 0)) := by rw [← eg_97, va_up_ne _ _ (by decide)]; exact h_86
  have h_111 : g_97 25 = .inl (cs 3, 14, .inl (fun _ => 0)) := by rw [← eg_97, va_up_ne _ _ (by decide)]; exact h_87
  have h_112 : g_97 26 = .inl (cs 1, 5, .inl (fun _ => 0)) := by rw [← eg_97, va_up_ne _ _ (by decide)]; exact h_88
  have h_113 : g_97 27 = .inl (cs 1, 8, .inl (fun _ => 0)) := by rw [← eg_97, va_up_ne _ _ (by decide)]; exact h_89
  have h_114 : g_97 28 = .inl (cs 1, 8, .inl (fun _ => 0)) := by rw [← eg_97, va_up_ne _ _ (by decide)]; exact h_90
  have h_115 : g_97 29 = .inl (cs 1, 8, .inl (fun _ => 0)) := by rw [← eg_97, va_up_ne _ _ (by decide)]; exact h_91
  have h_116 : g_97 30 = .inl (cs 1, 8, .inl (fun _ => 0)) := by rw [← eg_97, va_up_ne _ _ (by decide)]; exact h_92
  have h_117 : g_97 31 = .inl (cs 1, 6, .inl (fun _ => 0)) := by rw [← eg_97, va_up_ne _ _ (by decide)]; exact h_93
  have h_118 : g_97 32 = .inl (cs 1, 6, .inl (fun _ => 0)) := by rw [← eg_97, va_up_ne _ _ (by decide)]; exact h_94
  have h_119 : g_97 13 = .inr (0, [.int 0, .ref (ad 14), .ref (ad 15), .ref (ad 16), .ref (ad 22)]) := by rw [← eg_97, va_up_ne _ _ (by decide)]; exact h_95
  have h_120 : g_97 33 = .inr (0, [.int 0, .ref (ad 34), .ref (ad 35), .ref (ad 36), .ref (ad 42)]) := by rw [← eg_97, va_up_ne _ _ (by decide)]; exact h_96
  refine lv_aload_n hx hb dX6_copyFrom_40 rfl (lv_at hl 0 rfl) ?_
  refine lv_aload_n hx hb dX6_copyFrom_41 rfl (lv_at hl 1 rfl) ?_
  refine q_get X iX6_copyFrom_6 hP (by decide) h_100 rfl 5 (by decide) (List.mem_of_getElem? (i := 6) rfl) (v := .int 0) rfl dX6_copyFrom_42 ?_
  refine q_put X iX6_copyFrom_6 tyX6 tyX6_ok nmX6 hP hj hA hS (by decide) h_99 rfl 5 (by decide) (List.mem_of_getElem? (i := 6) rfl) rfl (ty := .int) (v := .int 0) (by decide +kernel) rfl rfl (Nat.le_of_ble_eq_true rfl) dX6_copyFrom_45 (fun H locs hP hS => ?_)
  generalize eg_121 : va_up g_97 3 _ = g_121 at hP
  have hfr_122 : ∀ j, (j < 3 ∨ 3 + 10 < j) → g_121 j = g j := fun j hj => by rw [← eg_121]; exact (va_up_ne _ _ (by omega)).trans (hfr_98 j hj)
  have h_123 : g_121 3 = .inr (6, [.int 0, .int 0, .int 0, .int 0, .int 0, .int 0, .int 0, .int 0, .ref (ad 4), .ref (ad 5), .ref (ad 6), .ref (ad 7), .ref (ad 8), .ref (ad 9), .ref (ad 10), .ref (ad 11), .ref (ad 12), .ref (ad 13)]) := by rw [← eg_121]; exact va_up_self _ _ _
  have h_124 : g_121 23 = .inr (6, [.int 0, .int 0, .int 0, .int 0, .int 0, .int 0, .int 0, .int 0, .ref (ad 24), .ref (ad 25), .ref (ad 26), .ref (ad 27), .ref (ad 28), .ref (ad 29), .ref (ad 30), .ref (ad 31), .ref (ad 32), .ref (ad 33)]) := by rw [← eg_121, va_up_ne _ _ (by decide)]; exact h_100
  have h_125 : g_121 4 = .inl (cs 1, 14, .inl (fun _ => 0)) := by rw [← eg_121, va_up_ne _ _ (by decide)]; exact h_101
  have h_126 : g_121 5 = .inl (cs 3, 14, .inl (fun _ => 0)) := by rw [← eg_121, va_up_ne _ _ (by decide)]; exact h_102
  have h_127 : g_121 6 = .inl (cs 1, 5, .inl (fun _ => 0)) := by rw [← eg_121, va_up_ne _ _ (by decide)]; exact h_103
  have h_128 : g_121 7 = .inl (cs 1, 8, .inl (fun _ => 0)) := by rw [← eg_121, va_up_ne _ _ (by decide)]; exact h_104
  have h_129 : g_121 8 = .inl (cs 1, 8, .inl (fun _ => 0)) := by rw [← eg_121, va_up_ne _ _ (by decide)]; exact h_105
  have h_130 : g_121 9 = .inl (cs 1, 8, .inl (fun _ => 0)) := by rw [← eg_121, va_up_ne _ _ (by decide)]; exact h_106
  have h_131 : g_121 10 = .inl (cs 1, 8, .inl (fun _ => 0)) := by rw [← eg_121, va_up_ne _ _ (by decide)]; exact h_107
  have h_132 : g_121 11 = .inl (cs 1, 6, .inl (fun _ => 0)) := by rw [← eg_121, va_up_ne _ _ (by decide)]; exact h_108
  have h_133 : g_121 12 = .inl (cs 1, 6, .inl (fun _ => 0)) := by rw [← eg_121, va_up_ne _ _ (by decide)]; exact h_109
  have h_134 : g_121 24 = .inl (cs 1, 14, .inl (fun _ => 0)) := by rw [← eg_121, va_up_ne _ _ (by decide)]; exact h_110
  have h_135 : g_121 25 = .inl (cs 3, 14, .inl (fun _ => 0)) := by rw [← eg_121, va_up_ne _ _ (by decide)]; exact h_111
  have h_136 : g_121 26 = .inl (cs 1, 5, .inl (fun _ => 0)) := by rw [← eg_121, va_up_ne _ _ (by decide)]; exact h_112
  have h_137 : g_121 27 = .inl (cs 1, 8, .inl (fun _ => 0)) := by rw [← eg_121, va_up_ne _ _ (by decide)]; exact h_113
  have h_138 : g_121 28 = .inl (cs 1, 8, .inl (fun _ => 0)) := by rw [← eg_121, va_up_ne _ _ (by decide)]; exact h_114
  have h_139 : g_121 29 = .inl (cs 1, 8, .inl (fun _ => 0)) := by rw [← eg_121, va_up_ne _ _ (by decide)]; exact h_115
  have h_140 : g_121 30 = .inl (cs 1, 8, .inl (fun _ => 0)) := by rw [← eg_121, va_up_ne _ _ (by decide)]; exact h_116
  have h_141 : g_121 31 = .inl (cs 1, 6, .inl (fun _ => 0)) := by rw [← eg_121, va_up_ne _ _ (by decide)]; exact h_117
  have h_142 : g_121 32 = .inl (cs 1, 6, .inl (fun _ => 0)) := by rw [← eg_121, va_up_ne _ _ (by decide)]; exact h_118
  have h_143 : g_121 13 = .inr (0, [.int 0, .ref (ad 14), .ref (ad 15), .ref (ad 16), .ref (ad 22)]) := by rw [← eg_121, va_up_ne _ _ (by decide)]; exact h_119
  have h_144 : g_121 33 = .inr (0, [.int 0, .ref (ad 34), .ref (ad 35), .ref (ad 36), .ref (ad 42)]) := by rw [← eg_121, va_up_ne _ _ (by decide)]; exact h_120
  refine lv_aload_n hx hb dX6_copyFrom_48 rfl (lv_at hl 0 rfl) ?_
  refine lv_aload_n hx hb dX6_copyFrom_49 rfl (lv_at hl 1 rfl) ?_
  refine q_get X iX6_copyFrom_6 hP (by decide) h_124 rfl 6 (by decide) (List.mem_of_getElem? (i := 7) rfl) (v := .int 0) rfl dX6_copyFrom_50 ?_
  refine q_put X iX6_copyFrom_6 tyX6 tyX6_ok nmX6 hP hj hA hS (by decide) h_123 rfl 6 (by decide) (List.mem_of_getElem? (i := 7) rfl) rfl (ty := .int) (v := .int 0) (by decide +kernel) rfl rfl (Nat.le_of_ble_eq_true rfl) dX6_copyFrom_53 (fun H locs hP hS => ?_)
  generalize eg_145 : va_up g_121 3 _ = g_145 at hP
  have hfr_146 : ∀ j, (j < 3 ∨ 3 + 10 < j) → g_145 j = g j := fun j hj => by rw [← eg_145]; exact (va_up_ne _ _ (by omega)).trans (hfr_122 j hj)
  have h_147 : g_145 3 = .inr (6, [.int 0, .int 0, .int 0, .int 0, .int 0, .int 0, .int 0, .int 0, .ref (ad 4), .ref (ad 5), .ref (ad 6), .ref (ad 7), .ref (ad 8), .ref (ad 9), .ref (ad 10), .ref (ad 11), .ref (ad 12), .ref (ad 13)]) := by rw [← eg_145]; exact va_up_self _ _ _
  have h_148 : g_145 23 = .inr (6, [.int 0, .int 0, .int 0, .int 0, .int 0, .int 0, .int 0, .int 0, .ref (ad 24), .ref (ad 25), .ref (ad 26), .ref (ad 27), .ref (ad 28), .ref (ad 29), .ref (ad 30), .ref (ad 31), .ref (ad 32), .ref (ad 33)]) := by rw [← eg_145, va_up_ne _ _ (by decide)]; exact h_124
  have h_149 : g_145 4 = .inl (cs 1, 14, .inl (fun _ => 0)) := by rw [← eg_145, va_up_ne _ _ (by decide)]; exact h_125
  have h_150 : g_145 5 = .inl (cs 3, 14, .inl (fun _ => 0)) := by rw [← eg_145, va_up_ne _ _ (by decide)]; exact h_126
  have h_151 : g_145 6 = .inl (cs 1, 5, .inl (fun _ => 0)) := by rw [← eg_145, va_up_ne _ _ (by decide)]; exact h_127
  have h_152 : g_145 7 = .inl (cs 1, 8, .inl (fun _ => 0)) := by rw [← eg_145, va_up_ne _ _ (by decide)]; exact h_128
  have h_153 : g_145 8 = .inl (cs 1, 8, .inl (fun _ => 0)) := by rw [← eg_145, va_up_ne _ _ (by decide)]; exact h_129
  have h_154 : g_145 9 = .inl (cs 1, 8, .inl (fun _ => 0)) := by rw [← eg_145, va_up_ne _ _ (by decide)]; exact h_130
  have h_155 : g_145 10 = .inl (cs 1, 8, .inl (fun _ => 0)) := by rw [← eg_145, va_up_ne _ _ (by decide)]; exact h_131
  have h_156 : g_145 11 = .inl (cs 1, 6, .inl (fun _ => 0)) := by rw [← eg_145, va_up_ne _ _ (by decide)]; exact h_132
  have h_157 : g_145 12 = .inl (cs 1, 6, .inl (fun _ => 0)) := by rw [← eg_145, va_up_ne _ _ (by decide)]; exact h_133
  have h_158 : g_145 24 = .inl (cs 1, 14, .inl (fun _ => 0)) := by rw [← eg_145, va_up_ne _ _ (by decide)]; exact h_134
  have h_159 : g_145 25 = .inl (cs 3, 14, .inl (fun _ => 0)) := by rw [← eg_145, va_up_ne _ _ (by decide)]; exact h_135
  have h_160 : g_145 26 = .inl (cs 1, 5, .inl (fun _ => 0)) := by rw [← eg_145, va_up_ne _ _ (by decide)]; exact h_136
  have h_161 : g_145 27 = .inl (cs 1, 8, .inl (fun _ => 0)) := by rw [← eg_145, va_up_ne _ _ (by decide)]; exact h_137
  have h_162 : g_145 28 = .inl (cs 1, 8, .inl (fun _ => 0)) := by rw [← eg_145, va_up_ne _ _ (by decide)]; exact h_138
  have h_163 : g_145 29 = .inl (cs 1, 8, .inl (fun _ => 0)) := by rw [← eg_145, va_up_ne _ _ (by decide)]; exact h_139
  have h_164 : g_145 30 = .inl (cs 1, 8, .inl (fun _ => 0)) := by rw [← eg_145, va_up_ne _ _ (by decide)]; exact h_140
  have h_165 : g_145 31 = .inl (cs 1, 6, .inl (fun _ => 0)) := by rw [← eg_145, va_up_ne _ _ (by decide)]; exact h_141
  have h_166 : g_145 32 = .inl (cs 1, 6, .inl (fun _ => 0)) := by rw [← eg_145, va_up_ne _ _ (by decide)]; exact h_142
  have h_167 : g_145 13 = .inr (0, [.int 0, .ref (ad 14), .ref (ad 15), .ref (ad 16), .ref (ad 22)]) := by rw [← eg_145, va_up_ne _ _ (by decide)]; exact h_143
  have h_168 : g_145 33 = .inr (0, [.int 0, .ref (ad 34), .ref (ad 35), .ref (ad 36), .ref (ad 42)]) := by rw [← eg_145, va_up_ne _ _ (by decide)]; exact h_144
  refine lv_aload_n hx hb dX6_copyFrom_56 rfl (lv_at hl 0 rfl) ?_
  refine lv_aload_n hx hb dX6_copyFrom_57 rfl (lv_at hl 1 rfl) ?_
  refine q_get X iX6_copyFrom_6 hP (by decide) h_148 rfl 7 (by decide) (List.mem_of_getElem? (i := 8) rfl) (v := .int 0) rfl dX6_copyFrom_58 ?_
  refine q_put X iX6_copyFrom_6 tyX6 tyX6_ok nmX6 hP hj hA hS (by decide) h_147 rfl 7 (by decide) (List.mem_of_getElem? (i := 8) rfl) rfl (ty := .int) (v := .int 0) (by decide +kernel) rfl rfl (Nat.le_of_ble_eq_true rfl) dX6_copyFrom_61 (fun H locs hP hS => ?_)
  generalize eg_169 : va_up g_145 3 _ = g_169 at hP
  have hfr_170 : ∀ j, (j < 3 ∨ 3 + 10 < j) → g_169 j = g j := fun j hj => by rw [← eg_169]; exact (va_up_ne _ _ (by omega)).trans (hfr_146 j hj)
  have h_171 : g_169 3 = .inr (6, [.int 0, .int 0, .int 0, .int 0, .int 0, .int 0, .int 0, .int 0, .ref (ad 4), .ref (ad 5), .ref (ad 6), .ref (ad 7), .ref (ad 8), .ref (ad 9), .ref (ad 10), .ref (ad 11), .ref (ad 12), .ref (ad 13)]) := by rw [← eg_169]; exact va_up_self _ _ _
  have h_172 : g_169 23 = .inr (6, [.int 0, .int 0, .int 0, .int 0, .int 0, .int 0, .int 0, .int 0, .ref (ad 24), .ref (ad 25), .ref (ad 26), .ref (ad 27), .ref (ad 28), .ref (ad 29), .ref (ad 30), .ref (ad 31), .ref (ad 32), .ref (ad 33)]) := by rw [← eg_169, va_up_ne _ _ (by decide)]; exact h_148
  have h_173 : g_169 4 = .inl (cs 1, 14, .inl (fun _ => 0)) := by rw [← eg_169, va_up_ne _ _ (by decide)]; exact h_149
  have h_174 : g_169 5 = .inl (cs 3, 14, .inl (fun _ => 0)) := by rw [← eg_169, va_up_ne _ _ (by decide)]; exact h_150
  have h_175 : g_169 6 = .inl (cs 1, 5, .inl (fun _ => 0)) := by rw [← eg_169, va_up_ne _ _ (by decide)]; exact h_151
  have h_176 : g_169 7 = .inl (cs 1, 8, .inl (fun _ => 0)) := by rw [← eg_169, va_up_ne _ _ (by decide)]; exact h_152
  have h_177 : g_169 8 = .inl (cs 1, 8, .inl (fun _ => 0)) := by rw [← eg_169, va_up_ne _ _ (by decide)]; exact h_153
  have h_178 : g_169 9 = .inl (cs 1, 8, .inl (fun _ => 0)) := by rw [← eg_169, va_up_ne _ _ (by decide)]; exact h_154
  have h_179 : g_169 10 = .inl (cs 1, 8, .inl (fun _ => 0)) := by rw [← eg_169, va_up_ne _ _ (by decide)]; exact h_155
  have h_180 : g_169 11 = .inl (cs 1, 6, .inl (fun _ => 0)) := by rw [← eg_169, va_up_ne _ _ (by decide)]; exact h_156
  have h_181 : g_169 12 = .inl (cs 1, 6, .inl (fun _ => 0)) := by rw [← eg_169, va_up_ne _ _ (by decide)]; exact h_157
  have h_182 : g_169 24 = .inl (cs 1, 14, .inl (fun _ => 0)) := by rw [← eg_169, va_up_ne _ _ (by decide)]; exact h_158
  have h_183 : g_169 25 = .inl (cs 3, 14, .inl (fun _ => 0)) := by rw [← eg_169, va_up_ne _ _ (by decide)]; exact h_159
  have h_184 : g_169 26 = .inl (cs 1, 5, .inl (fun _ => 0)) := by rw [← eg_169, va_up_ne _ _ (by decide)]; exact h_160
  have h_185 : g_169 27 = .inl (cs 1, 8, .inl (fun _ => 0)) := by rw [← eg_169, va_up_ne _ _ (by decide)]; exact h_161
  have h_186 : g_169 28 = .inl (cs 1, 8, .inl (fun _ => 0)) := by rw [← eg_169, va_up_ne _ _ (by decide)]; exact h_162
  have h_187 : g_169 29 = .inl (cs 1, 8, .inl (fun _ => 0)) := by rw [← eg_169, va_up_ne _ _ (by decide)]; exact h_163
  have h_188 : g_169 30 = .inl (cs 1, 8, .inl (fun _ => 0)) := by rw [← eg_169, va_up_ne _ _ (by decide)]; exact h_164
  have h_189 : g_169 31 = .inl (cs 1, 6, .inl (fun _ => 0)) := by rw [← eg_169, va_up_ne _ _ (by decide)]; exact h_165
  have h_190 : g_169 32 = .inl (cs 1, 6, .inl (fun _ => 0)) := by rw [← eg_169, va_up_ne _ _ (by decide)]; exact h_166
  have h_191 : g_169 13 = .inr (0, [.int 0, .ref (ad 14), .ref (ad 15), .ref (ad 16), .ref (ad 22)]) := by rw [← eg_169, va_up_ne _ _ (by decide)]; exact h_167
  have h_192 : g_169 33 = .inr (0, [.int 0, .ref (ad 34), .ref (ad 35), .ref (ad 36), .ref (ad 42)]) := by rw [← eg_169, va_up_ne _ _ (by decide)]; exact h_168
  refine lv_aload_n hx hb dX6_copyFrom_64 rfl (lv_at hl 1 rfl) ?_
  refine q_get X iX6_copyFrom_6 hP (by decide) h_172 rfl 8 (by decide) (List.mem_of_getElem? (i := 9) rfl) (v := .ref (ad 24)) rfl dX6_copyFrom_65 ?_
  refine lv_iconst (v := 0) hx hb dX6_copyFrom_68 (by decide) ?_
  refine lv_aload_n hx hb dX6_copyFrom_69 rfl (lv_at hl 0 rfl) ?_
  refine q_get X iX6_copyFrom_6 hP (by decide) h_171 rfl 8 (by decide) (List.mem_of_getElem? (i := 9) rfl) (v := .ref (ad 4)) rfl dX6_copyFrom_70 ?_
  refine lv_iconst (v := 0) hx hb dX6_copyFrom_73 (by decide) ?_
  refine lv_bipush (v := 14) hx hb dX6_copyFrom_74 (by decide) ?_
  refine q_copyi X hl.1 (List.mem_of_getElem? (i := 10) rfl) (List.mem_of_getElem? (i := 11) rfl) (List.mem_of_getElem? (i := 12) rfl) (List.mem_of_getElem? (i := 13) rfl) hP hj hA hS 1 rfl rfl (by decide) (by decide) h_182 h_173 (by decide) (by decide) (by decide) (by decide) (by decide) (fun _ _ => rfl) (Nat.le_of_ble_eq_true rfl) (Nat.le_of_ble_eq_true rfl) dX6_copyFrom_76 (fun H locs hP hS => ?_)
  generalize eg_193 : va_up g_169 4 _ = g_193 at hP
  have hfr_195 : ∀ j, (j < 3 ∨ 3 + 10 < j) → g_193 j = g j := fun j hj => by rw [← eg_193]; exact (va_up_ne _ _ (by omega)).trans (hfr_170 j hj)
  have h_196 : g_193 3 = .inr (6, [.int 0, .int 0, .int 0, .int 0, .int 0, .int 0, .int 0, .int 0, .ref (ad 4), .ref (ad 5), .ref (ad 6), .ref (ad 7), .ref (ad 8), .ref (ad 9), .ref (ad 10), .ref (ad 11), .ref (ad 12), .ref (ad 13)]) := by rw [← eg_193, va_up_ne _ _ (by decide)]; exact h_171
  have h_197 : g_193 23 = .inr (6, [.int 0, .int 0, .int 0, .int 0, .int 0, .int 0, .int 0, .int 0, .ref (ad 24), .ref (ad 25), .ref (ad 26), .ref (ad 27), .ref (ad 28), .ref (ad 29), .ref (ad 30), .ref (ad 31), .ref (ad 32), .ref (ad 33)]) := by rw [← eg_193, va_up_ne _ _ (by decide)]; exact h_172
  obtain ⟨f_194, h_198⟩ : ∃ f, g_193 4 = .inl (cs 1, 14, .inl f) := ⟨_, by rw [← eg_193]; exact va_up_self _ _ _⟩
  have h_199 : g_193 5 = .inl (cs 3, 14, .inl (fun _ => 0)) := by rw [← eg_193, va_up_ne _ _ (by decide)]; exact h_174
  have h_200 : g_193 6 = .inl (cs 1, 5, .inl (fun _ => 0)) := by rw [← eg_193, va_up_ne _ _ (by decide)]; exact h_175
  have h_201 : g_193 7 = .inl (cs 1, 8, .inl (fun _ => 0)) := by rw [← eg_193, va_up_ne _ _ (by decide)]; exact h_176
  have h_202 : g_193 8 = .inl (cs 1, 8, .inl (fun _ => 0)) := by rw [← eg_193, va_up_ne _ _ (by decide)]; exact h_177
  have h_203 : g_193 9 = .inl (cs 1, 8, .inl (fun _ => 0)) := by rw [← eg_193, va_up_ne _ _ (by decide)]; exact h_178
  have h_204 : g_193 10 = .inl (cs 1, 8, .inl (fun _ => 0)) := by rw [← eg_193, va_up_ne _ _ (by decide)]; exact h_179
  have h_205 : g_193 11 = .inl (cs 1, 6, .inl (fun _ => 0)) := by rw [← eg_193, va_up_ne _ _ (by decide)]; exact h_180
  have h_206 : g_193 12 = .inl (cs 1, 6, .inl (fun _ => 0)) := by rw [← eg_193, va_up_ne _ _ (by decide)]; exact h_181
  have h_207 : g_193 24 = .inl (cs 1, 14, .inl (fun _ => 0)) := by rw [← eg_193, va_up_ne _ _ (by decide)]; exact h_182
  have h_208 : g_193 25 = .inl (cs 3, 14, .inl (fun _ => 0)) := by rw [← eg_193, va_up_ne _ _ (by decide)]; exact h_183
  have h_209 : g_193 26 = .inl (cs 1, 5, .inl (fun _ => 0)) := by rw [← eg_193, va_up_ne _ _ (by decide)]; exact h_184
  have h_210 : g_193 27 = .inl (cs 1, 8, .inl (fun _ => 0)) := by rw [← eg_193, va_up_ne _ _ (by decide)]; exact h_185
  have h_211 : g_193 28 = .inl (cs 1, 8, .inl (fun _ => 0)) := by rw [← eg_193, va_up_ne _ _ (by decide)]; exact h_186
  have h_212 : g_193 29 = .inl (cs 1, 8, .inl (fun _ => 0)) := by rw [← eg_193, va_up_ne _ _ (by decide)]; exact h_187
  have h_213 : g_193 30 = .inl (cs 1, 8, .inl (fun _ => 0)) := by rw [← eg_193, va_up_ne _ _ (by decide)]; exact h_188
  have h_214 : g_193 31 = .inl (cs 1, 6, .inl (fun _ => 0)) := by rw [← eg_193, va_up_ne _ _ (by decide)]; exact h_189
  have h_215 : g_193 32 = .inl (cs 1, 6, .inl (fun _ => 0)) := by rw [← eg_193, va_up_ne _ _ (by decide)]; exact h_190
  have h_216 : g_193 13 = .inr (0, [.int 0, .ref (ad 14), .ref (ad 15), .ref (ad 16), .ref (ad 22)]) := by rw [← eg_193, va_up_ne _ _ (by decide)]; exact h_191
  have h_217 : g_193 33 = .inr (0, [.int 0, .ref (ad 34), .ref (ad 35), .ref (ad 36), .ref (ad 42)]) := by rw [← eg_193, va_up_ne _ _ (by decide)]; exact h_192
  refine lv_iconst (v := 0) hx hb dX6_copyFrom_79 (by decide) ?_
  refine lv_istore_n (lv' := [(2, .int 0), (0, .ref (ad 3)), (1, .ref (ad 23))]) hx hb dX6_copyFrom_80 rfl hl (by decide) rfl (fun ls hl => ?_)
  have HL81 : ∀ (d81 k81 : Nat) (f81_5 : Nat → Int32) (G81 : Nat → va_E) (H : Heap) (locs : List Loc) (ls : Array Slot), k81 + d81 = 14 → (∀ j, (j < 3 ∨ 3 + 10 < j) → G81 j = g j) → G81 3 = .inr (6, [.int 0, .int 0, .int 0, .int 0, .int 0, .int 0, .int 0, .int 0, .ref (ad 4), .ref (ad 5), .ref (ad 6), .ref (ad 7), .ref (ad 8), .ref (ad 9), .ref (ad 10), .ref (ad 11), .ref (ad 12), .ref (ad 13)]) → G81 23 = .inr (6, [.int 0, .int 0, .int 0, .int 0, .int 0, .int 0, .int 0, .int 0, .ref (ad 24), .ref (ad 25), .ref (ad 26), .ref (ad 27), .ref (ad 28), .ref (ad 29), .ref (ad 30), .ref (ad 31), .ref (ad 32), .ref (ad 33)]) → G81 4 = .inl (cs 1, 14, .inl f_194) → G81 5 = .inl (cs 3, 14, .inl f81_5) → G81 6 = .inl (cs 1, 5, .inl (fun _ => 0)) → G81 7 = .inl (cs 1, 8, .inl (fun _ => 0)) → G81 8 = .inl (cs 1, 8, .inl (fun _ => 0)) → G81 9 = .inl (cs 1, 8, .inl (fun _ => 0)) → G81 10 = .inl (cs 1, 8, .inl (fun _ => 0)) → G81 11 = .inl (cs 1, 6, .inl (fun _ => 0)) → G81 12 = .inl (cs 1, 6, .inl (fun _ => 0)) → G81 24 = .inl (cs 1, 14, .inl (fun _ => 0)) → G81 25 = .inl (cs 3, 14, .inl (fun _ => 0)) → G81 26 = .inl (cs 1, 5, .inl (fun _ => 0)) → G81 27 = .inl (cs 1, 8, .inl (fun _ => 0)) → G81 28 = .inl (cs 1, 8, .inl (fun _ => 0)) → G81 29 = .inl (cs 1, 8, .inl (fun _ => 0)) → G81 30 = .inl (cs 1, 8, .inl (fun _ => 0)) → G81 31 = .inl (cs 1, 6, .inl (fun _ => 0)) → G81 32 = .inl (cs 1, 6, .inl (fun _ => 0)) → G81 13 = .inr (0, [.int 0, .ref (ad 14), .ref (ad 15), .ref (ad 16), .ref (ad 22)]) → G81 33 = .inr (0, [.int 0, .ref (ad 34), .ref (ad 35), .ref (ad 36), .ref (ad 42)]) → va_P D vwCl (wL ad G81 nW) H → va_S (wA ad nW) s.heap H locs → lv_has ls 3 [(2, .int (nI k81)), (0, .ref (ad 3)), (1, .ref (ad 23))] → W p l e ({ frames := 2, cells := 0, slots := 0, locals := 43 } : Room) s m ([.ref (ad 3), .ref (ad 23)] : List Value).toArray below meth c H locs 0 0 (MQ below (qV D ad nW (fun g2 => g2 3 = .inr (6, [.int 0, .int 0, .int 0, .int 0, .int 0, .int 0, .int 0, .int 0, .ref (ad 4), .ref (ad 5), .ref (ad 6), .ref (ad 7), .ref (ad 8), .ref (ad 9), .ref (ad 10), .ref (ad 11), .ref (ad 12), .ref (ad 13)]) ∧ ∀ j, (j < 3 ∨ 3 + 10 < j) → g2 j = g j)) ([.ref (ad 3), .ref (ad 23)] : List Value).toArray s 0 0 (wA ad nW)) (F0 m 81 ls []) := by
    intro d81
    induction d81 with
    | zero =>
      intro k81 f81_5 G81 H locs ls hk81 hfr81 h81_3 h81_23 h81_4 h81_5 h81_6 h81_7 h81_8 h81_9 h81_10 h81_11 h81_12 h81_24 h81_25 h81_26 h81_27 h81_28 h81_29 h81_30 h81_31 h81_32 h81_13 h81_33 hP hS hl
      obtain rfl : k81 = 14 := by omega
      refine lv_iload_n hx hb dX6_copyFrom_81 rfl (lv_at hl 0 rfl) ?_
      refine lv_bipush (v := 14) hx hb dX6_copyFrom_82 (by decide) ?_
      refine lv_icmp_ge (tgt := 105) hx hb dX6_copyFrom_84 (by decide) (fun _ => ?_) (fun h => absurd h (by decide))
      refine lv_aload_n hx hb dX6_copyFrom_105 rfl (lv_at hl 2 rfl) ?_
      refine q_get X iX6_copyFrom_6 hP (by decide) h81_23 rfl 10 (by decide) (List.mem_of_getElem? (i := 14) rfl) (v := .ref (ad 26)) rfl dX6_copyFrom_106 ?_
      refine lv_iconst (v := 0) hx hb dX6_copyFrom_109 (by decide) ?_
      refine lv_aload_n hx hb dX6_copyFrom_110 rfl (lv_at hl 1 rfl) ?_
      refine q_get X iX6_copyFrom_6 hP (by decide) h81_3 rfl 10 (by decide) (List.mem_of_getElem? (i := 14) rfl) (v := .ref (ad 6)) rfl dX6_copyFrom_111 ?_
      refine lv_iconst (v := 0) hx hb dX6_copyFrom_114 (by decide) ?_
      refine lv_iconst (v := 5) hx hb dX6_copyFrom_115 (by decide) ?_
      refine q_copyi X hl.1 (List.mem_of_getElem? (i := 10) rfl) (List.mem_of_getElem? (i := 11) rfl) (List.mem_of_getElem? (i := 12) rfl) (List.mem_of_getElem? (i := 13) rfl) hP hj hA hS 1 rfl rfl (by decide) (by decide) h81_26 h81_6 (by decide) (by decide) (by decide) (by decide) (by decide) (fun _ _ => rfl) (Nat.le_of_ble_eq_true rfl) (Nat.le_of_ble_eq_true rfl) dX6_copyFrom_116 (fun H locs hP hS => ?_)
      generalize eg_218 : va_up G81 6 _ = g_218 at hP
      have hfr_220 : ∀ j, (j < 3 ∨ 3 + 10 < j) → g_218 j = g j := fun j hj => by rw [← eg_218]; exact (va_up_ne _ _ (by omega)).trans (hfr81 j hj)
      have h_221 : g_218 3 = .inr (6, [.int 0, .int 0, .int 0, .int 0, .int 0, .int 0, .int 0, .int 0, .ref (ad 4), .ref (ad 5), .ref (ad 6), .ref (ad 7), .ref (ad 8), .ref (ad 9), .ref (ad 10), .ref (ad 11), .ref (ad 12), .ref (ad 13)]) := by rw [← eg_218, va_up_ne _ _ (by decide)]; exact h81_3
      have h_222 : g_218 23 = .inr (6, [.int 0, .int 0, .int 0, .int 0, .int 0, .int 0, .int 0, .int 0, .ref (ad 24), .ref (ad 25), .ref (ad 26), .ref (ad 27), .ref (ad 28), .ref (ad 29), .ref (ad 30), .ref (ad 31), .ref (ad 32), .ref (ad 33)]) := by rw [← eg_218, va_up_ne _ _ (by decide)]; exact h81_23
      have h_223 : g_218 4 = .inl (cs 1, 14, .inl f_194) := by rw [← eg_218, va_up_ne _ _ (by decide)]; exact h81_4
      have h_224 : g_218 5 = .inl (cs 3, 14, .inl f81_5) := by rw [← eg_218, va_up_ne _ _ (by decide)]; exact h81_5
      obtain ⟨f_219, h_225⟩ : ∃ f, g_218 6 = .inl (cs 1, 5, .inl f) := ⟨_, by rw [← eg_218]; exact va_up_self _ _ _⟩
      have h_226 : g_218 7 = .inl (cs 1, 8, .inl (fun _ => 0)) := by rw [← eg_218, va_up_ne _ _ (by decide)]; exact h81_7
      have h_227 : g_218 8 = .inl (cs 1, 8, .inl (fun _ => 0)) := by rw [← eg_218, va_up_ne _ _ (by decide)]; exact h81_8
      have h_228 : g_218 9 = .inl (cs 1, 8, .inl (fun _ => 0)) := by rw [← eg_218, va_up_ne _ _ (by decide)]; exact h81_9
      have h_229 : g_218 10 = .inl (cs 1, 8, .inl (fun _ => 0)) := by rw [← eg_218, va_up_ne _ _ (by decide)]; exact h81_10
      have h_230 : g_218 11 = .inl (cs 1, 6, .inl (fun _ => 0)) := by rw [← eg_218, va_up_ne _ _ (by decide)]; exact h81_11
      have h_231 : g_218 12 = .inl (cs 1, 6, .inl (fun _ => 0)) := by rw [← eg_218, va_up_ne _ _ (by decide)]; exact h81_12
      have h_232 : g_218 24 = .inl (cs 1, 14, .inl (fun _ => 0)) := by rw [← eg_218, va_up_ne _ _ (by decide)]; exact h81_24
      have h_233 : g_218 25 = .inl (cs 3, 14, .inl (fun _ => 0)) := by rw [← eg_218, va_up_ne _ _ (by decide)]; exact h81_25
      have h_234 : g_218 26 = .inl (cs 1, 5, .inl (fun _ => 0)) := by rw [← eg_218, va_up_ne _ _ (by decide)]; exact h81_26
      have h_235 : g_218 27 = .inl (cs 1, 8, .inl (fun _ => 0)) := by rw [← eg_218, va_up_ne _ _ (by decide)]; exact h81_27
      have h_236 : g_218 28 = .inl (cs 1, 8, .inl (fun _ => 0)) := by rw [← eg_218, va_up_ne _ _ (by decide)]; exact h81_28
      have h_237 : g_218 29 = .inl (cs 1, 8, .inl (fun _ => 0)) := by rw [← eg_218, va_up_ne _ _ (by decide)]; exact h81_29
      have h_238 : g_218 30 = .inl (cs 1, 8, .inl (fun _ => 0)) := by rw [← eg_218, va_up_ne _ _ (by decide)]; exact h81_30
      have h_239 : g_218 31 = .inl (cs 1, 6, .inl (fun _ => 0)) := by rw [← eg_218, va_up_ne _ _ (by decide)]; exact h81_31
      have h_240 : g_218 32 = .inl (cs 1, 6, .inl (fun _ => 0)) := by rw [← eg_218, va_up_ne _ _ (by decide)]; exact h81_32
      have h_241 : g_218 13 = .inr (0, [.int 0, .ref (ad 14), .ref (ad 15), .ref (ad 16), .ref (ad 22)]) := by rw [← eg_218, va_up_ne _ _ (by decide)]; exact h81_13
      have h_242 : g_218 33 = .inr (0, [.int 0, .ref (ad 34), .ref (ad 35), .ref (ad 36), .ref (ad 42)]) := by rw [← eg_218, va_up_ne _ _ (by decide)]; exact h81_33
      refine lv_aload_n hx hb dX6_copyFrom_119 rfl (lv_at hl 2 rfl) ?_
      refine q_get X iX6_copyFrom_6 hP (by decide) h_222 rfl 11 (by decide) (List.mem_of_getElem? (i := 15) rfl) (v := .ref (ad 27)) rfl dX6_copyFrom_120 ?_
      refine lv_iconst (v := 0) hx hb dX6_copyFrom_123 (by decide) ?_
      refine lv_aload_n hx hb dX6_copyFrom_124 rfl (lv_at hl 1 rfl) ?_
      refine q_get X iX6_copyFrom_6 hP (by decide) h_221 rfl 11 (by decide) (List.mem_of_getElem? (i := 15) rfl) (v := .ref (ad 7)) rfl dX6_copyFrom_125 ?_
      refine lv_iconst (v := 0) hx hb dX6_copyFrom_128 (by decide) ?_
      refine lv_bipush (v := 8) hx hb dX6_copyFrom_129 (by decide) ?_
      refine q_copyi X hl.1 (List.mem_of_getElem? (i := 10) rfl) (List.mem_of_getElem? (i := 11) rfl) (List.mem_of_getElem? (i := 12) rfl) (List.mem_of_getElem? (i := 13) rfl) hP hj hA hS 1 rfl rfl (by decide) (by decide) h_235 h_226 (by decide) (by decide) (by decide) (by decide) (by decide) (fun _ _ => rfl) (Nat.le_of_ble_eq_true rfl) (Nat.le_of_ble_eq_true rfl) dX6_copyFrom_131 (fun H locs hP hS => ?_)
      generalize eg_243 : va_up g_218 7 _ = g_243 at hP
      have hfr_245 : ∀ j, (j < 3 ∨ 3 + 10 < j) → g_243 j = g j := fun j hj => by rw [← eg_243]; exact (va_up_ne _ _ (by omega)).trans (hfr_220 j hj)
      have h_246 : g_243 3 = .inr (6, [.int 0, .int 0, .int 0, .int 0, .int 0, .int 0, .int 0, .int 0, .ref (ad 4), .ref (ad 5), .ref (ad 6), .ref (ad 7), .ref (ad 8), .ref (ad 9), .ref (ad 10), .ref (ad 11), .ref (ad 12), .ref (ad 13)]) := by rw [← eg_243, va_up_ne _ _ (by decide)]; exact h_221
      have h_247 : g_243 23 = .inr (6, [.int 0, .int 0, .int 0, .int 0, .int 0, .int 0, .int 0, .int 0, .ref (ad 24), .ref (ad 25), .ref (ad 26), .ref (ad 27), .ref (ad 28), .ref (ad 29), .ref (ad 30), .ref (ad 31), .ref (ad 32), .ref (ad 33)]) := by rw [← eg_243, va_up_ne _ _ (by decide)]; exact h_222
      have h_248 : g_243 4 = .inl (cs 1, 14, .inl f_194) := by rw [← eg_243, va_up_ne _ _ (by decide)]; exact h_223
      have h_249 : g_243 5 = .inl (cs 3, 14, .inl f81_5) := by rw [← eg_243, va_up_ne _ _ (by decide)]; exact h_224
      have h_250 : g_243 6 = .inl (cs 1, 5, .inl f_219) := by rw [← eg_243, va_up_ne _ _ (by decide)]; exact h_225
      obtain ⟨f_244, h_251⟩ : ∃ f, g_243 7 = .inl (cs 1, 8, .inl f) := ⟨_, by rw [← eg_243]; exact va_up_self _ _ _⟩
      have h_252 : g_243 8 = .inl (cs 1, 8, .inl (fun _ => 0)) := by rw [← eg_243, va_up_ne _ _ (by decide)]; exact h_227
      have h_253 : g_243 9 = .inl (cs 1, 8, .inl (fun _ => 0)) := by rw [← eg_243, va_up_ne _ _ (by decide)]; exact h_228
      have h_254 : g_243 10 = .inl (cs 1, 8, .inl (fun _ => 0)) := by rw [← eg_243, va_up_ne _ _ (by decide)]; exact h_229
      have h_255 : g_243 11 = .inl (cs 1, 6, .inl (fun _ => 0)) := by rw [← eg_243, va_up_ne _ _ (by decide)]; exact h_230
      have h_256 : g_243 12 = .inl (cs 1, 6, .inl (fun _ => 0)) := by rw [← eg_243, va_up_ne _ _ (by decide)]; exact h_231
      have h_257 : g_243 24 = .inl (cs 1, 14, .inl (fun _ => 0)) := by rw [← eg_243, va_up_ne _ _ (by decide)]; exact h_232
      have h_258 : g_243 25 = .inl (cs 3, 14, .inl (fun _ => 0)) := by rw [← eg_243, va_up_ne _ _ (by decide)]; exact h_233
      have h_259 : g_243 26 = .inl (cs 1, 5, .inl (fun _ => 0)) := by rw [← eg_243, va_up_ne _ _ (by decide)]; exact h_234
      have h_260 : g_243 27 = .inl (cs 1, 8, .inl (fun _ => 0)) := by rw [← eg_243, va_up_ne _ _ (by decide)]; exact h_235
      have h_261 : g_243 28 = .inl (cs 1, 8, .inl (fun _ => 0)) := by rw [← eg_243, va_up_ne _ _ (by decide)]; exact h_236
      have h_262 : g_243 29 = .inl (cs 1, 8, .inl (fun _ => 0)) := by rw [← eg_243, va_up_ne _ _ (by decide)]; exact h_237
      have h_263 : g_243 30 = .inl (cs 1, 8, .inl (fun _ => 0)) := by rw [← eg_243, va_up_ne _ _ (by decide)]; exact h_238
      have h_264 : g_243 31 = .inl (cs 1, 6, .inl (fun _ => 0)) := by rw [← eg_243, va_up_ne _ _ (by decide)]; exact h_239
      have h_265 : g_243 32 = .inl (cs 1, 6, .inl (fun _ => 0)) := by rw [← eg_243, va_up_ne _ _ (by decide)]; exact h_240
      have h_266 : g_243 13 = .inr (0, [.int 0, .ref (ad 14), .ref (ad 15), .ref (ad 16), .ref (ad 22)]) := by rw [← eg_243, va_up_ne _ _ (by decide)]; exact h_241
      have h_267 : g_243 33 = .inr (0, [.int 0, .ref (ad 34), .ref (ad 35), .ref (ad 36), .ref (ad 42)]) := by rw [← eg_243, va_up_ne _ _ (by decide)]; exact h_242
      refine lv_aload_n hx hb dX6_copyFrom_134 rfl (lv_at hl 2 rfl) ?_
      refine q_get X iX6_copyFrom_6 hP (by decide) h_247 rfl 12 (by decide) (List.mem_of_getElem? (i := 16) rfl) (v := .ref (ad 28)) rfl dX6_copyFrom_135 ?_
      refine lv_iconst (v := 0) hx hb dX6_copyFrom_138 (by decide) ?_
      refine lv_aload_n hx hb dX6_copyFrom_139 rfl (lv_at hl 1 rfl) ?_
      refine q_get X iX6_copyFrom_6 hP (by decide) h_246 rfl 12 (by decide) (List.mem_of_getElem? (i := 16) rfl) (v := .ref (ad 8)) rfl dX6_copyFrom_140 ?_
      refine lv_iconst (v := 0) hx hb dX6_copyFrom_143 (by decide) ?_
      refine lv_bipush (v := 8) hx hb dX6_copyFrom_144 (by decide) ?_
      refine q_copyi X hl.1 (List.mem_of_getElem? (i := 10) rfl) (List.mem_of_getElem? (i := 11) rfl) (List.mem_of_getElem? (i := 12) rfl) (List.mem_of_getElem? (i := 13) rfl) hP hj hA hS 1 rfl rfl (by decide) (by decide) h_261 h_252 (by decide) (by decide) (by decide) (by decide) (by decide) (fun _ _ => rfl) (Nat.le_of_ble_eq_true rfl) (Nat.le_of_ble_eq_true rfl) dX6_copyFrom_146 (fun H locs hP hS => ?_)
      generalize eg_268 : va_up g_243 8 _ = g_268 at hP
      have hfr_270 : ∀ j, (j < 3 ∨ 3 + 10 < j) → g_268 j = g j := fun j hj => by rw [← eg_268]; exact (va_up_ne _ _ (by omega)).trans (hfr_245 j hj)
      have h_271 : g_268 3 = .inr (6, [.int 0, .int 0, .int 0, .int 0, .int 0, .int 0, .int 0, .int 0, .ref (ad 4), .ref (ad 5), .ref (ad 6), .ref (ad 7), .ref (ad 8), .ref (ad 9), .ref (ad 10), .ref (ad 11), .ref (ad 12), .ref (ad 13)]) := by rw [← eg_268, va_up_ne _ _ (by decide)]; exact h_246
      have h_272 : g_268 23 = .inr (6, [.int 0, .int 0, .int 0, .int 0, .int 0, .int 0, .int 0, .int 0, .ref (ad 24), .ref (ad 25), .ref (ad 26), .ref (ad 27), .ref (ad 28), .ref (ad 29), .ref (ad 30), .ref (ad 31), .ref (ad 32), .ref (ad 33)]) := by rw [← eg_268, va_up_ne _ _ (by decide)]; exact h_247
      have h_273 : g_268 4 = .inl (cs 1, 14, .inl f_194) := by rw [← eg_268, va_up_ne _ _ (by decide)]; exact h_248
      have h_274 : g_268 5 = .inl (cs 3, 14, .inl f81_5) := by rw [← eg_268, va_up_ne _ _ (by decide)]; exact h_249
      have h_275 : g_268 6 = .inl (cs 1, 5, .inl f_219) := by rw [← eg_268, va_up_ne _ _ (by decide)]; exact h_250
      have h_276 : g_268 7 = .inl (cs 1, 8, .inl f_244) := by rw [← eg_268, va_up_ne _ _ (by decide)]; exact h_251
      obtain ⟨f_269, h_277⟩ : ∃ f, g_268 8 = .inl (cs 1, 8, .inl f) := ⟨_, by rw [← eg_268]; exact va_up_self _ _ _⟩
      have h_278 : g_268 9 = .inl (cs 1, 8, .inl (fun _ => 0)) := by rw [← eg_268, va_up_ne _ _ (by decide)]; exact h_253
      have h_279 : g_268 10 = .inl (cs 1, 8, .inl (fun _ => 0)) := by rw [← eg_268, va_up_ne _ _ (by decide)]; exact h_254
      have h_280 : g_268 11 = .inl (cs 1, 6, .inl (fun _ => 0)) := by rw [← eg_268, va_up_ne _ _ (by decide)]; exact h_255
      have h_281 : g_268 12 = .inl (cs 1, 6, .inl (fun _ => 0)) := by rw [← eg_268, va_up_ne _ _ (by decide)]; exact h_256
      have h_282 : g_268 24 = .inl (cs 1, 14, .inl (fun _ => 0)) := by rw [← eg_268, va_up_ne _ _ (by decide)]; exact h_257
      have h_283 : g_268 25 = .inl (cs 3, 14, .inl (fun _ => 0)) := by rw [← eg_268, va_up_ne _ _ (by decide)]; exact h_258
      have h_284 : g_268 26 = .inl (cs 1, 5, .inl (fun _ => 0)) := by rw [← eg_268, va_up_ne _ _ (by decide)]; exact h_259
      have h_285 : g_268 27 = .inl (cs 1, 8, .inl (fun _ => 0)) := by rw [← eg_268, va_up_ne _ _ (by decide)]; exact h_260
      have h_286 : g_268 28 = .inl (cs 1, 8, .inl (fun _ => 0)) := by rw [← eg_268, va_up_ne _ _ (by decide)]; exact h_261
      have h_287 : g_268 29 = .inl (cs 1, 8, .inl (fun _ => 0)) := by rw [← eg_268, va_up_ne _ _ (by decide)]; exact h_262
      have h_288 : g_268 30 = .inl (cs 1, 8, .inl (fun _ => 0)) := by rw [← eg_268, va_up_ne _ _ (by decide)]; exact h_263
      have h_289 : g_268 31 = .inl (cs 1, 6, .inl (fun _ => 0)) := by rw [← eg_268, va_up_ne _ _ (by decide)]; exact h_264
      have h_290 : g_268 32 = .inl (cs 1, 6, .inl (fun _ => 0)) := by rw [← eg_268, va_up_ne _ _ (by decide)]; exact h_265
      have h_291 : g_268 13 = .inr (0, [.int 0, .ref (ad 14), .ref (ad 15), .ref (ad 16), .ref (ad 22)]) := by rw [← eg_268, va_up_ne _ _ (by decide)]; exact h_266
      have h_292 : g_268 33 = .inr (0, [.int 0, .ref (ad 34), .ref (ad 35), .ref (ad 36), .ref (ad 42)]) := by rw [← eg_268, va_up_ne _ _ (by decide)]; exact h_267
      refine lv_aload_n hx hb dX6_copyFrom_149 rfl (lv_at hl 2 rfl) ?_
      refine q_get X iX6_copyFrom_6 hP (by decide) h_272 rfl 13 (by decide) (List.mem_of_getElem? (i := 17) rfl) (v := .ref (ad 29)) rfl dX6_copyFrom_150 ?_
      refine lv_iconst (v := 0) hx hb dX6_copyFrom_153 (by decide) ?_
      refine lv_aload_n hx hb dX6_copyFrom_154 rfl (lv_at hl 1 rfl) ?_
      refine q_get X iX6_copyFrom_6 hP (by decide) h_271 rfl 13 (by decide) (List.mem_of_getElem? (i := 17) rfl) (v := .ref (ad 9)) rfl dX6_copyFrom_155 ?_
      refine lv_iconst (v := 0) hx hb dX6_copyFrom_158 (by decide) ?_
      refine lv_bipush (v := 8) hx hb dX6_copyFrom_159 (by decide) ?_
      refine q_copyi X hl.1 (List.mem_of_getElem? (i := 10) rfl) (List.mem_of_getElem? (i := 11) rfl) (List.mem_of_getElem? (i := 12) rfl) (List.mem_of_getElem? (i := 13) rfl) hP hj hA hS 1 rfl rfl (by decide) (by decide) h_287 h_278 (by decide) (by decide) (by decide) (by decide) (by decide) (fun _ _ => rfl) (Nat.le_of_ble_eq_true rfl) (Nat.le_of_ble_eq_true rfl) dX6_copyFrom_161 (fun H locs hP hS => ?_)
      generalize eg_293 : va_up g_268 9 _ = g_293 at hP
      have hfr_295 : ∀ j, (j < 3 ∨ 3 + 10 < j) → g_293 j = g j := fun j hj => by rw [← eg_293]; exact (va_up_ne _ _ (by omega)).trans (hfr_270 j hj)
      have h_296 : g_293 3 = .inr (6, [.int 0, .int 0, .int 0, .int 0, .int 0, .int 0, .int 0, .int 0, .ref (ad 4), .ref (ad 5), .ref (ad 6), .ref (ad 7), .ref (ad 8), .ref (ad 9), .ref (ad 10), .ref (ad 11), .ref (ad 12), .ref (ad 13)]) := by rw [← eg_293, va_up_ne _ _ (by decide)]; exact h_271
      have h_297 : g_293 23 = .inr (6, [.int 0, .int 0, .int 0, .int 0, .int 0, .int 0, .int 0, .int 0, .ref (ad 24), .ref (ad 25), .ref (ad 26), .ref (ad 27), .ref (ad 28), .ref (ad 29), .ref (ad 30), .ref (ad 31), .ref (ad 32), .ref (ad 33)]) := by rw [← eg_293, va_up_ne _ _ (by decide)]; exact h_272
      have h_298 : g_293 4 = .inl (cs 1, 14, .inl f_194) := by rw [← eg_293, va_up_ne _ _ (by decide)]; exact h_273
      have h_299 : g_293 5 = .inl (cs 3, 14, .inl f81_5) := by rw [← eg_293, va_up_ne _ _ (by decide)]; exact h_274
      have h_300 : g_293 6 = .inl (cs 1, 5, .inl f_219) := by rw [← eg_293, va_up_ne _ _ (by decide)]; exact h_275
      have h_301 : g_293 7 = .inl (cs 1, 8, .inl f_244) := by rw [← eg_293, va_up_ne _ _ (by decide)]; exact h_276
      have h_302 : g_293 8 = .inl (cs 1, 8, .inl f_269) := by rw [← eg_293, va_up_ne _ _ (by decide)]; exact h_277
      obtain ⟨f_294, h_303⟩ : ∃ f, g_293 9 = .inl (cs 1, 8, .inl f) := ⟨_, by rw [← eg_293]; exact va_up_self _ _ _⟩
      have h_304 : g_293 10 = .inl (cs 1, 8, .inl (fun _ => 0)) := by rw [← eg_293, va_up_ne _ _ (by decide)]; exact h_279
      have h_305 : g_293 11 = .inl (cs 1, 6, .inl (fun _ => 0)) := by rw [← eg_293, va_up_ne _ _ (by decide)]; exact h_280
      have h_306 : g_293 12 = .inl (cs 1, 6, .inl (fun _ => 0)) := by rw [← eg_293, va_up_ne _ _ (by decide)]; exact h_281
      have h_307 : g_293 24 = .inl (cs 1, 14, .inl (fun _ => 0)) := by rw [← eg_293, va_up_ne _ _ (by decide)]; exact h_282
      have h_308 : g_293 25 = .inl (cs 3, 14, .inl (fun _ => 0)) := by rw [← eg_293, va_up_ne _ _ (by decide)]; exact h_283
      have h_309 : g_293 26 = .inl (cs 1, 5, .inl (fun _ => 0)) := by rw [← eg_293, va_up_ne _ _ (by decide)]; exact h_284
      have h_310 : g_293 27 = .inl (cs 1, 8, .inl (fun _ => 0)) := by rw [← eg_293, va_up_ne _ _ (by decide)]; exact h_285
      have h_311 : g_293 28 = .inl (cs 1, 8, .inl (fun _ => 0)) := by rw [← eg_293, va_up_ne _ _ (by decide)]; exact h_286
      have h_312 : g_293 29 = .inl (cs 1, 8, .inl (fun _ => 0)) := by rw [← eg_293, va_up_ne _ _ (by decide)]; exact h_287
      have h_313 : g_293 30 = .inl (cs 1, 8, .inl (fun _ => 0)) := by rw [← eg_293, va_up_ne _ _ (by decide)]; exact h_288
      have h_314 : g_293 31 = .inl (cs 1, 6, .inl (fun _ => 0)) := by rw [← eg_293, va_up_ne _ _ (by decide)]; exact h_289
      have h_315 : g_293 32 = .inl (cs 1, 6, .inl (fun _ => 0)) := by rw [← eg_293, va_up_ne _ _ (by decide)]; exact h_290
      have h_316 : g_293 13 = .inr (0, [.int 0, .ref (ad 14), .ref (ad 15), .ref (ad 16), .ref (ad 22)]) := by rw [← eg_293, va_up_ne _ _ (by decide)]; exact h_291
      have h_317 : g_293 33 = .inr (0, [.int 0, .ref (ad 34), .ref (ad 35), .ref (ad 36), .ref (ad 42)]) := by rw [← eg_293, va_up_ne _ _ (by decide)]; exact h_292
      refine lv_aload_n hx hb dX6_copyFrom_164 rfl (lv_at hl 2 rfl) ?_
      refine q_get X iX6_copyFrom_6 hP (by decide) h_297 rfl 14 (by decide) (List.mem_of_getElem? (i := 18) rfl) (v := .ref (ad 30)) rfl dX6_copyFrom_165 ?_
      refine lv_iconst (v := 0) hx hb dX6_copyFrom_168 (by decide) ?_
      refine lv_aload_n hx hb dX6_copyFrom_169 rfl (lv_at hl 1 rfl) ?_
      refine q_get X iX6_copyFrom_6 hP (by decide) h_296 rfl 14 (by decide) (List.mem_of_getElem? (i := 18) rfl) (v := .ref (ad 10)) rfl dX6_copyFrom_170 ?_
      refine lv_iconst (v := 0) hx hb dX6_copyFrom_173 (by decide) ?_
      refine lv_bipush (v := 8) hx hb dX6_copyFrom_174 (by decide) ?_
      refine q_copyi X hl.1 (List.mem_of_getElem? (i := 10) rfl) (List.mem_of_getElem? (i := 11) rfl) (List.mem_of_getElem? (i := 12) rfl) (List.mem_of_getElem? (i := 13) rfl) hP hj hA hS 1 rfl rfl (by decide) (by decide) h_313 h_304 (by decide) (by decide) (by decide) (by decide) (by decide) (fun _ _ => rfl) (Nat.le_of_ble_eq_true rfl) (Nat.le_of_ble_eq_true rfl) dX6_copyFrom_176 (fun H locs hP hS => ?_)
      generalize eg_318 : va_up g_293 10 _ = g_318 at hP
      have hfr_320 : ∀ j, (j < 3 ∨ 3 + 10 < j) → g_318 j = g j := fun j hj => by rw [← eg_318]; exact (va_up_ne _ _ (by omega)).trans (hfr_295 j hj)
      have h_321 : g_318 3 = .inr (6, [.int 0, .int 0, .int 0, .int 0, .int 0, .int 0, .int 0, .int 0, .ref (ad 4), .ref (ad 5), .ref (ad 6), .ref (ad 7), .ref (ad 8), .ref (ad 9), .ref (ad 10), .ref (ad 11), .ref (ad 12), .ref (ad 13)]) := by rw [← eg_318, va_up_ne _ _ (by decide)]; exact h_296
      have h_322 : g_318 23 = .inr (6, [.int 0, .int 0, .int 0, .int 0, .int 0, .int 0, .int 0, .int 0, .ref (ad 24), .ref (ad 25), .ref (ad 26), .ref (ad 27), .ref (ad 28), .ref (ad 29), .ref (ad 30), .ref (ad 31), .ref (ad 32), .ref (ad 33)]) := by rw [← eg_318, va_up_ne _ _ (by decide)]; exact h_297
      have h_323 : g_318 4 = .inl (cs 1, 14, .inl f_194) := by rw [← eg_318, va_up_ne _ _ (by decide)]; exact h_298
      have h_324 : g_318 5 = .inl (cs 3, 14, .inl f81_5) := by rw [← eg_318, va_up_ne _ _ (by decide)]; exact h_299
      have h_325 : g_318 6 = .inl (cs 1, 5, .inl f_219) := by rw [← eg_318, va_up_ne _ _ (by decide)]; exact h_300
      have h_326 : g_318 7 = .inl (cs 1, 8, .inl f_244) := by rw [← eg_318, va_up_ne _ _ (by decide)]; exact h_301
      have h_327 : g_318 8 = .inl (cs 1, 8, .inl f_269) := by rw [← eg_318, va_up_ne _ _ (by decide)]; exact h_302
      have h_328 : g_318 9 = .inl (cs 1, 8, .inl f_294) := by rw [← eg_318, va_up_ne _ _ (by decide)]; exact h_303
      obtain ⟨f_319, h_329⟩ : ∃ f, g_318 10 = .inl (cs 1, 8, .inl f) := ⟨_, by rw [← eg_318]; exact va_up_self _ _ _⟩
      have h_330 : g_318 11 = .inl (cs 1, 6, .inl (fun _ => 0)) := by rw [← eg_318, va_up_ne _ _ (by decide)]; exact h_305
      have h_331 : g_318 12 = .inl (cs 1, 6, .inl (fun _ => 0)) := by rw [← eg_318, va_up_ne _ _ (by decide)]; exact h_306
      have h_332 : g_318 24 = .inl (cs 1, 14, .inl (fun _ => 0)) := by rw [← eg_318, va_up_ne _ _ (by decide)]; exact h_307
      have h_333 : g_318 25 = .inl (cs 3, 14, .inl (fun _ => 0)) := by rw [← eg_318, va_up_ne _ _ (by decide)]; exact h_308
      have h_334 : g_318 26 = .inl (cs 1, 5, .inl (fun _ => 0)) := by rw [← eg_318, va_up_ne _ _ (by decide)]; exact h_309
      have h_335 : g_318 27 = .inl (cs 1, 8, .inl (fun _ => 0)) := by rw [← eg_318, va_up_ne _ _ (by decide)]; exact h_310
      have h_336 : g_318 28 = .inl (cs 1, 8, .inl (fun _ => 0)) := by rw [← eg_318, va_up_ne _ _ (by decide)]; exact h_311
      have h_337 : g_318 29 = .inl (cs 1, 8, .inl (fun _ => 0)) := by rw [← eg_318, va_up_ne _ _ (by decide)]; exact h_312
      have h_338 : g_318 30 = .inl (cs 1, 8, .inl (fun _ => 0)) := by rw [← eg_318, va_up_ne _ _ (by decide)]; exact h_313
      have h_339 : g_318 31 = .inl (cs 1, 6, .inl (fun _ => 0)) := by rw [← eg_318, va_up_ne _ _ (by decide)]; exact h_314
      have h_340 : g_318 32 = .inl (cs 1, 6, .inl (fun _ => 0)) := by rw [← eg_318, va_up_ne _ _ (by decide)]; exact h_315
      have h_341 : g_318 13 = .inr (0, [.int 0, .ref (ad 14), .ref (ad 15), .ref (ad 16), .ref (ad 22)]) := by rw [← eg_318, va_up_ne _ _ (by decide)]; exact h_316
      have h_342 : g_318 33 = .inr (0, [.int 0, .ref (ad 34), .ref (ad 35), .ref (ad 36), .ref (ad 42)]) := by rw [← eg_318, va_up_ne _ _ (by decide)]; exact h_317
      refine lv_aload_n hx hb dX6_copyFrom_179 rfl (lv_at hl 2 rfl) ?_
      refine q_get X iX6_copyFrom_6 hP (by decide) h_322 rfl 15 (by decide) (List.mem_of_getElem? (i := 19) rfl) (v := .ref (ad 31)) rfl dX6_copyFrom_180 ?_
      refine lv_iconst (v := 0) hx hb dX6_copyFrom_183 (by decide) ?_
      refine lv_aload_n hx hb dX6_copyFrom_184 rfl (lv_at hl 1 rfl) ?_
      refine q_get X iX6_copyFrom_6 hP (by decide) h_321 rfl 15 (by decide) (List.mem_of_getElem? (i := 19) rfl) (v := .ref (ad 11)) rfl dX6_copyFrom_185 ?_
      refine lv_iconst (v := 0) hx hb dX6_copyFrom_188 (by decide) ?_
      refine lv_bipush (v := 6) hx hb dX6_copyFrom_189 (by decide) ?_
      refine q_copyi X hl.1 (List.mem_of_getElem? (i := 10) rfl) (List.mem_of_getElem? (i := 11) rfl) (List.mem_of_getElem? (i := 12) rfl) (List.mem_of_getElem? (i := 13) rfl) hP hj hA hS 1 rfl rfl (by decide) (by decide) h_339 h_330 (by decide) (by decide) (by decide) (by decide) (by decide) (fun _ _ => rfl) (Nat.le_of_ble_eq_true rfl) (Nat.le_of_ble_eq_true rfl) dX6_copyFrom_191 (fun H locs hP hS => ?_)
      generalize eg_343 : va_up g_318 11 _ = g_343 at hP
      have hfr_345 : ∀ j, (j < 3 ∨ 3 + 10 < j) → g_343 j = g j := fun j hj => by rw [← eg_343]; exact (va_up_ne _ _ (by omega)).trans (hfr_320 j hj)
      have h_346 : g_343 3 = .inr (6, [.int 0, .int 0, .int 0, .int 0, .int 0, .int 0, .int 0, .int 0, .ref (ad 4), .ref (ad 5), .ref (ad 6), .ref (ad 7), .ref (ad 8), .ref (ad 9), .ref (ad 10), .ref (ad 11), .ref (ad 12), .ref (ad 13)]) := by rw [← eg_343, va_up_ne _ _ (by decide)]; exact h_321
      have h_347 : g_343 23 = .inr (6, [.int 0, .int 0, .int 0, .int 0, .int 0, .int 0, .int 0, .int 0, .ref (ad 24), .ref (ad 25), .ref (ad 26), .ref (ad 27), .ref (ad 28), .ref (ad 29), .ref (ad 30), .ref (ad 31), .ref (ad 32), .ref (ad 33)]) := by rw [← eg_343, va_up_ne _ _ (by decide)]; exact h_322
      have h_348 : g_343 4 = .inl (cs 1, 14, .inl f_194) := by rw [← eg_343, va_up_ne _ _ (by decide)]; exact h_323
      have h_349 : g_343 5 = .inl (cs 3, 14, .inl f81_5) := by rw [← eg_343, va_up_ne _ _ (by decide)]; exact h_324
      have h_350 : g_343 6 = .inl (cs 1, 5, .inl f_219) := by rw [← eg_343, va_up_ne _ _ (by decide)]; exact h_325
      have h_351 : g_343 7 = .inl (cs 1, 8, .inl f_244) := by rw [← eg_343, va_up_ne _ _ (by decide)]; exact h_326
      have h_352 : g_343 8 = .inl (cs 1, 8, .inl f_269) := by rw [← eg_343, va_up_ne _ _ (by decide)]; exact h_327
      have h_353 : g_343 9 = .inl (cs 1, 8, .inl f_294) := by rw [← eg_343, va_up_ne _ _ (by decide)]; exact h_328
      have h_354 : g_343 10 = .inl (cs 1, 8, .inl f_319) := by rw [← eg_343, va_up_ne _ _ (by decide)]; exact h_329
      obtain ⟨f_344, h_355⟩ : ∃ f, g_343 11 = .inl (cs 1, 6, .inl f) := ⟨_, by rw [← eg_343]; exact va_up_self _ _ _⟩
      have h_356 : g_343 12 = .inl (cs 1, 6, .inl (fun _ => 0)) := by rw [← eg_343, va_up_ne _ _ (by decide)]; exact h_331
      have h_357 : g_343 24 = .inl (cs 1, 14, .inl (fun _ => 0)) := by rw [← eg_343, va_up_ne _ _ (by decide)]; exact h_332
      have h_358 : g_343 25 = .inl (cs 3, 14, .inl (fun _ => 0)) := by rw [← eg_343, va_up_ne _ _ (by decide)]; exact h_333
      have h_359 : g_343 26 = .inl (cs 1, 5, .inl (fun _ => 0)) := by rw [← eg_343, va_up_ne _ _ (by decide)]; exact h_334
      have h_360 : g_343 27 = .inl (cs 1, 8, .inl (fun _ => 0)) := by rw [← eg_343, va_up_ne _ _ (by decide)]; exact h_335
      have h_361 : g_343 28 = .inl (cs 1, 8, .inl (fun _ => 0)) := by rw [← eg_343, va_up_ne _ _ (by decide)]; exact h_336
      have h_362 : g_343 29 = .inl (cs 1, 8, .inl (fun _ => 0)) := by rw [← eg_343, va_up_ne _ _ (by decide)]; exact h_337
      have h_363 : g_343 30 = .inl (cs 1, 8, .inl (fun _ => 0)) := by rw [← eg_343, va_up_ne _ _ (by decide)]; exact h_338
      have h_364 : g_343 31 = .inl (cs 1, 6, .inl (fun _ => 0)) := by rw [← eg_343, va_up_ne _ _ (by decide)]; exact h_339
      have h_365 : g_343 32 = .inl (cs 1, 6, .inl (fun _ => 0)) := by rw [← eg_343, va_up_ne _ _ (by decide)]; exact h_340
      have h_366 : g_343 13 = .inr (0, [.int 0, .ref (ad 14), .ref (ad 15), .ref (ad 16), .ref (ad 22)]) := by rw [← eg_343, va_up_ne _ _ (by decide)]; exact h_341
      have h_367 : g_343 33 = .inr (0, [.int 0, .ref (ad 34), .ref (ad 35), .ref (ad 36), .ref (ad 42)]) := by rw [← eg_343, va_up_ne _ _ (by decide)]; exact h_342
      refine lv_aload_n hx hb dX6_copyFrom_194 rfl (lv_at hl 2 rfl) ?_
      refine q_get X iX6_copyFrom_6 hP (by decide) h_347 rfl 16 (by decide) (List.mem_of_getElem? (i := 20) rfl) (v := .ref (ad 32)) rfl dX6_copyFrom_195 ?_
      refine lv_iconst (v := 0) hx hb dX6_copyFrom_198 (by decide) ?_
      refine lv_aload_n hx hb dX6_copyFrom_199 rfl (lv_at hl 1 rfl) ?_
      refine q_get X iX6_copyFrom_6 hP (by decide) h_346 rfl 16 (by decide) (List.mem_of_getElem? (i := 20) rfl) (v := .ref (ad 12)) rfl dX6_copyFrom_200 ?_
      refine lv_iconst (v := 0) hx hb dX6_copyFrom_203 (by decide) ?_
      refine lv_bipush (v := 6) hx hb dX6_copyFrom_204 (by decide) ?_
      refine q_copyi X hl.1 (List.mem_of_getElem? (i := 10) rfl) (List.mem_of_getElem? (i := 11) rfl) (List.mem_of_getElem? (i := 12) rfl) (List.mem_of_getElem? (i := 13) rfl) hP hj hA hS 1 rfl rfl (by decide) (by decide) h_365 h_356 (by decide) (by decide) (by decide) (by decide) (by decide) (fun _ _ => rfl) (Nat.le_of_ble_eq_true rfl) (Nat.le_of_ble_eq_true rfl) dX6_copyFrom_206 (fun H locs hP hS => ?_)
      generalize eg_368 : va_up g_343 12 _ = g_368 at hP
      have hfr_370 : ∀ j, (j < 3 ∨ 3 + 10 < j) → g_368 j = g j := fun j hj => by rw [← eg_368]; exact (va_up_ne _ _ (by omega)).trans (hfr_345 j hj)
      have h_371 : g_368 3 = .inr (6, [.int 0, .int 0, .int 0, .int 0, .int 0, .int 0, .int 0, .int 0, .ref (ad 4), .ref (ad 5), .ref (ad 6), .ref (ad 7), .ref (ad 8), .ref (ad 9), .ref (ad 10), .ref (ad 11), .ref (ad 12), .ref (ad 13)]) := by rw [← eg_368, va_up_ne _ _ (by decide)]; exact h_346
      have h_372 : g_368 23 = .inr (6, [.int 0, .int 0, .int 0, .int 0, .int 0, .int 0, .int 0, .int 0, .ref (ad 24), .ref (ad 25), .ref (ad 26), .ref (ad 27), .ref (ad 28), .ref (ad 29), .ref (ad 30), .ref (ad 31), .ref (ad 32), .ref (ad 33)]) := by rw [← eg_368, va_up_ne _ _ (by decide)]; exact h_347
      have h_373 : g_368 4 = .inl (cs 1, 14, .inl f_194) := by rw [← eg_368, va_up_ne _ _ (by decide)]; exact h_348
      have h_374 : g_368 5 = .inl (cs 3, 14, .inl f81_5) := by rw [← eg_368, va_up_ne _ _ (by decide)]; exact h_349
      have h_375 : g_368 6 = .inl (cs 1, 5, .inl f_219) := by rw [← eg_368, va_up_ne _ _ (by decide)]; exact h_350
      have h_376 : g_368 7 = .inl (cs 1, 8, .inl f_244) := by rw [← eg_368, va_up_ne _ _ (by decide)]; exact h_351
      have h_377 : g_368 8 = .inl (cs 1, 8, .inl f_269) := by rw [← eg_368, va_up_ne _ _ (by decide)]; exact h_352
      have h_378 : g_368 9 = .inl (cs 1, 8, .inl f_294) := by rw [← eg_368, va_up_ne _ _ (by decide)]; exact h_353
      have h_379 : g_368 10 = .inl (cs 1, 8, .inl f_319) := by rw [← eg_368, va_up_ne _ _ (by decide)]; exact h_354
      have h_380 : g_368 11 = .inl (cs 1, 6, .inl f_344) := by rw [← eg_368, va_up_ne _ _ (by decide)]; exact h_355
      obtain ⟨f_369, h_381⟩ : ∃ f, g_368 12 = .inl (cs 1, 6, .inl f) := ⟨_, by rw [← eg_368]; exact va_up_self _ _ _⟩
      have h_382 : g_368 24 = .inl (cs 1, 14, .inl (fun _ => 0)) := by rw [← eg_368, va_up_ne _ _ (by decide)]; exact h_357
      have h_383 : g_368 25 = .inl (cs 3, 14, .inl (fun _ => 0)) := by rw [← eg_368, va_up_ne _ _ (by decide)]; exact h_358
      have h_384 : g_368 26 = .inl (cs 1, 5, .inl (fun _ => 0)) := by rw [← eg_368, va_up_ne _ _ (by decide)]; exact h_359
      have h_385 : g_368 27 = .inl (cs 1, 8, .inl (fun _ => 0)) := by rw [← eg_368, va_up_ne _ _ (by decide)]; exact h_360
      have h_386 : g_368 28 = .inl (cs 1, 8, .inl (fun _ => 0)) := by rw [← eg_368, va_up_ne _ _ (by decide)]; exact h_361
      have h_387 : g_368 29 = .inl (cs 1, 8, .inl (fun _ => 0)) := by rw [← eg_368, va_up_ne _ _ (by decide)]; exact h_362
      have h_388 : g_368 30 = .inl (cs 1, 8, .inl (fun _ => 0)) := by rw [← eg_368, va_up_ne _ _ (by decide)]; exact h_363
      have h_389 : g_368 31 = .inl (cs 1, 6, .inl (fun _ => 0)) := by rw [← eg_368, va_up_ne _ _ (by decide)]; exact h_364
      have h_390 : g_368 32 = .inl (cs 1, 6, .inl (fun _ => 0)) := by rw [← eg_368, va_up_ne _ _ (by decide)]; exact h_365
      have h_391 : g_368 13 = .inr (0, [.int 0, .ref (ad 14), .ref (ad 15), .ref (ad 16), .ref (ad 22)]) := by rw [← eg_368, va_up_ne _ _ (by decide)]; exact h_366
      have h_392 : g_368 33 = .inr (0, [.int 0, .ref (ad 34), .ref (ad 35), .ref (ad 36), .ref (ad 42)]) := by rw [← eg_368, va_up_ne _ _ (by decide)]; exact h_367
      refine lv_aload_n hx hb dX6_copyFrom_209 rfl (lv_at hl 1 rfl) ?_
      refine q_get X iX6_copyFrom_6 hP (by decide) h_371 rfl 17 (by decide) (List.mem_of_getElem? (i := 21) rfl) (v := .ref (ad 13)) rfl dX6_copyFrom_210 ?_
      refine lv_aload_n hx hb dX6_copyFrom_213 rfl (lv_at hl 2 rfl) ?_
      refine q_get X iX6_copyFrom_6 hP (by decide) h_372 rfl 17 (by decide) (List.mem_of_getElem? (i := 21) rfl) (v := .ref (ad 33)) rfl dX6_copyFrom_214 ?_
      refine q_callv (q := (RX0, TX0, 5)) (As := [.ref (ad 33)]) (rest := []) X (k_acopy3 l D cs ad hj g_368  h_391 h_392) (cwV 1 X.2.2.2.2.1 gg_X6_copyFrom_X0_copyFrom rfl rfl rfl (by decide +kernel) ⟨Nat.le_of_ble_eq_true rfl, Nat.le_of_ble_eq_true rfl⟩) (by decide) h_391 rfl hP hA hS rfl hl.1 rfl (Nat.le_of_ble_eq_true rfl) dX6_copyFrom_217 ⟨Nat.le_of_ble_eq_true rfl, Nat.le_of_ble_eq_true rfl⟩ (fun g_394 H locs hw_393 hP hS => ?_)
      rw [hw_393] at hP
      exact q_vret X hP hS ⟨h_371, hfr_370⟩ dX6_copyFrom_220
    | succ d81 ih81 =>
      intro k81 f81_5 G81 H locs ls hk81 hfr81 h81_3 h81_23 h81_4 h81_5 h81_6 h81_7 h81_8 h81_9 h81_10 h81_11 h81_12 h81_24 h81_25 h81_26 h81_27 h81_28 h81_29 h81_30 h81_31 h81_32 h81_13 h81_33 hP hS hl
      refine lv_iload_n hx hb dX6_copyFrom_81 rfl (lv_at hl 0 rfl) ?_
      refine lv_bipush (v := 14) hx hb dX6_copyFrom_82 (by decide) ?_
      refine lv_icmp_ge (tgt := 105) hx hb dX6_copyFrom_84 (by decide) (fun hc_84 => absurd hc_84 (nI_ge (a := k81) (b := 14) (by omega) (by decide))) (fun hc_84 => ?_)
      refine lv_aload_n hx hb dX6_copyFrom_87 rfl (lv_at hl 1 rfl) ?_
      refine q_get X iX6_copyFrom_6 hP (by decide) h81_3 rfl 9 (by decide) (List.mem_of_getElem? (i := 32) rfl) (v := .ref (ad 5)) rfl dX6_copyFrom_88 ?_
      refine lv_iload_n hx hb dX6_copyFrom_91 rfl (lv_at hl 0 rfl) ?_
      refine lv_aload_n hx hb dX6_copyFrom_92 rfl (lv_at hl 2 rfl) ?_
      refine q_get X iX6_copyFrom_6 hP (by decide) h81_23 rfl 9 (by decide) (List.mem_of_getElem? (i := 32) rfl) (v := .ref (ad 25)) rfl dX6_copyFrom_93 ?_
      refine lv_iload_n hx hb dX6_copyFrom_96 rfl (lv_at hl 0 rfl) ?_
      refine q_zald X hP (by decide) h81_25 (vp_in_nI (by omega) (by decide)) dX6_copyFrom_97 ?_
      refine q_zast X hP hj hA hS (by decide) h81_5 (vp_in_nI (by omega) (by decide)) dX6_copyFrom_98 (fun H locs hP hS => ?_)
      generalize eg_396 : va_up G81 5 _ = g_396 at hP
      have hfr_398 : ∀ j, (j < 3 ∨ 3 + 10 < j) → g_396 j = g j := fun j hj => by rw [← eg_396]; exact (va_up_ne _ _ (by omega)).trans (hfr81 j hj)
      have h_399 : g_396 3 = .inr (6, [.int 0, .int 0, .int 0, .int 0, .int 0, .int 0, .int 0, .int 0, .ref (ad 4), .ref (ad 5), .ref (ad 6), .ref (ad 7), .ref (ad 8), .ref (ad 9), .ref (ad 10), .ref (ad 11), .ref (ad 12), .ref (ad 13)]) := by rw [← eg_396, va_up_ne _ _ (by decide)]; exact h81_3
      have h_400 : g_396 23 = .inr (6, [.int 0, .int 0, .int 0, .int 0, .int 0, .int 0, .int 0, .int 0, .ref (ad 24), .ref (ad 25), .ref (ad 26), .ref (ad 27), .ref (ad 28), .ref (ad 29), .ref (ad 30), .ref (ad 31), .ref (ad 32), .ref (ad 33)]) := by rw [← eg_396, va_up_ne _ _ (by decide)]; exact h81_23
      have h_401 : g_396 4 = .inl (cs 1, 14, .inl f_194) := by rw [← eg_396, va_up_ne _ _ (by decide)]; exact h81_4
      obtain ⟨f_397, h_402⟩ : ∃ f, g_396 5 = .inl (cs 3, 14, .inl f) := ⟨_, by rw [← eg_396]; exact va_up_self _ _ _⟩
      have h_403 : g_396 6 = .inl (cs 1, 5, .inl (fun _ => 0)) := by rw [← eg_396, va_up_ne _ _ (by decide)]; exact h81_6
      have h_404 : g_396 7 = .inl (cs 1, 8, .inl (fun _ => 0)) := by rw [← eg_396, va_up_ne _ _ (by decide)]; exact h81_7
      have h_405 : g_396 8 = .inl (cs 1, 8, .inl (fun _ => 0)) := by rw [← eg_396, va_up_ne _ _ (by decide)]; exact h81_8
      have h_406 : g_396 9 = .inl (cs 1, 8, .inl (fun _ => 0)) := by rw [← eg_396, va_up_ne _ _ (by decide)]; exact h81_9
      have h_407 : g_396 10 = .inl (cs 1, 8, .inl (fun _ => 0)) := by rw [← eg_396, va_up_ne _ _ (by decide)]; exact h81_10
      have h_408 : g_396 11 = .inl (cs 1, 6, .inl (fun _ => 0)) := by rw [← eg_396, va_up_ne _ _ (by decide)]; exact h81_11
      have h_409 : g_396 12 = .inl (cs 1, 6, .inl (fun _ => 0)) := by rw [← eg_396, va_up_ne _ _ (by decide)]; exact h81_12
      have h_410 : g_396 24 = .inl (cs 1, 14, .inl (fun _ => 0)) := by rw [← eg_396, va_up_ne _ _ (by decide)]; exact h81_24
      have h_411 : g_396 25 = .inl (cs 3, 14, .inl (fun _ => 0)) := by rw [← eg_396, va_up_ne _ _ (by decide)]; exact h81_25
      have h_412 : g_396 26 = .inl (cs 1, 5, .inl (fun _ => 0)) := by rw [← eg_396, va_up_ne _ _ (by decide)]; exact h81_26
      have h_413 : g_396 27 = .inl (cs 1, 8, .inl (fun _ => 0)) := by rw [← eg_396, va_up_ne _ _ (by decide)]; exact h81_27
      have h_414 : g_396 28 = .inl (cs 1, 8, .inl (fun _ => 0)) := by rw [← eg_396, va_up_ne _ _ (by decide)]; exact h81_28
      have h_415 : g_396 29 = .inl (cs 1, 8, .inl (fun _ => 0)) := by rw [← eg_396, va_up_ne _ _ (by decide)]; exact h81_29
      have h_416 : g_396 30 = .inl (cs 1, 8, .inl (fun _ => 0)) := by rw [← eg_396, va_up_ne _ _ (by decide)]; exact h81_30
      have h_417 : g_396 31 = .inl (cs 1, 6, .inl (fun _ => 0)) := by rw [← eg_396, va_up_ne _ _ (by decide)]; exact h81_31
      have h_418 : g_396 32 = .inl (cs 1, 6, .inl (fun _ => 0)) := by rw [← eg_396, va_up_ne _ _ (by decide)]; exact h81_32
      have h_419 : g_396 13 = .inr (0, [.int 0, .ref (ad 14), .ref (ad 15), .ref (ad 16), .ref (ad 22)]) := by rw [← eg_396, va_up_ne _ _ (by decide)]; exact h81_13
      have h_420 : g_396 33 = .inr (0, [.int 0, .ref (ad 34), .ref (ad 35), .ref (ad 36), .ref (ad 42)]) := by rw [← eg_396, va_up_ne _ _ (by decide)]; exact h81_33
      refine lv_iinc (v := (nI (k81 + 1))) (lv' := [(2, .int (nI (k81 + 1))), (0, .ref (ad 3)), (1, .ref (ad 23))]) hx hb dX6_copyFrom_99 hl (k := 0) rfl (nI_add k81 1) (by decide) rfl (fun ls hl => ?_)
      refine lv_goto (tgt := 81) hx hb dX6_copyFrom_102 (by decide) ?_
      exact ih81 (k81 + 1) _ g_396 _ _ ls (by omega) hfr_398 h_399 h_400 h_401 h_402 h_403 h_404 h_405 h_406 h_407 h_408 h_409 h_410 h_411 h_412 h_413 h_414 h_415 h_416 h_417 h_418 h_419 h_420 hP hS (lv_sub hl [0, 1, 2] rfl)
  exact HL81 14 0 _ g_193 _ _ ls (by omega) hfr_195 h_196 h_197 h_198 h_199 h_200 h_201 h_202 h_203 h_204 h_205 h_206 h_207 h_208 h_209 h_210 h_211 h_212 h_213 h_214 h_215 h_216 h_217 hP hS (lv_sub hl [0, 1, 2] rfl)

set_option maxHeartbeats 4000000 in
set_option maxRecDepth 100000 in
theorem k_copy44 (l : Launch) (D : va_G) (cs : Nat → ClassId) (ad : Nat → Nat) (hj : wJ ad nW) (g : Nat → va_E) (h44 : g 44 = .inr (6, [.int 0, .int 0, .int 0, .int 0, .int 0, .int 0, .int 0, .int 0, .ref (ad 45), .ref (ad 46), .ref (ad 47), .ref (ad 48), .ref (ad 49), .ref (ad 50), .ref (ad 51), .ref (ad 52), .ref (ad 53), .ref (ad 54)])) (h3 : g 3 = .inr (6, [.int 0, .int 0, .int 0, .int 0, .int 0, .int 0, .int 0, .int 0, .ref (ad 4), .ref (ad 5), .ref (ad 6), .ref (ad 7), .ref (ad 8), .ref (ad 9), .ref (ad 10), .ref (ad 11), .ref (ad 12), .ref (ad 13)])) (h45 : g 45 = .inl (cs 1, 14, .inl (fun _ => 0))) (h46 : g 46 = .inl (cs 3, 14, .inl (fun _ => 0))) (h47 : g 47 = .inl (cs 1, 5, .inl (fun _ => 0))) (h48 : g 48 = .inl (cs 1, 8, .inl (fun _ => 0))) (h49 : g 49 = .inl (cs 1, 8, .inl (fun _ => 0))) (h50 : g 50 = .inl (cs 1, 8, .inl (fun _ => 0))) (h51 : g 51 = .inl (cs 1, 8, .inl (fun _ => 0))) (h52 : g 52 = .inl (cs 1, 6, .inl (fun _ => 0))) (h53 : g 53 = .inl (cs 1, 6, .inl (fun _ => 0))) (h4 : g 4 = .inl (cs 1, 14, .inl (fun _ => 0))) (h5 : g 5 = .inl (cs 3, 14, .inl (fun _ => 0))) (h6 : g 6 = .inl (cs 1, 5, .inl (fun _ => 0))) (h7 : g 7 = .inl (cs 1, 8, .inl (fun _ => 0))) (h8 : g 8 = .inl (cs 1, 8, .inl (fun _ => 0))) (h9 : g 9 = .inl (cs 1, 8, .inl (fun _ => 0))) (h10 : g 10 = .inl (cs 1, 8, .inl (fun _ => 0))) (h11 : g 11 = .inl (cs 1, 6, .inl (fun _ => 0))) (h12 : g 12 = .inl (cs 1, 6, .inl (fun _ => 0))) (h54 : g 54 = .inr (0, [.int 0, .ref (ad 55), .ref (ad 56), .ref (ad 57), .ref (ad 63)])) (h13 : g 13 = .inr (0, [.int 0, .ref (ad 14), .ref (ad 15), .ref (ad 16), .ref (ad 22)])) : cV l yX6_copyFrom vX6_copyFrom { frames := 2, cells := 0, slots := 0, locals := 43 } D cs ad nW [.ref (ad 44), .ref (ad 3)] g (fun g2 => g2 44 = .inr (6, [.int 0, .int 0, .int 0, .int 0, .int 0, .int 0, .int 0, .int 0, .ref (ad 45), .ref (ad 46), .ref (ad 47), .ref (ad 48), .ref (ad 49), .ref (ad 50), .ref (ad 51), .ref (ad 52), .ref (ad 53), .ref (ad 54)]) ∧ ∀ j, (j < 44 ∨ 44 + 10 < j) → g2 j = g j) := by
  refine Met.start (cc := cX6_copyFrom) (maxL := 3) (ret := none) RX6 rfl (by decide) rfl (Nat.le_of_ble_eq_true rfl) ?_
  intro p e s m below meth c ls X hP hl
  have hx := X.1
  have hb := X.2.1
  have hS : va_S (wA ad nW) s.heap s.heap [] := va_S.rf
  have hA : ∀ i, i < nW → wA ad nW (ad i) := fun i h => ⟨i, h, rfl⟩
  have hfr : ∀ j, (j < 44 ∨ 44 + 10 < j) → g j = g j := fun _ _ => rfl
  have hl : lv_has ls 3 [(0, .ref (ad 44)), (1, .ref (ad 3))] := hl
  refine lv_aload_n hx hb dX6_copyFrom_0 rfl (lv_at hl 0 rfl) ?_
  refine lv_aload_n hx hb dX6_copyFrom_1 rfl (lv_at hl 1 rfl) ?_
  refine q_get X iX6_copyFrom_6 hP (by decide) h3 rfl 0 (by decide) (List.mem_of_getElem? (i := 1) rfl) (v := .int 0) rfl dX6_copyFrom_2 ?_
  refine q_put X iX6_copyFrom_6 tyX6 tyX6_ok nmX6 hP hj hA hS (by decide) h44 rfl 0 (by decide) (List.mem_of_getElem? (i := 1) rfl) rfl (ty := .int) (v := .int 0) (by decide +kernel) rfl rfl (Nat.le_of_ble_eq_true rfl) dX6_copyFrom_5 (fun H locs hP hS => ?_)
  generalize eg_1 : va_up g 44 _ = g_1 at hP
  have hfr_2 : ∀ j, (j < 44 ∨ 44 + 10 < j) → g_1 j = g j := fun j hj => by rw [← eg_1]; exact (va_up_ne _ _ (by omega)).trans (hfr j hj)
  have h_3 : g_1 44 = .inr (6, [.int 0, .int 0, .int 0, .int 0, .int 0, .int 0, .int 0, .int 0, .ref (ad 45), .ref (ad 46), .ref (ad 47), .ref (ad 48), .ref (ad 49), .ref (ad 50), .ref (ad 51), .ref (ad 52), .ref (ad 53), .ref (ad 54)]) := by rw [← eg_1]; exact va_up_self _ _ _
  have h_4 : g_1 3 = .inr (6, [.int 0, .int 0, .int 0, .int 0, .int 0, .int 0, .int 0, .int 0, .ref (ad 4), .ref (ad 5), .ref (ad 6), .ref (ad 7), .ref (ad 8), .ref (ad 9), .ref (ad 10), .ref (ad 11), .ref (ad 12), .ref (ad 13)]) := by rw [← eg_1, va_up_ne _ _ (by decide)]; exact h3
  have h_5 : g_1 45 = .inl (cs 1, 14, .inl (fun _ => 0)) := by rw [← eg_1, va_up_ne _ _ (by decide)]; exact h45
  have h_6 : g_1 46 = .inl (cs 3, 14, .inl (fun _ => 0)) := by rw [← eg_1, va_up_ne _ _ (by decide)]; exact h46
  have h_7 : g_1 47 = .inl (cs 1, 5, .inl (fun _ => 0)) := by rw [← eg_1, va_up_ne _ _ (by decide)]; exact h47
  have h_8 : g_1 48 = .inl (cs 1, 8, .inl (fun _ => 0)) := by rw [← eg_1, va_up_ne _ _ (by decide)]; exact h48
  have h_9 : g_1 49 = .inl (cs 1, 8, .inl (fun _ => 0)) := by rw [← eg_1, va_up_ne _ _ (by decide)]; exact h49
  have h_10 : g_1 50 = .inl (cs 1, 8, .inl (fun _ => 0)) := by rw [← eg_1, va_up_ne _ _ (by decide)]; exact h50
  have h_11 : g_1 51 = .inl (cs 1, 8, .inl (fun _ => 0)) := by rw [← eg_1, va_up_ne _ _ (by decide)]; exact h51
  have h_12 : g_1 52 = .inl (cs 1, 6, .inl (fun _ => 0)) := by rw [← eg_1, va_up_ne _ _ (by decide)]; exact h52
  have h_13 : g_1 53 = .inl (cs 1, 6, .inl (fun _ => 0)) := by rw [← eg_1, va_up_ne _ _ (by decide)]; exact h53
  have h_14 : g_1 4 = .inl (cs 1, 14, .inl (fun _ => 0)) := by rw [← eg_1, va_up_ne _ _ (by decide)]; exact h4
  have h_15 : g_1 5 = .inl (cs 3, 14, .inl (fun _ => 0)) := by rw [← eg_1, va_up_ne _ _ (by decide)]; exact h5
  have h_16 : g_1 6 = .inl (cs 1, 5, .inl (fun _ => 0)) := by rw [← eg_1, va_up_ne _ _ (by decide)]; exact h6
  have h_17 : g_1 7 = .inl (cs 1, 8, .inl (fun _ => 0)) := by rw [← eg_1, va_up_ne _ _ (by decide)]; exact h7
  have h_18 : g_1 8 = .inl (cs 1, 8, .inl (fun _ => 0)) := by rw [← eg_1, va_up_ne _ _ (by decide)]; exact h8
  have h_19 : g_1 9 = .inl (cs 1, 8, .inl (fun _ => 0)) := by rw [← eg_1, va_up_ne _ _ (by decide)]; exact h9
  have h_20 : g_1 10 = .inl (cs 1, 8, .inl (fun _ => 0)) := by rw [← eg_1, va_up_ne _ _ (by decide)]; exact h10
  have h_21 : g_1 11 = .inl (cs 1, 6, .inl (fun _ => 0)) := by rw [← eg_1, va_up_ne _ _ (by decide)]; exact h11
  have h_22 : g_1 12 = .inl (cs 1, 6, .inl (fun _ => 0)) := by rw [← eg_1, va_up_ne _ _ (by decide)]; exact h12
  have h_23 : g_1 54 = .inr (0, [.int 0, .ref (ad 55), .ref (ad 56), .ref (ad 57), .ref (ad 63)]) := by rw [← eg_1, va_up_ne _ _ (by decide)]; exact h54
  have h_24 : g_1 13 = .inr (0, [.int 0, .ref (ad 14), .ref (ad 15), .ref (ad 16), .ref (ad 22)]) := by rw [← eg_1, va_up_ne _ _ (by decide)]; exact h13
  refine lv_aload_n hx hb dX6_copyFrom_8 rfl (lv_at hl 0 rfl) ?_
  refine lv_aload_n hx hb dX6_copyFrom_9 rfl (lv_at hl 1 rfl) ?_
  refine q_get X iX6_copyFrom_6 hP (by decide) h_4 rfl 1 (by decide) (List.mem_of_getElem? (i := 2) rfl) (v := .int 0) rfl dX6_copyFrom_10 ?_
  refine q_put X iX6_copyFrom_6 tyX6 tyX6_ok nmX6 hP hj hA hS (by decide) h_3 rfl 1 (by decide) (List.mem_of_getElem? (i := 2) rfl) rfl (ty := .int) (v := .int 0) (by decide +kernel) rfl rfl (Nat.le_of_ble_eq_true rfl) dX6_copyFrom_13 (fun H locs hP hS => ?_)
  generalize eg_25 : va_up g_1 44 _ = g_25 at hP
  have hfr_26 : ∀ j, (j < 44 ∨ 44 + 10 < j) → g_25 j = g j := fun j hj => by rw [← eg_25]; exact (va_up_ne _ _ (by omega)).trans (hfr_2 j hj)
  have h_27 : g_25 44 = .inr (6, [.int 0, .int 0, .int 0, .int 0, .int 0, .int 0, .int 0, .int 0, .ref (ad 45), .ref (ad 46), .ref (ad 47), .ref (ad 48), .ref (ad 49), .ref (ad 50), .ref (ad 51), .ref (ad 52), .ref (ad 53), .ref (ad 54)]) := by rw [← eg_25]; exact va_up_self _ _ _
  have h_28 : g_25 3 = .inr (6, [.int 0, .int 0, .int 0, .int 0, .int 0, .int 0, .int 0, .int 0, .ref (ad 4), .ref (ad 5), .ref (ad 6), .ref (ad 7), .ref (ad 8), .ref (ad 9), .ref (ad 10), .ref (ad 11), .ref (ad 12), .ref (ad 13)]) := by rw [← eg_25, va_up_ne _ _ (by decide)]; exact h_4
  have h_29 : g_25 45 = .inl (cs 1, 14, .inl (fun _ => 0)) := by rw [← eg_25, va_up_ne _ _ (by decide)]; exact h_5
  have h_30 : g_25 46 = .inl (cs 3, 14, .inl (fun _ => 0)) := by rw [← eg_25, va_up_ne _ _ (by decide)]; exact h_6
  have h_31 : g_25 47 = .inl (cs 1, 5, .inl (fun _ => 0)) := by rw [← eg_25, va_up_ne _ _ (by decide)]; exact h_7
  have h_32 : g_25 48 = .inl (cs 1, 8, .inl (fun _ => 0)) := by rw [← eg_25, va_up_ne _ _ (by decide)]; exact h_8
  have h_33 : g_25 49 = .inl (cs 1, 8, .inl (fun _ => 0)) := by rw [← eg_25, va_up_ne _ _ (by decide)]; exact h_9
  have h_34 : g_25 50 = .inl (cs 1, 8, .inl (fun _ => 0)) := by rw [← eg_25, va_up_ne _ _ (by decide)]; exact h_10
  have h_35 : g_25 51 = .inl (cs 1, 8, .inl (fun _ => 0)) := by rw [← eg_25, va_up_ne _ _ (by decide)]; exact h_11
  have h_36 : g_25 52 = .inl (cs 1, 6, .inl (fun _ => 0)) := by rw [← eg_25, va_up_ne _ _ (by decide)]; exact h_12
  have h_37 : g_25 53 = .inl (cs 1, 6, .inl (fun _ => 0)) := by rw [← eg_25, va_up_ne _ _ (by decide)]; exact h_13
  have h_38 : g_25 4 = .inl (cs 1, 14, .inl (fun _ => 0)) := by rw [← eg_25, va_up_ne _ _ (by decide)]; exact h_14
  have h_39 : g_25 5 = .inl (cs 3, 14, .inl (fun _ => 0)) := by rw [← eg_25, va_up_ne _ _ (by decide)]; exact h_15
  have h_40 : g_25 6 = .inl (cs 1, 5, .inl (fun _ => 0)) := by rw [← eg_25, va_up_ne _ _ (by decide)]; exact h_16
  have h_41 : g_25 7 = .inl (cs 1, 8, .inl (fun _ => 0)) := by rw [← eg_25, va_up_ne _ _ (by decide)]; exact h_17
  have h_42 : g_25 8 = .inl (cs 1, 8, .inl (fun _ => 0)) := by rw [← eg_25, va_up_ne _ _ (by decide)]; exact h_18
  have h_43 : g_25 9 = .inl (cs 1, 8, .inl (fun _ => 0)) := by rw [← eg_25, va_up_ne _ _ (by decide)]; exact h_19
  have h_44 : g_25 10 = .inl (cs 1, 8, .inl (fun _ => 0)) := by rw [← eg_25, va_up_ne _ _ (by decide)]; exact h_20
  have h_45 : g_25 11 = .inl (cs 1, 6, .inl (fun _ => 0)) := by rw [← eg_25, va_up_ne _ _ (by decide)]; exact h_21
  have h_46 : g_25 12 = .inl (cs 1, 6, .inl (fun _ => 0)) := by rw [← eg_25, va_up_ne _ _ (by decide)]; exact h_22
  have h_47 : g_25 54 = .inr (0, [.int 0, .ref (ad 55), .ref (ad 56), .ref (ad 57), .ref (ad 63)]) := by rw [← eg_25, va_up_ne _ _ (by decide)]; exact h_23
  have h_48 : g_25 13 = .inr (0, [.int 0, .ref (ad 14), .ref (ad 15), .ref (ad 16), .ref (ad 22)]) := by rw [← eg_25, va_up_ne _ _ (by decide)]; exact h_24
  refine lv_aload_n hx hb dX6_copyFrom_16 rfl (lv_at hl 0 rfl) ?_
  refine lv_aload_n hx hb dX6_copyFrom_17 rfl (lv_at hl 1 rfl) ?_
  refine q_get X iX6_copyFrom_6 hP (by decide) h_28 rfl 2 (by decide) (List.mem_of_getElem? (i := 3) rfl) (v := .int 0) rfl dX6_copyFrom_18 ?_
  refine q_put X iX6_copyFrom_6 tyX6 tyX6_ok nmX6 hP hj hA hS (by decide) h_27 rfl 2 (by decide) (List.mem_of_getElem? (i := 3) rfl) rfl (ty := .int) (v := .int 0) (by decide +kernel) rfl rfl (Nat.le_of_ble_eq_true rfl) dX6_copyFrom_21 (fun H locs hP hS => ?_)
  generalize eg_49 : va_up g_25 44 _ = g_49 at hP
  have hfr_50 : ∀ j, (j < 44 ∨ 44 + 10 < j) → g_49 j = g j := fun j hj => by rw [← eg_49]; exact (va_up_ne _ _ (by omega)).trans (hfr_26 j hj)
  have h_51 : g_49 44 = .inr (6, [.int 0, .int 0, .int 0, .int 0, .int 0, .int 0, .int 0, .int 0, .ref (ad 45), .ref (ad 46), .ref (ad 47), .ref (ad 48), .ref (ad 49), .ref (ad 50), .ref (ad 51), .ref (ad 52), .ref (ad 53), .ref (ad 54)]) := by rw [← eg_49]; exact va_up_self _ _ _
  have h_52 : g_49 3 = .inr (6, [.int 0, .int 0, .int 0, .int 0, .int 0, .int 0, .int 0, .int 0, .ref (ad 4), .ref (ad 5), .ref (ad 6), .ref (ad 7), .ref (ad 8), .ref (ad 9), .ref (ad 10), .ref (ad 11), .ref (ad 12), .ref (ad 13)]) := by rw [← eg_49, va_up_ne _ _ (by decide)]; exact h_28
  have h_53 : g_49 45 = .inl (cs 1, 14, .inl (fun _ => 0)) := by rw [← eg_49, va_up_ne _ _ (by decide)]; exact h_29
  have h_54 : g_49 46 = .inl (cs 3, 14, .inl (fun _ => 0)) := by rw [← eg_49, va_up_ne _ _ (by decide)]; exact h_30
  have h_55 : g_49 47 = .inl (cs 1, 5, .inl (fun _ => 0)) := by rw [← eg_49, va_up_ne _ _ (by decide)]; exact h_31
  have h_56 : g_49 48 = .inl (cs 1, 8, .inl (fun _ => 0)) := by rw [← eg_49, va_up_ne _ _ (by decide)]; exact h_32
  have h_57 : g_49 49 = .inl (cs 1, 8, .inl (fun _ => 0)) := by rw [← eg_49, va_up_ne _ _ (by decide)]; exact h_33
  have h_58 : g_49 50 = .inl (cs 1, 8, .inl (fun _ => 0)) := by rw [← eg_49, va_up_ne _ _ (by decide)]; exact h_34
  have h_59 : g_49 51 = .inl (cs 1, 8, .inl (fun _ => 0)) := by rw [← eg_49, va_up_ne _ _ (by decide)]; exact h_35
  have h_60 : g_49 52 = .inl (cs 1, 6, .inl (fun _ => 0)) := by rw [← eg_49, va_up_ne _ _ (by decide)]; exact h_36
  have h_61 : g_49 53 = .inl (cs 1, 6, .inl (fun _ => 0)) := by rw [← eg_49, va_up_ne _ _ (by decide)]; exact h_37
  have h_62 : g_49 4 = .inl (cs 1, 14, .inl (fun _ => 0)) := by rw [← eg_49, va_up_ne _ _ (by decide)]; exact h_38
  have h_63 : g_49 5 = .inl (cs 3, 14, .inl (fun _ => 0)) := by rw [← eg_49, va_up_ne _ _ (by decide)]; exact h_39
  have h_64 : g_49 6 = .inl (cs 1, 5, .inl (fun _ => 0)) := by rw [← eg_49, va_up_ne _ _ (by decide)]; exact h_40
  have h_65 : g_49 7 = .inl (cs 1, 8, .inl (fun _ => 0)) := by rw [← eg_49, va_up_ne _ _ (by decide)]; exact h_41
  have h_66 : g_49 8 = .inl (cs 1, 8, .inl (fun _ => 0)) := by rw [← eg_49, va_up_ne _ _ (by decide)]; exact h_42
  have h_67 : g_49 9 = .inl (cs 1, 8, .inl (fun _ => 0)) := by rw [← eg_49, va_up_ne _ _ (by decide)]; exact h_43
  have h_68 : g_49 10 = .inl (cs 1, 8, .inl (fun _ => 0)) := by rw [← eg_49, va_up_ne _ _ (by decide)]; exact h_44
  have h_69 : g_49 11 = .inl (cs 1, 6, .inl (fun _ => 0)) := by rw [← eg_49, va_up_ne _ _ (by decide)]; exact h_45
  have h_70 : g_49 12 = .inl (cs 1, 6, .inl (fun _ => 0)) := by rw [← eg_49, va_up_ne _ _ (by decide)]; exact h_46
  have h_71 : g_49 54 = .inr (0, [.int 0, .ref (ad 55), .ref (ad 56), .ref (ad 57), .ref (ad 63)]) := by rw [← eg_49, va_up_ne _ _ (by decide)]; exact h_47
  have h_72 : g_49 13 = .inr (0, [.int 0, .ref (ad 14), .ref (ad 15), .ref (ad 16), .ref (ad 22)]) := by rw [← eg_49, va_up_ne _ _ (by decide)]; exact h_48
  refine lv_aload_n hx hb dX6_copyFrom_24 rfl (lv_at hl 0 rfl) ?_
  refine lv_aload_n hx hb dX6_copyFrom_25 rfl (lv_at hl 1 rfl) ?_
  refine q_get X iX6_copyFrom_6 hP (by decide) h_52 rfl 3 (by decide) (List.mem_of_getElem? (i := 4) rfl) (v := .int 0) rfl dX6_copyFrom_26 ?_
  refine q_put X iX6_copyFrom_6 tyX6 tyX6_ok nmX6 hP hj hA hS (by decide) h_51 rfl 3 (by decide) (List.mem_of_getElem? (i := 4) rfl) rfl (ty := .int) (v := .int 0) (by decide +kernel) rfl rfl (Nat.le_of_ble_eq_true rfl) dX6_copyFrom_29 (fun H locs hP hS => ?_)
  generalize eg_73 : va_up g_49 44 _ = g_73 at hP
  have hfr_74 : ∀ j, (j < 44 ∨ 44 + 10 < j) → g_73 j = g j := fun j hj => by rw [← eg_73]; exact (va_up_ne _ _ (by omega)).trans (hfr_50 j hj)
  have h_75 : g_73 44 = .inr (6, [.int 0, .int 0, .int 0, .int 0, .int 0, .int 0, .int 0, .int 0, .ref (ad 45), .ref (ad 46), .ref (ad 47), .ref (ad 48), .ref (ad 49), .ref (ad 50), .ref (ad 51), .ref (ad 52), .ref (ad 53), .ref (ad 54)]) := by rw [← eg_73]; exact va_up_self _ _ _
  have h_76 : g_73 3 = .inr (6, [.int 0, .int 0, .int 0, .int 0, .int 0, .int 0, .int 0, .int 0, .ref (ad 4), .ref (ad 5), .ref (ad 6), .ref (ad 7), .ref (ad 8), .ref (ad 9), .ref (ad 10), .ref (ad 11), .ref (ad 12), .ref (ad 13)]) := by rw [← eg_73, va_up_ne _ _ (by decide)]; exact h_52
  have h_77 : g_73 45 = .inl (cs 1, 14, .inl (fun _ => 0)) := by rw [← eg_73, va_up_ne _ _ (by decide)]; exact h_53
  have h_78 : g_73 46 = .inl (cs 3, 14, .inl (fun _ => 0)) := by rw [← eg_73, va_up_ne _ _ (by decide)]; exact h_54
  have h_79 : g_73 47 = .inl (cs 1, 5, .inl (fun _ => 0)) := by rw [← eg_73, va_up_ne _ _ (by decide)]; exact h_55
  have h_80 : g_73 48 = .inl (cs 1, 8, .inl (fun _ => 0)) := by rw [← eg_73, va_up_ne _ _ (by decide)]; exact h_56
  have h_81 : g_73 49 = .inl (cs 1, 8, .inl (fun _ => 0)) := by rw [← eg_73, va_up_ne _ _ (by decide)]; exact h_57
  have h_82 : g_73 50 = .inl (cs 1, 8, .inl (fun _ => 0)) := by rw [← eg_73, va_up_ne _ _ (by decide)]; exact h_58
  have h_83 : g_73 51 = .inl (cs 1, 8, .inl (fun _ => 0)) := by rw [← eg_73, va_up_ne _ _ (by decide)]; exact h_59
  have h_84 : g_73 52 = .inl (cs 1, 6, .inl (fun _ => 0)) := by rw [← eg_73, va_up_ne _ _ (by decide)]; exact h_60
  have h_85 : g_73 53 = .inl (cs 1, 6, .inl (fun _ => 0)) := by rw [← eg_73, va_up_ne _ _ (by decide)]; exact h_61
  have h_86 : g_73 4 = .inl (cs 1, 14, .inl (fun _ => 0)) := by rw [← eg_73, va_up_ne _ _ (by decide)]; exact h_62
  have h_87 : g_73 5 = .inl (cs 3, 14, .inl (fun _ => 0)) := by rw [← eg_73, va_up_ne _ _ (by decide)]; exact h_63
  have h_88 : g_73 6 = .inl (cs 1, 5, .inl (fun _ => 0)) := by rw [← eg_73, va_up_ne _ _ (by decide)]; exact h_64
  have h_89 : g_73 7 = .inl (cs 1, 8, .inl (fun _ => 0)) := by rw [← eg_73, va_up_ne _ _ (by decide)]; exact h_65
  have h_90 : g_73 8 = .inl (cs 1, 8, .inl (fun _ => 0)) := by rw [← eg_73, va_up_ne _ _ (by decide)]; exact h_66
  have h_91 : g_73 9 = .inl (cs 1, 8, .inl (fun _ => 0)) := by rw [← eg_73, va_up_ne _ _ (by decide)]; exact h_67
  have h_92 : g_73 10 = .inl (cs 1, 8, .inl (fun _ => 0)) := by rw [← eg_73, va_up_ne _ _ (by decide)]; exact h_68
  have h_93 : g_73 11 = .inl (cs 1, 6, .inl (fun _ => 0)) := by rw [← eg_73, va_up_ne _ _ (by decide)]; exact h_69
  have h_94 : g_73 12 = .inl (cs 1, 6, .inl (fun _ => 0)) := by rw [← eg_73, va_up_ne _ _ (by decide)]; exact h_70
  have h_95 : g_73 54 = .inr (0, [.int 0, .ref (ad 55), .ref (ad 56), .ref (ad 57), .ref (ad 63)]) := by rw [← eg_73, va_up_ne _ _ (by decide)]; exact h_71
  have h_96 : g_73 13 = .inr (0, [.int 0, .ref (ad 14), .ref (ad 15), .ref (ad 16), .ref (ad 22)]) := by rw [← eg_73, va_up_ne _ _ (by decide)]; exact h_72
  refine lv_aload_n hx hb dX6_copyFrom_32 rfl (lv_at hl 0 rfl) ?_
  refine lv_aload_n hx hb dX6_copyFrom_33 rfl (lv_at hl 1 rfl) ?_
  refine q_get X iX6_copyFrom_6 hP (by decide) h_76 rfl 4 (by decide) (List.mem_of_getElem? (i := 5) rfl) (v := .int 0) rfl dX6_copyFrom_34 ?_
  refine q_put X iX6_copyFrom_6 tyX6 tyX6_ok nmX6 hP hj hA hS (by decide) h_75 rfl 4 (by decide) (List.mem_of_getElem? (i := 5) rfl) rfl (ty := .int) (v := .int 0) (by decide +kernel) rfl rfl (Nat.le_of_ble_eq_true rfl) dX6_copyFrom_37 (fun H locs hP hS => ?_)
  generalize eg_97 : va_up g_73 44 _ = g_97 at hP
  have hfr_98 : ∀ j, (j < 44 ∨ 44 + 10 < j) → g_97 j = g j := fun j hj => by rw [← eg_97]; exact (va_up_ne _ _ (by omega)).trans (hfr_74 j hj)
  have h_99 : g_97 44 = .inr (6, [.int 0, .int 0, .int 0, .int 0, .int 0, .int 0, .int 0, .int 0, .ref (ad 45), .ref (ad 46), .ref (ad 47), .ref (ad 48), .ref (ad 49), .ref (ad 50), .ref (ad 51), .ref (ad 52), .ref (ad 53), .ref (ad 54)]) := by rw [← eg_97]; exact va_up_self _ _ _
  have h_100 : g_97 3 = .inr (6, [.int 0, .int 0, .int 0, .int 0, .int 0, .int 0, .int 0, .int 0, .ref (ad 4), .ref (ad 5), .ref (ad 6), .ref (ad 7), .ref (ad 8), .ref (ad 9), .ref (ad 10), .ref (ad 11), .ref (ad 12), .ref (ad 13)]) := by rw [← eg_97, va_up_ne _ _ (by decide)]; exact h_76
  have h_101 : g_97 45 = .inl (cs 1, 14, .inl (fun _ => 0)) := by rw [← eg_97, va_up_ne _ _ (by decide)]; exact h_77
  have h_102 : g_97 46 = .inl (cs 3, 14, .inl (fun _ => 0)) := by rw [← eg_97, va_up_ne _ _ (by decide)]; exact h_78
  have h_103 : g_97 47 = .inl (cs 1, 5, .inl (fun _ => 0)) := by rw [← eg_97, va_up_ne _ _ (by decide)]; exact h_79
  have h_104 : g_97 48 = .inl (cs 1, 8, .inl (fun _ => 0)) := by rw [← eg_97, va_up_ne _ _ (by decide)]; exact h_80
  have h_105 : g_97 49 = .inl (cs 1, 8, .inl (fun _ => 0)) := by rw [← eg_97, va_up_ne _ _ (by decide)]; exact h_81
  have h_106 : g_97 50 = .inl (cs 1, 8, .inl (fun _ => 0)) := by rw [← eg_97, va_up_ne _ _ (by decide)]; exact h_82
  have h_107 : g_97 51 = .inl (cs 1, 8, .inl (fun _ => 0)) := by rw [← eg_97, va_up_ne _ _ (by decide)]; exact h_83
  have h_108 : g_97 52 = .inl (cs 1, 6, .inl (fun _ => 0)) := by rw [← eg_97, va_up_ne _ _ (by decide)]; exact h_84
  have h_109 : g_97 53 = .inl (cs 1, 6, .inl (fun _ => 0)) := by rw [← eg_97, va_up_ne _ _ (by decide)]; exact h_85
  have h_110 : g_97 4 = .inl (cs 1, 14, .inl (fun _ => 0)) := by rw [← eg_97, va_up_ne _ _ (by decide)]; exact h_86
  have h_111 : g_97 5 = .inl (cs 3, 14, .inl (fun _ => 0)) := by rw [← eg_97, va_up_ne _ _ (by decide)]; exact h_87
  have h_112 : g_97 6 = .inl (cs 1, 5, .inl (fun _ => 0)) := by rw [← eg_97, va_up_ne _ _ (by decide)]; exact h_88
  have h_113 : g_97 7 = .inl (cs 1, 8, .inl (fun _ => 0)) := by rw [← eg_97, va_up_ne _ _ (by decide)]; exact h_89
  have h_114 : g_97 8 = .inl (cs 1, 8, .inl (fun _ => 0)) := by rw [← eg_97, va_up_ne _ _ (by decide)]; exact h_90
  have h_115 : g_97 9 = .inl (cs 1, 8, .inl (fun _ => 0)) := by rw [← eg_97, va_up_ne _ _ (by decide)]; exact h_91
  have h_116 : g_97 10 = .inl (cs 1, 8, .inl (fun _ => 0)) := by rw [← eg_97, va_up_ne _ _ (by decide)]; exact h_92
  have h_117 : g_97 11 = .inl (cs 1, 6, .inl (fun _ => 0)) := by rw [← eg_97, va_up_ne _ _ (by decide)]; exact h_93
  have h_118 : g_97 12 = .inl (cs 1, 6, .inl (fun _ => 0)) := by rw [← eg_97, va_up_ne _ _ (by decide)]; exact h_94
  have h_119 : g_97 54 = .inr (0, [.int 0, .ref (ad 55), .ref (ad 56), .ref (ad 57), .ref (ad 63)]) := by rw [← eg_97, va_up_ne _ _ (by decide)]; exact h_95
  have h_120 : g_97 13 = .inr (0, [.int 0, .ref (ad 14), .ref (ad 15), .ref (ad 16), .ref (ad 22)]) := by rw [← eg_97, va_up_ne _ _ (by decide)]; exact h_96
  refine lv_aload_n hx hb dX6_copyFrom_40 rfl (lv_at hl 0 rfl) ?_
  refine lv_aload_n hx hb dX6_copyFrom_41 rfl (lv_at hl 1 rfl) ?_
  refine q_get X iX6_copyFrom_6 hP (by decide) h_100 rfl 5 (by decide) (List.mem_of_getElem? (i := 6) rfl) (v := .int 0) rfl dX6_copyFrom_42 ?_
  refine q_put X iX6_copyFrom_6 tyX6 tyX6_ok nmX6 hP hj hA hS (by decide) h_99 rfl 5 (by decide) (List.mem_of_getElem? (i := 6) rfl) rfl (ty := .int) (v := .int 0) (by decide +kernel) rfl rfl (Nat.le_of_ble_eq_true rfl) dX6_copyFrom_45 (fun H locs hP hS => ?_)
  generalize eg_121 : va_up g_97 44 _ = g_121 at hP
  have hfr_122 : ∀ j, (j < 44 ∨ 44 + 10 < j) → g_121 j = g j := fun j hj => by rw [← eg_121]; exact (va_up_ne _ _ (by omega)).trans (hfr_98 j hj)
  have h_123 : g_121 44 = .inr (6, [.int 0, .int 0, .int 0, .int 0, .int 0, .int 0, .int 0, .int 0, .ref (ad 45), .ref (ad 46), .ref (ad 47), .ref (ad 48), .ref (ad 49), .ref (ad 50), .ref (ad 51), .ref (ad 52), .ref (ad 53), .ref (ad 54)]) := by rw [← eg_121]; exact va_up_self _ _ _
  have h_124 : g_121 3 = .inr (6, [.int 0, .int 0, .int 0, .int 0, .int 0, .int 0, .int 0, .int 0, .ref (ad 4), .ref (ad 5), .ref (ad 6), .ref (ad 7), .ref (ad 8), .ref (ad 9), .ref (ad 10), .ref (ad 11), .ref (ad 12), .ref (ad 13)]) := by rw [← eg_121, va_up_ne _ _ (by decide)]; exact h_100
  have h_125 : g_121 45 = .inl (cs 1, 14, .inl (fun _ => 0)) := by rw [← eg_121, va_up_ne _ _ (by decide)]; exact h_101
  have h_126 : g_121 46 = .inl (cs 3, 14, .inl (fun _ => 0)) := by rw [← eg_121, va_up_ne _ _ (by decide)]; exact h_102
  have h_127 : g_121 47 = .inl (cs 1, 5, .inl (fun _ => 0)) := by rw [← eg_121, va_up_ne _ _ (by decide)]; exact h_103
  have h_128 : g_121 48 = .inl (cs 1, 8, .inl (fun _ => 0)) := by rw [← eg_121, va_up_ne _ _ (by decide)]; exact h_104
  have h_129 : g_121 49 = .inl (cs 1, 8, .inl (fun _ => 0)) := by rw [← eg_121, va_up_ne _ _ (by decide)]; exact h_105
  have h_130 : g_121 50 = .inl (cs 1, 8, .inl (fun _ => 0)) := by rw [← eg_121, va_up_ne _ _ (by decide)]; exact h_106
  have h_131 : g_121 51 = .inl (cs 1, 8, .inl (fun _ => 0)) := by rw [← eg_121, va_up_ne _ _ (by decide)]; exact h_107
  have h_132 : g_121 52 = .inl (cs 1, 6, .inl (fun _ => 0)) := by rw [← eg_121, va_up_ne _ _ (by decide)]; exact h_108
  have h_133 : g_121 53 = .inl (cs 1, 6, .inl (fun _ => 0)) := by rw [← eg_121, va_up_ne _ _ (by decide)]; exact h_109
  have h_134 : g_121 4 = .inl (cs 1, 14, .inl (fun _ => 0)) := by rw [← eg_121, va_up_ne _ _ (by decide)]; exact h_110
  have h_135 : g_121 5 = .inl (cs 3, 14, .inl (fun _ => 0)) := by rw [← eg_121, va_up_ne _ _ (by decide)]; exact h_111
  have h_136 : g_121 6 = .inl (cs 1, 5, .inl (fun _ => 0)) := by rw [← eg_121, va_up_ne _ _ (by decide)]; exact h_112
  have h_137 : g_121 7 = .inl (cs 1, 8, .inl (fun _ => 0)) := by rw [← eg_121, va_up_ne _ _ (by decide)]; exact h_113
  have h_138 : g_121 8 = .inl (cs 1, 8, .inl (fun _ => 0)) := by rw [← eg_121, va_up_ne _ _ (by decide)]; exact h_114
  have h_139 : g_121 9 = .inl (cs 1, 8, .inl (fun _ => 0)) := by rw [← eg_121, va_up_ne _ _ (by decide)]; exact h_115
  have h_140 : g_121 10 = .inl (cs 1, 8, .inl (fun _ => 0)) := by rw [← eg_121, va_up_ne _ _ (by decide)]; exact h_116
  have h_141 : g_121 11 = .inl (cs 1, 6, .inl (fun _ => 0)) := by rw [← eg_121, va_up_ne _ _ (by decide)]; exact h_117
  have h_142 : g_121 12 = .inl (cs 1, 6, .inl (fun _ => 0)) := by rw [← eg_121, va_up_ne _ _ (by decide)]; exact h_118
  have h_143 : g_121 54 = .inr (0, [.int 0, .ref (ad 55), .ref (ad 56), .ref (ad 57), .ref (ad 63)]) := by rw [← eg_121, va_up_ne _ _ (by decide)]; exact h_119
  have h_144 : g_121 13 = .inr (0, [.int 0, .ref (ad 14), .ref (ad 15), .ref (ad 16), .ref (ad 22)]) := by rw [← eg_121, va_up_ne _ _ (by decide)]; exact h_120
  refine lv_aload_n hx hb dX6_copyFrom_48 rfl (lv_at hl 0 rfl) ?_
  refine lv_aload_n hx hb dX6_copyFrom_49 rfl (lv_at hl 1 rfl) ?_
  refine q_get X iX6_copyFrom_6 hP (by decide) h_124 rfl 6 (by decide) (List.mem_of_getElem? (i := 7) rfl) (v := .int 0) rfl dX6_copyFrom_50 ?_
  refine q_put X iX6_copyFrom_6 tyX6 tyX6_ok nmX6 hP hj hA hS (by decide) h_123 rfl 6 (by decide) (List.mem_of_getElem? (i := 7) rfl) rfl (ty := .int) (v := .int 0) (by decide +kernel) rfl rfl (Nat.le_of_ble_eq_true rfl) dX6_copyFrom_53 (fun H locs hP hS => ?_)
  generalize eg_145 : va_up g_121 44 _ = g_145 at hP
  have hfr_146 : ∀ j, (j < 44 ∨ 44 + 10 < j) → g_145 j = g j := fun j hj => by rw [← eg_145]; exact (va_up_ne _ _ (by omega)).trans (hfr_122 j hj)
  have h_147 : g_145 44 = .inr (6, [.int 0, .int 0, .int 0, .int 0, .int 0, .int 0, .int 0, .int 0, .ref (ad 45), .ref (ad 46), .ref (ad 47), .ref (ad 48), .ref (ad 49), .ref (ad 50), .ref (ad 51), .ref (ad 52), .ref (ad 53), .ref (ad 54)]) := by rw [← eg_145]; exact va_up_self _ _ _
  have h_148 : g_145 3 = .inr (6, [.int 0, .int 0, .int 0, .int 0, .int 0, .int 0, .int 0, .int 0, .ref (ad 4), .ref (ad 5), .ref (ad 6), .ref (ad 7), .ref (ad 8), .ref (ad 9), .ref (ad 10), .ref (ad 11), .ref (ad 12), .ref (ad 13)]) := by rw [← eg_145, va_up_ne _ _ (by decide)]; exact h_124
  have h_149 : g_145 45 = .inl (cs 1, 14, .inl (fun _ => 0)) := by rw [← eg_145, va_up_ne _ _ (by decide)]; exact h_125
  have h_150 : g_145 46 = .inl (cs 3, 14, .inl (fun _ => 0)) := by rw [← eg_145, va_up_ne _ _ (by decide)]; exact h_126
  have h_151 : g_145 47 = .inl (cs 1, 5, .inl (fun _ => 0)) := by rw [← eg_145, va_up_ne _ _ (by decide)]; exact h_127
  have h_152 : g_145 48 = .inl (cs 1, 8, .inl (fun _ => 0)) := by rw [← eg_145, va_up_ne _ _ (by decide)]; exact h_128
  have h_153 : g_145 49 = .inl (cs 1, 8, .inl (fun _ => 0)) := by rw [← eg_145, va_up_ne _ _ (by decide)]; exact h_129
  have h_154 : g_145 50 = .inl (cs 1, 8, .inl (fun _ => 0)) := by rw [← eg_145, va_up_ne _ _ (by decide)]; exact h_130
  have h_155 : g_145 51 = .inl (cs 1, 8, .inl (fun _ => 0)) := by rw [← eg_145, va_up_ne _ _ (by decide)]; exact h_131
  have h_156 : g_145 52 = .inl (cs 1, 6, .inl (fun _ => 0)) := by rw [← eg_145, va_up_ne _ _ (by decide)]; exact h_132
  have h_157 : g_145 53 = .inl (cs 1, 6, .inl (fun _ => 0)) := by rw [← eg_145, va_up_ne _ _ (by decide)]; exact h_133
  have h_158 : g_145 4 = .inl (cs 1, 14, .inl (fun _ => 0)) := by rw [← eg_145, va_up_ne _ _ (by decide)]; exact h_134
  have h_159 : g_145 5 = .inl (cs 3, 14, .inl (fun _ => 0)) := by rw [← eg_145, va_up_ne _ _ (by decide)]; exact h_135
  have h_160 : g_145 6 = .inl (cs 1, 5, .inl (fun _ => 0)) := by rw [← eg_145, va_up_ne _ _ (by decide)]; exact h_136
  have h_161 : g_145 7 = .inl (cs 1, 8, .inl (fun _ => 0)) := by rw [← eg_145, va_up_ne _ _ (by decide)]; exact h_137
  have h_162 : g_145 8 = .inl (cs 1, 8, .inl (fun _ => 0)) := by rw [← eg_145, va_up_ne _ _ (by decide)]; exact h_138
  have h_163 : g_145 9 = .inl (cs 1, 8, .inl (fun _ => 0)) := by rw [← eg_145, va_up_ne _ _ (by decide)]; exact h_139
  have h_164 : g_145 10 = .inl (cs 1, 8, .inl (fun _ => 0)) := by rw [← eg_145, va_up_ne _ _ (by decide)]; exact h_140
  have h_165 : g_145 11 = .inl (cs 1, 6, .inl (fun _ => 0)) := by rw [← eg_145, va_up_ne _ _ (by decide)]; exact h_141
  have h_166 : g_145 12 = .inl (cs 1, 6, .inl (fun _ => 0)) := by rw [← eg_145, va_up_ne _ _ (by decide)]; exact h_142
  have h_167 : g_145 54 = .inr (0, [.int 0, .ref (ad 55), .ref (ad 56), .ref (ad 57), .ref (ad 63)]) := by rw [← eg_145, va_up_ne _ _ (by decide)]; exact h_143
  have h_168 : g_145 13 = .inr (0, [.int 0, .ref (ad 14), .ref (ad 15), .ref (ad 16), .ref (ad 22)]) := by rw [← eg_145, va_up_ne _ _ (by decide)]; exact h_144
  refine lv_aload_n hx hb dX6_copyFrom_56 rfl (lv_at hl 0 rfl) ?_
  refine lv_aload_n hx hb dX6_copyFrom_57 rfl (lv_at hl 1 rfl) ?_
  refine q_get X iX6_copyFrom_6 hP (by decide) h_148 rfl 7 (by decide) (List.mem_of_getElem? (i := 8) rfl) (v := .int 0) rfl dX6_copyFrom_58 ?_
  refine q_put X iX6_copyFrom_6 tyX6 tyX6_ok nmX6 hP hj hA hS (by decide) h_147 rfl 7 (by decide) (List.mem_of_getElem? (i := 8) rfl) rfl (ty := .int) (v := .int 0) (by decide +kernel) rfl rfl (Nat.le_of_ble_eq_true rfl) dX6_copyFrom_61 (fun H locs hP hS => ?_)
  generalize eg_169 : va_up g_145 44 _ = g_169 at hP
  have hfr_170 : ∀ j, (j < 44 ∨ 44 + 10 < j) → g_169 j = g j := fun j hj => by rw [← eg_169]; exact (va_up_ne _ _ (by omega)).trans (hfr_146 j hj)
  have h_171 : g_169 44 = .inr (6, [.int 0, .int 0, .int 0, .int 0, .int 0, .int 0, .int 0, .int 0, .ref (ad 45), .ref (ad 46), .ref (ad 47), .ref (ad 48), .ref (ad 49), .ref (ad 50), .ref (ad 51), .ref (ad 52), .ref (ad 53), .ref (ad 54)]) := by rw [← eg_169]; exact va_up_self _ _ _
  have h_172 : g_169 3 = .inr (6, [.int 0, .int 0, .int 0, .int 0, .int 0, .int 0, .int 0, .int 0, .ref (ad 4), .ref (ad 5), .ref (ad 6), .ref (ad 7), .ref (ad 8), .ref (ad 9), .ref (ad 10), .ref (ad 11), .ref (ad 12), .ref (ad 13)]) := by rw [← eg_169, va_up_ne _ _ (by decide)]; exact h_148
  have h_173 : g_169 45 = .inl (cs 1, 14, .inl (fun _ => 0)) := by rw [← eg_169, va_up_ne _ _ (by decide)]; exact h_149
  have h_174 : g_169 46 = .inl (cs 3, 14, .inl (fun _ => 0)) := by rw [← eg_169, va_up_ne _ _ (by decide)]; exact h_150
  have h_175 : g_169 47 = .inl (cs 1, 5, .inl (fun _ => 0)) := by rw [← eg_169, va_up_ne _ _ (by decide)]; exact h_151
  have h_176 : g_169 48 = .inl (cs 1, 8, .inl (fun _ => 0)) := by rw [← eg_169, va_up_ne _ _ (by decide)]; exact h_152
  have h_177 : g_169 49 = .inl (cs 1, 8, .inl (fun _ => 0)) := by rw [← eg_169, va_up_ne _ _ (by decide)]; exact h_153
  have h_178 : g_169 50 = .inl (cs 1, 8, .inl (fun _ => 0)) := by rw [← eg_169, va_up_ne _ _ (by decide)]; exact h_154
  have h_179 : g_169 51 = .inl (cs 1, 8, .inl (fun _ => 0)) := by rw [← eg_169, va_up_ne _ _ (by decide)]; exact h_155
  have h_180 : g_169 52 = .inl (cs 1, 6, .inl (fun _ => 0)) := by rw [← eg_169, va_up_ne _ _ (by decide)]; exact h_156
  have h_181 : g_169 53 = .inl (cs 1, 6, .inl (fun _ => 0)) := by rw [← eg_169, va_up_ne _ _ (by decide)]; exact h_157
  have h_182 : g_169 4 = .inl (cs 1, 14, .inl (fun _ => 0)) := by rw [← eg_169, va_up_ne _ _ (by decide)]; exact h_158
  have h_183 : g_169 5 = .inl (cs 3, 14, .inl (fun _ => 0)) := by rw [← eg_169, va_up_ne _ _ (by decide)]; exact h_159
  have h_184 : g_169 6 = .inl (cs 1, 5, .inl (fun _ => 0)) := by rw [← eg_169, va_up_ne _ _ (by decide)]; exact h_160
  have h_185 : g_169 7 = .inl (cs 1, 8, .inl (fun _ => 0)) := by rw [← eg_169, va_up_ne _ _ (by decide)]; exact h_161
  have h_186 : g_169 8 = .inl (cs 1, 8, .inl (fun _ => 0)) := by rw [← eg_169, va_up_ne _ _ (by decide)]; exact h_162
  have h_187 : g_169 9 = .inl (cs 1, 8, .inl (fun _ => 0)) := by rw [← eg_169, va_up_ne _ _ (by decide)]; exact h_163
  have h_188 : g_169 10 = .inl (cs 1, 8, .inl (fun _ => 0)) := by rw [← eg_169, va_up_ne _ _ (by decide)]; exact h_164
  have h_189 : g_169 11 = .inl (cs 1, 6, .inl (fun _ => 0)) := by rw [← eg_169, va_up_ne _ _ (by decide)]; exact h_165
  have h_190 : g_169 12 = .inl (cs 1, 6, .inl (fun _ => 0)) := by rw [← eg_169, va_up_ne _ _ (by decide)]; exact h_166
  have h_191 : g_169 54 = .inr (0, [.int 0, .ref (ad 55), .ref (ad 56), .ref (ad 57), .ref (ad 63)]) := by rw [← eg_169, va_up_ne _ _ (by decide)]; exact h_167
  have h_192 : g_169 13 = .inr (0, [.int 0, .ref (ad 14), .ref (ad 15), .ref (ad 16), .ref (ad 22)]) := by rw [← eg_169, va_up_ne _ _ (by decide)]; exact h_168
  refine lv_aload_n hx hb dX6_copyFrom_64 rfl (lv_at hl 1 rfl) ?_
  refine q_get X iX6_copyFrom_6 hP (by decide) h_172 rfl 8 (by decide) (List.mem_of_getElem? (i := 9) rfl) (v := .ref (ad 4)) rfl dX6_copyFrom_65 ?_
  refine lv_iconst (v := 0) hx hb dX6_copyFrom_68 (by decide) ?_
  refine lv_aload_n hx hb dX6_copyFrom_69 rfl (lv_at hl 0 rfl) ?_
  refine q_get X iX6_copyFrom_6 hP (by decide) h_171 rfl 8 (by decide) (List.mem_of_getElem? (i := 9) rfl) (v := .ref (ad 45)) rfl dX6_copyFrom_70 ?_
  refine lv_iconst (v := 0) hx hb dX6_copyFrom_73 (by decide) ?_
  refine lv_bipush (v := 14) hx hb dX6_copyFrom_74 (by decide) ?_
  refine q_copyi X hl.1 (List.mem_of_getElem? (i := 10) rfl) (List.mem_of_getElem? (i := 11) rfl) (List.mem_of_getElem? (i := 12) rfl) (List.mem_of_getElem? (i := 13) rfl) hP hj hA hS 1 rfl rfl (by decide) (by decide) h_182 h_173 (by decide) (by decide) (by decide) (by decide) (by decide) (fun _ _ => rfl) (Nat.le_of_ble_eq_true rfl) (Nat.le_of_ble_eq_true rfl) dX6_copyFrom_76 (fun H locs hP hS => ?_)
  generalize eg_193 : va_up g_169 45 _ = g_193 at hP
  have hfr_195 : ∀ j, (j < 44 ∨ 44 + 10 < j) → g_193 j = g j := fun j hj => by rw [← eg_193]; exact (va_up_ne _ _ (by omega)).trans (hfr_170 j hj)
  have h_196 : g_193 44 = .inr (6, [.int 0, .int 0, .int 0, .int 0, .int 0, .int 0, .int 0, .int 0, .ref (ad 45), .ref (ad 46), .ref (ad 47), .ref (ad 48), .ref (ad 49), .ref (ad 50), .ref (ad 51), .ref (ad 52), .ref (ad 53), .ref (ad 54)]) := by rw [← eg_193, va_up_ne _ _ (by decide)]; exact h_171
  have h_197 : g_193 3 = .inr (6, [.int 0, .int 0, .int 0, .int 0, .int 0, .int 0, .int 0, .int 0, .ref (ad 4), .ref (ad 5), .ref (ad 6), .ref (ad 7), .ref (ad 8), .ref (ad 9), .ref (ad 10), .ref (ad 11), .ref (ad 12), .ref (ad 13)]) := by rw [← eg_193, va_up_ne _ _ (by decide)]; exact h_172
  obtain ⟨f_194, h_198⟩ : ∃ f, g_193 45 = .inl (cs 1, 14, .inl f) := ⟨_, by rw [← eg_193]; exact va_up_self _ _ _⟩
  have h_199 : g_193 46 = .inl (cs 3, 14, .inl (fun _ => 0)) := by rw [← eg_193, va_up_ne _ _ (by decide)]; exact h_174
  have h_200 : g_193 47 = .inl (cs 1, 5, .inl (fun _ => 0)) := by rw [← eg_193, va_up_ne _ _ (by decide)]; exact h_175
  have h_201 : g_193 48 = .inl (cs 1, 8, .inl (fun _ => 0)) := by rw [← eg_193, va_up_ne _ _ (by decide)]; exact h_176
  have h_202 : g_193 49 = .inl (cs 1, 8, .inl (fun _ => 0)) := by rw [← eg_193, va_up_ne _ _ (by decide)]; exact h_177
  have h_203 : g_193 50 = .inl (cs 1, 8, .inl (fun _ => 0)) := by rw [← eg_193, va_up_ne _ _ (by decide)]; exact h_178
  have h_204 : g_193 51 = .inl (cs 1, 8, .inl (fun _ => 0)) := by rw [← eg_193, va_up_ne _ _ (by decide)]; exact h_179
  have h_205 : g_193 52 = .inl (cs 1, 6, .inl (fun _ => 0)) := by rw [← eg_193, va_up_ne _ _ (by decide)]; exact h_180
  have h_206 : g_193 53 = .inl (cs 1, 6, .inl (fun _ => 0)) := by rw [← eg_193, va_up_ne _ _ (by decide)]; exact h_181
  have h_207 : g_193 4 = .inl (cs 1, 14, .inl (fun _ => 0)) := by rw [← eg_193, va_up_ne _ _ (by decide)]; exact h_182
  have h_208 : g_193 5 = .inl (cs 3, 14, .inl (fun _ => 0)) := by rw [← eg_193, va_up_ne _ _ (by decide)]; exact h_183
  have h_209 : g_193 6 = .inl (cs 1, 5, .inl (fun _ => 0)) := by rw [← eg_193, va_up_ne _ _ (by decide)]; exact h_184
  have h_210 : g_193 7 = .inl (cs 1, 8, .inl (fun _ => 0)) := by rw [← eg_193, va_up_ne _ _ (by decide)]; exact h_185
  have h_211 : g_193 8 = .inl (cs 1, 8, .inl (fun _ => 0)) := by rw [← eg_193, va_up_ne _ _ (by decide)]; exact h_186
  have h_212 : g_193 9 = .inl (cs 1, 8, .inl (fun _ => 0)) := by rw [← eg_193, va_up_ne _ _ (by decide)]; exact h_187
  have h_213 : g_193 10 = .inl (cs 1, 8, .inl (fun _ => 0)) := by rw [← eg_193, va_up_ne _ _ (by decide)]; exact h_188
  have h_214 : g_193 11 = .inl (cs 1, 6, .inl (fun _ => 0)) := by rw [← eg_193, va_up_ne _ _ (by decide)]; exact h_189
  have h_215 : g_193 12 = .inl (cs 1, 6, .inl (fun _ => 0)) := by rw [← eg_193, va_up_ne _ _ (by decide)]; exact h_190
  have h_216 : g_193 54 = .inr (0, [.int 0, .ref (ad 55), .ref (ad 56), .ref (ad 57), .ref (ad 63)]) := by rw [← eg_193, va_up_ne _ _ (by decide)]; exact h_191
  have h_217 : g_193 13 = .inr (0, [.int 0, .ref (ad 14), .ref (ad 15), .ref (ad 16), .ref (ad 22)]) := by rw [← eg_193, va_up_ne _ _ (by decide)]; exact h_192
  refine lv_iconst (v := 0) hx hb dX6_copyFrom_79 (by decide) ?_
  refine lv_istore_n (lv' := [(2, .int 0), (0, .ref (ad 44)), (1, .ref (ad 3))]) hx hb dX6_copyFrom_80 rfl hl (by decide) rfl (fun ls hl => ?_)
  have HL81 : ∀ (d81 k81 : Nat) (f81_46 : Nat → Int32) (G81 : Nat → va_E) (H : Heap) (locs : List Loc) (ls : Array Slot), k81 + d81 = 14 → (∀ j, (j < 44 ∨ 44 + 10 < j) → G81 j = g j) → G81 44 = .inr (6, [.int 0, .int 0, .int 0, .int 0, .int 0, .int 0, .int 0, .int 0, .ref (ad 45), .ref (ad 46), .ref (ad 47), .ref (ad 48), .ref (ad 49), .ref (ad 50), .ref (ad 51), .ref (ad 52), .ref (ad 53), .ref (ad 54)]) → G81 3 = .inr (6, [.int 0, .int 0, .int 0, .int 0, .int 0, .int 0, .int 0, .int 0, .ref (ad 4), .ref (ad 5), .ref (ad 6), .ref (ad 7), .ref (ad 8), .ref (ad 9), .ref (ad 10), .ref (ad 11), .ref (ad 12), .ref (ad 13)]) → G81 45 = .inl (cs 1, 14, .inl f_194) → G81 46 = .inl (cs 3, 14, .inl f81_46) → G81 47 = .inl (cs 1, 5, .inl (fun _ => 0)) → G81 48 = .inl (cs 1, 8, .inl (fun _ => 0)) → G81 49 = .inl (cs 1, 8, .inl (fun _ => 0)) → G81 50 = .inl (cs 1, 8, .inl (fun _ => 0)) → G81 51 = .inl (cs 1, 8, .inl (fun _ => 0)) → G81 52 = .inl (cs 1, 6, .inl (fun _ => 0)) → G81 53 = .inl (cs 1, 6, .inl (fun _ => 0)) → G81 4 = .inl (cs 1, 14, .inl (fun _ => 0)) → G81 5 = .inl (cs 3, 14, .inl (fun _ => 0)) → G81 6 = .inl (cs 1, 5, .inl (fun _ => 0)) → G81 7 = .inl (cs 1, 8, .inl (fun _ => 0)) → G81 8 = .inl (cs 1, 8, .inl (fun _ => 0)) → G81 9 = .inl (cs 1, 8, .inl (fun _ => 0)) → G81 10 = .inl (cs 1, 8, .inl (fun _ => 0)) → G81 11 = .inl (cs 1, 6, .inl (fun _ => 0)) → G81 12 = .inl (cs 1, 6, .inl (fun _ => 0)) → G81 54 = .inr (0, [.int 0, .ref (ad 55), .ref (ad 56), .ref (ad 57), .ref (ad 63)]) → G81 13 = .inr (0, [.int 0, .ref (ad 14), .ref (ad 15), .ref (ad 16), .ref (ad 22)]) → va_P D vwCl (wL ad G81 nW) H → va_S (wA ad nW) s.heap H locs → lv_has ls 3 [(2, .int (nI k81)), (0, .ref (ad 44)), (1, .ref (ad 3))] → W p l e ({ frames := 2, cells := 0, slots := 0, locals := 43 } : Room) s m ([.ref (ad 44), .ref (ad 3)] : List Value).toArray below meth c H locs 0 0 (MQ below (qV D ad nW (fun g2 => g2 44 = .inr (6, [.int 0, .int 0, .int 0, .int 0, .int 0, .int 0, .int 0, .int 0, .ref (ad 45), .ref (ad 46), .ref (ad 47), .ref (ad 48), .ref (ad 49), .ref (ad 50), .ref (ad 51), .ref (ad 52), .ref (ad 53), .ref (ad 54)]) ∧ ∀ j, (j < 44 ∨ 44 + 10 < j) → g2 j = g j)) ([.ref (ad 44), .ref (ad 3)] : List Value).toArray s 0 0 (wA ad nW)) (F0 m 81 ls []) := by
    intro d81
    induction d81 with
    | zero =>
      intro k81 f81_46 G81 H locs ls hk81 hfr81 h81_44 h81_3 h81_45 h81_46 h81_47 h81_48 h81_49 h81_50 h81_51 h81_52 h81_53 h81_4 h81_5 h81_6 h81_7 h81_8 h81_9 h81_10 h81_11 h81_12 h81_54 h81_13 hP hS hl
      obtain rfl : k81 = 14 := by omega
      refine lv_iload_n hx hb dX6_copyFrom_81 rfl (lv_at hl 0 rfl) ?_
      refine lv_bipush (v := 14) hx hb dX6_copyFrom_82 (by decide) ?_
      refine lv_icmp_ge (tgt := 105) hx hb dX6_copyFrom_84 (by decide) (fun _ => ?_) (fun h => absurd h (by decide))
      refine lv_aload_n hx hb dX6_copyFrom_105 rfl (lv_at hl 2 rfl) ?_
      refine q_get X iX6_copyFrom_6 hP (by decide) h81_3 rfl 10 (by decide) (List.mem_of_getElem? (i := 14) rfl) (v := .ref (ad 6)) rfl dX6_copyFrom_106 ?_
      refine lv_iconst (v := 0) hx hb dX6_copyFrom_109 (by decide) ?_
      refine lv_aload_n hx hb dX6_copyFrom_110 rfl (lv_at hl 1 rfl) ?_
      refine q_get X iX6_copyFrom_6 hP (by decide) h81_44 rfl 10 (by decide) (List.mem_of_getElem? (i := 14) rfl) (v := .ref (ad 47)) rfl dX6_copyFrom_111 ?_
      refine lv_iconst (v := 0) hx hb dX6_copyFrom_114 (by decide) ?_
      refine lv_iconst (v := 5) hx hb dX6_copyFrom_115 (by decide) ?_
      refine q_copyi X hl.1 (List.mem_of_getElem? (i := 10) rfl) (List.mem_of_getElem? (i := 11) rfl) (List.mem_of_getElem? (i := 12) rfl) (List.mem_of_getElem? (i := 13) rfl) hP hj hA hS 1 rfl rfl (by decide) (by decide) h81_6 h81_47 (by decide) (by decide) (by decide) (by decide) (by decide) (fun _ _ => rfl) (Nat.le_of_ble_eq_true rfl) (Nat.le_of_ble_eq_true rfl) dX6_copyFrom_116 (fun H locs hP hS => ?_)
      generalize eg_218 : va_up G81 47 _ = g_218 at hP
      have hfr_220 : ∀ j, (j < 44 ∨ 44 + 10 < j) → g_218 j = g j := fun j hj => by rw [← eg_218]; exact (va_up_ne _ _ (by omega)).trans (hfr81 j hj)
      have h_221 : g_218 44 = .inr (6, [.int 0, .int 0, .int 0, .int 0, .int 0, .int 0, .int 0, .int 0, .ref (ad 45), .ref (ad 46), .ref (ad 47), .ref (ad 48), .ref (ad 49), .ref (ad 50), .ref (ad 51), .ref (ad 52), .ref (ad 53), .ref (ad 54)]) := by rw [← eg_218, va_up_ne _ _ (by decide)]; exact h81_44
      have h_222 : g_218 3 = .inr (6, [.int 0, .int 0, .int 0, .int 0, .int 0, .int 0, .int 0, .int 0, .ref (ad 4), .ref (ad 5), .ref (ad 6), .ref (ad 7), .ref (ad 8), .ref (ad 9), .ref (ad 10), .ref (ad 11), .ref (ad 12), .ref (ad 13)]) := by rw [← eg_218, va_up_ne _ _ (by decide)]; exact h81_3
      have h_223 : g_218 45 = .inl (cs 1, 14, .inl f_194) := by rw [← eg_218, va_up_ne _ _ (by decide)]; exact h81_45
      have h_224 : g_218 46 = .inl (cs 3, 14, .inl f81_46) := by rw [← eg_218, va_up_ne _ _ (by decide)]; exact h81_46
      obtain ⟨f_219, h_225⟩ : ∃ f, g_218 47 = .inl (cs 1, 5, .inl f) := ⟨_, by rw [← eg_218]; exact va_up_self _ _ _⟩
      have h_226 : g_218 48 = .inl (cs 1, 8, .inl (fun _ => 0)) := by rw [← eg_218, va_up_ne _ _ (by decide)]; exact h81_48
      have h_227 : g_218 49 = .inl (cs 1, 8, .inl (fun _ => 0)) := by rw [← eg_218, va_up_ne _ _ (by decide)]; exact h81_49
      have h_228 : g_218 50 = .inl (cs 1, 8, .inl (fun _ => 0)) := by rw [← eg_218, va_up_ne _ _ (by decide)]; exact h81_50
      have h_229 : g_218 51 = .inl (cs 1, 8, .inl (fun _ => 0)) := by rw [← eg_218, va_up_ne _ _ (by decide)]; exact h81_51
      have h_230 : g_218 52 = .inl (cs 1, 6, .inl (fun _ => 0)) := by rw [← eg_218, va_up_ne _ _ (by decide)]; exact h81_52
      have h_231 : g_218 53 = .inl (cs 1, 6, .inl (fun _ => 0)) := by rw [← eg_218, va_up_ne _ _ (by decide)]; exact h81_53
      have h_232 : g_218 4 = .inl (cs 1, 14, .inl (fun _ => 0)) := by rw [← eg_218, va_up_ne _ _ (by decide)]; exact h81_4
      have h_233 : g_218 5 = .inl (cs 3, 14, .inl (fun _ => 0)) := by rw [← eg_218, va_up_ne _ _ (by decide)]; exact h81_5
      have h_234 : g_218 6 = .inl (cs 1, 5, .inl (fun _ => 0)) := by rw [← eg_218, va_up_ne _ _ (by decide)]; exact h81_6
      have h_235 : g_218 7 = .inl (cs 1, 8, .inl (fun _ => 0)) := by rw [← eg_218, va_up_ne _ _ (by decide)]; exact h81_7
      have h_236 : g_218 8 = .inl (cs 1, 8, .inl (fun _ => 0)) := by rw [← eg_218, va_up_ne _ _ (by decide)]; exact h81_8
      have h_237 : g_218 9 = .inl (cs 1, 8, .inl (fun _ => 0)) := by rw [← eg_218, va_up_ne _ _ (by decide)]; exact h81_9
      have h_238 : g_218 10 = .inl (cs 1, 8, .inl (fun _ => 0)) := by rw [← eg_218, va_up_ne _ _ (by decide)]; exact h81_10
      have h_239 : g_218 11 = .inl (cs 1, 6, .inl (fun _ => 0)) := by rw [← eg_218, va_up_ne _ _ (by decide)]; exact h81_11
      have h_240 : g_218 12 = .inl (cs 1, 6, .inl (fun _ => 0)) := by rw [← eg_218, va_up_ne _ _ (by decide)]; exact h81_12
      have h_241 : g_218 54 = .inr (0, [.int 0, .ref (ad 55), .ref (ad 56), .ref (ad 57), .ref (ad 63)]) := by rw [← eg_218, va_up_ne _ _ (by decide)]; exact h81_54
      have h_242 : g_218 13 = .inr (0, [.int 0, .ref (ad 14), .ref (ad 15), .ref (ad 16), .ref (ad 22)]) := by rw [← eg_218, va_up_ne _ _ (by decide)]; exact h81_13
      refine lv_aload_n hx hb dX6_copyFrom_119 rfl (lv_at hl 2 rfl) ?_
      refine q_get X iX6_copyFrom_6 hP (by decide) h_222 rfl 11 (by decide) (List.mem_of_getElem? (i := 15) rfl) (v := .ref (ad 7)) rfl dX6_copyFrom_120 ?_
      refine lv_iconst (v := 0) hx hb dX6_copyFrom_123 (by decide) ?_
      refine lv_aload_n hx hb dX6_copyFrom_124 rfl (lv_at hl 1 rfl) ?_
      refine q_get X iX6_copyFrom_6 hP (by decide) h_221 rfl 11 (by decide) (List.mem_of_getElem? (i := 15) rfl) (v := .ref (ad 48)) rfl dX6_copyFrom_125 ?_
      refine lv_iconst (v := 0) hx hb dX6_copyFrom_128 (by decide) ?_
      refine lv_bipush (v := 8) hx hb dX6_copyFrom_129 (by decide) ?_
      refine q_copyi X hl.1 (List.mem_of_getElem? (i := 10) rfl) (List.mem_of_getElem? (i := 11) rfl) (List.mem_of_getElem? (i := 12) rfl) (List.mem_of_getElem? (i := 13) rfl) hP hj hA hS 1 rfl rfl (by decide) (by decide) h_235 h_226 (by decide) (by decide) (by decide) (by decide) (by decide) (fun _ _ => rfl) (Nat.le_of_ble_eq_true rfl) (Nat.le_of_ble_eq_true rfl) dX6_copyFrom_131 (fun H locs hP hS => ?_)
      generalize eg_243 : va_up g_218 48 _ = g_243 at hP
      have hfr_245 : ∀ j, (j < 44 ∨ 44 + 10 < j) → g_243 j = g j := fun j hj => by rw [← eg_243]; exact (va_up_ne _ _ (by omega)).trans (hfr_220 j hj)
      have h_246 : g_243 44 = .inr (6, [.int 0, .int 0, .int 0, .int 0, .int 0, .int 0, .int 0, .int 0, .ref (ad 45), .ref (ad 46), .ref (ad 47), .ref (ad 48), .ref (ad 49), .ref (ad 50), .ref (ad 51), .ref (ad 52), .ref (ad 53), .ref (ad 54)]) := by rw [← eg_243, va_up_ne _ _ (by decide)]; exact h_221
      have h_247 : g_243 3 = .inr (6, [.int 0, .int 0, .int 0, .int 0, .int 0, .int 0, .int 0, .int 0, .ref (ad 4), .ref (ad 5), .ref (ad 6), .ref (ad 7), .ref (ad 8), .ref (ad 9), .ref (ad 10), .ref (ad 11), .ref (ad 12), .ref (ad 13)]) := by rw [← eg_243, va_up_ne _ _ (by decide)]; exact h_222
      have h_248 : g_243 45 = .inl (cs 1, 14, .inl f_194) := by rw [← eg_243, va_up_ne _ _ (by decide)]; exact h_223
      have h_249 : g_243 46 = .inl (cs 3, 14, .inl f81_46) := by rw [← eg_243, va_up_ne _ _ (by decide)]; exact h_224
      have h_250 : g_243 47 = .inl (cs 1, 5, .inl f_219) := by rw [← eg_243, va_up_ne _ _ (by decide)]; exact h_225
      obtain ⟨f_244, h_251⟩ : ∃ f, g_243 48 = .inl (cs 1, 8, .inl f) := ⟨_, by rw [← eg_243]; exact va_up_self _ _ _⟩
      have h_252 : g_243 49 = .inl (cs 1, 8, .inl (fun _ => 0)) := by rw [← eg_243, va_up_ne _ _ (by decide)]; exact h_227
      have h_253 : g_243 50 = .inl (cs 1, 8, .inl (fun _ => 0)) := by rw [← eg_243, va_up_ne _ _ (by decide)]; exact h_228
      have h_254 : g_243 51 = .inl (cs 1, 8, .inl (fun _ => 0)) := by rw [← eg_243, va_up_ne _ _ (by decide)]; exact h_229
      have h_255 : g_243 52 = .inl (cs 1, 6, .inl (fun _ => 0)) := by rw [← eg_243, va_up_ne _ _ (by decide)]; exact h_230
      have h_256 : g_243 53 = .inl (cs 1, 6, .inl (fun _ => 0)) := by rw [← eg_243, va_up_ne _ _ (by decide)]; exact h_231
      have h_257 : g_243 4 = .inl (cs 1, 14, .inl (fun _ => 0)) := by rw [← eg_243, va_up_ne _ _ (by decide)]; exact h_232
      have h_258 : g_243 5 = .inl (cs 3, 14, .inl (fun _ => 0)) := by rw [← eg_243, va_up_ne _ _ (by decide)]; exact h_233
      have h_259 : g_243 6 = .inl (cs 1, 5, .inl (fun _ => 0)) := by rw [← eg_243, va_up_ne _ _ (by decide)]; exact h_234
      have h_260 : g_243 7 = .inl (cs 1, 8, .inl (fun _ => 0)) := by rw [← eg_243, va_up_ne _ _ (by decide)]; exact h_235
      have h_261 : g_243 8 = .inl (cs 1, 8, .inl (fun _ => 0)) := by rw [← eg_243, va_up_ne _ _ (by decide)]; exact h_236
      have h_262 : g_243 9 = .inl (cs 1, 8, .inl (fun _ => 0)) := by rw [← eg_243, va_up_ne _ _ (by decide)]; exact h_237
      have h_263 : g_243 10 = .inl (cs 1, 8, .inl (fun _ => 0)) := by rw [← eg_243, va_up_ne _ _ (by decide)]; exact h_238
      have h_264 : g_243 11 = .inl (cs 1, 6, .inl (fun _ => 0)) := by rw [← eg_243, va_up_ne _ _ (by decide)]; exact h_239
      have h_265 : g_243 12 = .inl (cs 1, 6, .inl (fun _ => 0)) := by rw [← eg_243, va_up_ne _ _ (by decide)]; exact h_240
      have h_266 : g_243 54 = .inr (0, [.int 0, .ref (ad 55), .ref (ad 56), .ref (ad 57), .ref (ad 63)]) := by rw [← eg_243, va_up_ne _ _ (by decide)]; exact h_241
      have h_267 : g_243 13 = .inr (0, [.int 0, .ref (ad 14), .ref (ad 15), .ref (ad 16), .ref (ad 22)]) := by rw [← eg_243, va_up_ne _ _ (by decide)]; exact h_242
      refine lv_aload_n hx hb dX6_copyFrom_134 rfl (lv_at hl 2 rfl) ?_
      refine q_get X iX6_copyFrom_6 hP (by decide) h_247 rfl 12 (by decide) (List.mem_of_getElem? (i := 16) rfl) (v := .ref (ad 8)) rfl dX6_copyFrom_135 ?_
      refine lv_iconst (v := 0) hx hb dX6_copyFrom_138 (by decide) ?_
      refine lv_aload_n hx hb dX6_copyFrom_139 rfl (lv_at hl 1 rfl) ?_
      refine q_get X iX6_copyFrom_6 hP (by decide) h_246 rfl 12 (by decide) (List.mem_of_getElem? (i := 16) rfl) (v := .ref (ad 49)) rfl dX6_copyFrom_140 ?_
      refine lv_iconst (v := 0) hx hb dX6_copyFrom_143 (by decide) ?_
      refine lv_bipush (v := 8) hx hb dX6_copyFrom_144 (by decide) ?_
      refine q_copyi X hl.1 (List.mem_of_getElem? (i := 10) rfl) (List.mem_of_getElem? (i := 11) rfl) (List.mem_of_getElem? (i := 12) rfl) (List.mem_of_getElem? (i := 13) rfl) hP hj hA hS 1 rfl rfl (by decide) (by decide) h_261 h_252 (by decide) (by decide) (by decide) (by decide) (by decide) (fun _ _ => rfl) (Nat.le_of_ble_eq_true rfl) (Nat.le_of_ble_eq_true rfl) dX6_copyFrom_146 (fun H locs hP hS => ?_)
      generalize eg_268 : va_up g_243 49 _ = g_268 at hP
      have hfr_270 : ∀ j, (j < 44 ∨ 44 + 10 < j) → g_268 j = g j := fun j hj => by rw [← eg_268]; exact (va_up_ne _ _ (by omega)).trans (hfr_245 j hj)
      have h_271 : g_268 44 = .inr (6, [.int 0, .int 0, .int 0, .int 0, .int 0, .int 0, .int 0, .int 0, .ref (ad 45), .ref (ad 46), .ref (ad 47), .ref (ad 48), .ref (ad 49), .ref (ad 50), .ref (ad 51), .ref (ad 52), .ref (ad 53), .ref (ad 54)]) := by rw [← eg_268, va_up_ne _ _ (by decide)]; exact h_246
      have h_272 : g_268 3 = .inr (6, [.int 0, .int 0, .int 0, .int 0, .int 0, .int 0, .int 0, .int 0, .ref (ad 4), .ref (ad 5), .ref (ad 6), .ref (ad 7), .ref (ad 8), .ref (ad 9), .ref (ad 10), .ref (ad 11), .ref (ad 12), .ref (ad 13)]) := by rw [← eg_268, va_up_ne _ _ (by decide)]; exact h_247
      have h_273 : g_268 45 = .inl (cs 1, 14, .inl f_194) := by rw [← eg_268, va_up_ne _ _ (by decide)]; exact h_248
      have h_274 : g_268 46 = .inl (cs 3, 14, .inl f81_46) := by rw [← eg_268, va_up_ne _ _ (by decide)]; exact h_249
      have h_275 : g_268 47 = .inl (cs 1, 5, .inl f_219) := by rw [← eg_268, va_up_ne _ _ (by decide)]; exact h_250
      have h_276 : g_268 48 = .inl (cs 1, 8, .inl f_244) := by rw [← eg_268, va_up_ne _ _ (by decide)]; exact h_251
      obtain ⟨f_269, h_277⟩ : ∃ f, g_268 49 = .inl (cs 1, 8, .inl f) := ⟨_, by rw [← eg_268]; exact va_up_self _ _ _⟩
      have h_278 : g_268 50 = .inl (cs 1, 8, .inl (fun _ => 0)) := by rw [← eg_268, va_up_ne _ _ (by decide)]; exact h_253
      have h_279 : g_268 51 = .inl (cs 1, 8, .inl (fun _ => 0)) := by rw [← eg_268, va_up_ne _ _ (by decide)]; exact h_254
      have h_280 : g_268 52 = .inl (cs 1, 6, .inl (fun _ => 0)) := by rw [← eg_268, va_up_ne _ _ (by decide)]; exact h_255
      have h_281 : g_268 53 = .inl (cs 1, 6, .inl (fun _ => 0)) := by rw [← eg_268, va_up_ne _ _ (by decide)]; exact h_256
      have h_282 : g_268 4 = .inl (cs 1, 14, .inl (fun _ => 0)) := by rw [← eg_268, va_up_ne _ _ (by decide)]; exact h_257
      have h_283 : g_268 5 = .inl (cs 3, 14, .inl (fun _ => 0)) := by rw [← eg_268, va_up_ne _ _ (by decide)]; exact h_258
      have h_284 : g_268 6 = .inl (cs 1, 5, .inl (fun _ => 0)) := by rw [← eg_268, va_up_ne _ _ (by decide)]; exact h_259
      have h_285 : g_268 7 = .inl (cs 1, 8, .inl (fun _ => 0)) := by rw [← eg_268, va_up_ne _ _ (by decide)]; exact h_260
      have h_286 : g_268 8 = .inl (cs 1, 8, .inl (fun _ => 0)) := by rw [← eg_268, va_up_ne _ _ (by decide)]; exact h_261
      have h_287 : g_268 9 = .inl (cs 1, 8, .inl (fun _ => 0)) := by rw [← eg_268, va_up_ne _ _ (by decide)]; exact h_262
      have h_288 : g_268 10 = .inl (cs 1, 8, .inl (fun _ => 0)) := by rw [← eg_268, va_up_ne _ _ (by decide)]; exact h_263
      have h_289 : g_268 11 = .inl (cs 1, 6, .inl (fun _ => 0)) := by rw [← eg_268, va_up_ne _ _ (by decide)]; exact h_264
      have h_290 : g_268 12 = .inl (cs 1, 6, .inl (fun _ => 0)) := by rw [← eg_268, va_up_ne _ _ (by decide)]; exact h_265
      have h_291 : g_268 54 = .inr (0, [.int 0, .ref (ad 55), .ref (ad 56), .ref (ad 57), .ref (ad 63)]) := by rw [← eg_268, va_up_ne _ _ (by decide)]; exact h_266
      have h_292 : g_268 13 = .inr (0, [.int 0, .ref (ad 14), .ref (ad 15), .ref (ad 16), .ref (ad 22)]) := by rw [← eg_268, va_up_ne _ _ (by decide)]; exact h_267
      refine lv_aload_n hx hb dX6_copyFrom_149 rfl (lv_at hl 2 rfl) ?_
      refine q_get X iX6_copyFrom_6 hP (by decide) h_272 rfl 13 (by decide) (List.mem_of_getElem? (i := 17) rfl) (v := .ref (ad 9)) rfl dX6_copyFrom_150 ?_
      refine lv_iconst (v := 0) hx hb dX6_copyFrom_153 (by decide) ?_
      refine lv_aload_n hx hb dX6_copyFrom_154 rfl (lv_at hl 1 rfl) ?_
      refine q_get X iX6_copyFrom_6 hP (by decide) h_271 rfl 13 (by decide) (List.mem_of_getElem? (i := 17) rfl) (v := .ref (ad 50)) rfl dX6_copyFrom_155 ?_
      refine lv_iconst (v := 0) hx hb dX6_copyFrom_158 (by decide) ?_
      refine lv_bipush (v := 8) hx hb dX6_copyFrom_159 (by decide) ?_
      refine q_copyi X hl.1 (List.mem_of_getElem? (i := 10) rfl) (List.mem_of_getElem? (i := 11) rfl) (List.mem_of_getElem? (i := 12) rfl) (List.mem_of_getElem? (i := 13) rfl) hP hj hA hS 1 rfl rfl (by decide) (by decide) h_287 h_278 (by decide) (by decide) (by decide) (by decide) (by decide) (fun _ _ => rfl) (Nat.le_of_ble_eq_true rfl) (Nat.le_of_ble_eq_true rfl) dX6_copyFrom_161 (fun H locs hP hS => ?_)
      generalize eg_293 : va_up g_268 50 _ = g_293 at hP
      have hfr_295 : ∀ j, (j < 44 ∨ 44 + 10 < j) → g_293 j = g j := fun j hj => by rw [← eg_293]; exact (va_up_ne _ _ (by omega)).trans (hfr_270 j hj)
      have h_296 : g_293 44 = .inr (6, [.int 0, .int 0, .int 0, .int 0, .int 0, .int 0, .int 0, .int 0, .ref (ad 45), .ref (ad 46), .ref (ad 47), .ref (ad 48), .ref (ad 49), .ref (ad 50), .ref (ad 51), .ref (ad 52), .ref (ad 53), .ref (ad 54)]) := by rw [← eg_293, va_up_ne _ _ (by decide)]; exact h_271
      have h_297 : g_293 3 = .inr (6, [.int 0, .int 0, .int 0, .int 0, .int 0, .int 0, .int 0, .int 0, .ref (ad 4), .ref (ad 5), .ref (ad 6), .ref (ad 7), .ref (ad 8), .ref (ad 9), .ref (ad 10), .ref (ad 11), .ref (ad 12), .ref (ad 13)]) := by rw [← eg_293, va_up_ne _ _ (by decide)]; exact h_272
      have h_298 : g_293 45 = .inl (cs 1, 14, .inl f_194) := by rw [← eg_293, va_up_ne _ _ (by decide)]; exact h_273
      have h_299 : g_293 46 = .inl (cs 3, 14, .inl f81_46) := by rw [← eg_293, va_up_ne _ _ (by decide)]; exact h_274
      have h_300 : g_293 47 = .inl (cs 1, 5, .inl f_219) := by rw [← eg_293, va_up_ne _ _ (by decide)]; exact h_275
      have h_301 : g_293 48 = .inl (cs 1, 8, .inl f_244) := by rw [← eg_293, va_up_ne _ _ (by decide)]; exact h_276
      have h_302 : g_293 49 = .inl (cs 1, 8, .inl f_269) := by rw [← eg_293, va_up_ne _ _ (by decide)]; exact h_277
      obtain ⟨f_294, h_303⟩ : ∃ f, g_293 50 = .inl (cs 1, 8, .inl f) := ⟨_, by rw [← eg_293]; exact va_up_self _ _ _⟩
      have h_304 : g_293 51 = .inl (cs 1, 8, .inl (fun _ => 0)) := by rw [← eg_293, va_up_ne _ _ (by decide)]; exact h_279
      have h_305 : g_293 52 = .inl (cs 1, 6, .inl (fun _ => 0)) := by rw [← eg_293, va_up_ne _ _ (by decide)]; exact h_280
      have h_306 : g_293 53 = .inl (cs 1, 6, .inl (fun _ => 0)) := by rw [← eg_293, va_up_ne _ _ (by decide)]; exact h_281
      have h_307 : g_293 4 = .inl (cs 1, 14, .inl (fun _ => 0)) := by rw [← eg_293, va_up_ne _ _ (by decide)]; exact h_282
      have h_308 : g_293 5 = .inl (cs 3, 14, .inl (fun _ => 0)) := by rw [← eg_293, va_up_ne _ _ (by decide)]; exact h_283
      have h_309 : g_293 6 = .inl (cs 1, 5, .inl (fun _ => 0)) := by rw [← eg_293, va_up_ne _ _ (by decide)]; exact h_284
      have h_310 : g_293 7 = .inl (cs 1, 8, .inl (fun _ => 0)) := by rw [← eg_293, va_up_ne _ _ (by decide)]; exact h_285
      have h_311 : g_293 8 = .inl (cs 1, 8, .inl (fun _ => 0)) := by rw [← eg_293, va_up_ne _ _ (by decide)]; exact h_286
      have h_312 : g_293 9 = .inl (cs 1, 8, .inl (fun _ => 0)) := by rw [← eg_293, va_up_ne _ _ (by decide)]; exact h_287
      have h_313 : g_293 10 = .inl (cs 1, 8, .inl (fun _ => 0)) := by rw [← eg_293, va_up_ne _ _ (by decide)]; exact h_288
      have h_314 : g_293 11 = .inl (cs 1, 6, .inl (fun _ => 0)) := by rw [← eg_293, va_up_ne _ _ (by decide)]; exact h_289
      have h_315 : g_293 12 = .inl (cs 1, 6, .inl (fun _ => 0)) := by rw [← eg_293, va_up_ne _ _ (by decide)]; exact h_290
      have h_316 : g_293 54 = .inr (0, [.int 0, .ref (ad 55), .ref (ad 56), .ref (ad 57), .ref (ad 63)]) := by rw [← eg_293, va_up_ne _ _ (by decide)]; exact h_291
      have h_317 : g_293 13 = .inr (0, [.int 0, .ref (ad 14), .ref (ad 15), .ref (ad 16), .ref (ad 22)]) := by rw [← eg_293, va_up_ne _ _ (by decide)]; exact h_292
      refine lv_aload_n hx hb dX6_copyFrom_164 rfl (lv_at hl 2 rfl) ?_
      refine q_get X iX6_copyFrom_6 hP (by decide) h_297 rfl 14 (by decide) (List.mem_of_getElem? (i := 18) rfl) (v := .ref (ad 10)) rfl dX6_copyFrom_165 ?_
      refine lv_iconst (v := 0) hx hb dX6_copyFrom_168 (by decide) ?_
      refine lv_aload_n hx hb dX6_copyFrom_169 rfl (lv_at hl 1 rfl) ?_
      refine q_get X iX6_copyFrom_6 hP (by decide) h_296 rfl 14 (by decide) (List.mem_of_getElem? (i := 18) rfl) (v := .ref (ad 51)) rfl dX6_copyFrom_170 ?_
      refine lv_iconst (v := 0) hx hb dX6_copyFrom_173 (by decide) ?_
      refine lv_bipush (v := 8) hx hb dX6_copyFrom_174 (by decide) ?_
      refine q_copyi X hl.1 (List.mem_of_getElem? (i := 10) rfl) (List.mem_of_getElem? (i := 11) rfl) (List.mem_of_getElem? (i := 12) rfl) (List.mem_of_getElem? (i := 13) rfl) hP hj hA hS 1 rfl rfl (by decide) (by decide) h_313 h_304 (by decide) (by decide) (by decide) (by decide) (by decide) (fun _ _ => rfl) (Nat.le_of_ble_eq_true rfl) (Nat.le_of_ble_eq_true rfl) dX6_copyFrom_176 (fun H locs hP hS => ?_)
      generalize eg_318 : va_up g_293 51 _ = g_318 at hP
      have hfr_320 : ∀ j, (j < 44 ∨ 44 + 10 < j) → g_318 j = g j := fun j hj => by rw [← eg_318]; exact (va_up_ne _ _ (by omega)).trans (hfr_295 j hj)
      have h_321 : g_318 44 = .inr (6, [.int 0, .int 0, .int 0, .int 0, .int 0, .int 0, .int 0, .int 0, .ref (ad 45), .ref (ad 46), .ref (ad 47), .ref (ad 48), .ref (ad 49), .ref (ad 50), .ref (ad 51), .ref (ad 52), .ref (ad 53), .ref (ad 54)]) := by rw [← eg_318, va_up_ne _ _ (by decide)]; exact h_296
      have h_322 : g_318 3 = .inr (6, [.int 0, .int 0, .int 0, .int 0, .int 0, .int 0, .int 0, .int 0, .ref (ad 4), .ref (ad 5), .ref (ad 6), .ref (ad 7), .ref (ad 8), .ref (ad 9), .ref (ad 10), .ref (ad 11), .ref (ad 12), .ref (ad 13)]) := by rw [← eg_318, va_up_ne _ _ (by decide)]; exact h_297
      have h_323 : g_318 45 = .inl (cs 1, 14, .inl f_194) := by rw [← eg_318, va_up_ne _ _ (by decide)]; exact h_298
      have h_324 : g_318 46 = .inl (cs 3, 14, .inl f81_46) := by rw [← eg_318, va_up_ne _ _ (by decide)]; exact h_299
      have h_325 : g_318 47 = .inl (cs 1, 5, .inl f_219) := by rw [← eg_318, va_up_ne _ _ (by decide)]; exact h_300
      have h_326 : g_318 48 = .inl (cs 1, 8, .inl f_244) := by rw [← eg_318, va_up_ne _ _ (by decide)]; exact h_301
      have h_327 : g_318 49 = .inl (cs 1, 8, .inl f_269) := by rw [← eg_318, va_up_ne _ _ (by decide)]; exact h_302
      have h_328 : g_318 50 = .inl (cs 1, 8, .inl f_294) := by rw [← eg_318, va_up_ne _ _ (by decide)]; exact h_303
      obtain ⟨f_319, h_329⟩ : ∃ f, g_318 51 = .inl (cs 1, 8, .inl f) := ⟨_, by rw [← eg_318]; exact va_up_self _ _ _⟩
      have h_330 : g_318 52 = .inl (cs 1, 6, .inl (fun _ => 0)) := by rw [← eg_318, va_up_ne _ _ (by decide)]; exact h_305
      have h_331 : g_318 53 = .inl (cs 1, 6, .inl (fun _ => 0)) := by rw [← eg_318, va_up_ne _ _ (by decide)]; exact h_306
      have h_332 : g_318 4 = .inl (cs 1, 14, .inl (fun _ => 0)) := by rw [← eg_318, va_up_ne _ _ (by decide)]; exact h_307
      have h_333 : g_318 5 = .inl (cs 3, 14, .inl (fun _ => 0)) := by rw [← eg_318, va_up_ne _ _ (by decide)]; exact h_308
      have h_334 : g_318 6 = .inl (cs 1, 5, .inl (fun _ => 0)) := by rw [← eg_318, va_up_ne _ _ (by decide)]; exact h_309
      have h_335 : g_318 7 = .inl (cs 1, 8, .inl (fun _ => 0)) := by rw [← eg_318, va_up_ne _ _ (by decide)]; exact h_310
      have h_336 : g_318 8 = .inl (cs 1, 8, .inl (fun _ => 0)) := by rw [← eg_318, va_up_ne _ _ (by decide)]; exact h_311
      have h_337 : g_318 9 = .inl (cs 1, 8, .inl (fun _ => 0)) := by rw [← eg_318, va_up_ne _ _ (by decide)]; exact h_312
      have h_338 : g_318 10 = .inl (cs 1, 8, .inl (fun _ => 0)) := by rw [← eg_318, va_up_ne _ _ (by decide)]; exact h_313
      have h_339 : g_318 11 = .inl (cs 1, 6, .inl (fun _ => 0)) := by rw [← eg_318, va_up_ne _ _ (by decide)]; exact h_314
      have h_340 : g_318 12 = .inl (cs 1, 6, .inl (fun _ => 0)) := by rw [← eg_318, va_up_ne _ _ (by decide)]; exact h_315
      have h_341 : g_318 54 = .inr (0, [.int 0, .ref (ad 55), .ref (ad 56), .ref (ad 57), .ref (ad 63)]) := by rw [← eg_318, va_up_ne _ _ (by decide)]; exact h_316
      have h_342 : g_318 13 = .inr (0, [.int 0, .ref (ad 14), .ref (ad 15), .ref (ad 16), .ref (ad 22)]) := by rw [← eg_318, va_up_ne _ _ (by decide)]; exact h_317
      refine lv_aload_n hx hb dX6_copyFrom_179 rfl (lv_at hl 2 rfl) ?_
      refine q_get X iX6_copyFrom_6 hP (by decide) h_322 rfl 15 (by decide) (List.mem_of_getElem? (i := 19) rfl) (v := .ref (ad 11)) rfl dX6_copyFrom_180 ?_
      refine lv_iconst (v := 0) hx hb dX6_copyFrom_183 (by decide) ?_
      refine lv_aload_n hx hb dX6_copyFrom_184 rfl (lv_at hl 1 rfl) ?_
      refine q_get X iX6_copyFrom_6 hP (by decide) h_321 rfl 15 (by decide) (List.mem_of_getElem? (i := 19) rfl) (v := .ref (ad 52)) rfl dX6_copyFrom_185 ?_
      refine lv_iconst (v := 0) hx hb dX6_copyFrom_188 (by decide) ?_
      refine lv_bipush (v := 6) hx hb dX6_copyFrom_189 (by decide) ?_
      refine q_copyi X hl.1 (List.mem_of_getElem? (i := 10) rfl) (List.mem_of_getElem? (i := 11) rfl) (List.mem_of_getElem? (i := 12) rfl) (List.mem_of_getElem? (i := 13) rfl) hP hj hA hS 1 rfl rfl (by decide) (by decide) h_339 h_330 (by decide) (by decide) (by decide) (by decide) (by decide) (fun _ _ => rfl) (Nat.le_of_ble_eq_true rfl) (Nat.le_of_ble_eq_true rfl) dX6_copyFrom_191 (fun H locs hP hS => ?_)
      generalize eg_343 : va_up g_318 52 _ = g_343 at hP
      have hfr_345 : ∀ j, (j < 44 ∨ 44 + 10 < j) → g_343 j = g j := fun j hj => by rw [← eg_343]; exact (va_up_ne _ _ (by omega)).trans (hfr_320 j hj)
      have h_346 : g_343 44 = .inr (6, [.int 0, .int 0, .int 0, .int 0, .int 0, .int 0, .int 0, .int 0, .ref (ad 45), .ref (ad 46), .ref (ad 47), .ref (ad 48), .ref (ad 49), .ref (ad 50), .ref (ad 51), .ref (ad 52), .ref (ad 53), .ref (ad 54)]) := by rw [← eg_343, va_up_ne _ _ (by decide)]; exact h_321
      have h_347 : g_343 3 = .inr (6, [.int 0, .int 0, .int 0, .int 0, .int 0, .int 0, .int 0, .int 0, .ref (ad 4), .ref (ad 5), .ref (ad 6), .ref (ad 7), .ref (ad 8), .ref (ad 9), .ref (ad 10), .ref (ad 11), .ref (ad 12), .ref (ad 13)]) := by rw [← eg_343, va_up_ne _ _ (by decide)]; exact h_322
      have h_348 : g_343 45 = .inl (cs 1, 14, .inl f_194) := by rw [← eg_343, va_up_ne _ _ (by decide)]; exact h_323
      have h_349 : g_343 46 = .inl (cs 3, 14, .inl f81_46) := by rw [← eg_343, va_up_ne _ _ (by decide)]; exact h_324
      have h_350 : g_343 47 = .inl (cs 1, 5, .inl f_219) := by rw [← eg_343, va_up_ne _ _ (by decide)]; exact h_325
      have h_351 : g_343 48 = .inl (cs 1, 8, .inl f_244) := by rw [← eg_343, va_up_ne _ _ (by decide)]; exact h_326
      have h_352 : g_343 49 = .inl (cs 1, 8, .inl f_269) := by rw [← eg_343, va_up_ne _ _ (by decide)]; exact h_327
      have h_353 : g_343 50 = .inl (cs 1, 8, .inl f_294) := by rw [← eg_343, va_up_ne _ _ (by decide)]; exact h_328
      have h_354 : g_343 51 = .inl (cs 1, 8, .inl f_319) := by rw [← eg_343, va_up_ne _ _ (by decide)]; exact h_329
      obtain ⟨f_344, h_355⟩ : ∃ f, g_343 52 = .inl (cs 1, 6, .inl f) := ⟨_, by rw [← eg_343]; exact va_up_self _ _ _⟩
      have h_356 : g_343 53 = .inl (cs 1, 6, .inl (fun _ => 0)) := by rw [← eg_343, va_up_ne _ _ (by decide)]; exact h_331
      have h_357 : g_343 4 = .inl (cs 1, 14, .inl (fun _ => 0)) := by rw [← eg_343, va_up_ne _ _ (by decide)]; exact h_332
      have h_358 : g_343 5 = .inl (cs 3, 14, .inl (fun _ => 0)) := by rw [← eg_343, va_up_ne _ _ (by decide)]; exact h_333
      have h_359 : g_343 6 = .inl (cs 1, 5, .inl (fun _ => 0)) := by rw [← eg_343, va_up_ne _ _ (by decide)]; exact h_334
      have h_360 : g_343 7 = .inl (cs 1, 8, .inl (fun _ => 0)) := by rw [← eg_343, va_up_ne _ _ (by decide)]; exact h_335
      have h_361 : g_343 8 = .inl (cs 1, 8, .inl (fun _ => 0)) := by rw [← eg_343, va_up_ne _ _ (by decide)]; exact h_336
      have h_362 : g_343 9 = .inl (cs 1, 8, .inl (fun _ => 0)) := by rw [← eg_343, va_up_ne _ _ (by decide)]; exact h_337
      have h_363 : g_343 10 = .inl (cs 1, 8, .inl (fun _ => 0)) := by rw [← eg_343, va_up_ne _ _ (by decide)]; exact h_338
      have h_364 : g_343 11 = .inl (cs 1, 6, .inl (fun _ => 0)) := by rw [← eg_343, va_up_ne _ _ (by decide)]; exact h_339
      have h_365 : g_343 12 = .inl (cs 1, 6, .inl (fun _ => 0)) := by rw [← eg_343, va_up_ne _ _ (by decide)]; exact h_340
      have h_366 : g_343 54 = .inr (0, [.int 0, .ref (ad 55), .ref (ad 56), .ref (ad 57), .ref (ad 63)]) := by rw [← eg_343, va_up_ne _ _ (by decide)]; exact h_341
      have h_367 : g_343 13 = .inr (0, [.int 0, .ref (ad 14), .ref (ad 15), .ref (ad 16), .ref (ad 22)]) := by rw [← eg_343, va_up_ne _ _ (by decide)]; exact h_342
      refine lv_aload_n hx hb dX6_copyFrom_194 rfl (lv_at hl 2 rfl) ?_
      refine q_get X iX6_copyFrom_6 hP (by decide) h_347 rfl 16 (by decide) (List.mem_of_getElem? (i := 20) rfl) (v := .ref (ad 12)) rfl dX6_copyFrom_195 ?_
      refine lv_iconst (v := 0) hx hb dX6_copyFrom_198 (by decide) ?_
      refine lv_aload_n hx hb dX6_copyFrom_199 rfl (lv_at hl 1 rfl) ?_
      refine q_get X iX6_copyFrom_6 hP (by decide) h_346 rfl 16 (by decide) (List.mem_of_getElem? (i := 20) rfl) (v := .ref (ad 53)) rfl dX6_copyFrom_200 ?_
      refine lv_iconst (v := 0) hx hb dX6_copyFrom_203 (by decide) ?_
      refine lv_bipush (v := 6) hx hb dX6_copyFrom_204 (by decide) ?_
      refine q_copyi X hl.1 (List.mem_of_getElem? (i := 10) rfl) (List.mem_of_getElem? (i := 11) rfl) (List.mem_of_getElem? (i := 12) rfl) (List.mem_of_getElem? (i := 13) rfl) hP hj hA hS 1 rfl rfl (by decide) (by decide) h_365 h_356 (by decide) (by decide) (by decide) (by decide) (by decide) (fun _ _ => rfl) (Nat.le_of_ble_eq_true rfl) (Nat.le_of_ble_eq_true rfl) dX6_copyFrom_206 (fun H locs hP hS => ?_)
      generalize eg_368 : va_up g_343 53 _ = g_368 at hP
      have hfr_370 : ∀ j, (j < 44 ∨ 44 + 10 < j) → g_368 j = g j := fun j hj => by rw [← eg_368]; exact (va_up_ne _ _ (by omega)).trans (hfr_345 j hj)
      have h_371 : g_368 44 = .inr (6, [.int 0, .int 0, .int 0, .int 0, .int 0, .int 0, .int 0, .int 0, .ref (ad 45), .ref (ad 46), .ref (ad 47), .ref (ad 48), .ref (ad 49), .ref (ad 50), .ref (ad 51), .ref (ad 52), .ref (ad 53), .ref (ad 54)]) := by rw [← eg_368, va_up_ne _ _ (by decide)]; exact h_346
      have h_372 : g_368 3 = .inr (6, [.int 0, .int 0, .int 0, .int 0, .int 0, .int 0, .int 0, .int 0, .ref (ad 4), .ref (ad 5), .ref (ad 6), .ref (ad 7), .ref (ad 8), .ref (ad 9), .ref (ad 10), .ref (ad 11), .ref (ad 12), .ref (ad 13)]) := by rw [← eg_368, va_up_ne _ _ (by decide)]; exact h_347
      have h_373 : g_368 45 = .inl (cs 1, 14, .inl f_194) := by rw [← eg_368, va_up_ne _ _ (by decide)]; exact h_348
      have h_374 : g_368 46 = .inl (cs 3, 14, .inl f81_46) := by rw [← eg_368, va_up_ne _ _ (by decide)]; exact h_349
      have h_375 : g_368 47 = .inl (cs 1, 5, .inl f_219) := by rw [← eg_368, va_up_ne _ _ (by decide)]; exact h_350
      have h_376 : g_368 48 = .inl (cs 1, 8, .inl f_244) := by rw [← eg_368, va_up_ne _ _ (by decide)]; exact h_351
      have h_377 : g_368 49 = .inl (cs 1, 8, .inl f_269) := by rw [← eg_368, va_up_ne _ _ (by decide)]; exact h_352
      have h_378 : g_368 50 = .inl (cs 1, 8, .inl f_294) := by rw [← eg_368, va_up_ne _ _ (by decide)]; exact h_353
      have h_379 : g_368 51 = .inl (cs 1, 8, .inl f_319) := by rw [← eg_368, va_up_ne _ _ (by decide)]; exact h_354
      have h_380 : g_368 52 = .inl (cs 1, 6, .inl f_344) := by rw [← eg_368, va_up_ne _ _ (by decide)]; exact h_355
      obtain ⟨f_369, h_381⟩ : ∃ f, g_368 53 = .inl (cs 1, 6, .inl f) := ⟨_, by rw [← eg_368]; exact va_up_self _ _ _⟩
      have h_382 : g_368 4 = .inl (cs 1, 14, .inl (fun _ => 0)) := by rw [← eg_368, va_up_ne _ _ (by decide)]; exact h_357
      have h_383 : g_368 5 = .inl (cs 3, 14, .inl (fun _ => 0)) := by rw [← eg_368, va_up_ne _ _ (by decide)]; exact h_358
      have h_384 : g_368 6 = .inl (cs 1, 5, .inl (fun _ => 0)) := by rw [← eg_368, va_up_ne _ _ (by decide)]; exact h_359
      have h_385 : g_368 7 = .inl (cs 1, 8, .inl (fun _ => 0)) := by rw [← eg_368, va_up_ne _ _ (by decide)]; exact h_360
      have h_386 : g_368 8 = .inl (cs 1, 8, .inl (fun _ => 0)) := by rw [← eg_368, va_up_ne _ _ (by decide)]; exact h_361
      have h_387 : g_368 9 = .inl (cs 1, 8, .inl (fun _ => 0)) := by rw [← eg_368, va_up_ne _ _ (by decide)]; exact h_362
      have h_388 : g_368 10 = .inl (cs 1, 8, .inl (fun _ => 0)) := by rw [← eg_368, va_up_ne _ _ (by decide)]; exact h_363
      have h_389 : g_368 11 = .inl (cs 1, 6, .inl (fun _ => 0)) := by rw [← eg_368, va_up_ne _ _ (by decide)]; exact h_364
      have h_390 : g_368 12 = .inl (cs 1, 6, .inl (fun _ => 0)) := by rw [← eg_368, va_up_ne _ _ (by decide)]; exact h_365
      have h_391 : g_368 54 = .inr (0, [.int 0, .ref (ad 55), .ref (ad 56), .ref (ad 57), .ref (ad 63)]) := by rw [← eg_368, va_up_ne _ _ (by decide)]; exact h_366
      have h_392 : g_368 13 = .inr (0, [.int 0, .ref (ad 14), .ref (ad 15), .ref (ad 16), .ref (ad 22)]) := by rw [← eg_368, va_up_ne _ _ (by decide)]; exact h_367
      refine lv_aload_n hx hb dX6_copyFrom_209 rfl (lv_at hl 1 rfl) ?_
      refine q_get X iX6_copyFrom_6 hP (by decide) h_371 rfl 17 (by decide) (List.mem_of_getElem? (i := 21) rfl) (v := .ref (ad 54)) rfl dX6_copyFrom_210 ?_
      refine lv_aload_n hx hb dX6_copyFrom_213 rfl (lv_at hl 2 rfl) ?_
      refine q_get X iX6_copyFrom_6 hP (by decide) h_372 rfl 17 (by decide) (List.mem_of_getElem? (i := 21) rfl) (v := .ref (ad 13)) rfl dX6_copyFrom_214 ?_
      refine q_callv (q := (RX0, TX0, 5)) (As := [.ref (ad 13)]) (rest := []) X (k_acopy44 l D cs ad hj g_368  h_391 h_392) (cwV 1 X.2.2.2.2.1 gg_X6_copyFrom_X0_copyFrom rfl rfl rfl (by decide +kernel) ⟨Nat.le_of_ble_eq_true rfl, Nat.le_of_ble_eq_true rfl⟩) (by decide) h_391 rfl hP hA hS rfl hl.1 rfl (Nat.le_of_ble_eq_true rfl) dX6_copyFrom_217 ⟨Nat.le_of_ble_eq_true rfl, Nat.le_of_ble_eq_true rfl⟩ (fun g_394 H locs hw_393 hP hS => ?_)
      rw [hw_393] at hP
      exact q_vret X hP hS ⟨h_371, hfr_370⟩ dX6_copyFrom_220
    | succ d81 ih81 =>
      intro k81 f81_46 G81 H locs ls hk81 hfr81 h81_44 h81_3 h81_45 h81_46 h81_47 h81_48 h81_49 h81_50 h81_51 h81_52 h81_53 h81_4 h81_5 h81_6 h81_7 h81_8 h81_9 h81_10 h81_11 h81_12 h81_54 h81_13 hP hS hl
      refine lv_iload_n hx hb dX6_copyFrom_81 rfl (lv_at hl 0 rfl) ?_
      refine lv_bipush (v := 14) hx hb dX6_copyFrom_82 (by decide) ?_
      refine lv_icmp_ge (tgt := 105) hx hb dX6_copyFrom_84 (by decide) (fun hc_84 => absurd hc_84 (nI_ge (a := k81) (b := 14) (by omega) (by decide))) (fun hc_84 => ?_)
      refine lv_aload_n hx hb dX6_copyFrom_87 rfl (lv_at hl 1 rfl) ?_
      refine q_get X iX6_copyFrom_6 hP (by decide) h81_44 rfl 9 (by decide) (List.mem_of_getElem? (i := 32) rfl) (v := .ref (ad 46)) rfl dX6_copyFrom_88 ?_
      refine lv_iload_n hx hb dX6_copyFrom_91 rfl (lv_at hl 0 rfl) ?_
      refine lv_aload_n hx hb dX6_copyFrom_92 rfl (lv_at hl 2 rfl) ?_
      refine q_get X iX6_copyFrom_6 hP (by decide) h81_3 rfl 9 (by decide) (List.mem_of_getElem? (i := 32) rfl) (v := .ref (ad 5)) rfl dX6_copyFrom_93 ?_
      refine lv_iload_n hx hb dX6_copyFrom_96 rfl (lv_at hl 0 rfl) ?_
      refine q_zald X hP (by decide) h81_5 (vp_in_nI (by omega) (by decide)) dX6_copyFrom_97 ?_
      refine q_zast X hP hj hA hS (by decide) h81_46 (vp_in_nI (by omega) (by decide)) dX6_copyFrom_98 (fun H locs hP hS => ?_)
      generalize eg_396 : va_up G81 46 _ = g_396 at hP
      have hfr_398 : ∀ j, (j < 44 ∨ 44 + 10 < j) → g_396 j = g j := fun j hj => by rw [← eg_396]; exact (va_up_ne _ _ (by omega)).trans (hfr81 j hj)
      have h_399 : g_396 44 = .inr (6, [.int 0, .int 0, .int 0, .int 0, .int 0, .int 0, .int 0, .int 0, .ref (ad 45), .ref (ad 46), .ref (ad 47), .ref (ad 48), .ref (ad 49), .ref (ad 50), .ref (ad 51), .ref (ad 52), .ref (ad 53), .ref (ad 54)]) := by rw [← eg_396, va_up_ne _ _ (by decide)]; exact h81_44
      have h_400 : g_396 3 = .inr (6, [.int 0, .int 0, .int 0, .int 0, .int 0, .int 0, .int 0, .int 0, .ref (ad 4), .ref (ad 5), .ref (ad 6), .ref (ad 7), .ref (ad 8), .ref (ad 9), .ref (ad 10), .ref (ad 11), .ref (ad 12), .ref (ad 13)]) := by rw [← eg_396, va_up_ne _ _ (by decide)]; exact h81_3
      have h_401 : g_396 45 = .inl (cs 1, 14, .inl f_194) := by rw [← eg_396, va_up_ne _ _ (by decide)]; exact h81_45
      obtain ⟨f_397, h_402⟩ : ∃ f, g_396 46 = .inl (cs 3, 14, .inl f) := ⟨_, by rw [← eg_396]; exact va_up_self _ _ _⟩
      have h_403 : g_396 47 = .inl (cs 1, 5, .inl (fun _ => 0)) := by rw [← eg_396, va_up_ne _ _ (by decide)]; exact h81_47
      have h_404 : g_396 48 = .inl (cs 1, 8, .inl (fun _ => 0)) := by rw [← eg_396, va_up_ne _ _ (by decide)]; exact h81_48
      have h_405 : g_396 49 = .inl (cs 1, 8, .inl (fun _ => 0)) := by rw [← eg_396, va_up_ne _ _ (by decide)]; exact h81_49
      have h_406 : g_396 50 = .inl (cs 1, 8, .inl (fun _ => 0)) := by rw [← eg_396, va_up_ne _ _ (by decide)]; exact h81_50
      have h_407 : g_396 51 = .inl (cs 1, 8, .inl (fun _ => 0)) := by rw [← eg_396, va_up_ne _ _ (by decide)]; exact h81_51
      have h_408 : g_396 52 = .inl (cs 1, 6, .inl (fun _ => 0)) := by rw [← eg_396, va_up_ne _ _ (by decide)]; exact h81_52
      have h_409 : g_396 53 = .inl (cs 1, 6, .inl (fun _ => 0)) := by rw [← eg_396, va_up_ne _ _ (by decide)]; exact h81_53
      have h_410 : g_396 4 = .inl (cs 1, 14, .inl (fun _ => 0)) := by rw [← eg_396, va_up_ne _ _ (by decide)]; exact h81_4
      have h_411 : g_396 5 = .inl (cs 3, 14, .inl (fun _ => 0)) := by rw [← eg_396, va_up_ne _ _ (by decide)]; exact h81_5
      have h_412 : g_396 6 = .inl (cs 1, 5, .inl (fun _ => 0)) := by rw [← eg_396, va_up_ne _ _ (by decide)]; exact h81_6
      have h_413 : g_396 7 = .inl (cs 1, 8, .inl (fun _ => 0)) := by rw [← eg_396, va_up_ne _ _ (by decide)]; exact h81_7
      have h_414 : g_396 8 = .inl (cs 1, 8, .inl (fun _ => 0)) := by rw [← eg_396, va_up_ne _ _ (by decide)]; exact h81_8
      have h_415 : g_396 9 = .inl (cs 1, 8, .inl (fun _ => 0)) := by rw [← eg_396, va_up_ne _ _ (by decide)]; exact h81_9
      have h_416 : g_396 10 = .inl (cs 1, 8, .inl (fun _ => 0)) := by rw [← eg_396, va_up_ne _ _ (by decide)]; exact h81_10
      have h_417 : g_396 11 = .inl (cs 1, 6, .inl (fun _ => 0)) := by rw [← eg_396, va_up_ne _ _ (by decide)]; exact h81_11
      have h_418 : g_396 12 = .inl (cs 1, 6, .inl (fun _ => 0)) := by rw [← eg_396, va_up_ne _ _ (by decide)]; exact h81_12
      have h_419 : g_396 54 = .inr (0, [.int 0, .ref (ad 55), .ref (ad 56), .ref (ad 57), .ref (ad 63)]) := by rw [← eg_396, va_up_ne _ _ (by decide)]; exact h81_54
      have h_420 : g_396 13 = .inr (0, [.int 0, .ref (ad 14), .ref (ad 15), .ref (ad 16), .ref (ad 22)]) := by rw [← eg_396, va_up_ne _ _ (by decide)]; exact h81_13
      refine lv_iinc (v := (nI (k81 + 1))) (lv' := [(2, .int (nI (k81 + 1))), (0, .ref (ad 44)), (1, .ref (ad 3))]) hx hb dX6_copyFrom_99 hl (k := 0) rfl (nI_add k81 1) (by decide) rfl (fun ls hl => ?_)
      refine lv_goto (tgt := 81) hx hb dX6_copyFrom_102 (by decide) ?_
      exact ih81 (k81 + 1) _ g_396 _ _ ls (by omega) hfr_398 h_399 h_400 h_401 h_402 h_403 h_404 h_405 h_406 h_407 h_408 h_409 h_410 h_411 h_412 h_413 h_414 h_415 h_416 h_417 h_418 h_419 h_420 hP hS (lv_sub hl [0, 1, 2] rfl)
  exact HL81 14 0 _ g_193 _ _ ls (by omega) hfr_195 h_196 h_197 h_198 h_199 h_200 h_201 h_202 h_203 h_204 h_205 h_206 h_207 h_208 h_209 h_210 h_211 h_212 h_213 h_214 h_215 h_216 h_217 hP hS (lv_sub hl [0, 1, 2] rfl)

set_option maxHeartbeats 4000000 in
set_option maxRecDepth 100000 in
theorem k_copy64 (l : Launch) (D : va_G) (cs : Nat → ClassId) (ad : Nat → Nat) (hj : wJ ad nW) (g : Nat → va_E) (h64 : g 64 = .inr (6, [.int 0, .int 0, .int 0, .int 0, .int 0, .int 0, .int 0, .int 0, .ref (ad 65), .ref (ad 66), .ref (ad 67), .ref (ad 68), .ref (ad 69), .ref (ad 70), .ref (ad 71), .ref (ad 72), .ref (ad 73), .ref (ad 74)])) (h3 : g 3 = .inr (6, [.int 0, .int 0, .int 0, .int 0, .int 0, .int 0, .int 0, .int 0, .ref (ad 4), .ref (ad 5), .ref (ad 6), .ref (ad 7), .ref (ad 8), .ref (ad 9), .ref (ad 10), .ref (ad 11), .ref (ad 12), .ref (ad 13)])) (h65 : g 65 = .inl (cs 1, 14, .inl (fun _ => 0))) (h66 : g 66 = .inl (cs 3, 14, .inl (fun _ => 0))) (h67 : g 67 = .inl (cs 1, 5, .inl (fun _ => 0))) (h68 : g 68 = .inl (cs 1, 8, .inl (fun _ => 0))) (h69 : g 69 = .inl (cs 1, 8, .inl (fun _ => 0))) (h70 : g 70 = .inl (cs 1, 8, .inl (fun _ => 0))) (h71 : g 71 = .inl (cs 1, 8, .inl (fun _ => 0))) (h72 : g 72 = .inl (cs 1, 6, .inl (fun _ => 0))) (h73 : g 73 = .inl (cs 1, 6, .inl (fun _ => 0))) (h4 : g 4 = .inl (cs 1, 14, .inl (fun _ => 0))) (h5 : g 5 = .inl (cs 3, 14, .inl (fun _ => 0))) (h6 : g 6 = .inl (cs 1, 5, .inl (fun _ => 0))) (h7 : g 7 = .inl (cs 1, 8, .inl (fun _ => 0))) (h8 : g 8 = .inl (cs 1, 8, .inl (fun _ => 0))) (h9 : g 9 = .inl (cs 1, 8, .inl (fun _ => 0))) (h10 : g 10 = .inl (cs 1, 8, .inl (fun _ => 0))) (h11 : g 11 = .inl (cs 1, 6, .inl (fun _ => 0))) (h12 : g 12 = .inl (cs 1, 6, .inl (fun _ => 0))) (h74 : g 74 = .inr (0, [.int 0, .ref (ad 75), .ref (ad 76), .ref (ad 77), .ref (ad 83)])) (h13 : g 13 = .inr (0, [.int 0, .ref (ad 14), .ref (ad 15), .ref (ad 16), .ref (ad 22)])) : cV l yX6_copyFrom vX6_copyFrom { frames := 2, cells := 0, slots := 0, locals := 43 } D cs ad nW [.ref (ad 64), .ref (ad 3)] g (fun g2 => g2 64 = .inr (6, [.int 0, .int 0, .int 0, .int 0, .int 0, .int 0, .int 0, .int 0, .ref (ad 65), .ref (ad 66), .ref (ad 67), .ref (ad 68), .ref (ad 69), .ref (ad 70), .ref (ad 71), .ref (ad 72), .ref (ad 73), .ref (ad 74)]) ∧ ∀ j, (j < 64 ∨ 64 + 10 < j) → g2 j = g j) := by
  refine Met.start (cc := cX6_copyFrom) (maxL := 3) (ret := none) RX6 rfl (by decide) rfl (Nat.le_of_ble_eq_true rfl) ?_
  intro p e s m below meth c ls X hP hl
  have hx := X.1
  have hb := X.2.1
  have hS : va_S (wA ad nW) s.heap s.heap [] := va_S.rf
  have hA : ∀ i, i < nW → wA ad nW (ad i) := fun i h => ⟨i, h, rfl⟩
  have hfr : ∀ j, (j < 64 ∨ 64 + 10 < j) → g j = g j := fun _ _ => rfl
  have hl : lv_has ls 3 [(0, .ref (ad 64)), (1, .ref (ad 3))] := hl
  refine lv_aload_n hx hb dX6_copyFrom_0 rfl (lv_at hl 0 rfl) ?_
  refine lv_aload_n hx hb dX6_copyFrom_1 rfl (lv_at hl 1 rfl) ?_
  refine q_get X iX6_copyFrom_6 hP (by decide) h3 rfl 0 (by decide) (List.mem_of_getElem? (i := 1) rfl) (v := .int 0) rfl dX6_copyFrom_2 ?_
  refine q_put X iX6_copyFrom_6 tyX6 tyX6_ok nmX6 hP hj hA hS (by decide) h64 rfl 0 (by decide) (List.mem_of_getElem? (i := 1) rfl) rfl (ty := .int) (v := .int 0) (by decide +kernel) rfl rfl (Nat.le_of_ble_eq_true rfl) dX6_copyFrom_5 (fun H locs hP hS => ?_)
  generalize eg_1 : va_up g 64 _ = g_1 at hP
  have hfr_2 : ∀ j, (j < 64 ∨ 64 + 10 < j) → g_1 j = g j := fun j hj => by rw [← eg_1]; exact (va_up_ne _ _ (by omega)).trans (hfr j hj)
  have h_3 : g_1 64 = .inr (6, [.int 0, .int 0, .int 0, .int 0, .int 0, .int 0, .int 0, .int 0, .ref (ad 65), .ref (ad 66), .ref (ad 67), .ref (ad 68), .ref (ad 69), .ref (ad 70), .ref (ad 71), .ref (ad 72), .ref (ad 73), .ref (ad 74)]) := by rw [← eg_1]; exact va_up_self _ _ _
  have h_4 : g_1 3 = .inr (6, [.int 0, .int 0, .int 0, .int 0, .int 0, .int 0, .int 0, .int 0, .ref (ad 4), .ref (ad 5), .ref (ad 6), .ref (ad 7), .ref (ad 8), .ref (ad 9), .ref (ad 10), .ref (ad 11), .ref (ad 12), .ref (ad 13)]) := by rw [← eg_1, va_up_ne _ _ (by decide)]; exact h3
  have h_5 : g_1 65 = .inl (cs 1, 14, .inl (fun _ => 0)) := by rw [← eg_1, va_up_ne _ _ (by decide)]; exact h65
  have h_6 : g_1 66 = .inl (cs 3, 14, .inl (fun _ => 0)) := by rw [← eg_1, va_up_ne _ _ (by decide)]; exact h66
  have h_7 : g_1 67 = .inl (cs 1, 5, .inl (fun _ => 0)) := by rw [← eg_1, va_up_ne _ _ (by decide)]; exact h67
  have h_8 : g_1 68 = .inl (cs 1, 8, .inl (fun _ => 0)) := by rw [← eg_1, va_up_ne _ _ (by decide)]; exact h68
  have h_9 : g_1 69 = .inl (cs 1, 8, .inl (fun _ => 0)) := by rw [← eg_1, va_up_ne _ _ (by decide)]; exact h69
  have h_10 : g_1 70 = .inl (cs 1, 8, .inl (fun _ => 0)) := by rw [← eg_1, va_up_ne _ _ (by decide)]; exact h70
  have h_11 : g_1 71 = .inl (cs 1, 8, .inl (fun _ => 0)) := by rw [← eg_1, va_up_ne _ _ (by decide)]; exact h71
  have h_12 : g_1 72 = .inl (cs 1, 6, .inl (fun _ => 0)) := by rw [← eg_1, va_up_ne _ _ (by decide)]; exact h72
  have h_13 : g_1 73 = .inl (cs 1, 6, .inl (fun _ => 0)) := by rw [← eg_1, va_up_ne _ _ (by decide)]; exact h73
  have h_14 : g_1 4 = .inl (cs 1, 14, .inl (fun _ => 0)) := by rw [← eg_1, va_up_ne _ _ (by decide)]; exact h4
  have h_15 : g_1 5 = .inl (cs 3, 14, .inl (fun _ => 0)) := by rw [← eg_1, va_up_ne _ _ (by decide)]; exact h5
  have h_16 : g_1 6 = .inl (cs 1, 5, .inl (fun _ => 0)) := by rw [← eg_1, va_up_ne _ _ (by decide)]; exact h6
  have h_17 : g_1 7 = .inl (cs 1, 8, .inl (fun _ => 0)) := by rw [← eg_1, va_up_ne _ _ (by decide)]; exact h7
  have h_18 : g_1 8 = .inl (cs 1, 8, .inl (fun _ => 0)) := by rw [← eg_1, va_up_ne _ _ (by decide)]; exact h8
  have h_19 : g_1 9 = .inl (cs 1, 8, .inl (fun _ => 0)) := by rw [← eg_1, va_up_ne _ _ (by decide)]; exact h9
  have h_20 : g_1 10 = .inl (cs 1, 8, .inl (fun _ => 0)) := by rw [← eg_1, va_up_ne _ _ (by decide)]; exact h10
  have h_21 : g_1 11 = .inl (cs 1, 6, .inl (fun _ => 0)) := by rw [← eg_1, va_up_ne _ _ (by decide)]; exact h11
  have h_22 : g_1 12 = .inl (cs 1, 6, .inl (fun _ => 0)) := by rw [← eg_1, va_up_ne _ _ (by decide)]; exact h12
  have h_23 : g_1 74 = .inr (0, [.int 0, .ref (ad 75), .ref (ad 76), .ref (ad 77), .ref (ad 83)]) := by rw [← eg_1, va_up_ne _ _ (by decide)]; exact h74
  have h_24 : g_1 13 = .inr (0, [.int 0, .ref (ad 14), .ref (ad 15), .ref (ad 16), .ref (ad 22)]) := by rw [← eg_1, va_up_ne _ _ (by decide)]; exact h13
  refine lv_aload_n hx hb dX6_copyFrom_8 rfl (lv_at hl 0 rfl) ?_
  refine lv_aload_n hx hb dX6_copyFrom_9 rfl (lv_at hl 1 rfl) ?_
  refine q_get X iX6_copyFrom_6 hP (by decide) h_4 rfl 1 (by decide) (List.mem_of_getElem? (i := 2) rfl) (v := .int 0) rfl dX6_copyFrom_10 ?_
  refine q_put X iX6_copyFrom_6 tyX6 tyX6_ok nmX6 hP hj hA hS (by decide) h_3 rfl 1 (by decide) (List.mem_of_getElem? (i := 2) rfl) rfl (ty := .int) (v := .int 0) (by decide +kernel) rfl rfl (Nat.le_of_ble_eq_true rfl) dX6_copyFrom_13 (fun H locs hP hS => ?_)
  generalize eg_25 : va_up g_1 64 _ = g_25 at hP
  have hfr_26 : ∀ j, (j < 64 ∨ 64 + 10 < j) → g_25 j = g j := fun j hj => by rw [← eg_25]; exact (va_up_ne _ _ (by omega)).trans (hfr_2 j hj)
  have h_27 : g_25 64 = .inr (6, [.int 0, .int 0, .int 0, .int 0, .int 0, .int 0, .int 0, .int 0, .ref (ad 65), .ref (ad 66), .ref (ad 67), .ref (ad 68), .ref (ad 69), .ref (ad 70), .ref (ad 71), .ref (ad 72), .ref (ad 73), .ref (ad 74)]) := by rw [← eg_25]; exact va_up_self _ _ _
  have h_28 : g_25 3 = .inr (6, [.int 0, .int 0, .int 0, .int 0, .int 0, .int 0, .int 0, .int 0, .ref (ad 4), .ref (ad 5), .ref (ad 6), .ref (ad 7), .ref (ad 8), .ref (ad 9), .ref (ad 10), .ref (ad 11), .ref (ad 12), .ref (ad 13)]) := by rw [← eg_25, va_up_ne _ _ (by decide)]; exact h_4
  have h_29 : g_25 65 = .inl (cs 1, 14, .inl (fun _ => 0)) := by rw [← eg_25, va_up_ne _ _ (by decide)]; exact h_5
  have h_30 : g_25 66 = .inl (cs 3, 14, .inl (fun _ => 0)) := by rw [← eg_25, va_up_ne _ _ (by decide)]; exact h_6
  have h_31 : g_25 67 = .inl (cs 1, 5, .inl (fun _ => 0)) := by rw [← eg_25, va_up_ne _ _ (by decide)]; exact h_7
  have h_32 : g_25 68 = .inl (cs 1, 8, .inl (fun _ => 0)) := by rw [← eg_25, va_up_ne _ _ (by decide)]; exact h_8
  have h_33 : g_25 69 = .inl (cs 1, 8, .inl (fun _ => 0)) := by rw [← eg_25, va_up_ne _ _ (by decide)]; exact h_9
  have h_34 : g_25 70 = .inl (cs 1, 8, .inl (fun _ => 0)) := by rw [← eg_25, va_up_ne _ _ (by decide)]; exact h_10
  have h_35 : g_25 71 = .inl (cs 1, 8, .inl (fun _ => 0)) := by rw [← eg_25, va_up_ne _ _ (by decide)]; exact h_11
  have h_36 : g_25 72 = .inl (cs 1, 6, .inl (fun _ => 0)) := by rw [← eg_25, va_up_ne _ _ (by decide)]; exact h_12
  have h_37 : g_25 73 = .inl (cs 1, 6, .inl (fun _ => 0)) := by rw [← eg_25, va_up_ne _ _ (by decide)]; exact h_13
  have h_38 : g_25 4 = .inl (cs 1, 14, .inl (fun _ => 0)) := by rw [← eg_25, va_up_ne _ _ (by decide)]; exact h_14
  have h_39 : g_25 5 = .inl (cs 3, 14, .inl (fun _ => 0)) := by rw [← eg_25, va_up_ne _ _ (by decide)]; exact h_15
  have h_40 : g_25 6 = .inl (cs 1, 5, .inl (fun _ => 0)) := by rw [← eg_25, va_up_ne _ _ (by decide)]; exact h_16
  have h_41 : g_25 7 = .inl (cs 1, 8, .inl (fun _ => 0)) := by rw [← eg_25, va_up_ne _ _ (by decide)]; exact h_17
  have h_42 : g_25 8 = .inl (cs 1, 8, .inl (fun _ => 0)) := by rw [← eg_25, va_up_ne _ _ (by decide)]; exact h_18
  have h_43 : g_25 9 = .inl (cs 1, 8, .inl (fun _ => 0)) := by rw [← eg_25, va_up_ne _ _ (by decide)]; exact h_19
  have h_44 : g_25 10 = .inl (cs 1, 8, .inl (fun _ => 0)) := by rw [← eg_25, va_up_ne _ _ (by decide)]; exact h_20
  have h_45 : g_25 11 = .inl (cs 1, 6, .inl (fun _ => 0)) := by rw [← eg_25, va_up_ne _ _ (by decide)]; exact h_21
  have h_46 : g_25 12 = .inl (cs 1, 6, .inl (fun _ => 0)) := by rw [← eg_25, va_up_ne _ _ (by decide)]; exact h_22
  have h_47 : g_25 74 = .inr (0, [.int 0, .ref (ad 75), .ref (ad 76), .ref (ad 77), .ref (ad 83)]) := by rw [← eg_25, va_up_ne _ _ (by decide)]; exact h_23
  have h_48 : g_25 13 = .inr (0, [.int 0, .ref (ad 14), .ref (ad 15), .ref (ad 16), .ref (ad 22)]) := by rw [← eg_25, va_up_ne _ _ (by decide)]; exact h_24
  refine lv_aload_n hx hb dX6_copyFrom_16 rfl (lv_at hl 0 rfl) ?_
  refine lv_aload_n hx hb dX6_copyFrom_17 rfl (lv_at hl 1 rfl) ?_
  refine q_get X iX6_copyFrom_6 hP (by decide) h_28 rfl 2 (by decide) (List.mem_of_getElem? (i := 3) rfl) (v := .int 0) rfl dX6_copyFrom_18 ?_
  refine q_put X iX6_copyFrom_6 tyX6 tyX6_ok nmX6 hP hj hA hS (by decide) h_27 rfl 2 (by decide) (List.mem_of_getElem? (i := 3) rfl) rfl (ty := .int) (v := .int 0) (by decide +kernel) rfl rfl (Nat.le_of_ble_eq_true rfl) dX6_copyFrom_21 (fun H locs hP hS => ?_)
  generalize eg_49 : va_up g_25 64 _ = g_49 at hP
  have hfr_50 : ∀ j, (j < 64 ∨ 64 + 10 < j) → g_49 j = g j := fun j hj => by rw [← eg_49]; exact (va_up_ne _ _ (by omega)).trans (hfr_26 j hj)
  have h_51 : g_49 64 = .inr (6, [.int 0, .int 0, .int 0, .int 0, .int 0, .int 0, .int 0, .int 0, .ref (ad 65), .ref (ad 66), .ref (ad 67), .ref (ad 68), .ref (ad 69), .ref (ad 70), .ref (ad 71), .ref (ad 72), .ref (ad 73), .ref (ad 74)]) := by rw [← eg_49]; exact va_up_self _ _ _
  have h_52 : g_49 3 = .inr (6, [.int 0, .int 0, .int 0, .int 0, .int 0, .int 0, .int 0, .int 0, .ref (ad 4), .ref (ad 5), .ref (ad 6), .ref (ad 7), .ref (ad 8), .ref (ad 9), .ref (ad 10), .ref (ad 11), .ref (ad 12), .ref (ad 13)]) := by rw [← eg_49, va_up_ne _ _ (by decide)]; exact h_28
  have h_53 : g_49 65 = .inl (cs 1, 14, .inl (fun _ => 0)) := by rw [← eg_49, va_up_ne _ _ (by decide)]; exact h_29
  have h_54 : g_49 66 = .inl (cs 3, 14, .inl (fun _ => 0)) := by rw [← eg_49, va_up_ne _ _ (by decide)]; exact h_30
  have h_55 : g_49 67 = .inl (cs 1, 5, .inl (fun _ => 0)) := by rw [← eg_49, va_up_ne _ _ (by decide)]; exact h_31
  have h_56 : g_49 68 = .inl (cs 1, 8, .inl (fun _ => 0)) := by rw [← eg_49, va_up_ne _ _ (by decide)]; exact h_32
  have h_57 : g_49 69 = .inl (cs 1, 8, .inl (fun _ => 0)) := by rw [← eg_49, va_up_ne _ _ (by decide)]; exact h_33
  have h_58 : g_49 70 = .inl (cs 1, 8, .inl (fun _ => 0)) := by rw [← eg_49, va_up_ne _ _ (by decide)]; exact h_34
  have h_59 : g_49 71 = .inl (cs 1, 8, .inl (fun _ => 0)) := by rw [← eg_49, va_up_ne _ _ (by decide)]; exact h_35
  have h_60 : g_49 72 = .inl (cs 1, 6, .inl (fun _ => 0)) := by rw [← eg_49, va_up_ne _ _ (by decide)]; exact h_36
  have h_61 : g_49 73 = .inl (cs 1, 6, .inl (fun _ => 0)) := by rw [← eg_49, va_up_ne _ _ (by decide)]; exact h_37
  have h_62 : g_49 4 = .inl (cs 1, 14, .inl (fun _ => 0)) := by rw [← eg_49, va_up_ne _ _ (by decide)]; exact h_38
  have h_63 : g_49 5 = .inl (cs 3, 14, .inl (fun _ => 0)) := by rw [← eg_49, va_up_ne _ _ (by decide)]; exact h_39
  have h_64 : g_49 6 = .inl (cs 1, 5, .inl (fun _ => 0)) := by rw [← eg_49, va_up_ne _ _ (by decide)]; exact h_40
  have h_65 : g_49 7 = .inl (cs 1, 8, .inl (fun _ => 0)) := by rw [← eg_49, va_up_ne _ _ (by decide)]; exact h_41
  have h_66 : g_49 8 = .inl (cs 1, 8, .inl (fun _ => 0)) := by rw [← eg_49, va_up_ne _ _ (by decide)]; exact h_42
  have h_67 : g_49 9 = .inl (cs 1, 8, .inl (fun _ => 0)) := by rw [← eg_49, va_up_ne _ _ (by decide)]; exact h_43
  have h_68 : g_49 10 = .inl (cs 1, 8, .inl (fun _ => 0)) := by rw [← eg_49, va_up_ne _ _ (by decide)]; exact h_44
  have h_69 : g_49 11 = .inl (cs 1, 6, .inl (fun _ => 0)) := by rw [← eg_49, va_up_ne _ _ (by decide)]; exact h_45
  have h_70 : g_49 12 = .inl (cs 1, 6, .inl (fun _ => 0)) := by rw [← eg_49, va_up_ne _ _ (by decide)]; exact h_46
  have h_71 : g_49 74 = .inr (0, [.int 0, .ref (ad 75), .ref (ad 76), .ref (ad 77), .ref (ad 83)]) := by rw [← eg_49, va_up_ne _ _ (by decide)]; exact h_47
  have h_72 : g_49 13 = .inr (0, [.int 0, .ref (ad 14), .ref (ad 15), .ref (ad 16), .ref (ad 22)]) := by rw [← eg_49, va_up_ne _ _ (by decide)]; exact h_48
  refine lv_aload_n hx hb dX6_copyFrom_24 rfl (lv_at hl 0 rfl) ?_
  refine lv_aload_n hx hb dX6_copyFrom_25 rfl (lv_at hl 1 rfl) ?_
  refine q_get X iX6_copyFrom_6 hP (by decide) h_52 rfl 3 (by decide) (List.mem_of_getElem? (i := 4) rfl) (v := .int 0) rfl dX6_copyFrom_26 ?_
  refine q_put X iX6_copyFrom_6 tyX6 tyX6_ok nmX6 hP hj hA hS (by decide) h_51 rfl 3 (by decide) (List.mem_of_getElem? (i := 4) rfl) rfl (ty := .int) (v := .int 0) (by decide +kernel) rfl rfl (Nat.le_of_ble_eq_true rfl) dX6_copyFrom_29 (fun H locs hP hS => ?_)
  generalize eg_73 : va_up g_49 64 _ = g_73 at hP
  have hfr_74 : ∀ j, (j < 64 ∨ 64 + 10 < j) → g_73 j = g j := fun j hj => by rw [← eg_73]; exact (va_up_ne _ _ (by omega)).trans (hfr_50 j hj)
  have h_75 : g_73 64 = .inr (6, [.int 0, .int 0, .int 0, .int 0, .int 0, .int 0, .int 0, .int 0, .ref (ad 65), .ref (ad 66), .ref (ad 67), .ref (ad 68), .ref (ad 69), .ref (ad 70), .ref (ad 71), .ref (ad 72), .ref (ad 73), .ref (ad 74)]) := by rw [← eg_73]; exact va_up_self _ _ _
  have h_76 : g_73 3 = .inr (6, [.int 0, .int 0, .int 0, .int 0, .int 0, .int 0, .int 0, .int 0, .ref (ad 4), .ref (ad 5), .ref (ad 6), .ref (ad 7), .ref (ad 8), .ref (ad 9), .ref (ad 10), .ref (ad 11), .ref (ad 12), .ref (ad 13)]) := by rw [← eg_73, va_up_ne _ _ (by decide)]; exact h_52
  have h_77 : g_73 65 = .inl (cs 1, 14, .inl (fun _ => 0)) := by rw [← eg_73, va_up_ne _ _ (by decide)]; exact h_53
  have h_78 : g_73 66 = .inl (cs 3, 14, .inl (fun _ => 0)) := by rw [← eg_73, va_up_ne _ _ (by decide)]; exact h_54
  have h_79 : g_73 67 = .inl (cs 1, 5, .inl (fun _ => 0)) := by rw [← eg_73, va_up_ne _ _ (by decide)]; exact h_55
  have h_80 : g_73 68 = .inl (cs 1, 8, .inl (fun _ => 0)) := by rw [← eg_73, va_up_ne _ _ (by decide)]; exact h_56
  have h_81 : g_73 69 = .inl (cs 1, 8, .inl (fun _ => 0)) := by rw [← eg_73, va_up_ne _ _ (by decide)]; exact h_57
  have h_82 : g_73 70 = .inl (cs 1, 8, .inl (fun _ => 0)) := by rw [← eg_73, va_up_ne _ _ (by decide)]; exact h_58
  have h_83 : g_73 71 = .inl (cs 1, 8, .inl (fun _ => 0)) := by rw [← eg_73, va_up_ne _ _ (by decide)]; exact h_59
  have h_84 : g_73 72 = .inl (cs 1, 6, .inl (fun _ => 0)) := by rw [← eg_73, va_up_ne _ _ (by decide)]; exact h_60
  have h_85 : g_73 73 = .inl (cs 1, 6, .inl (fun _ => 0)) := by rw [← eg_73, va_up_ne _ _ (by decide)]; exact h_61
  have h_86 : g_73 4 = .inl (cs 1, 14, .inl (fun _ => 0)) := by rw [← eg_73, va_up_ne _ _ (by decide)]; exact h_62
  have h_87 : g_73 5 = .inl (cs 3, 14, .inl (fun _ => 0)) := by rw [← eg_73, va_up_ne _ _ (by decide)]; exact h_63
  have h_88 : g_73 6 = .inl (cs 1, 5, .inl (fun _ => 0)) := by rw [← eg_73, va_up_ne _ _ (by decide)]; exact h_64
  have h_89 : g_73 7 = .inl (cs 1, 8, .inl (fun _ => 0)) := by rw [← eg_73, va_up_ne _ _ (by decide)]; exact h_65
  have h_90 : g_73 8 = .inl (cs 1, 8, .inl (fun _ => 0)) := by rw [← eg_73, va_up_ne _ _ (by decide)]; exact h_66
  have h_91 : g_73 9 = .inl (cs 1, 8, .inl (fun _ => 0)) := by rw [← eg_73, va_up_ne _ _ (by decide)]; exact h_67
  have h_92 : g_73 10 = .inl (cs 1, 8, .inl (fun _ => 0)) := by rw [← eg_73, va_up_ne _ _ (by decide)]; exact h_68
  have h_93 : g_73 11 = .inl (cs 1, 6, .inl (fun _ => 0)) := by rw [← eg_73, va_up_ne _ _ (by decide)]; exact h_69
  have h_94 : g_73 12 = .inl (cs 1, 6, .inl (fun _ => 0)) := by rw [← eg_73, va_up_ne _ _ (by decide)]; exact h_70
  have h_95 : g_73 74 = .inr (0, [.int 0, .ref (ad 75), .ref (ad 76), .ref (ad 77), .ref (ad 83)]) := by rw [← eg_73, va_up_ne _ _ (by decide)]; exact h_71
  have h_96 : g_73 13 = .inr (0, [.int 0, .ref (ad 14), .ref (ad 15), .ref (ad 16), .ref (ad 22)]) := by rw [← eg_73, va_up_ne _ _ (by decide)]; exact h_72
  refine lv_aload_n hx hb dX6_copyFrom_32 rfl (lv_at hl 0 rfl) ?_
  refine lv_aload_n hx hb dX6_copyFrom_33 rfl (lv_at hl 1 rfl) ?_
  refine q_get X iX6_copyFrom_6 hP (by decide) h_76 rfl 4 (by decide) (List.mem_of_getElem? (i := 5) rfl) (v := .int 0) rfl dX6_copyFrom_34 ?_
  refine q_put X iX6_copyFrom_6 tyX6 tyX6_ok nmX6 hP hj hA hS (by decide) h_75 rfl 4 (by decide) (List.mem_of_getElem? (i := 5) rfl) rfl (ty := .int) (v := .int 0) (by decide +kernel) rfl rfl (Nat.le_of_ble_eq_true rfl) dX6_copyFrom_37 (fun H locs hP hS => ?_)
  generalize eg_97 : va_up g_73 64 _ = g_97 at hP
  have hfr_98 : ∀ j, (j < 64 ∨ 64 + 10 < j) → g_97 j = g j := fun j hj => by rw [← eg_97]; exact (va_up_ne _ _ (by omega)).trans (hfr_74 j hj)
  have h_99 : g_97 64 = .inr (6, [.int 0, .int 0, .int 0, .int 0, .int 0, .int 0, .int 0, .int 0, .ref (ad 65), .ref (ad 66), .ref (ad 67), .ref (ad 68), .ref (ad 69), .ref (ad 70), .ref (ad 71), .ref (ad 72), .ref (ad 73), .ref (ad 74)]) := by rw [← eg_97]; exact va_up_self _ _ _
  have h_100 : g_97 3 = .inr (6, [.int 0, .int 0, .int 0, .int 0, .int 0, .int 0, .int 0, .int 0, .ref (ad 4), .ref (ad 5), .ref (ad 6), .ref (ad 7), .ref (ad 8), .ref (ad 9), .ref (ad 10), .ref (ad 11), .ref (ad 12), .ref (ad 13)]) := by rw [← eg_97, va_up_ne _ _ (by decide)]; exact h_76
  have h_101 : g_97 65 = .inl (cs 1, 14, .inl (fun _ => 0)) := by rw [← eg_97, va_up_ne _ _ (by decide)]; exact h_77
  have h_102 : g_97 66 = .inl (cs 3, 14, .inl (fun _ => 0)) := by rw [← eg_97, va_up_ne _ _ (by decide)]; exact h_78
  have h_103 : g_97 67 = .inl (cs 1, 5, .inl (fun _ => 0)) := by rw [← eg_97, va_up_ne _ _ (by decide)]; exact h_79
  have h_104 : g_97 68 = .inl (cs 1, 8, .inl (fun _ => 0)) := by rw [← eg_97, va_up_ne _ _ (by decide)]; exact h_80
  have h_105 : g_97 69 = .inl (cs 1, 8, .inl (fun _ => 0)) := by rw [← eg_97, va_up_ne _ _ (by decide)]; exact h_81
  have h_106 : g_97 70 = .inl (cs 1, 8, .inl (fun _ => 0)) := by rw [← eg_97, va_up_ne _ _ (by decide)]; exact h_82
  have h_107 : g_97 71 = .inl (cs 1, 8, .inl (fun _ => 0)) := by rw [← eg_97, va_up_ne _ _ (by decide)]; exact h_83
  have h_108 : g_97 72 = .inl (cs 1, 6, .inl (fun _ => 0)) := by rw [← eg_97, va_up_ne _ _ (by decide)]; exact h_84
  have h_109 : g_97 73 = .inl (cs 1, 6, .inl (fun _ => 0)) := by rw [← eg_97, va_up_ne _ _ (by decide)]; exact h_85
  have h_110 : g_97 4 = .inl (cs 1, 14, .inl (fun _ => 0)) := by rw [← eg_97, va_up_ne _ _ (by decide)]; exact h_86
  have h_111 : g_97 5 = .inl (cs 3, 14, .inl (fun _ => 0)) := by rw [← eg_97, va_up_ne _ _ (by decide)]; exact h_87
  have h_112 : g_97 6 = .inl (cs 1, 5, .inl (fun _ => 0)) := by rw [← eg_97, va_up_ne _ _ (by decide)]; exact h_88
  have h_113 : g_97 7 = .inl (cs 1, 8, .inl (fun _ => 0)) := by rw [← eg_97, va_up_ne _ _ (by decide)]; exact h_89
  have h_114 : g_97 8 = .inl (cs 1, 8, .inl (fun _ => 0)) := by rw [← eg_97, va_up_ne _ _ (by decide)]; exact h_90
  have h_115 : g_97 9 = .inl (cs 1, 8, .inl (fun _ => 0)) := by rw [← eg_97, va_up_ne _ _ (by decide)]; exact h_91
  have h_116 : g_97 10 = .inl (cs 1, 8, .inl (fun _ => 0)) := by rw [← eg_97, va_up_ne _ _ (by decide)]; exact h_92
  have h_117 : g_97 11 = .inl (cs 1, 6, .inl (fun _ => 0)) := by rw [← eg_97, va_up_ne _ _ (by decide)]; exact h_93
  have h_118 : g_97 12 = .inl (cs 1, 6, .inl (fun _ => 0)) := by rw [← eg_97, va_up_ne _ _ (by decide)]; exact h_94
  have h_119 : g_97 74 = .inr (0, [.int 0, .ref (ad 75), .ref (ad 76), .ref (ad 77), .ref (ad 83)]) := by rw [← eg_97, va_up_ne _ _ (by decide)]; exact h_95
  have h_120 : g_97 13 = .inr (0, [.int 0, .ref (ad 14), .ref (ad 15), .ref (ad 16), .ref (ad 22)]) := by rw [← eg_97, va_up_ne _ _ (by decide)]; exact h_96
  refine lv_aload_n hx hb dX6_copyFrom_40 rfl (lv_at hl 0 rfl) ?_
  refine lv_aload_n hx hb dX6_copyFrom_41 rfl (lv_at hl 1 rfl) ?_
  refine q_get X iX6_copyFrom_6 hP (by decide) h_100 rfl 5 (by decide) (List.mem_of_getElem? (i := 6) rfl) (v := .int 0) rfl dX6_copyFrom_42 ?_
  refine q_put X iX6_copyFrom_6 tyX6 tyX6_ok nmX6 hP hj hA hS (by decide) h_99 rfl 5 (by decide) (List.mem_of_getElem? (i := 6) rfl) rfl (ty := .int) (v := .int 0) (by decide +kernel) rfl rfl (Nat.le_of_ble_eq_true rfl) dX6_copyFrom_45 (fun H locs hP hS => ?_)
  generalize eg_121 : va_up g_97 64 _ = g_121 at hP
  have hfr_122 : ∀ j, (j < 64 ∨ 64 + 10 < j) → g_121 j = g j := fun j hj => by rw [← eg_121]; exact (va_up_ne _ _ (by omega)).trans (hfr_98 j hj)
  have h_123 : g_121 64 = .inr (6, [.int 0, .int 0, .int 0, .int 0, .int 0, .int 0, .int 0, .int 0, .ref (ad 65), .ref (ad 66), .ref (ad 67), .ref (ad 68), .ref (ad 69), .ref (ad 70), .ref (ad 71), .ref (ad 72), .ref (ad 73), .ref (ad 74)]) := by rw [← eg_121]; exact va_up_self _ _ _
  have h_124 : g_121 3 = .inr (6, [.int 0, .int 0, .int 0, .int 0, .int 0, .int 0, .int 0, .int 0, .ref (ad 4), .ref (ad 5), .ref (ad 6), .ref (ad 7), .ref (ad 8), .ref (ad 9), .ref (ad 10), .ref (ad 11), .ref (ad 12), .ref (ad 13)]) := by rw [← eg_121, va_up_ne _ _ (by decide)]; exact h_100
  have h_125 : g_121 65 = .inl (cs 1, 14, .inl (fun _ => 0)) := by rw [← eg_121, va_up_ne _ _ (by decide)]; exact h_101
  have h_126 : g_121 66 = .inl (cs 3, 14, .inl (fun _ => 0)) := by rw [← eg_121, va_up_ne _ _ (by decide)]; exact h_102
  have h_127 : g_121 67 = .inl (cs 1, 5, .inl (fun _ => 0)) := by rw [← eg_121, va_up_ne _ _ (by decide)]; exact h_103
  have h_128 : g_121 68 = .inl (cs 1, 8, .inl (fun _ => 0)) := by rw [← eg_121, va_up_ne _ _ (by decide)]; exact h_104
  have h_129 : g_121 69 = .inl (cs 1, 8, .inl (fun _ => 0)) := by rw [← eg_121, va_up_ne _ _ (by decide)]; exact h_105
  have h_130 : g_121 70 = .inl (cs 1, 8, .inl (fun _ => 0)) := by rw [← eg_121, va_up_ne _ _ (by decide)]; exact h_106
  have h_131 : g_121 71 = .inl (cs 1, 8, .inl (fun _ => 0)) := by rw [← eg_121, va_up_ne _ _ (by decide)]; exact h_107
  have h_132 : g_121 72 = .inl (cs 1, 6, .inl (fun _ => 0)) := by rw [← eg_121, va_up_ne _ _ (by decide)]; exact h_108
  have h_133 : g_121 73 = .inl (cs 1, 6, .inl (fun _ => 0)) := by rw [← eg_121, va_up_ne _ _ (by decide)]; exact h_109
  have h_134 : g_121 4 = .inl (cs 1, 14, .inl (fun _ => 0)) := by rw [← eg_121, va_up_ne _ _ (by decide)]; exact h_110
  have h_135 : g_121 5 = .inl (cs 3, 14, .inl (fun _ => 0)) := by rw [← eg_121, va_up_ne _ _ (by decide)]; exact h_111
  have h_136 : g_121 6 = .inl (cs 1, 5, .inl (fun _ => 0)) := by rw [← eg_121, va_up_ne _ _ (by decide)]; exact h_112
  have h_137 : g_121 7 = .inl (cs 1, 8, .inl (fun _ => 0)) := by rw [← eg_121, va_up_ne _ _ (by decide)]; exact h_113
  have h_138 : g_121 8 = .inl (cs 1, 8, .inl (fun _ => 0)) := by rw [← eg_121, va_up_ne _ _ (by decide)]; exact h_114
  have h_139 : g_121 9 = .inl (cs 1, 8, .inl (fun _ => 0)) := by rw [← eg_121, va_up_ne _ _ (by decide)]; exact h_115
  have h_140 : g_121 10 = .inl (cs 1, 8, .inl (fun _ => 0)) := by rw [← eg_121, va_up_ne _ _ (by decide)]; exact h_116
  have h_141 : g_121 11 = .inl (cs 1, 6, .inl (fun _ => 0)) := by rw [← eg_121, va_up_ne _ _ (by decide)]; exact h_117
  have h_142 : g_121 12 = .inl (cs 1, 6, .inl (fun _ => 0)) := by rw [← eg_121, va_up_ne _ _ (by decide)]; exact h_118
  have h_143 : g_121 74 = .inr (0, [.int 0, .ref (ad 75), .ref (ad 76), .ref (ad 77), .ref (ad 83)]) := by rw [← eg_121, va_up_ne _ _ (by decide)]; exact h_119
  have h_144 : g_121 13 = .inr (0, [.int 0, .ref (ad 14), .ref (ad 15), .ref (ad 16), .ref (ad 22)]) := by rw [← eg_121, va_up_ne _ _ (by decide)]; exact h_120
  refine lv_aload_n hx hb dX6_copyFrom_48 rfl (lv_at hl 0 rfl) ?_
  refine lv_aload_n hx hb dX6_copyFrom_49 rfl (lv_at hl 1 rfl) ?_
  refine q_get X iX6_copyFrom_6 hP (by decide) h_124 rfl 6 (by decide) (List.mem_of_getElem? (i := 7) rfl) (v := .int 0) rfl dX6_copyFrom_50 ?_
  refine q_put X iX6_copyFrom_6 tyX6 tyX6_ok nmX6 hP hj hA hS (by decide) h_123 rfl 6 (by decide) (List.mem_of_getElem? (i := 7) rfl) rfl (ty := .int) (v := .int 0) (by decide +kernel) rfl rfl (Nat.le_of_ble_eq_true rfl) dX6_copyFrom_53 (fun H locs hP hS => ?_)
  generalize eg_145 : va_up g_121 64 _ = g_145 at hP
  have hfr_146 : ∀ j, (j < 64 ∨ 64 + 10 < j) → g_145 j = g j := fun j hj => by rw [← eg_145]; exact (va_up_ne _ _ (by omega)).trans (hfr_122 j hj)
  have h_147 : g_145 64 = .inr (6, [.int 0, .int 0, .int 0, .int 0, .int 0, .int 0, .int 0, .int 0, .ref (ad 65), .ref (ad 66), .ref (ad 67), .ref (ad 68), .ref (ad 69), .ref (ad 70), .ref (ad 71), .ref (ad 72), .ref (ad 73), .ref (ad 74)]) := by rw [← eg_145]; exact va_up_self _ _ _
  have h_148 : g_145 3 = .inr (6, [.int 0, .int 0, .int 0, .int 0, .int 0, .int 0, .int 0, .int 0, .ref (ad 4), .ref (ad 5), .ref (ad 6), .ref (ad 7), .ref (ad 8), .ref (ad 9), .ref (ad 10), .ref (ad 11), .ref (ad 12), .ref (ad 13)]) := by rw [← eg_145, va_up_ne _ _ (by decide)]; exact h_124
  have h_149 : g_145 65 = .inl (cs 1, 14, .inl (fun _ => 0)) := by rw [← eg_145, va_up_ne _ _ (by decide)]; exact h_125
  have h_150 : g_145 66 = .inl (cs 3, 14, .inl (fun _ => 0)) := by rw [← eg_145, va_up_ne _ _ (by decide)]; exact h_126
  have h_151 : g_145 67 = .inl (cs 1, 5, .inl (fun _ => 0)) := by rw [← eg_145, va_up_ne _ _ (by decide)]; exact h_127
  have h_152 : g_145 68 = .inl (cs 1, 8, .inl (fun _ => 0)) := by rw [← eg_145, va_up_ne _ _ (by decide)]; exact h_128
  have h_153 : g_145 69 = .inl (cs 1, 8, .inl (fun _ => 0)) := by rw [← eg_145, va_up_ne _ _ (by decide)]; exact h_129
  have h_154 : g_145 70 = .inl (cs 1, 8, .inl (fun _ => 0)) := by rw [← eg_145, va_up_ne _ _ (by decide)]; exact h_130
  have h_155 : g_145 71 = .inl (cs 1, 8, .inl (fun _ => 0)) := by rw [← eg_145, va_up_ne _ _ (by decide)]; exact h_131
  have h_156 : g_145 72 = .inl (cs 1, 6, .inl (fun _ => 0)) := by rw [← eg_145, va_up_ne _ _ (by decide)]; exact h_132
  have h_157 : g_145 73 = .inl (cs 1, 6, .inl (fun _ => 0)) := by rw [← eg_145, va_up_ne _ _ (by decide)]; exact h_133
  have h_158 : g_145 4 = .inl (cs 1, 14, .inl (fun _ => 0)) := by rw [← eg_145, va_up_ne _ _ (by decide)]; exact h_134
  have h_159 : g_145 5 = .inl (cs 3, 14, .inl (fun _ => 0)) := by rw [← eg_145, va_up_ne _ _ (by decide)]; exact h_135
  have h_160 : g_145 6 = .inl (cs 1, 5, .inl (fun _ => 0)) := by rw [← eg_145, va_up_ne _ _ (by decide)]; exact h_136
  have h_161 : g_145 7 = .inl (cs 1, 8, .inl (fun _ => 0)) := by rw [← eg_145, va_up_ne _ _ (by decide)]; exact h_137
  have h_162 : g_145 8 = .inl (cs 1, 8, .inl (fun _ => 0)) := by rw [← eg_145, va_up_ne _ _ (by decide)]; exact h_138
  have h_163 : g_145 9 = .inl (cs 1, 8, .inl (fun _ => 0)) := by rw [← eg_145, va_up_ne _ _ (by decide)]; exact h_139
  have h_164 : g_145 10 = .inl (cs 1, 8, .inl (fun _ => 0)) := by rw [← eg_145, va_up_ne _ _ (by decide)]; exact h_140
  have h_165 : g_145 11 = .inl (cs 1, 6, .inl (fun _ => 0)) := by rw [← eg_145, va_up_ne _ _ (by decide)]; exact h_141
  have h_166 : g_145 12 = .inl (cs 1, 6, .inl (fun _ => 0)) := by rw [← eg_145, va_up_ne _ _ (by decide)]; exact h_142
  have h_167 : g_145 74 = .inr (0, [.int 0, .ref (ad 75), .ref (ad 76), .ref (ad 77), .ref (ad 83)]) := by rw [← eg_145, va_up_ne _ _ (by decide)]; exact h_143
  have h_168 : g_145 13 = .inr (0, [.int 0, .ref (ad 14), .ref (ad 15), .ref (ad 16), .ref (ad 22)]) := by rw [← eg_145, va_up_ne _ _ (by decide)]; exact h_144
  refine lv_aload_n hx hb dX6_copyFrom_56 rfl (lv_at hl 0 rfl) ?_
  refine lv_aload_n hx hb dX6_copyFrom_57 rfl (lv_at hl 1 rfl) ?_
  refine q_get X iX6_copyFrom_6 hP (by decide) h_148 rfl 7 (by decide) (List.mem_of_getElem? (i := 8) rfl) (v := .int 0) rfl dX6_copyFrom_58 ?_
  refine q_put X iX6_copyFrom_6 tyX6 tyX6_ok nmX6 hP hj hA hS (by decide) h_147 rfl 7 (by decide) (List.mem_of_getElem? (i := 8) rfl) rfl (ty := .int) (v := .int 0) (by decide +kernel) rfl rfl (Nat.le_of_ble_eq_true rfl) dX6_copyFrom_61 (fun H locs hP hS => ?_)
  generalize eg_169 : va_up g_145 64 _ = g_169 at hP
  have hfr_170 : ∀ j, (j < 64 ∨ 64 + 10 < j) → g_169 j = g j := fun j hj => by rw [← eg_169]; exact (va_up_ne _ _ (by omega)).trans (hfr_146 j hj)
  have h_171 : g_169 64 = .inr (6, [.int 0, .int 0, .int 0, .int 0, .int 0, .int 0, .int 0, .int 0, .ref (ad 65), .ref (ad 66), .ref (ad 67), .ref (ad 68), .ref (ad 69), .ref (ad 70), .ref (ad 71), .ref (ad 72), .ref (ad 73), .ref (ad 74)]) := by rw [← eg_169]; exact va_up_self _ _ _
  have h_172 : g_169 3 = .inr (6, [.int 0, .int 0, .int 0, .int 0, .int 0, .int 0, .int 0, .int 0, .ref (ad 4), .ref (ad 5), .ref (ad 6), .ref (ad 7), .ref (ad 8), .ref (ad 9), .ref (ad 10), .ref (ad 11), .ref (ad 12), .ref (ad 13)]) := by rw [← eg_169, va_up_ne _ _ (by decide)]; exact h_148
  have h_173 : g_169 65 = .inl (cs 1, 14, .inl (fun _ => 0)) := by rw [← eg_169, va_up_ne _ _ (by decide)]; exact h_149
  have h_174 : g_169 66 = .inl (cs 3, 14, .inl (fun _ => 0)) := by rw [← eg_169, va_up_ne _ _ (by decide)]; exact h_150
  have h_175 : g_169 67 = .inl (cs 1, 5, .inl (fun _ => 0)) := by rw [← eg_169, va_up_ne _ _ (by decide)]; exact h_151
  have h_176 : g_169 68 = .inl (cs 1, 8, .inl (fun _ => 0)) := by rw [← eg_169, va_up_ne _ _ (by decide)]; exact h_152
  have h_177 : g_169 69 = .inl (cs 1, 8, .inl (fun _ => 0)) := by rw [← eg_169, va_up_ne _ _ (by decide)]; exact h_153
  have h_178 : g_169 70 = .inl (cs 1, 8, .inl (fun _ => 0)) := by rw [← eg_169, va_up_ne _ _ (by decide)]; exact h_154
  have h_179 : g_169 71 = .inl (cs 1, 8, .inl (fun _ => 0)) := by rw [← eg_169, va_up_ne _ _ (by decide)]; exact h_155
  have h_180 : g_169 72 = .inl (cs 1, 6, .inl (fun _ => 0)) := by rw [← eg_169, va_up_ne _ _ (by decide)]; exact h_156
  have h_181 : g_169 73 = .inl (cs 1, 6, .inl (fun _ => 0)) := by rw [← eg_169, va_up_ne _ _ (by decide)]; exact h_157
  have h_182 : g_169 4 = .inl (cs 1, 14, .inl (fun _ => 0)) := by rw [← eg_169, va_up_ne _ _ (by decide)]; exact h_158
  have h_183 : g_169 5 = .inl (cs 3, 14, .inl (fun _ => 0)) := by rw [← eg_169, va_up_ne _ _ (by decide)]; exact h_159
  have h_184 : g_169 6 = .inl (cs 1, 5, .inl (fun _ => 0)) := by rw [← eg_169, va_up_ne _ _ (by decide)]; exact h_160
  have h_185 : g_169 7 = .inl (cs 1, 8, .inl (fun _ => 0)) := by rw [← eg_169, va_up_ne _ _ (by decide)]; exact h_161
  have h_186 : g_169 8 = .inl (cs 1, 8, .inl (fun _ => 0)) := by rw [← eg_169, va_up_ne _ _ (by decide)]; exact h_162
  have h_187 : g_169 9 = .inl (cs 1, 8, .inl (fun _ => 0)) := by rw [← eg_169, va_up_ne _ _ (by decide)]; exact h_163
  have h_188 : g_169 10 = .inl (cs 1, 8, .inl (fun _ => 0)) := by rw [← eg_169, va_up_ne _ _ (by decide)]; exact h_164
  have h_189 : g_169 11 = .inl (cs 1, 6, .inl (fun _ => 0)) := by rw [← eg_169, va_up_ne _ _ (by decide)]; exact h_165
  have h_190 : g_169 12 = .inl (cs 1, 6, .inl (fun _ => 0)) := by rw [← eg_169, va_up_ne _ _ (by decide)]; exact h_166
  have h_191 : g_169 74 = .inr (0, [.int 0, .ref (ad 75), .ref (ad 76), .ref (ad 77), .ref (ad 83)]) := by rw [← eg_169, va_up_ne _ _ (by decide)]; exact h_167
  have h_192 : g_169 13 = .inr (0, [.int 0, .ref (ad 14), .ref (ad 15), .ref (ad 16), .ref (ad 22)]) := by rw [← eg_169, va_up_ne _ _ (by decide)]; exact h_168
  refine lv_aload_n hx hb dX6_copyFrom_64 rfl (lv_at hl 1 rfl) ?_
  refine q_get X iX6_copyFrom_6 hP (by decide) h_172 rfl 8 (by decide) (List.mem_of_getElem? (i := 9) rfl) (v := .ref (ad 4)) rfl dX6_copyFrom_65 ?_
  refine lv_iconst (v := 0) hx hb dX6_copyFrom_68 (by decide) ?_
  refine lv_aload_n hx hb dX6_copyFrom_69 rfl (lv_at hl 0 rfl) ?_
  refine q_get X iX6_copyFrom_6 hP (by decide) h_171 rfl 8 (by decide) (List.mem_of_getElem? (i := 9) rfl) (v := .ref (ad 65)) rfl dX6_copyFrom_70 ?_
  refine lv_iconst (v := 0) hx hb dX6_copyFrom_73 (by decide) ?_
  refine lv_bipush (v := 14) hx hb dX6_copyFrom_74 (by decide) ?_
  refine q_copyi X hl.1 (List.mem_of_getElem? (i := 10) rfl) (List.mem_of_getElem? (i := 11) rfl) (List.mem_of_getElem? (i := 12) rfl) (List.mem_of_getElem? (i := 13) rfl) hP hj hA hS 1 rfl rfl (by decide) (by decide) h_182 h_173 (by decide) (by decide) (by decide) (by decide) (by decide) (fun _ _ => rfl) (Nat.le_of_ble_eq_true rfl) (Nat.le_of_ble_eq_true rfl) dX6_copyFrom_76 (fun H locs hP hS => ?_)
  generalize eg_193 : va_up g_169 65 _ = g_193 at hP
  have hfr_195 : ∀ j, (j < 64 ∨ 64 + 10 < j) → g_193 j = g j := fun j hj => by rw [← eg_193]; exact (va_up_ne _ _ (by omega)).trans (hfr_170 j hj)
  have h_196 : g_193 64 = .inr (6, [.int 0, .int 0, .int 0, .int 0, .int 0, .int 0, .int 0, .int 0, .ref (ad 65), .ref (ad 66), .ref (ad 67), .ref (ad 68), .ref (ad 69), .ref (ad 70), .ref (ad 71), .ref (ad 72), .ref (ad 73), .ref (ad 74)]) := by rw [← eg_193, va_up_ne _ _ (by decide)]; exact h_171
  have h_197 : g_193 3 = .inr (6, [.int 0, .int 0, .int 0, .int 0, .int 0, .int 0, .int 0, .int 0, .ref (ad 4), .ref (ad 5), .ref (ad 6), .ref (ad 7), .ref (ad 8), .ref (ad 9), .ref (ad 10), .ref (ad 11), .ref (ad 12), .ref (ad 13)]) := by rw [← eg_193, va_up_ne _ _ (by decide)]; exact h_172
  obtain ⟨f_194, h_198⟩ : ∃ f, g_193 65 = .inl (cs 1, 14, .inl f) := ⟨_, by rw [← eg_193]; exact va_up_self _ _ _⟩
  have h_199 : g_193 66 = .inl (cs 3, 14, .inl (fun _ => 0)) := by rw [← eg_193, va_up_ne _ _ (by decide)]; exact h_174
  have h_200 : g_193 67 = .inl (cs 1, 5, .inl (fun _ => 0)) := by rw [← eg_193, va_up_ne _ _ (by decide)]; exact h_175
  have h_201 : g_193 68 = .inl (cs 1, 8, .inl (fun _ => 0)) := by rw [← eg_193, va_up_ne _ _ (by decide)]; exact h_176
  have h_202 : g_193 69 = .inl (cs 1, 8, .inl (fun _ => 0)) := by rw [← eg_193, va_up_ne _ _ (by decide)]; exact h_177
  have h_203 : g_193 70 = .inl (cs 1, 8, .inl (fun _ => 0)) := by rw [← eg_193, va_up_ne _ _ (by decide)]; exact h_178
  have h_204 : g_193 71 = .inl (cs 1, 8, .inl (fun _ => 0)) := by rw [← eg_193, va_up_ne _ _ (by decide)]; exact h_179
  have h_205 : g_193 72 = .inl (cs 1, 6, .inl (fun _ => 0)) := by rw [← eg_193, va_up_ne _ _ (by decide)]; exact h_180
  have h_206 : g_193 73 = .inl (cs 1, 6, .inl (fun _ => 0)) := by rw [← eg_193, va_up_ne _ _ (by decide)]; exact h_181
  have h_207 : g_193 4 = .inl (cs 1, 14, .inl (fun _ => 0)) := by rw [← eg_193, va_up_ne _ _ (by decide)]; exact h_182
  have h_208 : g_193 5 = .inl (cs 3, 14, .inl (fun _ => 0)) := by rw [← eg_193, va_up_ne _ _ (by decide)]; exact h_183
  have h_209 : g_193 6 = .inl (cs 1, 5, .inl (fun _ => 0)) := by rw [← eg_193, va_up_ne _ _ (by decide)]; exact h_184
  have h_210 : g_193 7 = .inl (cs 1, 8, .inl (fun _ => 0)) := by rw [← eg_193, va_up_ne _ _ (by decide)]; exact h_185
  have h_211 : g_193 8 = .inl (cs 1, 8, .inl (fun _ => 0)) := by rw [← eg_193, va_up_ne _ _ (by decide)]; exact h_186
  have h_212 : g_193 9 = .inl (cs 1, 8, .inl (fun _ => 0)) := by rw [← eg_193, va_up_ne _ _ (by decide)]; exact h_187
  have h_213 : g_193 10 = .inl (cs 1, 8, .inl (fun _ => 0)) := by rw [← eg_193, va_up_ne _ _ (by decide)]; exact h_188
  have h_214 : g_193 11 = .inl (cs 1, 6, .inl (fun _ => 0)) := by rw [← eg_193, va_up_ne _ _ (by decide)]; exact h_189
  have h_215 : g_193 12 = .inl (cs 1, 6, .inl (fun _ => 0)) := by rw [← eg_193, va_up_ne _ _ (by decide)]; exact h_190
  have h_216 : g_193 74 = .inr (0, [.int 0, .ref (ad 75), .ref (ad 76), .ref (ad 77), .ref (ad 83)]) := by rw [← eg_193, va_up_ne _ _ (by decide)]; exact h_191
  have h_217 : g_193 13 = .inr (0, [.int 0, .ref (ad 14), .ref (ad 15), .ref (ad 16), .ref (ad 22)]) := by rw [← eg_193, va_up_ne _ _ (by decide)]; exact h_192
  refine lv_iconst (v := 0) hx hb dX6_copyFrom_79 (by decide) ?_
  refine lv_istore_n (lv' := [(2, .int 0), (0, .ref (ad 64)), (1, .ref (ad 3))]) hx hb dX6_copyFrom_80 rfl hl (by decide) rfl (fun ls hl => ?_)
  have HL81 : ∀ (d81 k81 : Nat) (f81_66 : Nat → Int32) (G81 : Nat → va_E) (H : Heap) (locs : List Loc) (ls : Array Slot), k81 + d81 = 14 → (∀ j, (j < 64 ∨ 64 + 10 < j) → G81 j = g j) → G81 64 = .inr (6, [.int 0, .int 0, .int 0, .int 0, .int 0, .int 0, .int 0, .int 0, .ref (ad 65), .ref (ad 66), .ref (ad 67), .ref (ad 68), .ref (ad 69), .ref (ad 70), .ref (ad 71), .ref (ad 72), .ref (ad 73), .ref (ad 74)]) → G81 3 = .inr (6, [.int 0, .int 0, .int 0, .int 0, .int 0, .int 0, .int 0, .int 0, .ref (ad 4), .ref (ad 5), .ref (ad 6), .ref (ad 7), .ref (ad 8), .ref (ad 9), .ref (ad 10), .ref (ad 11), .ref (ad 12), .ref (ad 13)]) → G81 65 = .inl (cs 1, 14, .inl f_194) → G81 66 = .inl (cs 3, 14, .inl f81_66) → G81 67 = .inl (cs 1, 5, .inl (fun _ => 0)) → G81 68 = .inl (cs 1, 8, .inl (fun _ => 0)) → G81 69 = .inl (cs 1, 8, .inl (fun _ => 0)) → G81 70 = .inl (cs 1, 8, .inl (fun _ => 0)) → G81 71 = .inl (cs 1, 8, .inl (fun _ => 0)) → G81 72 = .inl (cs 1, 6, .inl (fun _ => 0)) → G81 73 = .inl (cs 1, 6, .inl (fun _ => 0)) → G81 4 = .inl (cs 1, 14, .inl (fun _ => 0)) → G81 5 = .inl (cs 3, 14, .inl (fun _ => 0)) → G81 6 = .inl (cs 1, 5, .inl (fun _ => 0)) → G81 7 = .inl (cs 1, 8, .inl (fun _ => 0)) → G81 8 = .inl (cs 1, 8, .inl (fun _ => 0)) → G81 9 = .inl (cs 1, 8, .inl (fun _ => 0)) → G81 10 = .inl (cs 1, 8, .inl (fun _ => 0)) → G81 11 = .inl (cs 1, 6, .inl (fun _ => 0)) → G81 12 = .inl (cs 1, 6, .inl (fun _ => 0)) → G81 74 = .inr (0, [.int 0, .ref (ad 75), .ref (ad 76), .ref (ad 77), .ref (ad 83)]) → G81 13 = .inr (0, [.int 0, .ref (ad 14), .ref (ad 15), .ref (ad 16), .ref (ad 22)]) → va_P D vwCl (wL ad G81 nW) H → va_S (wA ad nW) s.heap H locs → lv_has ls 3 [(2, .int (nI k81)), (0, .ref (ad 64)), (1, .ref (ad 3))] → W p l e ({ frames := 2, cells := 0, slots := 0, locals := 43 } : Room) s m ([.ref (ad 64), .ref (ad 3)] : List Value).toArray below meth c H locs 0 0 (MQ below (qV D ad nW (fun g2 => g2 64 = .inr (6, [.int 0, .int 0, .int 0, .int 0, .int 0, .int 0, .int 0, .int 0, .ref (ad 65), .ref (ad 66), .ref (ad 67), .ref (ad 68), .ref (ad 69), .ref (ad 70), .ref (ad 71), .ref (ad 72), .ref (ad 73), .ref (ad 74)]) ∧ ∀ j, (j < 64 ∨ 64 + 10 < j) → g2 j = g j)) ([.ref (ad 64), .ref (ad 3)] : List Value).toArray s 0 0 (wA ad nW)) (F0 m 81 ls []) := by
    intro d81
    induction d81 with
    | zero =>
      intro k81 f81_66 G81 H locs ls hk81 hfr81 h81_64 h81_3 h81_65 h81_66 h81_67 h81_68 h81_69 h81_70 h81_71 h81_72 h81_73 h81_4 h81_5 h81_6 h81_7 h81_8 h81_9 h81_10 h81_11 h81_12 h81_74 h81_13 hP hS hl
      obtain rfl : k81 = 14 := by omega
      refine lv_iload_n hx hb dX6_copyFrom_81 rfl (lv_at hl 0 rfl) ?_
      refine lv_bipush (v := 14) hx hb dX6_copyFrom_82 (by decide) ?_
      refine lv_icmp_ge (tgt := 105) hx hb dX6_copyFrom_84 (by decide) (fun _ => ?_) (fun h => absurd h (by decide))
      refine lv_aload_n hx hb dX6_copyFrom_105 rfl (lv_at hl 2 rfl) ?_
      refine q_get X iX6_copyFrom_6 hP (by decide) h81_3 rfl 10 (by decide) (List.mem_of_getElem? (i := 14) rfl) (v := .ref (ad 6)) rfl dX6_copyFrom_106 ?_
      refine lv_iconst (v := 0) hx hb dX6_copyFrom_109 (by decide) ?_
      refine lv_aload_n hx hb dX6_copyFrom_110 rfl (lv_at hl 1 rfl) ?_
      refine q_get X iX6_copyFrom_6 hP (by decide) h81_64 rfl 10 (by decide) (List.mem_of_getElem? (i := 14) rfl) (v := .ref (ad 67)) rfl dX6_copyFrom_111 ?_
      refine lv_iconst (v := 0) hx hb dX6_copyFrom_114 (by decide) ?_
      refine lv_iconst (v := 5) hx hb dX6_copyFrom_115 (by decide) ?_
      refine q_copyi X hl.1 (List.mem_of_getElem? (i := 10) rfl) (List.mem_of_getElem? (i := 11) rfl) (List.mem_of_getElem? (i := 12) rfl) (List.mem_of_getElem? (i := 13) rfl) hP hj hA hS 1 rfl rfl (by decide) (by decide) h81_6 h81_67 (by decide) (by decide) (by decide) (by decide) (by decide) (fun _ _ => rfl) (Nat.le_of_ble_eq_true rfl) (Nat.le_of_ble_eq_true rfl) dX6_copyFrom_116 (fun H locs hP hS => ?_)
      generalize eg_218 : va_up G81 67 _ = g_218 at hP
      have hfr_220 : ∀ j, (j < 64 ∨ 64 + 10 < j) → g_218 j = g j := fun j hj => by rw [← eg_218]; exact (va_up_ne _ _ (by omega)).trans (hfr81 j hj)
      have h_221 : g_218 64 = .inr (6, [.int 0, .int 0, .int 0, .int 0, .int 0, .int 0, .int 0, .int 0, .ref (ad 65), .ref (ad 66), .ref (ad 67), .ref (ad 68), .ref (ad 69), .ref (ad 70), .ref (ad 71), .ref (ad 72), .ref (ad 73), .ref (ad 74)]) := by rw [← eg_218, va_up_ne _ _ (by decide)]; exact h81_64
      have h_222 : g_218 3 = .inr (6, [.int 0, .int 0, .int 0, .int 0, .int 0, .int 0, .int 0, .int 0, .ref (ad 4), .ref (ad 5), .ref (ad 6), .ref (ad 7), .ref (ad 8), .ref (ad 9), .ref (ad 10), .ref (ad 11), .ref (ad 12), .ref (ad 13)]) := by rw [← eg_218, va_up_ne _ _ (by decide)]; exact h81_3
      have h_223 : g_218 65 = .inl (cs 1, 14, .inl f_194) := by rw [← eg_218, va_up_ne _ _ (by decide)]; exact h81_65
      have h_224 : g_218 66 = .inl (cs 3, 14, .inl f81_66) := by rw [← eg_218, va_up_ne _ _ (by decide)]; exact h81_66
      obtain ⟨f_219, h_225⟩ : ∃ f, g_218 67 = .inl (cs 1, 5, .inl f) := ⟨_, by rw [← eg_218]; exact va_up_self _ _ _⟩
      have h_226 : g_218 68 = .inl (cs 1, 8, .inl (fun _ => 0)) := by rw [← eg_218, va_up_ne _ _ (by decide)]; exact h81_68
      have h_227 : g_218 69 = .inl (cs 1, 8, .inl (fun _ => 0)) := by rw [← eg_218, va_up_ne _ _ (by decide)]; exact h81_69
      have h_228 : g_218 70 = .inl (cs 1, 8, .inl (fun _ => 0)) := by rw [← eg_218, va_up_ne _ _ (by decide)]; exact h81_70
      have h_229 : g_218 71 = .inl (cs 1, 8, .inl (fun _ => 0)) := by rw [← eg_218, va_up_ne _ _ (by decide)]; exact h81_71
      have h_230 : g_218 72 = .inl (cs 1, 6, .inl (fun _ => 0)) := by rw [← eg_218, va_up_ne _ _ (by decide)]; exact h81_72
      have h_231 : g_218 73 = .inl (cs 1, 6, .inl (fun _ => 0)) := by rw [← eg_218, va_up_ne _ _ (by decide)]; exact h81_73
      have h_232 : g_218 4 = .inl (cs 1, 14, .inl (fun _ => 0)) := by rw [← eg_218, va_up_ne _ _ (by decide)]; exact h81_4
      have h_233 : g_218 5 = .inl (cs 3, 14, .inl (fun _ => 0)) := by rw [← eg_218, va_up_ne _ _ (by decide)]; exact h81_5
      have h_234 : g_218 6 = .inl (cs 1, 5, .inl (fun _ => 0)) := by rw [← eg_218, va_up_ne _ _ (by decide)]; exact h81_6
      have h_235 : g_218 7 = .inl (cs 1, 8, .inl (fun _ => 0)) := by rw [← eg_218, va_up_ne _ _ (by decide)]; exact h81_7
      have h_236 : g_218 8 = .inl (cs 1, 8, .inl (fun _ => 0)) := by rw [← eg_218, va_up_ne _ _ (by decide)]; exact h81_8
      have h_237 : g_218 9 = .inl (cs 1, 8, .inl (fun _ => 0)) := by rw [← eg_218, va_up_ne _ _ (by decide)]; exact h81_9
      have h_238 : g_218 10 = .inl (cs 1, 8, .inl (fun _ => 0)) := by rw [← eg_218, va_up_ne _ _ (by decide)]; exact h81_10
      have h_239 : g_218 11 = .inl (cs 1, 6, .inl (fun _ => 0)) := by rw [← eg_218, va_up_ne _ _ (by decide)]; exact h81_11
      have h_240 : g_218 12 = .inl (cs 1, 6, .inl (fun _ => 0)) := by rw [← eg_218, va_up_ne _ _ (by decide)]; exact h81_12
      have h_241 : g_218 74 = .inr (0, [.int 0, .ref (ad 75), .ref (ad 76), .ref (ad 77), .ref (ad 83)]) := by rw [← eg_218, va_up_ne _ _ (by decide)]; exact h81_74
      have h_242 : g_218 13 = .inr (0, [.int 0, .ref (ad 14), .ref (ad 15), .ref (ad 16), .ref (ad 22)]) := by rw [← eg_218, va_up_ne _ _ (by decide)]; exact h81_13
      refine lv_aload_n hx hb dX6_copyFrom_119 rfl (lv_at hl 2 rfl) ?_
      refine q_get X iX6_copyFrom_6 hP (by decide) h_222 rfl 11 (by decide) (List.mem_of_getElem? (i := 15) rfl) (v := .ref (ad 7)) rfl dX6_copyFrom_120 ?_
      refine lv_iconst (v := 0) hx hb dX6_copyFrom_123 (by decide) ?_
      refine lv_aload_n hx hb dX6_copyFrom_124 rfl (lv_at hl 1 rfl) ?_
      refine q_get X iX6_copyFrom_6 hP (by decide) h_221 rfl 11 (by decide) (List.mem_of_getElem? (i := 15) rfl) (v := .ref (ad 68)) rfl dX6_copyFrom_125 ?_
      refine lv_iconst (v := 0) hx hb dX6_copyFrom_128 (by decide) ?_
      refine lv_bipush (v := 8) hx hb dX6_copyFrom_129 (by decide) ?_
      refine q_copyi X hl.1 (List.mem_of_getElem? (i := 10) rfl) (List.mem_of_getElem? (i := 11) rfl) (List.mem_of_getElem? (i := 12) rfl) (List.mem_of_getElem? (i := 13) rfl) hP hj hA hS 1 rfl rfl (by decide) (by decide) h_235 h_226 (by decide) (by decide) (by decide) (by decide) (by decide) (fun _ _ => rfl) (Nat.le_of_ble_eq_true rfl) (Nat.le_of_ble_eq_true rfl) dX6_copyFrom_131 (fun H locs hP hS => ?_)
      generalize eg_243 : va_up g_218 68 _ = g_243 at hP
      have hfr_245 : ∀ j, (j < 64 ∨ 64 + 10 < j) → g_243 j = g j := fun j hj => by rw [← eg_243]; exact (va_up_ne _ _ (by omega)).trans (hfr_220 j hj)
      have h_246 : g_243 64 = .inr (6, [.int 0, .int 0, .int 0, .int 0, .int 0, .int 0, .int 0, .int 0, .ref (ad 65), .ref (ad 66), .ref (ad 67), .ref (ad 68), .ref (ad 69), .ref (ad 70), .ref (ad 71), .ref (ad 72), .ref (ad 73), .ref (ad 74)]) := by rw [← eg_243, va_up_ne _ _ (by decide)]; exact h_221
      have h_247 : g_243 3 = .inr (6, [.int 0, .int 0, .int 0, .int 0, .int 0, .int 0, .int 0, .int 0, .ref (ad 4), .ref (ad 5), .ref (ad 6), .ref (ad 7), .ref (ad 8), .ref (ad 9), .ref (ad 10), .ref (ad 11), .ref (ad 12), .ref (ad 13)]) := by rw [← eg_243, va_up_ne _ _ (by decide)]; exact h_222
      have h_248 : g_243 65 = .inl (cs 1, 14, .inl f_194) := by rw [← eg_243, va_up_ne _ _ (by decide)]; exact h_223
      have h_249 : g_243 66 = .inl (cs 3, 14, .inl f81_66) := by rw [← eg_243, va_up_ne _ _ (by decide)]; exact h_224
      have h_250 : g_243 67 = .inl (cs 1, 5, .inl f_219) := by rw [← eg_243, va_up_ne _ _ (by decide)]; exact h_225
      obtain ⟨f_244, h_251⟩ : ∃ f, g_243 68 = .inl (cs 1, 8, .inl f) := ⟨_, by rw [← eg_243]; exact va_up_self _ _ _⟩
      have h_252 : g_243 69 = .inl (cs 1, 8, .inl (fun _ => 0)) := by rw [← eg_243, va_up_ne _ _ (by decide)]; exact h_227
      have h_253 : g_243 70 = .inl (cs 1, 8, .inl (fun _ => 0)) := by rw [← eg_243, va_up_ne _ _ (by decide)]; exact h_228
      have h_254 : g_243 71 = .inl (cs 1, 8, .inl (fun _ => 0)) := by rw [← eg_243, va_up_ne _ _ (by decide)]; exact h_229
      have h_255 : g_243 72 = .inl (cs 1, 6, .inl (fun _ => 0)) := by rw [← eg_243, va_up_ne _ _ (by decide)]; exact h_230
      have h_256 : g_243 73 = .inl (cs 1, 6, .inl (fun _ => 0)) := by rw [← eg_243, va_up_ne _ _ (by decide)]; exact h_231
      have h_257 : g_243 4 = .inl (cs 1, 14, .inl (fun _ => 0)) := by rw [← eg_243, va_up_ne _ _ (by decide)]; exact h_232
      have h_258 : g_243 5 = .inl (cs 3, 14, .inl (fun _ => 0)) := by rw [← eg_243, va_up_ne _ _ (by decide)]; exact h_233
      have h_259 : g_243 6 = .inl (cs 1, 5, .inl (fun _ => 0)) := by rw [← eg_243, va_up_ne _ _ (by decide)]; exact h_234
      have h_260 : g_243 7 = .inl (cs 1, 8, .inl (fun _ => 0)) := by rw [← eg_243, va_up_ne _ _ (by decide)]; exact h_235
      have h_261 : g_243 8 = .inl (cs 1, 8, .inl (fun _ => 0)) := by rw [← eg_243, va_up_ne _ _ (by decide)]; exact h_236
      have h_262 : g_243 9 = .inl (cs 1, 8, .inl (fun _ => 0)) := by rw [← eg_243, va_up_ne _ _ (by decide)]; exact h_237
      have h_263 : g_243 10 = .inl (cs 1, 8, .inl (fun _ => 0)) := by rw [← eg_243, va_up_ne _ _ (by decide)]; exact h_238
      have h_264 : g_243 11 = .inl (cs 1, 6, .inl (fun _ => 0)) := by rw [← eg_243, va_up_ne _ _ (by decide)]; exact h_239
      have h_265 : g_243 12 = .inl (cs 1, 6, .inl (fun _ => 0)) := by rw [← eg_243, va_up_ne _ _ (by decide)]; exact h_240
      have h_266 : g_243 74 = .inr (0, [.int 0, .ref (ad 75), .ref (ad 76), .ref (ad 77), .ref (ad 83)]) := by rw [← eg_243, va_up_ne _ _ (by decide)]; exact h_241
      have h_267 : g_243 13 = .inr (0, [.int 0, .ref (ad 14), .ref (ad 15), .ref (ad 16), .ref (ad 22)]) := by rw [← eg_243, va_up_ne _ _ (by decide)]; exact h_242
      refine lv_aload_n hx hb dX6_copyFrom_134 rfl (lv_at hl 2 rfl) ?_
      refine q_get X iX6_copyFrom_6 hP (by decide) h_247 rfl 12 (by decide) (List.mem_of_getElem? (i := 16) rfl) (v := .ref (ad 8)) rfl dX6_copyFrom_135 ?_
      refine lv_iconst (v := 0) hx hb dX6_copyFrom_138 (by decide) ?_
      refine lv_aload_n hx hb dX6_copyFrom_139 rfl (lv_at hl 1 rfl) ?_
      refine q_get X iX6_copyFrom_6 hP (by decide) h_246 rfl 12 (by decide) (List.mem_of_getElem? (i := 16) rfl) (v := .ref (ad 69)) rfl dX6_copyFrom_140 ?_
      refine lv_iconst (v := 0) hx hb dX6_copyFrom_143 (by decide) ?_
      refine lv_bipush (v := 8) hx hb dX6_copyFrom_144 (by decide) ?_
      refine q_copyi X hl.1 (List.mem_of_getElem? (i := 10) rfl) (List.mem_of_getElem? (i := 11) rfl) (List.mem_of_getElem? (i := 12) rfl) (List.mem_of_getElem? (i := 13) rfl) hP hj hA hS 1 rfl rfl (by decide) (by decide) h_261 h_252 (by decide) (by decide) (by decide) (by decide) (by decide) (fun _ _ => rfl) (Nat.le_of_ble_eq_true rfl) (Nat.le_of_ble_eq_true rfl) dX6_copyFrom_146 (fun H locs hP hS => ?_)
      generalize eg_268 : va_up g_243 69 _ = g_268 at hP
      have hfr_270 : ∀ j, (j < 64 ∨ 64 + 10 < j) → g_268 j = g j := fun j hj => by rw [← eg_268]; exact (va_up_ne _ _ (by omega)).trans (hfr_245 j hj)
      have h_271 : g_268 64 = .inr (6, [.int 0, .int 0, .int 0, .int 0, .int 0, .int 0, .int 0, .int 0, .ref (ad 65), .ref (ad 66), .ref (ad 67), .ref (ad 68), .ref (ad 69), .ref (ad 70), .ref (ad 71), .ref (ad 72), .ref (ad 73), .ref (ad 74)]) := by rw [← eg_268, va_up_ne _ _ (by decide)]; exact h_246
      have h_272 : g_268 3 = .inr (6, [.int 0, .int 0, .int 0, .int 0, .int 0, .int 0, .int 0, .int 0, .ref (ad 4), .ref (ad 5), .ref (ad 6), .ref (ad 7), .ref (ad 8), .ref (ad 9), .ref (ad 10), .ref (ad 11), .ref (ad 12), .ref (ad 13)]) := by rw [← eg_268, va_up_ne _ _ (by decide)]; exact h_247
      have h_273 : g_268 65 = .inl (cs 1, 14, .inl f_194) := by rw [← eg_268, va_up_ne _ _ (by decide)]; exact h_248
      have h_274 : g_268 66 = .inl (cs 3, 14, .inl f81_66) := by rw [← eg_268, va_up_ne _ _ (by decide)]; exact h_249
      have h_275 : g_268 67 = .inl (cs 1, 5, .inl f_219) := by rw [← eg_268, va_up_ne _ _ (by decide)]; exact h_250
      have h_276 : g_268 68 = .inl (cs 1, 8, .inl f_244) := by rw [← eg_268, va_up_ne _ _ (by decide)]; exact h_251
      obtain ⟨f_269, h_277⟩ : ∃ f, g_268 69 = .inl (cs 1, 8, .inl f) := ⟨_, by rw [← eg_268]; exact va_up_self _ _ _⟩
      have h_278 : g_268 70 = .inl (cs 1, 8, .inl (fun _ => 0)) := by rw [← eg_268, va_up_ne _ _ (by decide)]; exact h_253
      have h_279 : g_268 71 = .inl (cs 1, 8, .inl (fun _ => 0)) := by rw [← eg_268, va_up_ne _ _ (by decide)]; exact h_254
      have h_280 : g_268 72 = .inl (cs 1, 6, .inl (fun _ => 0)) := by rw [← eg_268, va_up_ne _ _ (by decide)]; exact h_255
      have h_281 : g_268 73 = .inl (cs 1, 6, .inl (fun _ => 0)) := by rw [← eg_268, va_up_ne _ _ (by decide)]; exact h_256
      have h_282 : g_268 4 = .inl (cs 1, 14, .inl (fun _ => 0)) := by rw [← eg_268, va_up_ne _ _ (by decide)]; exact h_257
      have h_283 : g_268 5 = .inl (cs 3, 14, .inl (fun _ => 0)) := by rw [← eg_268, va_up_ne _ _ (by decide)]; exact h_258
      have h_284 : g_268 6 = .inl (cs 1, 5, .inl (fun _ => 0)) := by rw [← eg_268, va_up_ne _ _ (by decide)]; exact h_259
      have h_285 : g_268 7 = .inl (cs 1, 8, .inl (fun _ => 0)) := by rw [← eg_268, va_up_ne _ _ (by decide)]; exact h_260
      have h_286 : g_268 8 = .inl (cs 1, 8, .inl (fun _ => 0)) := by rw [← eg_268, va_up_ne _ _ (by decide)]; exact h_261
      have h_287 : g_268 9 = .inl (cs 1, 8, .inl (fun _ => 0)) := by rw [← eg_268, va_up_ne _ _ (by decide)]; exact h_262
      have h_288 : g_268 10 = .inl (cs 1, 8, .inl (fun _ => 0)) := by rw [← eg_268, va_up_ne _ _ (by decide)]; exact h_263
      have h_289 : g_268 11 = .inl (cs 1, 6, .inl (fun _ => 0)) := by rw [← eg_268, va_up_ne _ _ (by decide)]; exact h_264
      have h_290 : g_268 12 = .inl (cs 1, 6, .inl (fun _ => 0)) := by rw [← eg_268, va_up_ne _ _ (by decide)]; exact h_265
      have h_291 : g_268 74 = .inr (0, [.int 0, .ref (ad 75), .ref (ad 76), .ref (ad 77), .ref (ad 83)]) := by rw [← eg_268, va_up_ne _ _ (by decide)]; exact h_266
      have h_292 : g_268 13 = .inr (0, [.int 0, .ref (ad 14), .ref (ad 15), .ref (ad 16), .ref (ad 22)]) := by rw [← eg_268, va_up_ne _ _ (by decide)]; exact h_267
      refine lv_aload_n hx hb dX6_copyFrom_149 rfl (lv_at hl 2 rfl) ?_
      refine q_get X iX6_copyFrom_6 hP (by decide) h_272 rfl 13 (by decide) (List.mem_of_getElem? (i := 17) rfl) (v := .ref (ad 9)) rfl dX6_copyFrom_150 ?_
      refine lv_iconst (v := 0) hx hb dX6_copyFrom_153 (by decide) ?_
      refine lv_aload_n hx hb dX6_copyFrom_154 rfl (lv_at hl 1 rfl) ?_
      refine q_get X iX6_copyFrom_6 hP (by decide) h_271 rfl 13 (by decide) (List.mem_of_getElem? (i := 17) rfl) (v := .ref (ad 70)) rfl dX6_copyFrom_155 ?_
      refine lv_iconst (v := 0) hx hb dX6_copyFrom_158 (by decide) ?_
      refine lv_bipush (v := 8) hx hb dX6_copyFrom_159 (by decide) ?_
      refine q_copyi X hl.1 (List.mem_of_getElem? (i := 10) rfl) (List.mem_of_getElem? (i := 11) rfl) (List.mem_of_getElem? (i := 12) rfl) (List.mem_of_getElem? (i := 13) rfl) hP hj hA hS 1 rfl rfl (by decide) (by decide) h_287 h_278 (by decide) (by decide) (by decide) (by decide) (by decide) (fun _ _ => rfl) (Nat.le_of_ble_eq_true rfl) (Nat.le_of_ble_eq_true rfl) dX6_copyFrom_161 (fun H locs hP hS => ?_)
      generalize eg_293 : va_up g_268 70 _ = g_293 at hP
      have hfr_295 : ∀ j, (j < 64 ∨ 64 + 10 < j) → g_293 j = g j := fun j hj => by rw [← eg_293]; exact (va_up_ne _ _ (by omega)).trans (hfr_270 j hj)
      have h_296 : g_293 64 = .inr (6, [.int 0, .int 0, .int 0, .int 0, .int 0, .int 0, .int 0, .int 0, .ref (ad 65), .ref (ad 66), .ref (ad 67), .ref (ad 68), .ref (ad 69), .ref (ad 70), .ref (ad 71), .ref (ad 72), .ref (ad 73), .ref (ad 74)]) := by rw [← eg_293, va_up_ne _ _ (by decide)]; exact h_271
      have h_297 : g_293 3 = .inr (6, [.int 0, .int 0, .int 0, .int 0, .int 0, .int 0, .int 0, .int 0, .ref (ad 4), .ref (ad 5), .ref (ad 6), .ref (ad 7), .ref (ad 8), .ref (ad 9), .ref (ad 10), .ref (ad 11), .ref (ad 12), .ref (ad 13)]) := by rw [← eg_293, va_up_ne _ _ (by decide)]; exact h_272
      have h_298 : g_293 65 = .inl (cs 1, 14, .inl f_194) := by rw [← eg_293, va_up_ne _ _ (by decide)]; exact h_273
      have h_299 : g_293 66 = .inl (cs 3, 14, .inl f81_66) := by rw [← eg_293, va_up_ne _ _ (by decide)]; exact h_274
      have h_300 : g_293 67 = .inl (cs 1, 5, .inl f_219) := by rw [← eg_293, va_up_ne _ _ (by decide)]; exact h_275
      have h_301 : g_293 68 = .inl (cs 1, 8, .inl f_244) := by rw [← eg_293, va_up_ne _ _ (by decide)]; exact h_276
      have h_302 : g_293 69 = .inl (cs 1, 8, .inl f_269) := by rw [← eg_293, va_up_ne _ _ (by decide)]; exact h_277
      obtain ⟨f_294, h_303⟩ : ∃ f, g_293 70 = .inl (cs 1, 8, .inl f) := ⟨_, by rw [← eg_293]; exact va_up_self _ _ _⟩
      have h_304 : g_293 71 = .inl (cs 1, 8, .inl (fun _ => 0)) := by rw [← eg_293, va_up_ne _ _ (by decide)]; exact h_279
      have h_305 : g_293 72 = .inl (cs 1, 6, .inl (fun _ => 0)) := by rw [← eg_293, va_up_ne _ _ (by decide)]; exact h_280
      have h_306 : g_293 73 = .inl (cs 1, 6, .inl (fun _ => 0)) := by rw [← eg_293, va_up_ne _ _ (by decide)]; exact h_281
      have h_307 : g_293 4 = .inl (cs 1, 14, .inl (fun _ => 0)) := by rw [← eg_293, va_up_ne _ _ (by decide)]; exact h_282
      have h_308 : g_293 5 = .inl (cs 3, 14, .inl (fun _ => 0)) := by rw [← eg_293, va_up_ne _ _ (by decide)]; exact h_283
      have h_309 : g_293 6 = .inl (cs 1, 5, .inl (fun _ => 0)) := by rw [← eg_293, va_up_ne _ _ (by decide)]; exact h_284
      have h_310 : g_293 7 = .inl (cs 1, 8, .inl (fun _ => 0)) := by rw [← eg_293, va_up_ne _ _ (by decide)]; exact h_285
      have h_311 : g_293 8 = .inl (cs 1, 8, .inl (fun _ => 0)) := by rw [← eg_293, va_up_ne _ _ (by decide)]; exact h_286
      have h_312 : g_293 9 = .inl (cs 1, 8, .inl (fun _ => 0)) := by rw [← eg_293, va_up_ne _ _ (by decide)]; exact h_287
      have h_313 : g_293 10 = .inl (cs 1, 8, .inl (fun _ => 0)) := by rw [← eg_293, va_up_ne _ _ (by decide)]; exact h_288
      have h_314 : g_293 11 = .inl (cs 1, 6, .inl (fun _ => 0)) := by rw [← eg_293, va_up_ne _ _ (by decide)]; exact h_289
      have h_315 : g_293 12 = .inl (cs 1, 6, .inl (fun _ => 0)) := by rw [← eg_293, va_up_ne _ _ (by decide)]; exact h_290
      have h_316 : g_293 74 = .inr (0, [.int 0, .ref (ad 75), .ref (ad 76), .ref (ad 77), .ref (ad 83)]) := by rw [← eg_293, va_up_ne _ _ (by decide)]; exact h_291
      have h_317 : g_293 13 = .inr (0, [.int 0, .ref (ad 14), .ref (ad 15), .ref (ad 16), .ref (ad 22)]) := by rw [← eg_293, va_up_ne _ _ (by decide)]; exact h_292
      refine lv_aload_n hx hb dX6_copyFrom_164 rfl (lv_at hl 2 rfl) ?_
      refine q_get X iX6_copyFrom_6 hP (by decide) h_297 rfl 14 (by decide) (List.mem_of_getElem? (i := 18) rfl) (v := .ref (ad 10)) rfl dX6_copyFrom_165 ?_
      refine lv_iconst (v := 0) hx hb dX6_copyFrom_168 (by decide) ?_
      refine lv_aload_n hx hb dX6_copyFrom_169 rfl (lv_at hl 1 rfl) ?_
      refine q_get X iX6_copyFrom_6 hP (by decide) h_296 rfl 14 (by decide) (List.mem_of_getElem? (i := 18) rfl) (v := .ref (ad 71)) rfl dX6_copyFrom_170 ?_
      refine lv_iconst (v := 0) hx hb dX6_copyFrom_173 (by decide) ?_
      refine lv_bipush (v := 8) hx hb dX6_copyFrom_174 (by decide) ?_
      refine q_copyi X hl.1 (List.mem_of_getElem? (i := 10) rfl) (List.mem_of_getElem? (i := 11) rfl) (List.mem_of_getElem? (i := 12) rfl) (List.mem_of_getElem? (i := 13) rfl) hP hj hA hS 1 rfl rfl (by decide) (by decide) h_313 h_304 (by decide) (by decide) (by decide) (by decide) (by decide) (fun _ _ => rfl) (Nat.le_of_ble_eq_true rfl) (Nat.le_of_ble_eq_true rfl) dX6_copyFrom_176 (fun H locs hP hS => ?_)
      generalize eg_318 : va_up g_293 71 _ = g_318 at hP
      have hfr_320 : ∀ j, (j < 64 ∨ 64 + 10 < j) → g_318 j = g j := fun j hj => by rw [← eg_318]; exact (va_up_ne _ _ (by omega)).trans (hfr_295 j hj)
      have h_321 : g_318 64 = .inr (6, [.int 0, .int 0, .int 0, .int 0, .int 0, .int 0, .int 0, .int 0, .ref (ad 65), .ref (ad 66), .ref (ad 67), .ref (ad 68), .ref (ad 69), .ref (ad 70), .ref (ad 71), .ref (ad 72), .ref (ad 73), .ref (ad 74)]) := by rw [← eg_318, va_up_ne _ _ (by decide)]; exact h_296
      have h_322 : g_318 3 = .inr (6, [.int 0, .int 0, .int 0, .int 0, .int 0, .int 0, .int 0, .int 0, .ref (ad 4), .ref (ad 5), .ref (ad 6), .ref (ad 7), .ref (ad 8), .ref (ad 9), .ref (ad 10), .ref (ad 11), .ref (ad 12), .ref (ad 13)]) := by rw [← eg_318, va_up_ne _ _ (by decide)]; exact h_297
      have h_323 : g_318 65 = .inl (cs 1, 14, .inl f_194) := by rw [← eg_318, va_up_ne _ _ (by decide)]; exact h_298
      have h_324 : g_318 66 = .inl (cs 3, 14, .inl f81_66) := by rw [← eg_318, va_up_ne _ _ (by decide)]; exact h_299
      have h_325 : g_318 67 = .inl (cs 1, 5, .inl f_219) := by rw [← eg_318, va_up_ne _ _ (by decide)]; exact h_300
      have h_326 : g_318 68 = .inl (cs 1, 8, .inl f_244) := by rw [← eg_318, va_up_ne _ _ (by decide)]; exact h_301
      have h_327 : g_318 69 = .inl (cs 1, 8, .inl f_269) := by rw [← eg_318, va_up_ne _ _ (by decide)]; exact h_302
      have h_328 : g_318 70 = .inl (cs 1, 8, .inl f_294) := by rw [← eg_318, va_up_ne _ _ (by decide)]; exact h_303
      obtain ⟨f_319, h_329⟩ : ∃ f, g_318 71 = .inl (cs 1, 8, .inl f) := ⟨_, by rw [← eg_318]; exact va_up_self _ _ _⟩
      have h_330 : g_318 72 = .inl (cs 1, 6, .inl (fun _ => 0)) := by rw [← eg_318, va_up_ne _ _ (by decide)]; exact h_305
      have h_331 : g_318 73 = .inl (cs 1, 6, .inl (fun _ => 0)) := by rw [← eg_318, va_up_ne _ _ (by decide)]; exact h_306
      have h_332 : g_318 4 = .inl (cs 1, 14, .inl (fun _ => 0)) := by rw [← eg_318, va_up_ne _ _ (by decide)]; exact h_307
      have h_333 : g_318 5 = .inl (cs 3, 14, .inl (fun _ => 0)) := by rw [← eg_318, va_up_ne _ _ (by decide)]; exact h_308
      have h_334 : g_318 6 = .inl (cs 1, 5, .inl (fun _ => 0)) := by rw [← eg_318, va_up_ne _ _ (by decide)]; exact h_309
      have h_335 : g_318 7 = .inl (cs 1, 8, .inl (fun _ => 0)) := by rw [← eg_318, va_up_ne _ _ (by decide)]; exact h_310
      have h_336 : g_318 8 = .inl (cs 1, 8, .inl (fun _ => 0)) := by rw [← eg_318, va_up_ne _ _ (by decide)]; exact h_311
      have h_337 : g_318 9 = .inl (cs 1, 8, .inl (fun _ => 0)) := by rw [← eg_318, va_up_ne _ _ (by decide)]; exact h_312
      have h_338 : g_318 10 = .inl (cs 1, 8, .inl (fun _ => 0)) := by rw [← eg_318, va_up_ne _ _ (by decide)]; exact h_313
      have h_339 : g_318 11 = .inl (cs 1, 6, .inl (fun _ => 0)) := by rw [← eg_318, va_up_ne _ _ (by decide)]; exact h_314
      have h_340 : g_318 12 = .inl (cs 1, 6, .inl (fun _ => 0)) := by rw [← eg_318, va_up_ne _ _ (by decide)]; exact h_315
      have h_341 : g_318 74 = .inr (0, [.int 0, .ref (ad 75), .ref (ad 76), .ref (ad 77), .ref (ad 83)]) := by rw [← eg_318, va_up_ne _ _ (by decide)]; exact h_316
      have h_342 : g_318 13 = .inr (0, [.int 0, .ref (ad 14), .ref (ad 15), .ref (ad 16), .ref (ad 22)]) := by rw [← eg_318, va_up_ne _ _ (by decide)]; exact h_317
      refine lv_aload_n hx hb dX6_copyFrom_179 rfl (lv_at hl 2 rfl) ?_
      refine q_get X iX6_copyFrom_6 hP (by decide) h_322 rfl 15 (by decide) (List.mem_of_getElem? (i := 19) rfl) (v := .ref (ad 11)) rfl dX6_copyFrom_180 ?_
      refine lv_iconst (v := 0) hx hb dX6_copyFrom_183 (by decide) ?_
      refine lv_aload_n hx hb dX6_copyFrom_184 rfl (lv_at hl 1 rfl) ?_
      refine q_get X iX6_copyFrom_6 hP (by decide) h_321 rfl 15 (by decide) (List.mem_of_getElem? (i := 19) rfl) (v := .ref (ad 72)) rfl dX6_copyFrom_185 ?_
      refine lv_iconst (v := 0) hx hb dX6_copyFrom_188 (by decide) ?_
      refine lv_bipush (v := 6) hx hb dX6_copyFrom_189 (by decide) ?_
      refine q_copyi X hl.1 (List.mem_of_getElem? (i := 10) rfl) (List.mem_of_getElem? (i := 11) rfl) (List.mem_of_getElem? (i := 12) rfl) (List.mem_of_getElem? (i := 13) rfl) hP hj hA hS 1 rfl rfl (by decide) (by decide) h_339 h_330 (by decide) (by decide) (by decide) (by decide) (by decide) (fun _ _ => rfl) (Nat.le_of_ble_eq_true rfl) (Nat.le_of_ble_eq_true rfl) dX6_copyFrom_191 (fun H locs hP hS => ?_)
      generalize eg_343 : va_up g_318 72 _ = g_343 at hP
      have hfr_345 : ∀ j, (j < 64 ∨ 64 + 10 < j) → g_343 j = g j := fun j hj => by rw [← eg_343]; exact (va_up_ne _ _ (by omega)).trans (hfr_320 j hj)
      have h_346 : g_343 64 = .inr (6, [.int 0, .int 0, .int 0, .int 0, .int 0, .int 0, .int 0, .int 0, .ref (ad 65), .ref (ad 66), .ref (ad 67), .ref (ad 68), .ref (ad 69), .ref (ad 70), .ref (ad 71), .ref (ad 72), .ref (ad 73), .ref (ad 74)]) := by rw [← eg_343, va_up_ne _ _ (by decide)]; exact h_321
      have h_347 : g_343 3 = .inr (6, [.int 0, .int 0, .int 0, .int 0, .int 0, .int 0, .int 0, .int 0, .ref (ad 4), .ref (ad 5), .ref (ad 6), .ref (ad 7), .ref (ad 8), .ref (ad 9), .ref (ad 10), .ref (ad 11), .ref (ad 12), .ref (ad 13)]) := by rw [← eg_343, va_up_ne _ _ (by decide)]; exact h_322
      have h_348 : g_343 65 = .inl (cs 1, 14, .inl f_194) := by rw [← eg_343, va_up_ne _ _ (by decide)]; exact h_323
      have h_349 : g_343 66 = .inl (cs 3, 14, .inl f81_66) := by rw [← eg_343, va_up_ne _ _ (by decide)]; exact h_324
      have h_350 : g_343 67 = .inl (cs 1, 5, .inl f_219) := by rw [← eg_343, va_up_ne _ _ (by decide)]; exact h_325
      have h_351 : g_343 68 = .inl (cs 1, 8, .inl f_244) := by rw [← eg_343, va_up_ne _ _ (by decide)]; exact h_326
      have h_352 : g_343 69 = .inl (cs 1, 8, .inl f_269) := by rw [← eg_343, va_up_ne _ _ (by decide)]; exact h_327
      have h_353 : g_343 70 = .inl (cs 1, 8, .inl f_294) := by rw [← eg_343, va_up_ne _ _ (by decide)]; exact h_328
      have h_354 : g_343 71 = .inl (cs 1, 8, .inl f_319) := by rw [← eg_343, va_up_ne _ _ (by decide)]; exact h_329
      obtain ⟨f_344, h_355⟩ : ∃ f, g_343 72 = .inl (cs 1, 6, .inl f) := ⟨_, by rw [← eg_343]; exact va_up_self _ _ _⟩
      have h_356 : g_343 73 = .inl (cs 1, 6, .inl (fun _ => 0)) := by rw [← eg_343, va_up_ne _ _ (by decide)]; exact h_331
      have h_357 : g_343 4 = .inl (cs 1, 14, .inl (fun _ => 0)) := by rw [← eg_343, va_up_ne _ _ (by decide)]; exact h_332
      have h_358 : g_343 5 = .inl (cs 3, 14, .inl (fun _ => 0)) := by rw [← eg_343, va_up_ne _ _ (by decide)]; exact h_333
      have h_359 : g_343 6 = .inl (cs 1, 5, .inl (fun _ => 0)) := by rw [← eg_343, va_up_ne _ _ (by decide)]; exact h_334
      have h_360 : g_343 7 = .inl (cs 1, 8, .inl (fun _ => 0)) := by rw [← eg_343, va_up_ne _ _ (by decide)]; exact h_335
      have h_361 : g_343 8 = .inl (cs 1, 8, .inl (fun _ => 0)) := by rw [← eg_343, va_up_ne _ _ (by decide)]; exact h_336
      have h_362 : g_343 9 = .inl (cs 1, 8, .inl (fun _ => 0)) := by rw [← eg_343, va_up_ne _ _ (by decide)]; exact h_337
      have h_363 : g_343 10 = .inl (cs 1, 8, .inl (fun _ => 0)) := by rw [← eg_343, va_up_ne _ _ (by decide)]; exact h_338
      have h_364 : g_343 11 = .inl (cs 1, 6, .inl (fun _ => 0)) := by rw [← eg_343, va_up_ne _ _ (by decide)]; exact h_339
      have h_365 : g_343 12 = .inl (cs 1, 6, .inl (fun _ => 0)) := by rw [← eg_343, va_up_ne _ _ (by decide)]; exact h_340
      have h_366 : g_343 74 = .inr (0, [.int 0, .ref (ad 75), .ref (ad 76), .ref (ad 77), .ref (ad 83)]) := by rw [← eg_343, va_up_ne _ _ (by decide)]; exact h_341
      have h_367 : g_343 13 = .inr (0, [.int 0, .ref (ad 14), .ref (ad 15), .ref (ad 16), .ref (ad 22)]) := by rw [← eg_343, va_up_ne _ _ (by decide)]; exact h_342
      refine lv_aload_n hx hb dX6_copyFrom_194 rfl (lv_at hl 2 rfl) ?_
      refine q_get X iX6_copyFrom_6 hP (by decide) h_347 rfl 16 (by decide) (List.mem_of_getElem? (i := 20) rfl) (v := .ref (ad 12)) rfl dX6_copyFrom_195 ?_
      refine lv_iconst (v := 0) hx hb dX6_copyFrom_198 (by decide) ?_
      refine lv_aload_n hx hb dX6_copyFrom_199 rfl (lv_at hl 1 rfl) ?_
      refine q_get X iX6_copyFrom_6 hP (by decide) h_346 rfl 16 (by decide) (List.mem_of_getElem? (i := 20) rfl) (v := .ref (ad 73)) rfl dX6_copyFrom_200 ?_
      refine lv_iconst (v := 0) hx hb dX6_copyFrom_203 (by decide) ?_
      refine lv_bipush (v := 6) hx hb dX6_copyFrom_204 (by decide) ?_
      refine q_copyi X hl.1 (List.mem_of_getElem? (i := 10) rfl) (List.mem_of_getElem? (i := 11) rfl) (List.mem_of_getElem? (i := 12) rfl) (List.mem_of_getElem? (i := 13) rfl) hP hj hA hS 1 rfl rfl (by decide) (by decide) h_365 h_356 (by decide) (by decide) (by decide) (by decide) (by decide) (fun _ _ => rfl) (Nat.le_of_ble_eq_true rfl) (Nat.le_of_ble_eq_true rfl) dX6_copyFrom_206 (fun H locs hP hS => ?_)
      generalize eg_368 : va_up g_343 73 _ = g_368 at hP
      have hfr_370 : ∀ j, (j < 64 ∨ 64 + 10 < j) → g_368 j = g j := fun j hj => by rw [← eg_368]; exact (va_up_ne _ _ (by omega)).trans (hfr_345 j hj)
      have h_371 : g_368 64 = .inr (6, [.int 0, .int 0, .int 0, .int 0, .int 0, .int 0, .int 0, .int 0, .ref (ad 65), .ref (ad 66), .ref (ad 67), .ref (ad 68), .ref (ad 69), .ref (ad 70), .ref (ad 71), .ref (ad 72), .ref (ad 73), .ref (ad 74)]) := by rw [← eg_368, va_up_ne _ _ (by decide)]; exact h_346
      have h_372 : g_368 3 = .inr (6, [.int 0, .int 0, .int 0, .int 0, .int 0, .int 0, .int 0, .int 0, .ref (ad 4), .ref (ad 5), .ref (ad 6), .ref (ad 7), .ref (ad 8), .ref (ad 9), .ref (ad 10), .ref (ad 11), .ref (ad 12), .ref (ad 13)]) := by rw [← eg_368, va_up_ne _ _ (by decide)]; exact h_347
      have h_373 : g_368 65 = .inl (cs 1, 14, .inl f_194) := by rw [← eg_368, va_up_ne _ _ (by decide)]; exact h_348
      have h_374 : g_368 66 = .inl (cs 3, 14, .inl f81_66) := by rw [← eg_368, va_up_ne _ _ (by decide)]; exact h_349
      have h_375 : g_368 67 = .inl (cs 1, 5, .inl f_219) := by rw [← eg_368, va_up_ne _ _ (by decide)]; exact h_350
      have h_376 : g_368 68 = .inl (cs 1, 8, .inl f_244) := by rw [← eg_368, va_up_ne _ _ (by decide)]; exact h_351
      have h_377 : g_368 69 = .inl (cs 1, 8, .inl f_269) := by rw [← eg_368, va_up_ne _ _ (by decide)]; exact h_352
      have h_378 : g_368 70 = .inl (cs 1, 8, .inl f_294) := by rw [← eg_368, va_up_ne _ _ (by decide)]; exact h_353
      have h_379 : g_368 71 = .inl (cs 1, 8, .inl f_319) := by rw [← eg_368, va_up_ne _ _ (by decide)]; exact h_354
      have h_380 : g_368 72 = .inl (cs 1, 6, .inl f_344) := by rw [← eg_368, va_up_ne _ _ (by decide)]; exact h_355
      obtain ⟨f_369, h_381⟩ : ∃ f, g_368 73 = .inl (cs 1, 6, .inl f) := ⟨_, by rw [← eg_368]; exact va_up_self _ _ _⟩
      have h_382 : g_368 4 = .inl (cs 1, 14, .inl (fun _ => 0)) := by rw [← eg_368, va_up_ne _ _ (by decide)]; exact h_357
      have h_383 : g_368 5 = .inl (cs 3, 14, .inl (fun _ => 0)) := by rw [← eg_368, va_up_ne _ _ (by decide)]; exact h_358
      have h_384 : g_368 6 = .inl (cs 1, 5, .inl (fun _ => 0)) := by rw [← eg_368, va_up_ne _ _ (by decide)]; exact h_359
      have h_385 : g_368 7 = .inl (cs 1, 8, .inl (fun _ => 0)) := by rw [← eg_368, va_up_ne _ _ (by decide)]; exact h_360
      have h_386 : g_368 8 = .inl (cs 1, 8, .inl (fun _ => 0)) := by rw [← eg_368, va_up_ne _ _ (by decide)]; exact h_361
      have h_387 : g_368 9 = .inl (cs 1, 8, .inl (fun _ => 0)) := by rw [← eg_368, va_up_ne _ _ (by decide)]; exact h_362
      have h_388 : g_368 10 = .inl (cs 1, 8, .inl (fun _ => 0)) := by rw [← eg_368, va_up_ne _ _ (by decide)]; exact h_363
      have h_389 : g_368 11 = .inl (cs 1, 6, .inl (fun _ => 0)) := by rw [← eg_368, va_up_ne _ _ (by decide)]; exact h_364
      have h_390 : g_368 12 = .inl (cs 1, 6, .inl (fun _ => 0)) := by rw [← eg_368, va_up_ne _ _ (by decide)]; exact h_365
      have h_391 : g_368 74 = .inr (0, [.int 0, .ref (ad 75), .ref (ad 76), .ref (ad 77), .ref (ad 83)]) := by rw [← eg_368, va_up_ne _ _ (by decide)]; exact h_366
      have h_392 : g_368 13 = .inr (0, [.int 0, .ref (ad 14), .ref (ad 15), .ref (ad 16), .ref (ad 22)]) := by rw [← eg_368, va_up_ne _ _ (by decide)]; exact h_367
      refine lv_aload_n hx hb dX6_copyFrom_209 rfl (lv_at hl 1 rfl) ?_
      refine q_get X iX6_copyFrom_6 hP (by decide) h_371 rfl 17 (by decide) (List.mem_of_getElem? (i := 21) rfl) (v := .ref (ad 74)) rfl dX6_copyFrom_210 ?_
      refine lv_aload_n hx hb dX6_copyFrom_213 rfl (lv_at hl 2 rfl) ?_
      refine q_get X iX6_copyFrom_6 hP (by decide) h_372 rfl 17 (by decide) (List.mem_of_getElem? (i := 21) rfl) (v := .ref (ad 13)) rfl dX6_copyFrom_214 ?_
      refine q_callv (q := (RX0, TX0, 5)) (As := [.ref (ad 13)]) (rest := []) X (k_acopy64 l D cs ad hj g_368  h_391 h_392) (cwV 1 X.2.2.2.2.1 gg_X6_copyFrom_X0_copyFrom rfl rfl rfl (by decide +kernel) ⟨Nat.le_of_ble_eq_true rfl, Nat.le_of_ble_eq_true rfl⟩) (by decide) h_391 rfl hP hA hS rfl hl.1 rfl (Nat.le_of_ble_eq_true rfl) dX6_copyFrom_217 ⟨Nat.le_of_ble_eq_true rfl, Nat.le_of_ble_eq_true rfl⟩ (fun g_394 H locs hw_393 hP hS => ?_)
      rw [hw_393] at hP
      exact q_vret X hP hS ⟨h_371, hfr_370⟩ dX6_copyFrom_220
    | succ d81 ih81 =>
      intro k81 f81_66 G81 H locs ls hk81 hfr81 h81_64 h81_3 h81_65 h81_66 h81_67 h81_68 h81_69 h81_70 h81_71 h81_72 h81_73 h81_4 h81_5 h81_6 h81_7 h81_8 h81_9 h81_10 h81_11 h81_12 h81_74 h81_13 hP hS hl
      refine lv_iload_n hx hb dX6_copyFrom_81 rfl (lv_at hl 0 rfl) ?_
      refine lv_bipush (v := 14) hx hb dX6_copyFrom_82 (by decide) ?_
      refine lv_icmp_ge (tgt := 105) hx hb dX6_copyFrom_84 (by decide) (fun hc_84 => absurd hc_84 (nI_ge (a := k81) (b := 14) (by omega) (by decide))) (fun hc_84 => ?_)
      refine lv_aload_n hx hb dX6_copyFrom_87 rfl (lv_at hl 1 rfl) ?_
      refine q_get X iX6_copyFrom_6 hP (by decide) h81_64 rfl 9 (by decide) (List.mem_of_getElem? (i := 32) rfl) (v := .ref (ad 66)) rfl dX6_copyFrom_88 ?_
      refine lv_iload_n hx hb dX6_copyFrom_91 rfl (lv_at hl 0 rfl) ?_
      refine lv_aload_n hx hb dX6_copyFrom_92 rfl (lv_at hl 2 rfl) ?_
      refine q_get X iX6_copyFrom_6 hP (by decide) h81_3 rfl 9 (by decide) (List.mem_of_getElem? (i := 32) rfl) (v := .ref (ad 5)) rfl dX6_copyFrom_93 ?_
      refine lv_iload_n hx hb dX6_copyFrom_96 rfl (lv_at hl 0 rfl) ?_
      refine q_zald X hP (by decide) h81_5 (vp_in_nI (by omega) (by decide)) dX6_copyFrom_97 ?_
      refine q_zast X hP hj hA hS (by decide) h81_66 (vp_in_nI (by omega) (by decide)) dX6_copyFrom_98 (fun H locs hP hS => ?_)
      generalize eg_396 : va_up G81 66 _ = g_396 at hP
      have hfr_398 : ∀ j, (j < 64 ∨ 64 + 10 < j) → g_396 j = g j := fun j hj => by rw [← eg_396]; exact (va_up_ne _ _ (by omega)).trans (hfr81 j hj)
      have h_399 : g_396 64 = .inr (6, [.int 0, .int 0, .int 0, .int 0, .int 0, .int 0, .int 0, .int 0, .ref (ad 65), .ref (ad 66), .ref (ad 67), .ref (ad 68), .ref (ad 69), .ref (ad 70), .ref (ad 71), .ref (ad 72), .ref (ad 73), .ref (ad 74)]) := by rw [← eg_396, va_up_ne _ _ (by decide)]; exact h81_64
      have h_400 : g_396 3 = .inr (6, [.int 0, .int 0, .int 0, .int 0, .int 0, .int 0, .int 0, .int 0, .ref (ad 4), .ref (ad 5), .ref (ad 6), .ref (ad 7), .ref (ad 8), .ref (ad 9), .ref (ad 10), .ref (ad 11), .ref (ad 12), .ref (ad 13)]) := by rw [← eg_396, va_up_ne _ _ (by decide)]; exact h81_3
      have h_401 : g_396 65 = .inl (cs 1, 14, .inl f_194) := by rw [← eg_396, va_up_ne _ _ (by decide)]; exact h81_65
      obtain ⟨f_397, h_402⟩ : ∃ f, g_396 66 = .inl (cs 3, 14, .inl f) := ⟨_, by rw [← eg_396]; exact va_up_self _ _ _⟩
      have h_403 : g_396 67 = .inl (cs 1, 5, .inl (fun _ => 0)) := by rw [← eg_396, va_up_ne _ _ (by decide)]; exact h81_67
      have h_404 : g_396 68 = .inl (cs 1, 8, .inl (fun _ => 0)) := by rw [← eg_396, va_up_ne _ _ (by decide)]; exact h81_68
      have h_405 : g_396 69 = .inl (cs 1, 8, .inl (fun _ => 0)) := by rw [← eg_396, va_up_ne _ _ (by decide)]; exact h81_69
      have h_406 : g_396 70 = .inl (cs 1, 8, .inl (fun _ => 0)) := by rw [← eg_396, va_up_ne _ _ (by decide)]; exact h81_70
      have h_407 : g_396 71 = .inl (cs 1, 8, .inl (fun _ => 0)) := by rw [← eg_396, va_up_ne _ _ (by decide)]; exact h81_71
      have h_408 : g_396 72 = .inl (cs 1, 6, .inl (fun _ => 0)) := by rw [← eg_396, va_up_ne _ _ (by decide)]; exact h81_72
      have h_409 : g_396 73 = .inl (cs 1, 6, .inl (fun _ => 0)) := by rw [← eg_396, va_up_ne _ _ (by decide)]; exact h81_73
      have h_410 : g_396 4 = .inl (cs 1, 14, .inl (fun _ => 0)) := by rw [← eg_396, va_up_ne _ _ (by decide)]; exact h81_4
      have h_411 : g_396 5 = .inl (cs 3, 14, .inl (fun _ => 0)) := by rw [← eg_396, va_up_ne _ _ (by decide)]; exact h81_5
      have h_412 : g_396 6 = .inl (cs 1, 5, .inl (fun _ => 0)) := by rw [← eg_396, va_up_ne _ _ (by decide)]; exact h81_6
      have h_413 : g_396 7 = .inl (cs 1, 8, .inl (fun _ => 0)) := by rw [← eg_396, va_up_ne _ _ (by decide)]; exact h81_7
      have h_414 : g_396 8 = .inl (cs 1, 8, .inl (fun _ => 0)) := by rw [← eg_396, va_up_ne _ _ (by decide)]; exact h81_8
      have h_415 : g_396 9 = .inl (cs 1, 8, .inl (fun _ => 0)) := by rw [← eg_396, va_up_ne _ _ (by decide)]; exact h81_9
      have h_416 : g_396 10 = .inl (cs 1, 8, .inl (fun _ => 0)) := by rw [← eg_396, va_up_ne _ _ (by decide)]; exact h81_10
      have h_417 : g_396 11 = .inl (cs 1, 6, .inl (fun _ => 0)) := by rw [← eg_396, va_up_ne _ _ (by decide)]; exact h81_11
      have h_418 : g_396 12 = .inl (cs 1, 6, .inl (fun _ => 0)) := by rw [← eg_396, va_up_ne _ _ (by decide)]; exact h81_12
      have h_419 : g_396 74 = .inr (0, [.int 0, .ref (ad 75), .ref (ad 76), .ref (ad 77), .ref (ad 83)]) := by rw [← eg_396, va_up_ne _ _ (by decide)]; exact h81_74
      have h_420 : g_396 13 = .inr (0, [.int 0, .ref (ad 14), .ref (ad 15), .ref (ad 16), .ref (ad 22)]) := by rw [← eg_396, va_up_ne _ _ (by decide)]; exact h81_13
      refine lv_iinc (v := (nI (k81 + 1))) (lv' := [(2, .int (nI (k81 + 1))), (0, .ref (ad 64)), (1, .ref (ad 3))]) hx hb dX6_copyFrom_99 hl (k := 0) rfl (nI_add k81 1) (by decide) rfl (fun ls hl => ?_)
      refine lv_goto (tgt := 81) hx hb dX6_copyFrom_102 (by decide) ?_
      exact ih81 (k81 + 1) _ g_396 _ _ ls (by omega) hfr_398 h_399 h_400 h_401 h_402 h_403 h_404 h_405 h_406 h_407 h_408 h_409 h_410 h_411 h_412 h_413 h_414 h_415 h_416 h_417 h_418 h_419 h_420 hP hS (lv_sub hl [0, 1, 2] rfl)
  exact HL81 14 0 _ g_193 _ _ ls (by omega) hfr_195 h_196 h_197 h_198 h_199 h_200 h_201 h_202 h_203 h_204 h_205 h_206 h_207 h_208 h_209 h_210 h_211 h_212 h_213 h_214 h_215 h_216 h_217 hP hS (lv_sub hl [0, 1, 2] rfl)

set_option maxHeartbeats 4000000 in
set_option maxRecDepth 100000 in
theorem k_copy84 (l : Launch) (D : va_G) (cs : Nat → ClassId) (ad : Nat → Nat) (hj : wJ ad nW) (g : Nat → va_E) (h84 : g 84 = .inr (6, [.int 0, .int 0, .int 0, .int 0, .int 0, .int 0, .int 0, .int 0, .ref (ad 85), .ref (ad 86), .ref (ad 87), .ref (ad 88), .ref (ad 89), .ref (ad 90), .ref (ad 91), .ref (ad 92), .ref (ad 93), .ref (ad 94)])) (h3 : g 3 = .inr (6, [.int 0, .int 0, .int 0, .int 0, .int 0, .int 0, .int 0, .int 0, .ref (ad 4), .ref (ad 5), .ref (ad 6), .ref (ad 7), .ref (ad 8), .ref (ad 9), .ref (ad 10), .ref (ad 11), .ref (ad 12), .ref (ad 13)])) (h85 : g 85 = .inl (cs 1, 14, .inl (fun _ => 0))) (h86 : g 86 = .inl (cs 3, 14, .inl (fun _ => 0))) (h87 : g 87 = .inl (cs 1, 5, .inl (fun _ => 0))) (h88 : g 88 = .inl (cs 1, 8, .inl (fun _ => 0))) (h89 : g 89 = .inl (cs 1, 8, .inl (fun _ => 0))) (h90 : g 90 = .inl (cs 1, 8, .inl (fun _ => 0))) (h91 : g 91 = .inl (cs 1, 8, .inl (fun _ => 0))) (h92 : g 92 = .inl (cs 1, 6, .inl (fun _ => 0))) (h93 : g 93 = .inl (cs 1, 6, .inl (fun _ => 0))) (h4 : g 4 = .inl (cs 1, 14, .inl (fun _ => 0))) (h5 : g 5 = .inl (cs 3, 14, .inl (fun _ => 0))) (h6 : g 6 = .inl (cs 1, 5, .inl (fun _ => 0))) (h7 : g 7 = .inl (cs 1, 8, .inl (fun _ => 0))) (h8 : g 8 = .inl (cs 1, 8, .inl (fun _ => 0))) (h9 : g 9 = .inl (cs 1, 8, .inl (fun _ => 0))) (h10 : g 10 = .inl (cs 1, 8, .inl (fun _ => 0))) (h11 : g 11 = .inl (cs 1, 6, .inl (fun _ => 0))) (h12 : g 12 = .inl (cs 1, 6, .inl (fun _ => 0))) (h94 : g 94 = .inr (0, [.int 0, .ref (ad 95), .ref (ad 96), .ref (ad 97), .ref (ad 103)])) (h13 : g 13 = .inr (0, [.int 0, .ref (ad 14), .ref (ad 15), .ref (ad 16), .ref (ad 22)])) : cV l yX6_copyFrom vX6_copyFrom { frames := 2, cells := 0, slots := 0, locals := 43 } D cs ad nW [.ref (ad 84), .ref (ad 3)] g (fun g2 => g2 84 = .inr (6, [.int 0, .int 0, .int 0, .int 0, .int 0, .int 0, .int 0, .int 0, .ref (ad 85), .ref (ad 86), .ref (ad 87), .ref (ad 88), .ref (ad 89), .ref (ad 90), .ref (ad 91), .ref (ad 92), .ref (ad 93), .ref (ad 94)]) ∧ ∀ j, (j < 84 ∨ 84 + 10 < j) → g2 j = g j) := by
  refine Met.start (cc := cX6_copyFrom) (maxL := 3) (ret := none) RX6 rfl (by decide) rfl (Nat.le_of_ble_eq_true rfl) ?_
  intro p e s m below meth c ls X hP hl
  have hx := X.1
  have hb := X.2.1
  have hS : va_S (wA ad nW) s.heap s.heap [] := va_S.rf
  have hA : ∀ i, i < nW → wA ad nW (ad i) := fun i h => ⟨i, h, rfl⟩
  have hfr : ∀ j, (j < 84 ∨ 84 + 10 < j) → g j = g j := fun _ _ => rfl
  have hl : lv_has ls 3 [(0, .ref (ad 84)), (1, .ref (ad 3))] := hl
  refine lv_aload_n hx hb dX6_copyFrom_0 rfl (lv_at hl 0 rfl) ?_
  refine lv_aload_n hx hb dX6_copyFrom_1 rfl (lv_at hl 1 rfl) ?_
  refine q_get X iX6_copyFrom_6 hP (by decide) h3 rfl 0 (by decide) (List.mem_of_getElem? (i := 1) rfl) (v := .int 0) rfl dX6_copyFrom_2 ?_
  refine q_put X iX6_copyFrom_6 tyX6 tyX6_ok nmX6 hP hj hA hS (by decide) h84 rfl 0 (by decide) (List.mem_of_getElem? (i := 1) rfl) rfl (ty := .int) (v := .int 0) (by decide +kernel) rfl rfl (Nat.le_of_ble_eq_true rfl) dX6_copyFrom_5 (fun H locs hP hS => ?_)
  generalize eg_1 : va_up g 84 _ = g_1 at hP
  have hfr_2 : ∀ j, (j < 84 ∨ 84 + 10 < j) → g_1 j = g j := fun j hj => by rw [← eg_1]; exact (va_up_ne _ _ (by omega)).trans (hfr j hj)
  have h_3 : g_1 84 = .inr (6, [.int 0, .int 0, .int 0, .int 0, .int 0, .int 0, .int 0, .int 0, .ref (ad 85), .ref (ad 86), .ref (ad 87), .ref (ad 88), .ref (ad 89), .ref (ad 90), .ref (ad 91), .ref (ad 92), .ref (ad 93), .ref (ad 94)]) := by rw [← eg_1]; exact va_up_self _ _ _
  have h_4 : g_1 3 = .inr (6, [.int 0, .int 0, .int 0, .int 0, .int 0, .int 0, .int 0, .int 0, .ref (ad 4), .ref (ad 5), .ref (ad 6), .ref (ad 7), .ref (ad 8), .ref (ad 9), .ref (ad 10), .ref (ad 11), .ref (ad 12), .ref (ad 13)]) := by rw [← eg_1, va_up_ne _ _ (by decide)]; exact h3
  have h_5 : g_1 85 = .inl (cs 1, 14, .inl (fun _ => 0)) := by rw [← eg_1, va_up_ne _ _ (by decide)]; exact h85
  have h_6 : g_1 86 = .inl (cs 3, 14, .inl (fun _ => 0)) := by rw [← eg_1, va_up_ne _ _ (by decide)]; exact h86
  have h_7 : g_1 87 = .inl (cs 1, 5, .inl (fun _ => 0)) := by rw [← eg_1, va_up_ne _ _ (by decide)]; exact h87
  have h_8 : g_1 88 = .inl (cs 1, 8, .inl (fun _ => 0)) := by rw [← eg_1, va_up_ne _ _ (by decide)]; exact h88
  have h_9 : g_1 89 = .inl (cs 1, 8, .inl (fun _ => 0)) := by rw [← eg_1, va_up_ne _ _ (by decide)]; exact h89
  have h_10 : g_1 90 = .inl (cs 1, 8, .inl (fun _ => 0)) := by rw [← eg_1, va_up_ne _ _ (by decide)]; exact h90
  have h_11 : g_1 91 = .inl (cs 1, 8, .inl (fun _ => 0)) := by rw [← eg_1, va_up_ne _ _ (by decide)]; exact h91
  have h_12 : g_1 92 = .inl (cs 1, 6, .inl (fun _ => 0)) := by rw [← eg_1, va_up_ne _ _ (by decide)]; exact h92
  have h_13 : g_1 93 = .inl (cs 1, 6, .inl (fun _ => 0)) := by rw [← eg_1, va_up_ne _ _ (by decide)]; exact h93
  have h_14 : g_1 4 = .inl (cs 1, 14, .inl (fun _ => 0)) := by rw [← eg_1, va_up_ne _ _ (by decide)]; exact h4
  have h_15 : g_1 5 = .inl (cs 3, 14, .inl (fun _ => 0)) := by rw [← eg_1, va_up_ne _ _ (by decide)]; exact h5
  have h_16 : g_1 6 = .inl (cs 1, 5, .inl (fun _ => 0)) := by rw [← eg_1, va_up_ne _ _ (by decide)]; exact h6
  have h_17 : g_1 7 = .inl (cs 1, 8, .inl (fun _ => 0)) := by rw [← eg_1, va_up_ne _ _ (by decide)]; exact h7
  have h_18 : g_1 8 = .inl (cs 1, 8, .inl (fun _ => 0)) := by rw [← eg_1, va_up_ne _ _ (by decide)]; exact h8
  have h_19 : g_1 9 = .inl (cs 1, 8, .inl (fun _ => 0)) := by rw [← eg_1, va_up_ne _ _ (by decide)]; exact h9
  have h_20 : g_1 10 = .inl (cs 1, 8, .inl (fun _ => 0)) := by rw [← eg_1, va_up_ne _ _ (by decide)]; exact h10
  have h_21 : g_1 11 = .inl (cs 1, 6, .inl (fun _ => 0)) := by rw [← eg_1, va_up_ne _ _ (by decide)]; exact h11
  have h_22 : g_1 12 = .inl (cs 1, 6, .inl (fun _ => 0)) := by rw [← eg_1, va_up_ne _ _ (by decide)]; exact h12
  have h_23 : g_1 94 = .inr (0, [.int 0, .ref (ad 95), .ref (ad 96), .ref (ad 97), .ref (ad 103)]) := by rw [← eg_1, va_up_ne _ _ (by decide)]; exact h94
  have h_24 : g_1 13 = .inr (0, [.int 0, .ref (ad 14), .ref (ad 15), .ref (ad 16), .ref (ad 22)]) := by rw [← eg_1, va_up_ne _ _ (by decide)]; exact h13
  refine lv_aload_n hx hb dX6_copyFrom_8 rfl (lv_at hl 0 rfl) ?_
  refine lv_aload_n hx hb dX6_copyFrom_9 rfl (lv_at hl 1 rfl) ?_
  refine q_get X iX6_copyFrom_6 hP (by decide) h_4 rfl 1 (by decide) (List.mem_of_getElem? (i := 2) rfl) (v := .int 0) rfl dX6_copyFrom_10 ?_
  refine q_put X iX6_copyFrom_6 tyX6 tyX6_ok nmX6 hP hj hA hS (by decide) h_3 rfl 1 (by decide) (List.mem_of_getElem? (i := 2) rfl) rfl (ty := .int) (v := .int 0) (by decide +kernel) rfl rfl (Nat.le_of_ble_eq_true rfl) dX6_copyFrom_13 (fun H locs hP hS => ?_)
  generalize eg_25 : va_up g_1 84 _ = g_25 at hP
  have hfr_26 : ∀ j, (j < 84 ∨ 84 + 10 < j) → g_25 j = g j := fun j hj => by rw [← eg_25]; exact (va_up_ne _ _ (by omega)).trans (hfr_2 j hj)
  have h_27 : g_25 84 = .inr (6, [.int 0, .int 0, .int 0, .int 0, .int 0, .int 0, .int 0, .int 0, .ref (ad 85), .ref (ad 86), .ref (ad 87), .ref (ad 88), .ref (ad 89), .ref (ad 90), .ref (ad 91), .ref (ad 92), .ref (ad 93), .ref (ad 94)]) := by rw [← eg_25]; exact va_up_self _ _ _
  have h_28 : g_25 3 = .inr (6, [.int 0, .int 0, .int 0, .int 0, .int 0, .int 0, .int 0, .int 0, .ref (ad 4), .ref (ad 5), .ref (ad 6), .ref (ad 7), .ref (ad 8), .ref (ad 9), .ref (ad 10), .ref (ad 11), .ref (ad 12), .ref (ad 13)]) := by rw [← eg_25, va_up_ne _ _ (by decide)]; exact h_4
  have h_29 : g_25 85 = .inl (cs 1, 14, .inl (fun _ => 0)) := by rw [← eg_25, va_up_ne _ _ (by decide)]; exact h_5
  have h_30 : g_25 86 = .inl (cs 3, 14, .inl (fun _ => 0)) := by rw [← eg_25, va_up_ne _ _ (by decide)]; exact h_6
  have h_31 : g_25 87 = .inl (cs 1, 5, .inl (fun _ => 0)) := by rw [← eg_25, va_up_ne _ _ (by decide)]; exact h_7
  have h_32 : g_25 88 = .inl (cs 1, 8, .inl (fun _ => 0)) := by rw [← eg_25, va_up_ne _ _ (by decide)]; exact h_8
  have h_33 : g_25 89 = .inl (cs 1, 8, .inl (fun _ => 0)) := by rw [← eg_25, va_up_ne _ _ (by decide)]; exact h_9
  have h_34 : g_25 90 = .inl (cs 1, 8, .inl (fun _ => 0)) := by rw [← eg_25, va_up_ne _ _ (by decide)]; exact h_10
  have h_35 : g_25 91 = .inl (cs 1, 8, .inl (fun _ => 0)) := by rw [← eg_25, va_up_ne _ _ (by decide)]; exact h_11
  have h_36 : g_25 92 = .inl (cs 1, 6, .inl (fun _ => 0)) := by rw [← eg_25, va_up_ne _ _ (by decide)]; exact h_12
  have h_37 : g_25 93 = .inl (cs 1, 6, .inl (fun _ => 0)) := by rw [← eg_25, va_up_ne _ _ (by decide)]; exact h_13
  have h_38 : g_25 4 = .inl (cs 1, 14, .inl (fun _ => 0)) := by rw [← eg_25, va_up_ne _ _ (by decide)]; exact h_14
  have h_39 : g_25 5 = .inl (cs 3, 14, .inl (fun _ => 0)) := by rw [← eg_25, va_up_ne _ _ (by decide)]; exact h_15
  have h_40 : g_25 6 = .inl (cs 1, 5, .inl (fun _ => 0)) := by rw [← eg_25, va_up_ne _ _ (by decide)]; exact h_16
  have h_41 : g_25 7 = .inl (cs 1, 8, .inl (fun _ => 0)) := by rw [← eg_25, va_up_ne _ _ (by decide)]; exact h_17
  have h_42 : g_25 8 = .inl (cs 1, 8, .inl (fun _ => 0)) := by rw [← eg_25, va_up_ne _ _ (by decide)]; exact h_18
  have h_43 : g_25 9 = .inl (cs 1, 8, .inl (fun _ => 0)) := by rw [← eg_25, va_up_ne _ _ (by decide)]; exact h_19
  have h_44 : g_25 10 = .inl (cs 1, 8, .inl (fun _ => 0)) := by rw [← eg_25, va_up_ne _ _ (by decide)]; exact h_20
  have h_45 : g_25 11 = .inl (cs 1, 6, .inl (fun _ => 0)) := by rw [← eg_25, va_up_ne _ _ (by decide)]; exact h_21
  have h_46 : g_25 12 = .inl (cs 1, 6, .inl (fun _ => 0)) := by rw [← eg_25, va_up_ne _ _ (by decide)]; exact h_22
  have h_47 : g_25 94 = .inr (0, [.int 0, .ref (ad 95), .ref (ad 96), .ref (ad 97), .ref (ad 103)]) := by rw [← eg_25, va_up_ne _ _ (by decide)]; exact h_23
  have h_48 : g_25 13 = .inr (0, [.int 0, .ref (ad 14), .ref (ad 15), .ref (ad 16), .ref (ad 22)]) := by rw [← eg_25, va_up_ne _ _ (by decide)]; exact h_24
  refine lv_aload_n hx hb dX6_copyFrom_16 rfl (lv_at hl 0 rfl) ?_
  refine lv_aload_n hx hb dX6_copyFrom_17 rfl (lv_at hl 1 rfl) ?_
  refine q_get X iX6_copyFrom_6 hP (by decide) h_28 rfl 2 (by decide) (List.mem_of_getElem? (i := 3) rfl) (v := .int 0) rfl dX6_copyFrom_18 ?_
  refine q_put X iX6_copyFrom_6 tyX6 tyX6_ok nmX6 hP hj hA hS (by decide) h_27 rfl 2 (by decide) (List.mem_of_getElem? (i := 3) rfl) rfl (ty := .int) (v := .int 0) (by decide +kernel) rfl rfl (Nat.le_of_ble_eq_true rfl) dX6_copyFrom_21 (fun H locs hP hS => ?_)
  generalize eg_49 : va_up g_25 84 _ = g_49 at hP
  have hfr_50 : ∀ j, (j < 84 ∨ 84 + 10 < j) → g_49 j = g j := fun j hj => by rw [← eg_49]; exact (va_up_ne _ _ (by omega)).trans (hfr_26 j hj)
  have h_51 : g_49 84 = .inr (6, [.int 0, .int 0, .int 0, .int 0, .int 0, .int 0, .int 0, .int 0, .ref (ad 85), .ref (ad 86), .ref (ad 87), .ref (ad 88), .ref (ad 89), .ref (ad 90), .ref (ad 91), .ref (ad 92), .ref (ad 93), .ref (ad 94)]) := by rw [← eg_49]; exact va_up_self _ _ _
  have h_52 : g_49 3 = .inr (6, [.int 0, .int 0, .int 0, .int 0, .int 0, .int 0, .int 0, .int 0, .ref (ad 4), .ref (ad 5), .ref (ad 6), .ref (ad 7), .ref (ad 8), .ref (ad 9), .ref (ad 10), .ref (ad 11), .ref (ad 12), .ref (ad 13)]) := by rw [← eg_49, va_up_ne _ _ (by decide)]; exact h_28
  have h_53 : g_49 85 = .inl (cs 1, 14, .inl (fun _ => 0)) := by rw [← eg_49, va_up_ne _ _ (by decide)]; exact h_29
  have h_54 : g_49 86 = .inl (cs 3, 14, .inl (fun _ => 0)) := by rw [← eg_49, va_up_ne _ _ (by decide)]; exact h_30
  have h_55 : g_49 87 = .inl (cs 1, 5, .inl (fun _ => 0)) := by rw [← eg_49, va_up_ne _ _ (by decide)]; exact h_31
  have h_56 : g_49 88 = .inl (cs 1, 8, .inl (fun _ => 0)) := by rw [← eg_49, va_up_ne _ _ (by decide)]; exact h_32
  have h_57 : g_49 89 = .inl (cs 1, 8, .inl (fun _ => 0)) := by rw [← eg_49, va_up_ne _ _ (by decide)]; exact h_33
  have h_58 : g_49 90 = .inl (cs 1, 8, .inl (fun _ => 0)) := by rw [← eg_49, va_up_ne _ _ (by decide)]; exact h_34
  have h_59 : g_49 91 = .inl (cs 1, 8, .inl (fun _ => 0)) := by rw [← eg_49, va_up_ne _ _ (by decide)]; exact h_35
  have h_60 : g_49 92 = .inl (cs 1, 6, .inl (fun _ => 0)) := by rw [← eg_49, va_up_ne _ _ (by decide)]; exact h_36
  have h_61 : g_49 93 = .inl (cs 1, 6, .inl (fun _ => 0)) := by rw [← eg_49, va_up_ne _ _ (by decide)]; exact h_37
  have h_62 : g_49 4 = .inl (cs 1, 14, .inl (fun _ => 0)) := by rw [← eg_49, va_up_ne _ _ (by decide)]; exact h_38
  have h_63 : g_49 5 = .inl (cs 3, 14, .inl (fun _ => 0)) := by rw [← eg_49, va_up_ne _ _ (by decide)]; exact h_39
  have h_64 : g_49 6 = .inl (cs 1, 5, .inl (fun _ => 0)) := by rw [← eg_49, va_up_ne _ _ (by decide)]; exact h_40
  have h_65 : g_49 7 = .inl (cs 1, 8, .inl (fun _ => 0)) := by rw [← eg_49, va_up_ne _ _ (by decide)]; exact h_41
  have h_66 : g_49 8 = .inl (cs 1, 8, .inl (fun _ => 0)) := by rw [← eg_49, va_up_ne _ _ (by decide)]; exact h_42
  have h_67 : g_49 9 = .inl (cs 1, 8, .inl (fun _ => 0)) := by rw [← eg_49, va_up_ne _ _ (by decide)]; exact h_43
  have h_68 : g_49 10 = .inl (cs 1, 8, .inl (fun _ => 0)) := by rw [← eg_49, va_up_ne _ _ (by decide)]; exact h_44
  have h_69 : g_49 11 = .inl (cs 1, 6, .inl (fun _ => 0)) := by rw [← eg_49, va_up_ne _ _ (by decide)]; exact h_45
  have h_70 : g_49 12 = .inl (cs 1, 6, .inl (fun _ => 0)) := by rw [← eg_49, va_up_ne _ _ (by decide)]; exact h_46
  have h_71 : g_49 94 = .inr (0, [.int 0, .ref (ad 95), .ref (ad 96), .ref (ad 97), .ref (ad 103)]) := by rw [← eg_49, va_up_ne _ _ (by decide)]; exact h_47
  have h_72 : g_49 13 = .inr (0, [.int 0, .ref (ad 14), .ref (ad 15), .ref (ad 16), .ref (ad 22)]) := by rw [← eg_49, va_up_ne _ _ (by decide)]; exact h_48
  refine lv_aload_n hx hb dX6_copyFrom_24 rfl (lv_at hl 0 rfl) ?_
  refine lv_aload_n hx hb dX6_copyFrom_25 rfl (lv_at hl 1 rfl) ?_
  refine q_get X iX6_copyFrom_6 hP (by decide) h_52 rfl 3 (by decide) (List.mem_of_getElem? (i := 4) rfl) (v := .int 0) rfl dX6_copyFrom_26 ?_
  refine q_put X iX6_copyFrom_6 tyX6 tyX6_ok nmX6 hP hj hA hS (by decide) h_51 rfl 3 (by decide) (List.mem_of_getElem? (i := 4) rfl) rfl (ty := .int) (v := .int 0) (by decide +kernel) rfl rfl (Nat.le_of_ble_eq_true rfl) dX6_copyFrom_29 (fun H locs hP hS => ?_)
  generalize eg_73 : va_up g_49 84 _ = g_73 at hP
  have hfr_74 : ∀ j, (j < 84 ∨ 84 + 10 < j) → g_73 j = g j := fun j hj => by rw [← eg_73]; exact (va_up_ne _ _ (by omega)).trans (hfr_50 j hj)
  have h_75 : g_73 84 = .inr (6, [.int 0, .int 0, .int 0, .int 0, .int 0, .int 0, .int 0, .int 0, .ref (ad 85), .ref (ad 86), .ref (ad 87), .ref (ad 88), .ref (ad 89), .ref (ad 90), .ref (ad 91), .ref (ad 92), .ref (ad 93), .ref (ad 94)]) := by rw [← eg_73]; exact va_up_self _ _ _
  have h_76 : g_73 3 = .inr (6, [.int 0, .int 0, .int 0, .int 0, .int 0, .int 0, .int 0, .int 0, .ref (ad 4), .ref (ad 5), .ref (ad 6), .ref (ad 7), .ref (ad 8), .ref (ad 9), .ref (ad 10), .ref (ad 11), .ref (ad 12), .ref (ad 13)]) := by rw [← eg_73, va_up_ne _ _ (by decide)]; exact h_52
  have h_77 : g_73 85 = .inl (cs 1, 14, .inl (fun _ => 0)) := by rw [← eg_73, va_up_ne _ _ (by decide)]; exact h_53
  have h_78 : g_73 86 = .inl (cs 3, 14, .inl (fun _ => 0)) := by rw [← eg_73, va_up_ne _ _ (by decide)]; exact h_54
  have h_79 : g_73 87 = .inl (cs 1, 5, .inl (fun _ => 0)) := by rw [← eg_73, va_up_ne _ _ (by decide)]; exact h_55
  have h_80 : g_73 88 = .inl (cs 1, 8, .inl (fun _ => 0)) := by rw [← eg_73, va_up_ne _ _ (by decide)]; exact h_56
  have h_81 : g_73 89 = .inl (cs 1, 8, .inl (fun _ => 0)) := by rw [← eg_73, va_up_ne _ _ (by decide)]; exact h_57
  have h_82 : g_73 90 = .inl (cs 1, 8, .inl (fun _ => 0)) := by rw [← eg_73, va_up_ne _ _ (by decide)]; exact h_58
  have h_83 : g_73 91 = .inl (cs 1, 8, .inl (fun _ => 0)) := by rw [← eg_73, va_up_ne _ _ (by decide)]; exact h_59
  have h_84 : g_73 92 = .inl (cs 1, 6, .inl (fun _ => 0)) := by rw [← eg_73, va_up_ne _ _ (by decide)]; exact h_60
  have h_85 : g_73 93 = .inl (cs 1, 6, .inl (fun _ => 0)) := by rw [← eg_73, va_up_ne _ _ (by decide)]; exact h_61
  have h_86 : g_73 4 = .inl (cs 1, 14, .inl (fun _ => 0)) := by rw [← eg_73, va_up_ne _ _ (by decide)]; exact h_62
  have h_87 : g_73 5 = .inl (cs 3, 14, .inl (fun _ => 0)) := by rw [← eg_73, va_up_ne _ _ (by decide)]; exact h_63
  have h_88 : g_73 6 = .inl (cs 1, 5, .inl (fun _ => 0)) := by rw [← eg_73, va_up_ne _ _ (by decide)]; exact h_64
  have h_89 : g_73 7 = .inl (cs 1, 8, .inl (fun _ => 0)) := by rw [← eg_73, va_up_ne _ _ (by decide)]; exact h_65
  have h_90 : g_73 8 = .inl (cs 1, 8, .inl (fun _ => 0)) := by rw [← eg_73, va_up_ne _ _ (by decide)]; exact h_66
  have h_91 : g_73 9 = .inl (cs 1, 8, .inl (fun _ => 0)) := by rw [← eg_73, va_up_ne _ _ (by decide)]; exact h_67
  have h_92 : g_73 10 = .inl (cs 1, 8, .inl (fun _ => 0)) := by rw [← eg_73, va_up_ne _ _ (by decide)]; exact h_68
  have h_93 : g_73 11 = .inl (cs 1, 6, .inl (fun _ => 0)) := by rw [← eg_73, va_up_ne _ _ (by decide)]; exact h_69
  have h_94 : g_73 12 = .inl (cs 1, 6, .inl (fun _ => 0)) := by rw [← eg_73, va_up_ne _ _ (by decide)]; exact h_70
  have h_95 : g_73 94 = .inr (0, [.int 0, .ref (ad 95), .ref (ad 96), .ref (ad 97), .ref (ad 103)]) := by rw [← eg_73, va_up_ne _ _ (by decide)]; exact h_71
  have h_96 : g_73 13 = .inr (0, [.int 0, .ref (ad 14), .ref (ad 15), .ref (ad 16), .ref (ad 22)]) := by rw [← eg_73, va_up_ne _ _ (by decide)]; exact h_72
  refine lv_aload_n hx hb dX6_copyFrom_32 rfl (lv_at hl 0 rfl) ?_
  refine lv_aload_n hx hb dX6_copyFrom_33 rfl (lv_at hl 1 rfl) ?_
  refine q_get X iX6_copyFrom_6 hP (by decide) h_76 rfl 4 (by decide) (List.mem_of_getElem? (i := 5) rfl) (v := .int 0) rfl dX6_copyFrom_34 ?_
  refine q_put X iX6_copyFrom_6 tyX6 tyX6_ok nmX6 hP hj hA hS (by decide) h_75 rfl 4 (by decide) (List.mem_of_getElem? (i := 5) rfl) rfl (ty := .int) (v := .int 0) (by decide +kernel) rfl rfl (Nat.le_of_ble_eq_true rfl) dX6_copyFrom_37 (fun H locs hP hS => ?_)
  generalize eg_97 : va_up g_73 84 _ = g_97 at hP
  have hfr_98 : ∀ j, (j < 84 ∨ 84 + 10 < j) → g_97 j = g j := fun j hj => by rw [← eg_97]; exact (va_up_ne _ _ (by omega)).trans (hfr_74 j hj)
  have h_99 : g_97 84 = .inr (6, [.int 0, .int 0, .int 0, .int 0, .int 0, .int 0, .int 0, .int 0, .ref (ad 85), .ref (ad 86), .ref (ad 87), .ref (ad 88), .ref (ad 89), .ref (ad 90), .ref (ad 91), .ref (ad 92), .ref (ad 93), .ref (ad 94)]) := by rw [← eg_97]; exact va_up_self _ _ _
  have h_100 : g_97 3 = .inr (6, [.int 0, .int 0, .int 0, .int 0, .int 0, .int 0, .int 0, .int 0, .ref (ad 4), .ref (ad 5), .ref (ad 6), .ref (ad 7), .ref (ad 8), .ref (ad 9), .ref (ad 10), .ref (ad 11), .ref (ad 12), .ref (ad 13)]) := by rw [← eg_97, va_up_ne _ _ (by decide)]; exact h_76
  have h_101 : g_97 85 = .inl (cs 1, 14, .inl (fun _ => 0)) := by rw [← eg_97, va_up_ne _ _ (by decide)]; exact h_77
  have h_102 : g_97 86 = .inl (cs 3, 14, .inl (fun _ => 0)) := by rw [← eg_97, va_up_ne _ _ (by decide)]; exact h_78
  have h_103 : g_97 87 = .inl (cs 1, 5, .inl (fun _ => 0)) := by rw [← eg_97, va_up_ne _ _ (by decide)]; exact h_79
  have h_104 : g_97 88 = .inl (cs 1, 8, .inl (fun _ => 0)) := by rw [← eg_97, va_up_ne _ _ (by decide)]; exact h_80
  have h_105 : g_97 89 = .inl (cs 1, 8, .inl (fun _ => 0)) := by rw [← eg_97, va_up_ne _ _ (by decide)]; exact h_81
  have h_106 : g_97 90 = .inl (cs 1, 8, .inl (fun _ => 0)) := by rw [← eg_97, va_up_ne _ _ (by decide)]; exact h_82
  have h_107 : g_97 91 = .inl (cs 1, 8, .inl (fun _ => 0)) := by rw [← eg_97, va_up_ne _ _ (by decide)]; exact h_83
  have h_108 : g_97 92 = .inl (cs 1, 6, .inl (fun _ => 0)) := by rw [← eg_97, va_up_ne _ _ (by decide)]; exact h_84
  have h_109 : g_97 93 = .inl (cs 1, 6, .inl (fun _ => 0)) := by rw [← eg_97, va_up_ne _ _ (by decide)]; exact h_85
  have h_110 : g_97 4 = .inl (cs 1, 14, .inl (fun _ => 0)) := by rw [← eg_97, va_up_ne _ _ (by decide)]; exact h_86
  have h_111 : g_97 5 = .inl (cs 3, 14, .inl (fun _ => 0)) := by rw [← eg_97, va_up_ne _ _ (by decide)]; exact h_87
  have h_112 : g_97 6 = .inl (cs 1, 5, .inl (fun _ => 0)) := by rw [← eg_97, va_up_ne _ _ (by decide)]; exact h_88
  have h_113 : g_97 7 = .inl (cs 1, 8, .inl (fun _ => 0)) := by rw [← eg_97, va_up_ne _ _ (by decide)]; exact h_89
  have h_114 : g_97 8 = .inl (cs 1, 8, .inl (fun _ => 0)) := by rw [← eg_97, va_up_ne _ _ (by decide)]; exact h_90
  have h_115 : g_97 9 = .inl (cs 1, 8, .inl (fun _ => 0)) := by rw [← eg_97, va_up_ne _ _ (by decide)]; exact h_91
  have h_116 : g_97 10 = .inl (cs 1, 8, .inl (fun _ => 0)) := by rw [← eg_97, va_up_ne _ _ (by decide)]; exact h_92
  have h_117 : g_97 11 = .inl (cs 1, 6, .inl (fun _ => 0)) := by rw [← eg_97, va_up_ne _ _ (by decide)]; exact h_93
  have h_118 : g_97 12 = .inl (cs 1, 6, .inl (fun _ => 0)) := by rw [← eg_97, va_up_ne _ _ (by decide)]; exact h_94
  have h_119 : g_97 94 = .inr (0, [.int 0, .ref (ad 95), .ref (ad 96), .ref (ad 97), .ref (ad 103)]) := by rw [← eg_97, va_up_ne _ _ (by decide)]; exact h_95
  have h_120 : g_97 13 = .inr (0, [.int 0, .ref (ad 14), .ref (ad 15), .ref (ad 16), .ref (ad 22)]) := by rw [← eg_97, va_up_ne _ _ (by decide)]; exact h_96
  refine lv_aload_n hx hb dX6_copyFrom_40 rfl (lv_at hl 0 rfl) ?_
  refine lv_aload_n hx hb dX6_copyFrom_41 rfl (lv_at hl 1 rfl) ?_
  refine q_get X iX6_copyFrom_6 hP (by decide) h_100 rfl 5 (by decide) (List.mem_of_getElem? (i := 6) rfl) (v := .int 0) rfl dX6_copyFrom_42 ?_
  refine q_put X iX6_copyFrom_6 tyX6 tyX6_ok nmX6 hP hj hA hS (by decide) h_99 rfl 5 (by decide) (List.mem_of_getElem? (i := 6) rfl) rfl (ty := .int) (v := .int 0) (by decide +kernel) rfl rfl (Nat.le_of_ble_eq_true rfl) dX6_copyFrom_45 (fun H locs hP hS => ?_)
  generalize eg_121 : va_up g_97 84 _ = g_121 at hP
  have hfr_122 : ∀ j, (j < 84 ∨ 84 + 10 < j) → g_121 j = g j := fun j hj => by rw [← eg_121]; exact (va_up_ne _ _ (by omega)).trans (hfr_98 j hj)
  have h_123 : g_121 84 = .inr (6, [.int 0, .int 0, .int 0, .int 0, .int 0, .int 0, .int 0, .int 0, .ref (ad 85), .ref (ad 86), .ref (ad 87), .ref (ad 88), .ref (ad 89), .ref (ad 90), .ref (ad 91), .ref (ad 92), .ref (ad 93), .ref (ad 94)]) := by rw [← eg_121]; exact va_up_self _ _ _
  have h_124 : g_121 3 = .inr (6, [.int 0, .int 0, .int 0, .int 0, .int 0, .int 0, .int 0, .int 0, .ref (ad 4), .ref (ad 5), .ref (ad 6), .ref (ad 7), .ref (ad 8), .ref (ad 9), .ref (ad 10), .ref (ad 11), .ref (ad 12), .ref (ad 13)]) := by rw [← eg_121, va_up_ne _ _ (by decide)]; exact h_100
  have h_125 : g_121 85 = .inl (cs 1, 14, .inl (fun _ => 0)) := by rw [← eg_121, va_up_ne _ _ (by decide)]; exact h_101
  have h_126 : g_121 86 = .inl (cs 3, 14, .inl (fun _ => 0)) := by rw [← eg_121, va_up_ne _ _ (by decide)]; exact h_102
  have h_127 : g_121 87 = .inl (cs 1, 5, .inl (fun _ => 0)) := by rw [← eg_121, va_up_ne _ _ (by decide)]; exact h_103
  have h_128 : g_121 88 = .inl (cs 1, 8, .inl (fun _ => 0)) := by rw [← eg_121, va_up_ne _ _ (by decide)]; exact h_104
  have h_129 : g_121 89 = .inl (cs 1, 8, .inl (fun _ => 0)) := by rw [← eg_121, va_up_ne _ _ (by decide)]; exact h_105
  have h_130 : g_121 90 = .inl (cs 1, 8, .inl (fun _ => 0)) := by rw [← eg_121, va_up_ne _ _ (by decide)]; exact h_106
  have h_131 : g_121 91 = .inl (cs 1, 8, .inl (fun _ => 0)) := by rw [← eg_121, va_up_ne _ _ (by decide)]; exact h_107
  have h_132 : g_121 92 = .inl (cs 1, 6, .inl (fun _ => 0)) := by rw [← eg_121, va_up_ne _ _ (by decide)]; exact h_108
  have h_133 : g_121 93 = .inl (cs 1, 6, .inl (fun _ => 0)) := by rw [← eg_121, va_up_ne _ _ (by decide)]; exact h_109
  have h_134 : g_121 4 = .inl (cs 1, 14, .inl (fun _ => 0)) := by rw [← eg_121, va_up_ne _ _ (by decide)]; exact h_110
  have h_135 : g_121 5 = .inl (cs 3, 14, .inl (fun _ => 0)) := by rw [← eg_121, va_up_ne _ _ (by decide)]; exact h_111
  have h_136 : g_121 6 = .inl (cs 1, 5, .inl (fun _ => 0)) := by rw [← eg_121, va_up_ne _ _ (by decide)]; exact h_112
  have h_137 : g_121 7 = .inl (cs 1, 8, .inl (fun _ => 0)) := by rw [← eg_121, va_up_ne _ _ (by decide)]; exact h_113
  have h_138 : g_121 8 = .inl (cs 1, 8, .inl (fun _ => 0)) := by rw [← eg_121, va_up_ne _ _ (by decide)]; exact h_114
  have h_139 : g_121 9 = .inl (cs 1, 8, .inl (fun _ => 0)) := by rw [← eg_121, va_up_ne _ _ (by decide)]; exact h_115
  have h_140 : g_121 10 = .inl (cs 1, 8, .inl (fun _ => 0)) := by rw [← eg_121, va_up_ne _ _ (by decide)]; exact h_116
  have h_141 : g_121 11 = .inl (cs 1, 6, .inl (fun _ => 0)) := by rw [← eg_121, va_up_ne _ _ (by decide)]; exact h_117
  have h_142 : g_121 12 = .inl (cs 1, 6, .inl (fun _ => 0)) := by rw [← eg_121, va_up_ne _ _ (by decide)]; exact h_118
  have h_143 : g_121 94 = .inr (0, [.int 0, .ref (ad 95), .ref (ad 96), .ref (ad 97), .ref (ad 103)]) := by rw [← eg_121, va_up_ne _ _ (by decide)]; exact h_119
  have h_144 : g_121 13 = .inr (0, [.int 0, .ref (ad 14), .ref (ad 15), .ref (ad 16), .ref (ad 22)]) := by rw [← eg_121, va_up_ne _ _ (by decide)]; exact h_120
  refine lv_aload_n hx hb dX6_copyFrom_48 rfl (lv_at hl 0 rfl) ?_
  refine lv_aload_n hx hb dX6_copyFrom_49 rfl (lv_at hl 1 rfl) ?_
  refine q_get X iX6_copyFrom_6 hP (by decide) h_124 rfl 6 (by decide) (List.mem_of_getElem? (i := 7) rfl) (v := .int 0) rfl dX6_copyFrom_50 ?_
  refine q_put X iX6_copyFrom_6 tyX6 tyX6_ok nmX6 hP hj hA hS (by decide) h_123 rfl 6 (by decide) (List.mem_of_getElem? (i := 7) rfl) rfl (ty := .int) (v := .int 0) (by decide +kernel) rfl rfl (Nat.le_of_ble_eq_true rfl) dX6_copyFrom_53 (fun H locs hP hS => ?_)
  generalize eg_145 : va_up g_121 84 _ = g_145 at hP
  have hfr_146 : ∀ j, (j < 84 ∨ 84 + 10 < j) → g_145 j = g j := fun j hj => by rw [← eg_145]; exact (va_up_ne _ _ (by omega)).trans (hfr_122 j hj)
  have h_147 : g_145 84 = .inr (6, [.int 0, .int 0, .int 0, .int 0, .int 0, .int 0, .int 0, .int 0, .ref (ad 85), .ref (ad 86), .ref (ad 87), .ref (ad 88), .ref (ad 89), .ref (ad 90), .ref (ad 91), .ref (ad 92), .ref (ad 93), .ref (ad 94)]) := by rw [← eg_145]; exact va_up_self _ _ _
  have h_148 : g_145 3 = .inr (6, [.int 0, .int 0, .int 0, .int 0, .int 0, .int 0, .int 0, .int 0, .ref (ad 4), .ref (ad 5), .ref (ad 6), .ref (ad 7), .ref (ad 8), .ref (ad 9), .ref (ad 10), .ref (ad 11), .ref (ad 12), .ref (ad 13)]) := by rw [← eg_145, va_up_ne _ _ (by decide)]; exact h_124
  have h_149 : g_145 85 = .inl (cs 1, 14, .inl (fun _ => 0)) := by rw [← eg_145, va_up_ne _ _ (by decide)]; exact h_125
  have h_150 : g_145 86 = .inl (cs 3, 14, .inl (fun _ => 0)) := by rw [← eg_145, va_up_ne _ _ (by decide)]; exact h_126
  have h_151 : g_145 87 = .inl (cs 1, 5, .inl (fun _ => 0)) := by rw [← eg_145, va_up_ne _ _ (by decide)]; exact h_127
  have h_152 : g_145 88 = .inl (cs 1, 8, .inl (fun _ => 0)) := by rw [← eg_145, va_up_ne _ _ (by decide)]; exact h_128
  have h_153 : g_145 89 = .inl (cs 1, 8, .inl (fun _ => 0)) := by rw [← eg_145, va_up_ne _ _ (by decide)]; exact h_129
  have h_154 : g_145 90 = .inl (cs 1, 8, .inl (fun _ => 0)) := by rw [← eg_145, va_up_ne _ _ (by decide)]; exact h_130
  have h_155 : g_145 91 = .inl (cs 1, 8, .inl (fun _ => 0)) := by rw [← eg_145, va_up_ne _ _ (by decide)]; exact h_131
  have h_156 : g_145 92 = .inl (cs 1, 6, .inl (fun _ => 0)) := by rw [← eg_145, va_up_ne _ _ (by decide)]; exact h_132
  have h_157 : g_145 93 = .inl (cs 1, 6, .inl (fun _ => 0)) := by rw [← eg_145, va_up_ne _ _ (by decide)]; exact h_133
  have h_158 : g_145 4 = .inl (cs 1, 14, .inl (fun _ => 0)) := by rw [← eg_145, va_up_ne _ _ (by decide)]; exact h_134
  have h_159 : g_145 5 = .inl (cs 3, 14, .inl (fun _ => 0)) := by rw [← eg_145, va_up_ne _ _ (by decide)]; exact h_135
  have h_160 : g_145 6 = .inl (cs 1, 5, .inl (fun _ => 0)) := by rw [← eg_145, va_up_ne _ _ (by decide)]; exact h_136
  have h_161 : g_145 7 = .inl (cs 1, 8, .inl (fun _ => 0)) := by rw [← eg_145, va_up_ne _ _ (by decide)]; exact h_137
  have h_162 : g_145 8 = .inl (cs 1, 8, .inl (fun _ => 0)) := by rw [← eg_145, va_up_ne _ _ (by decide)]; exact h_138
  have h_163 : g_145 9 = .inl (cs 1, 8, .inl (fun _ => 0)) := by rw [← eg_145, va_up_ne _ _ (by decide)]; exact h_139
  have h_164 : g_145 10 = .inl (cs 1, 8, .inl (fun _ => 0)) := by rw [← eg_145, va_up_ne _ _ (by decide)]; exact h_140
  have h_165 : g_145 11 = .inl (cs 1, 6, .inl (fun _ => 0)) := by rw [← eg_145, va_up_ne _ _ (by decide)]; exact h_141
  have h_166 : g_145 12 = .inl (cs 1, 6, .inl (fun _ => 0)) := by rw [← eg_145, va_up_ne _ _ (by decide)]; exact h_142
  have h_167 : g_145 94 = .inr (0, [.int 0, .ref (ad 95), .ref (ad 96), .ref (ad 97), .ref (ad 103)]) := by rw [← eg_145, va_up_ne _ _ (by decide)]; exact h_143
  have h_168 : g_145 13 = .inr (0, [.int 0, .ref (ad 14), .ref (ad 15), .ref (ad 16), .ref (ad 22)]) := by rw [← eg_145, va_up_ne _ _ (by decide)]; exact h_144
  refine lv_aload_n hx hb dX6_copyFrom_56 rfl (lv_at hl 0 rfl) ?_
  refine lv_aload_n hx hb dX6_copyFrom_57 rfl (lv_at hl 1 rfl) ?_
  refine q_get X iX6_copyFrom_6 hP (by decide) h_148 rfl 7 (by decide) (List.mem_of_getElem? (i := 8) rfl) (v := .int 0) rfl dX6_copyFrom_58 ?_
  refine q_put X iX6_copyFrom_6 tyX6 tyX6_ok nmX6 hP hj hA hS (by decide) h_147 rfl 7 (by decide) (List.mem_of_getElem? (i := 8) rfl) rfl (ty := .int) (v := .int 0) (by decide +kernel) rfl rfl (Nat.le_of_ble_eq_true rfl) dX6_copyFrom_61 (fun H locs hP hS => ?_)
  generalize eg_169 : va_up g_145 84 _ = g_169 at hP
  have hfr_170 : ∀ j, (j < 84 ∨ 84 + 10 < j) → g_169 j = g j := fun j hj => by rw [← eg_169]; exact (va_up_ne _ _ (by omega)).trans (hfr_146 j hj)
  have h_171 : g_169 84 = .inr (6, [.int 0, .int 0, .int 0, .int 0, .int 0, .int 0, .int 0, .int 0, .ref (ad 85), .ref (ad 86), .ref (ad 87), .ref (ad 88), .ref (ad 89), .ref (ad 90), .ref (ad 91), .ref (ad 92), .ref (ad 93), .ref (ad 94)]) := by rw [← eg_169]; exact va_up_self _ _ _
  have h_172 : g_169 3 = .inr (6, [.int 0, .int 0, .int 0, .int 0, .int 0, .int 0, .int 0, .int 0, .ref (ad 4), .ref (ad 5), .ref (ad 6), .ref (ad 7), .ref (ad 8), .ref (ad 9), .ref (ad 10), .ref (ad 11), .ref (ad 12), .ref (ad 13)]) := by rw [← eg_169, va_up_ne _ _ (by decide)]; exact h_148
  have h_173 : g_169 85 = .inl (cs 1, 14, .inl (fun _ => 0)) := by rw [← eg_169, va_up_ne _ _ (by decide)]; exact h_149
  have h_174 : g_169 86 = .inl (cs 3, 14, .inl (fun _ => 0)) := by rw [← eg_169, va_up_ne _ _ (by decide)]; exact h_150
  have h_175 : g_169 87 = .inl (cs 1, 5, .inl (fun _ => 0)) := by rw [← eg_169, va_up_ne _ _ (by decide)]; exact h_151
  have h_176 : g_169 88 = .inl (cs 1, 8, .inl (fun _ => 0)) := by rw [← eg_169, va_up_ne _ _ (by decide)]; exact h_152
  have h_177 : g_169 89 = .inl (cs 1, 8, .inl (fun _ => 0)) := by rw [← eg_169, va_up_ne _ _ (by decide)]; exact h_153
  have h_178 : g_169 90 = .inl (cs 1, 8, .inl (fun _ => 0)) := by rw [← eg_169, va_up_ne _ _ (by decide)]; exact h_154
  have h_179 : g_169 91 = .inl (cs 1, 8, .inl (fun _ => 0)) := by rw [← eg_169, va_up_ne _ _ (by decide)]; exact h_155
  have h_180 : g_169 92 = .inl (cs 1, 6, .inl (fun _ => 0)) := by rw [← eg_169, va_up_ne _ _ (by decide)]; exact h_156
  have h_181 : g_169 93 = .inl (cs 1, 6, .inl (fun _ => 0)) := by rw [← eg_169, va_up_ne _ _ (by decide)]; exact h_157
  have h_182 : g_169 4 = .inl (cs 1, 14, .inl (fun _ => 0)) := by rw [← eg_169, va_up_ne _ _ (by decide)]; exact h_158
  have h_183 : g_169 5 = .inl (cs 3, 14, .inl (fun _ => 0)) := by rw [← eg_169, va_up_ne _ _ (by decide)]; exact h_159
  have h_184 : g_169 6 = .inl (cs 1, 5, .inl (fun _ => 0)) := by rw [← eg_169, va_up_ne _ _ (by decide)]; exact h_160
  have h_185 : g_169 7 = .inl (cs 1, 8, .inl (fun _ => 0)) := by rw [← eg_169, va_up_ne _ _ (by decide)]; exact h_161
  have h_186 : g_169 8 = .inl (cs 1, 8, .inl (fun _ => 0)) := by rw [← eg_169, va_up_ne _ _ (by decide)]; exact h_162
  have h_187 : g_169 9 = .inl (cs 1, 8, .inl (fun _ => 0)) := by rw [← eg_169, va_up_ne _ _ (by decide)]; exact h_163
  have h_188 : g_169 10 = .inl (cs 1, 8, .inl (fun _ => 0)) := by rw [← eg_169, va_up_ne _ _ (by decide)]; exact h_164
  have h_189 : g_169 11 = .inl (cs 1, 6, .inl (fun _ => 0)) := by rw [← eg_169, va_up_ne _ _ (by decide)]; exact h_165
  have h_190 : g_169 12 = .inl (cs 1, 6, .inl (fun _ => 0)) := by rw [← eg_169, va_up_ne _ _ (by decide)]; exact h_166
  have h_191 : g_169 94 = .inr (0, [.int 0, .ref (ad 95), .ref (ad 96), .ref (ad 97), .ref (ad 103)]) := by rw [← eg_169, va_up_ne _ _ (by decide)]; exact h_167
  have h_192 : g_169 13 = .inr (0, [.int 0, .ref (ad 14), .ref (ad 15), .ref (ad 16), .ref (ad 22)]) := by rw [← eg_169, va_up_ne _ _ (by decide)]; exact h_168
  refine lv_aload_n hx hb dX6_copyFrom_64 rfl (lv_at hl 1 rfl) ?_
  refine q_get X iX6_copyFrom_6 hP (by decide) h_172 rfl 8 (by decide) (List.mem_of_getElem? (i := 9) rfl) (v := .ref (ad 4)) rfl dX6_copyFrom_65 ?_
  refine lv_iconst (v := 0) hx hb dX6_copyFrom_68 (by decide) ?_
  refine lv_aload_n hx hb dX6_copyFrom_69 rfl (lv_at hl 0 rfl) ?_
  refine q_get X iX6_copyFrom_6 hP (by decide) h_171 rfl 8 (by decide) (List.mem_of_getElem? (i := 9) rfl) (v := .ref (ad 85)) rfl dX6_copyFrom_70 ?_
  refine lv_iconst (v := 0) hx hb dX6_copyFrom_73 (by decide) ?_
  refine lv_bipush (v := 14) hx hb dX6_copyFrom_74 (by decide) ?_
  refine q_copyi X hl.1 (List.mem_of_getElem? (i := 10) rfl) (List.mem_of_getElem? (i := 11) rfl) (List.mem_of_getElem? (i := 12) rfl) (List.mem_of_getElem? (i := 13) rfl) hP hj hA hS 1 rfl rfl (by decide) (by decide) h_182 h_173 (by decide) (by decide) (by decide) (by decide) (by decide) (fun _ _ => rfl) (Nat.le_of_ble_eq_true rfl) (Nat.le_of_ble_eq_true rfl) dX6_copyFrom_76 (fun H locs hP hS => ?_)
  generalize eg_193 : va_up g_169 85 _ = g_193 at hP
  have hfr_195 : ∀ j, (j < 84 ∨ 84 + 10 < j) → g_193 j = g j := fun j hj => by rw [← eg_193]; exact (va_up_ne _ _ (by omega)).trans (hfr_170 j hj)
  have h_196 : g_193 84 = .inr (6, [.int 0, .int 0, .int 0, .int 0, .int 0, .int 0, .int 0, .int 0, .ref (ad 85), .ref (ad 86), .ref (ad 87), .ref (ad 88), .ref (ad 89), .ref (ad 90), .ref (ad 91), .ref (ad 92), .ref (ad 93), .ref (ad 94)]) := by rw [← eg_193, va_up_ne _ _ (by decide)]; exact h_171
  have h_197 : g_193 3 = .inr (6, [.int 0, .int 0, .int 0, .int 0, .int 0, .int 0, .int 0, .int 0, .ref (ad 4), .ref (ad 5), .ref (ad 6), .ref (ad 7), .ref (ad 8), .ref (ad 9), .ref (ad 10), .ref (ad 11), .ref (ad 12), .ref (ad 13)]) := by rw [← eg_193, va_up_ne _ _ (by decide)]; exact h_172
  obtain ⟨f_194, h_198⟩ : ∃ f, g_193 85 = .inl (cs 1, 14, .inl f) := ⟨_, by rw [← eg_193]; exact va_up_self _ _ _⟩
  have h_199 : g_193 86 = .inl (cs 3, 14, .inl (fun _ => 0)) := by rw [← eg_193, va_up_ne _ _ (by decide)]; exact h_174
  have h_200 : g_193 87 = .inl (cs 1, 5, .inl (fun _ => 0)) := by rw [← eg_193, va_up_ne _ _ (by decide)]; exact h_175
  have h_201 : g_193 88 = .inl (cs 1, 8, .inl (fun _ => 0)) := by rw [← eg_193, va_up_ne _ _ (by decide)]; exact h_176
  have h_202 : g_193 89 = .inl (cs 1, 8, .inl (fun _ => 0)) := by rw [← eg_193, va_up_ne _ _ (by decide)]; exact h_177
  have h_203 : g_193 90 = .inl (cs 1, 8, .inl (fun _ => 0)) := by rw [← eg_193, va_up_ne _ _ (by decide)]; exact h_178
  have h_204 : g_193 91 = .inl (cs 1, 8, .inl (fun _ => 0)) := by rw [← eg_193, va_up_ne _ _ (by decide)]; exact h_179
  have h_205 : g_193 92 = .inl (cs 1, 6, .inl (fun _ => 0)) := by rw [← eg_193, va_up_ne _ _ (by decide)]; exact h_180
  have h_206 : g_193 93 = .inl (cs 1, 6, .inl (fun _ => 0)) := by rw [← eg_193, va_up_ne _ _ (by decide)]; exact h_181
  have h_207 : g_193 4 = .inl (cs 1, 14, .inl (fun _ => 0)) := by rw [← eg_193, va_up_ne _ _ (by decide)]; exact h_182
  have h_208 : g_193 5 = .inl (cs 3, 14, .inl (fun _ => 0)) := by rw [← eg_193, va_up_ne _ _ (by decide)]; exact h_183
  have h_209 : g_193 6 = .inl (cs 1, 5, .inl (fun _ => 0)) := by rw [← eg_193, va_up_ne _ _ (by decide)]; exact h_184
  have h_210 : g_193 7 = .inl (cs 1, 8, .inl (fun _ => 0)) := by rw [← eg_193, va_up_ne _ _ (by decide)]; exact h_185
  have h_211 : g_193 8 = .inl (cs 1, 8, .inl (fun _ => 0)) := by rw [← eg_193, va_up_ne _ _ (by decide)]; exact h_186
  have h_212 : g_193 9 = .inl (cs 1, 8, .inl (fun _ => 0)) := by rw [← eg_193, va_up_ne _ _ (by decide)]; exact h_187
  have h_213 : g_193 10 = .inl (cs 1, 8, .inl (fun _ => 0)) := by rw [← eg_193, va_up_ne _ _ (by decide)]; exact h_188
  have h_214 : g_193 11 = .inl (cs 1, 6, .inl (fun _ => 0)) := by rw [← eg_193, va_up_ne _ _ (by decide)]; exact h_189
  have h_215 : g_193 12 = .inl (cs 1, 6, .inl (fun _ => 0)) := by rw [← eg_193, va_up_ne _ _ (by decide)]; exact h_190
  have h_216 : g_193 94 = .inr (0, [.int 0, .ref (ad 95), .ref (ad 96), .ref (ad 97), .ref (ad 103)]) := by rw [← eg_193, va_up_ne _ _ (by decide)]; exact h_191
  have h_217 : g_193 13 = .inr (0, [.int 0, .ref (ad 14), .ref (ad 15), .ref (ad 16), .ref (ad 22)]) := by rw [← eg_193, va_up_ne _ _ (by decide)]; exact h_192
  refine lv_iconst (v := 0) hx hb dX6_copyFrom_79 (by decide) ?_
  refine lv_istore_n (lv' := [(2, .int 0), (0, .ref (ad 84)), (1, .ref (ad 3))]) hx hb dX6_copyFrom_80 rfl hl (by decide) rfl (fun ls hl => ?_)
  have HL81 : ∀ (d81 k81 : Nat) (f81_86 : Nat → Int32) (G81 : Nat → va_E) (H : Heap) (locs : List Loc) (ls : Array Slot), k81 + d81 = 14 → (∀ j, (j < 84 ∨ 84 + 10 < j) → G81 j = g j) → G81 84 = .inr (6, [.int 0, .int 0, .int 0, .int 0, .int 0, .int 0, .int 0, .int 0, .ref (ad 85), .ref (ad 86), .ref (ad 87), .ref (ad 88), .ref (ad 89), .ref (ad 90), .ref (ad 91), .ref (ad 92), .ref (ad 93), .ref (ad 94)]) → G81 3 = .inr (6, [.int 0, .int 0, .int 0, .int 0, .int 0, .int 0, .int 0, .int 0, .ref (ad 4), .ref (ad 5), .ref (ad 6), .ref (ad 7), .ref (ad 8), .ref (ad 9), .ref (ad 10), .ref (ad 11), .ref (ad 12), .ref (ad 13)]) → G81 85 = .inl (cs 1, 14, .inl f_194) → G81 86 = .inl (cs 3, 14, .inl f81_86) → G81 87 = .inl (cs 1, 5, .inl (fun _ => 0)) → G81 88 = .inl (cs 1, 8, .inl (fun _ => 0)) → G81 89 = .inl (cs 1, 8, .inl (fun _ => 0)) → G81 90 = .inl (cs 1, 8, .inl (fun _ => 0)) → G81 91 = .inl (cs 1, 8, .inl (fun _ => 0)) → G81 92 = .inl (cs 1, 6, .inl (fun _ => 0)) → G81 93 = .inl (cs 1, 6, .inl (fun _ => 0)) → G81 4 = .inl (cs 1, 14, .inl (fun _ => 0)) → G81 5 = .inl (cs 3, 14, .inl (fun _ => 0)) → G81 6 = .inl (cs 1, 5, .inl (fun _ => 0)) → G81 7 = .inl (cs 1, 8, .inl (fun _ => 0)) → G81 8 = .inl (cs 1, 8, .inl (fun _ => 0)) → G81 9 = .inl (cs 1, 8, .inl (fun _ => 0)) → G81 10 = .inl (cs 1, 8, .inl (fun _ => 0)) → G81 11 = .inl (cs 1, 6, .inl (fun _ => 0)) → G81 12 = .inl (cs 1, 6, .inl (fun _ => 0)) → G81 94 = .inr (0, [.int 0, .ref (ad 95), .ref (ad 96), .ref (ad 97), .ref (ad 103)]) → G81 13 = .inr (0, [.int 0, .ref (ad 14), .ref (ad 15), .ref (ad 16), .ref (ad 22)]) → va_P D vwCl (wL ad G81 nW) H → va_S (wA ad nW) s.heap H locs → lv_has ls 3 [(2, .int (nI k81)), (0, .ref (ad 84)), (1, .ref (ad 3))] → W p l e ({ frames := 2, cells := 0, slots := 0, locals := 43 } : Room) s m ([.ref (ad 84), .ref (ad 3)] : List Value).toArray below meth c H locs 0 0 (MQ below (qV D ad nW (fun g2 => g2 84 = .inr (6, [.int 0, .int 0, .int 0, .int 0, .int 0, .int 0, .int 0, .int 0, .ref (ad 85), .ref (ad 86), .ref (ad 87), .ref (ad 88), .ref (ad 89), .ref (ad 90), .ref (ad 91), .ref (ad 92), .ref (ad 93), .ref (ad 94)]) ∧ ∀ j, (j < 84 ∨ 84 + 10 < j) → g2 j = g j)) ([.ref (ad 84), .ref (ad 3)] : List Value).toArray s 0 0 (wA ad nW)) (F0 m 81 ls []) := by
    intro d81
    induction d81 with
    | zero =>
      intro k81 f81_86 G81 H locs ls hk81 hfr81 h81_84 h81_3 h81_85 h81_86 h81_87 h81_88 h81_89 h81_90 h81_91 h81_92 h81_93 h81_4 h81_5 h81_6 h81_7 h81_8 h81_9 h81_10 h81_11 h81_12 h81_94 h81_13 hP hS hl
      obtain rfl : k81 = 14 := by omega
      refine lv_iload_n hx hb dX6_copyFrom_81 rfl (lv_at hl 0 rfl) ?_
      refine lv_bipush (v := 14) hx hb dX6_copyFrom_82 (by decide) ?_
      refine lv_icmp_ge (tgt := 105) hx hb dX6_copyFrom_84 (by decide) (fun _ => ?_) (fun h => absurd h (by decide))
      refine lv_aload_n hx hb dX6_copyFrom_105 rfl (lv_at hl 2 rfl) ?_
      refine q_get X iX6_copyFrom_6 hP (by decide) h81_3 rfl 10 (by decide) (List.mem_of_getElem? (i := 14) rfl) (v := .ref (ad 6)) rfl dX6_copyFrom_106 ?_
      refine lv_iconst (v := 0) hx hb dX6_copyFrom_109 (by decide) ?_
      refine lv_aload_n hx hb dX6_copyFrom_110 rfl (lv_at hl 1 rfl) ?_
      refine q_get X iX6_copyFrom_6 hP (by decide) h81_84 rfl 10 (by decide) (List.mem_of_getElem? (i := 14) rfl) (v := .ref (ad 87)) rfl dX6_copyFrom_111 ?_
      refine lv_iconst (v := 0) hx hb dX6_copyFrom_114 (by decide) ?_
      refine lv_iconst (v := 5) hx hb dX6_copyFrom_115 (by decide) ?_
      refine q_copyi X hl.1 (List.mem_of_getElem? (i := 10) rfl) (List.mem_of_getElem? (i := 11) rfl) (List.mem_of_getElem? (i := 12) rfl) (List.mem_of_getElem? (i := 13) rfl) hP hj hA hS 1 rfl rfl (by decide) (by decide) h81_6 h81_87 (by decide) (by decide) (by decide) (by decide) (by decide) (fun _ _ => rfl) (Nat.le_of_ble_eq_true rfl) (Nat.le_of_ble_eq_true rfl) dX6_copyFrom_116 (fun H locs hP hS => ?_)
      generalize eg_218 : va_up G81 87 _ = g_218 at hP
      have hfr_220 : ∀ j, (j < 84 ∨ 84 + 10 < j) → g_218 j = g j := fun j hj => by rw [← eg_218]; exact (va_up_ne _ _ (by omega)).trans (hfr81 j hj)
      have h_221 : g_218 84 = .inr (6, [.int 0, .int 0, .int 0, .int 0, .int 0, .int 0, .int 0, .int 0, .ref (ad 85), .ref (ad 86), .ref (ad 87), .ref (ad 88), .ref (ad 89), .ref (ad 90), .ref (ad 91), .ref (ad 92), .ref (ad 93), .ref (ad 94)]) := by rw [← eg_218, va_up_ne _ _ (by decide)]; exact h81_84
      have h_222 : g_218 3 = .inr (6, [.int 0, .int 0, .int 0, .int 0, .int 0, .int 0, .int 0, .int 0, .ref (ad 4), .ref (ad 5), .ref (ad 6), .ref (ad 7), .ref (ad 8), .ref (ad 9), .ref (ad 10), .ref (ad 11), .ref (ad 12), .ref (ad 13)]) := by rw [← eg_218, va_up_ne _ _ (by decide)]; exact h81_3
      have h_223 : g_218 85 = .inl (cs 1, 14, .inl f_194) := by rw [← eg_218, va_up_ne _ _ (by decide)]; exact h81_85
      have h_224 : g_218 86 = .inl (cs 3, 14, .inl f81_86) := by rw [← eg_218, va_up_ne _ _ (by decide)]; exact h81_86
      obtain ⟨f_219, h_225⟩ : ∃ f, g_218 87 = .inl (cs 1, 5, .inl f) := ⟨_, by rw [← eg_218]; exact va_up_self _ _ _⟩
      have h_226 : g_218 88 = .inl (cs 1, 8, .inl (fun _ => 0)) := by rw [← eg_218, va_up_ne _ _ (by decide)]; exact h81_88
      have h_227 : g_218 89 = .inl (cs 1, 8, .inl (fun _ => 0)) := by rw [← eg_218, va_up_ne _ _ (by decide)]; exact h81_89
      have h_228 : g_218 90 = .inl (cs 1, 8, .inl (fun _ => 0)) := by rw [← eg_218, va_up_ne _ _ (by decide)]; exact h81_90
      have h_229 : g_218 91 = .inl (cs 1, 8, .inl (fun _ => 0)) := by rw [← eg_218, va_up_ne _ _ (by decide)]; exact h81_91
      have h_230 : g_218 92 = .inl (cs 1, 6, .inl (fun _ => 0)) := by rw [← eg_218, va_up_ne _ _ (by decide)]; exact h81_92
      have h_231 : g_218 93 = .inl (cs 1, 6, .inl (fun _ => 0)) := by rw [← eg_218, va_up_ne _ _ (by decide)]; exact h81_93
      have h_232 : g_218 4 = .inl (cs 1, 14, .inl (fun _ => 0)) := by rw [← eg_218, va_up_ne _ _ (by decide)]; exact h81_4
      have h_233 : g_218 5 = .inl (cs 3, 14, .inl (fun _ => 0)) := by rw [← eg_218, va_up_ne _ _ (by decide)]; exact h81_5
      have h_234 : g_218 6 = .inl (cs 1, 5, .inl (fun _ => 0)) := by rw [← eg_218, va_up_ne _ _ (by decide)]; exact h81_6
      have h_235 : g_218 7 = .inl (cs 1, 8, .inl (fun _ => 0)) := by rw [← eg_218, va_up_ne _ _ (by decide)]; exact h81_7
      have h_236 : g_218 8 = .inl (cs 1, 8, .inl (fun _ => 0)) := by rw [← eg_218, va_up_ne _ _ (by decide)]; exact h81_8
      have h_237 : g_218 9 = .inl (cs 1, 8, .inl (fun _ => 0)) := by rw [← eg_218, va_up_ne _ _ (by decide)]; exact h81_9
      have h_238 : g_218 10 = .inl (cs 1, 8, .inl (fun _ => 0)) := by rw [← eg_218, va_up_ne _ _ (by decide)]; exact h81_10
      have h_239 : g_218 11 = .inl (cs 1, 6, .inl (fun _ => 0)) := by rw [← eg_218, va_up_ne _ _ (by decide)]; exact h81_11
      have h_240 : g_218 12 = .inl (cs 1, 6, .inl (fun _ => 0)) := by rw [← eg_218, va_up_ne _ _ (by decide)]; exact h81_12
      have h_241 : g_218 94 = .inr (0, [.int 0, .ref (ad 95), .ref (ad 96), .ref (ad 97), .ref (ad 103)]) := by rw [← eg_218, va_up_ne _ _ (by decide)]; exact h81_94
      have h_242 : g_218 13 = .inr (0, [.int 0, .ref (ad 14), .ref (ad 15), .ref (ad 16), .ref (ad 22)]) := by rw [← eg_218, va_up_ne _ _ (by decide)]; exact h81_13
      refine lv_aload_n hx hb dX6_copyFrom_119 rfl (lv_at hl 2 rfl) ?_
      refine q_get X iX6_copyFrom_6 hP (by decide) h_222 rfl 11 (by decide) (List.mem_of_getElem? (i := 15) rfl) (v := .ref (ad 7)) rfl dX6_copyFrom_120 ?_
      refine lv_iconst (v := 0) hx hb dX6_copyFrom_123 (by decide) ?_
      refine lv_aload_n hx hb dX6_copyFrom_124 rfl (lv_at hl 1 rfl) ?_
      refine q_get X iX6_copyFrom_6 hP (by decide) h_221 rfl 11 (by decide) (List.mem_of_getElem? (i := 15) rfl) (v := .ref (ad 88)) rfl dX6_copyFrom_125 ?_
      refine lv_iconst (v := 0) hx hb dX6_copyFrom_128 (by decide) ?_
      refine lv_bipush (v := 8) hx hb dX6_copyFrom_129 (by decide) ?_
      refine q_copyi X hl.1 (List.mem_of_getElem? (i := 10) rfl) (List.mem_of_getElem? (i := 11) rfl) (List.mem_of_getElem? (i := 12) rfl) (List.mem_of_getElem? (i := 13) rfl) hP hj hA hS 1 rfl rfl (by decide) (by decide) h_235 h_226 (by decide) (by decide) (by decide) (by decide) (by decide) (fun _ _ => rfl) (Nat.le_of_ble_eq_true rfl) (Nat.le_of_ble_eq_true rfl) dX6_copyFrom_131 (fun H locs hP hS => ?_)
      generalize eg_243 : va_up g_218 88 _ = g_243 at hP
      have hfr_245 : ∀ j, (j < 84 ∨ 84 + 10 < j) → g_243 j = g j := fun j hj => by rw [← eg_243]; exact (va_up_ne _ _ (by omega)).trans (hfr_220 j hj)
      have h_246 : g_243 84 = .inr (6, [.int 0, .int 0, .int 0, .int 0, .int 0, .int 0, .int 0, .int 0, .ref (ad 85), .ref (ad 86), .ref (ad 87), .ref (ad 88), .ref (ad 89), .ref (ad 90), .ref (ad 91), .ref (ad 92), .ref (ad 93), .ref (ad 94)]) := by rw [← eg_243, va_up_ne _ _ (by decide)]; exact h_221
      have h_247 : g_243 3 = .inr (6, [.int 0, .int 0, .int 0, .int 0, .int 0, .int 0, .int 0, .int 0, .ref (ad 4), .ref (ad 5), .ref (ad 6), .ref (ad 7), .ref (ad 8), .ref (ad 9), .ref (ad 10), .ref (ad 11), .ref (ad 12), .ref (ad 13)]) := by rw [← eg_243, va_up_ne _ _ (by decide)]; exact h_222
      have h_248 : g_243 85 = .inl (cs 1, 14, .inl f_194) := by rw [← eg_243, va_up_ne _ _ (by decide)]; exact h_223
      have h_249 : g_243 86 = .inl (cs 3, 14, .inl f81_86) := by rw [← eg_243, va_up_ne _ _ (by decide)]; exact h_224
      have h_250 : g_243 87 = .inl (cs 1, 5, .inl f_219) := by rw [← eg_243, va_up_ne _ _ (by decide)]; exact h_225
      obtain ⟨f_244, h_251⟩ : ∃ f, g_243 88 = .inl (cs 1, 8, .inl f) := ⟨_, by rw [← eg_243]; exact va_up_self _ _ _⟩
      have h_252 : g_243 89 = .inl (cs 1, 8, .inl (fun _ => 0)) := by rw [← eg_243, va_up_ne _ _ (by decide)]; exact h_227
      have h_253 : g_243 90 = .inl (cs 1, 8, .inl (fun _ => 0)) := by rw [← eg_243, va_up_ne _ _ (by decide)]; exact h_228
      have h_254 : g_243 91 = .inl (cs 1, 8, .inl (fun _ => 0)) := by rw [← eg_243, va_up_ne _ _ (by decide)]; exact h_229
      have h_255 : g_243 92 = .inl (cs 1, 6, .inl (fun _ => 0)) := by rw [← eg_243, va_up_ne _ _ (by decide)]; exact h_230
      have h_256 : g_243 93 = .inl (cs 1, 6, .inl (fun _ => 0)) := by rw [← eg_243, va_up_ne _ _ (by decide)]; exact h_231
      have h_257 : g_243 4 = .inl (cs 1, 14, .inl (fun _ => 0)) := by rw [← eg_243, va_up_ne _ _ (by decide)]; exact h_232
      have h_258 : g_243 5 = .inl (cs 3, 14, .inl (fun _ => 0)) := by rw [← eg_243, va_up_ne _ _ (by decide)]; exact h_233
      have h_259 : g_243 6 = .inl (cs 1, 5, .inl (fun _ => 0)) := by rw [← eg_243, va_up_ne _ _ (by decide)]; exact h_234
      have h_260 : g_243 7 = .inl (cs 1, 8, .inl (fun _ => 0)) := by rw [← eg_243, va_up_ne _ _ (by decide)]; exact h_235
      have h_261 : g_243 8 = .inl (cs 1, 8, .inl (fun _ => 0)) := by rw [← eg_243, va_up_ne _ _ (by decide)]; exact h_236
      have h_262 : g_243 9 = .inl (cs 1, 8, .inl (fun _ => 0)) := by rw [← eg_243, va_up_ne _ _ (by decide)]; exact h_237
      have h_263 : g_243 10 = .inl (cs 1, 8, .inl (fun _ => 0)) := by rw [← eg_243, va_up_ne _ _ (by decide)]; exact h_238
      have h_264 : g_243 11 = .inl (cs 1, 6, .inl (fun _ => 0)) := by rw [← eg_243, va_up_ne _ _ (by decide)]; exact h_239
      have h_265 : g_243 12 = .inl (cs 1, 6, .inl (fun _ => 0)) := by rw [← eg_243, va_up_ne _ _ (by decide)]; exact h_240
      have h_266 : g_243 94 = .inr (0, [.int 0, .ref (ad 95), .ref (ad 96), .ref (ad 97), .ref (ad 103)]) := by rw [← eg_243, va_up_ne _ _ (by decide)]; exact h_241
      have h_267 : g_243 13 = .inr (0, [.int 0, .ref (ad 14), .ref (ad 15), .ref (ad 16), .ref (ad 22)]) := by rw [← eg_243, va_up_ne _ _ (by decide)]; exact h_242
      refine lv_aload_n hx hb dX6_copyFrom_134 rfl (lv_at hl 2 rfl) ?_
      refine q_get X iX6_copyFrom_6 hP (by decide) h_247 rfl 12 (by decide) (List.mem_of_getElem? (i := 16) rfl) (v := .ref (ad 8)) rfl dX6_copyFrom_135 ?_
      refine lv_iconst (v := 0) hx hb dX6_copyFrom_138 (by decide) ?_
      refine lv_aload_n hx hb dX6_copyFrom_139 rfl (lv_at hl 1 rfl) ?_
      refine q_get X iX6_copyFrom_6 hP (by decide) h_246 rfl 12 (by decide) (List.mem_of_getElem? (i := 16) rfl) (v := .ref (ad 89)) rfl dX6_copyFrom_140 ?_
      refine lv_iconst (v := 0) hx hb dX6_copyFrom_143 (by decide) ?_
      refine lv_bipush (v := 8) hx hb dX6_copyFrom_144 (by decide) ?_
      refine q_copyi X hl.1 (List.mem_of_getElem? (i := 10) rfl) (List.mem_of_getElem? (i := 11) rfl) (List.mem_of_getElem? (i := 12) rfl) (List.mem_of_getElem? (i := 13) rfl) hP hj hA hS 1 rfl rfl (by decide) (by decide) h_261 h_252 (by decide) (by decide) (by decide) (by decide) (by decide) (fun _ _ => rfl) (Nat.le_of_ble_eq_true rfl) (Nat.le_of_ble_eq_true rfl) dX6_copyFrom_146 (fun H locs hP hS => ?_)
      generalize eg_268 : va_up g_243 89 _ = g_268 at hP
      have hfr_270 : ∀ j, (j < 84 ∨ 84 + 10 < j) → g_268 j = g j := fun j hj => by rw [← eg_268]; exact (va_up_ne _ _ (by omega)).trans (hfr_245 j hj)
      have h_271 : g_268 84 = .inr (6, [.int 0, .int 0, .int 0, .int 0, .int 0, .int 0, .int 0, .int 0, .ref (ad 85), .ref (ad 86), .ref (ad 87), .ref (ad 88), .ref (ad 89), .ref (ad 90), .ref (ad 91), .ref (ad 92), .ref (ad 93), .ref (ad 94)]) := by rw [← eg_268, va_up_ne _ _ (by decide)]; exact h_246
      have h_272 : g_268 3 = .inr (6, [.int 0, .int 0, .int 0, .int 0, .int 0, .int 0, .int 0, .int 0, .ref (ad 4), .ref (ad 5), .ref (ad 6), .ref (ad 7), .ref (ad 8), .ref (ad 9), .ref (ad 10), .ref (ad 11), .ref (ad 12), .ref (ad 13)]) := by rw [← eg_268, va_up_ne _ _ (by decide)]; exact h_247
      have h_273 : g_268 85 = .inl (cs 1, 14, .inl f_194) := by rw [← eg_268, va_up_ne _ _ (by decide)]; exact h_248
      have h_274 : g_268 86 = .inl (cs 3, 14, .inl f81_86) := by rw [← eg_268, va_up_ne _ _ (by decide)]; exact h_249
      have h_275 : g_268 87 = .inl (cs 1, 5, .inl f_219) := by rw [← eg_268, va_up_ne _ _ (by decide)]; exact h_250
      have h_276 : g_268 88 = .inl (cs 1, 8, .inl f_244) := by rw [← eg_268, va_up_ne _ _ (by decide)]; exact h_251
      obtain ⟨f_269, h_277⟩ : ∃ f, g_268 89 = .inl (cs 1, 8, .inl f) := ⟨_, by rw [← eg_268]; exact va_up_self _ _ _⟩
      have h_278 : g_268 90 = .inl (cs 1, 8, .inl (fun _ => 0)) := by rw [← eg_268, va_up_ne _ _ (by decide)]; exact h_253
      have h_279 : g_268 91 = .inl (cs 1, 8, .inl (fun _ => 0)) := by rw [← eg_268, va_up_ne _ _ (by decide)]; exact h_254
      have h_280 : g_268 92 = .inl (cs 1, 6, .inl (fun _ => 0)) := by rw [← eg_268, va_up_ne _ _ (by decide)]; exact h_255
      have h_281 : g_268 93 = .inl (cs 1, 6, .inl (fun _ => 0)) := by rw [← eg_268, va_up_ne _ _ (by decide)]; exact h_256
      have h_282 : g_268 4 = .inl (cs 1, 14, .inl (fun _ => 0)) := by rw [← eg_268, va_up_ne _ _ (by decide)]; exact h_257
      have h_283 : g_268 5 = .inl (cs 3, 14, .inl (fun _ => 0)) := by rw [← eg_268, va_up_ne _ _ (by decide)]; exact h_258
      have h_284 : g_268 6 = .inl (cs 1, 5, .inl (fun _ => 0)) := by rw [← eg_268, va_up_ne _ _ (by decide)]; exact h_259
      have h_285 : g_268 7 = .inl (cs 1, 8, .inl (fun _ => 0)) := by rw [← eg_268, va_up_ne _ _ (by decide)]; exact h_260
      have h_286 : g_268 8 = .inl (cs 1, 8, .inl (fun _ => 0)) := by rw [← eg_268, va_up_ne _ _ (by decide)]; exact h_261
      have h_287 : g_268 9 = .inl (cs 1, 8, .inl (fun _ => 0)) := by rw [← eg_268, va_up_ne _ _ (by decide)]; exact h_262
      have h_288 : g_268 10 = .inl (cs 1, 8, .inl (fun _ => 0)) := by rw [← eg_268, va_up_ne _ _ (by decide)]; exact h_263
      have h_289 : g_268 11 = .inl (cs 1, 6, .inl (fun _ => 0)) := by rw [← eg_268, va_up_ne _ _ (by decide)]; exact h_264
      have h_290 : g_268 12 = .inl (cs 1, 6, .inl (fun _ => 0)) := by rw [← eg_268, va_up_ne _ _ (by decide)]; exact h_265
      have h_291 : g_268 94 = .inr (0, [.int 0, .ref (ad 95), .ref (ad 96), .ref (ad 97), .ref (ad 103)]) := by rw [← eg_268, va_up_ne _ _ (by decide)]; exact h_266
      have h_292 : g_268 13 = .inr (0, [.int 0, .ref (ad 14), .ref (ad 15), .ref (ad 16), .ref (ad 22)]) := by rw [← eg_268, va_up_ne _ _ (by decide)]; exact h_267
      refine lv_aload_n hx hb dX6_copyFrom_149 rfl (lv_at hl 2 rfl) ?_
      refine q_get X iX6_copyFrom_6 hP (by decide) h_272 rfl 13 (by decide) (List.mem_of_getElem? (i := 17) rfl) (v := .ref (ad 9)) rfl dX6_copyFrom_150 ?_
      refine lv_iconst (v := 0) hx hb dX6_copyFrom_153 (by decide) ?_
      refine lv_aload_n hx hb dX6_copyFrom_154 rfl (lv_at hl 1 rfl) ?_
      refine q_get X iX6_copyFrom_6 hP (by decide) h_271 rfl 13 (by decide) (List.mem_of_getElem? (i := 17) rfl) (v := .ref (ad 90)) rfl dX6_copyFrom_155 ?_
      refine lv_iconst (v := 0) hx hb dX6_copyFrom_158 (by decide) ?_
      refine lv_bipush (v := 8) hx hb dX6_copyFrom_159 (by decide) ?_
      refine q_copyi X hl.1 (List.mem_of_getElem? (i := 10) rfl) (List.mem_of_getElem? (i := 11) rfl) (List.mem_of_getElem? (i := 12) rfl) (List.mem_of_getElem? (i := 13) rfl) hP hj hA hS 1 rfl rfl (by decide) (by decide) h_287 h_278 (by decide) (by decide) (by decide) (by decide) (by decide) (fun _ _ => rfl) (Nat.le_of_ble_eq_true rfl) (Nat.le_of_ble_eq_true rfl) dX6_copyFrom_161 (fun H locs hP hS => ?_)
      generalize eg_293 : va_up g_268 90 _ = g_293 at hP
      have hfr_295 : ∀ j, (j < 84 ∨ 84 + 10 < j) → g_293 j = g j := fun j hj => by rw [← eg_293]; exact (va_up_ne _ _ (by omega)).trans (hfr_270 j hj)
      have h_296 : g_293 84 = .inr (6, [.int 0, .int 0, .int 0, .int 0, .int 0, .int 0, .int 0, .int 0, .ref (ad 85), .ref (ad 86), .ref (ad 87), .ref (ad 88), .ref (ad 89), .ref (ad 90), .ref (ad 91), .ref (ad 92), .ref (ad 93), .ref (ad 94)]) := by rw [← eg_293, va_up_ne _ _ (by decide)]; exact h_271
      have h_297 : g_293 3 = .inr (6, [.int 0, .int 0, .int 0, .int 0, .int 0, .int 0, .int 0, .int 0, .ref (ad 4), .ref (ad 5), .ref (ad 6), .ref (ad 7), .ref (ad 8), .ref (ad 9), .ref (ad 10), .ref (ad 11), .ref (ad 12), .ref (ad 13)]) := by rw [← eg_293, va_up_ne _ _ (by decide)]; exact h_272
      have h_298 : g_293 85 = .inl (cs 1, 14, .inl f_194) := by rw [← eg_293, va_up_ne _ _ (by decide)]; exact h_273
      have h_299 : g_293 86 = .inl (cs 3, 14, .inl f81_86) := by rw [← eg_293, va_up_ne _ _ (by decide)]; exact h_274
      have h_300 : g_293 87 = .inl (cs 1, 5, .inl f_219) := by rw [← eg_293, va_up_ne _ _ (by decide)]; exact h_275
      have h_301 : g_293 88 = .inl (cs 1, 8, .inl f_244) := by rw [← eg_293, va_up_ne _ _ (by decide)]; exact h_276
      have h_302 : g_293 89 = .inl (cs 1, 8, .inl f_269) := by rw [← eg_293, va_up_ne _ _ (by decide)]; exact h_277
      obtain ⟨f_294, h_303⟩ : ∃ f, g_293 90 = .inl (cs 1, 8, .inl f) := ⟨_, by rw [← eg_293]; exact va_up_self _ _ _⟩
      have h_304 : g_293 91 = .inl (cs 1, 8, .inl (fun _ => 0)) := by rw [← eg_293, va_up_ne _ _ (by decide)]; exact h_279
      have h_305 : g_293 92 = .inl (cs 1, 6, .inl (fun _ => 0)) := by rw [← eg_293, va_up_ne _ _ (by decide)]; exact h_280
      have h_306 : g_293 93 = .inl (cs 1, 6, .inl (fun _ => 0)) := by rw [← eg_293, va_up_ne _ _ (by decide)]; exact h_281
      have h_307 : g_293 4 = .inl (cs 1, 14, .inl (fun _ => 0)) := by rw [← eg_293, va_up_ne _ _ (by decide)]; exact h_282
      have h_308 : g_293 5 = .inl (cs 3, 14, .inl (fun _ => 0)) := by rw [← eg_293, va_up_ne _ _ (by decide)]; exact h_283
      have h_309 : g_293 6 = .inl (cs 1, 5, .inl (fun _ => 0)) := by rw [← eg_293, va_up_ne _ _ (by decide)]; exact h_284
      have h_310 : g_293 7 = .inl (cs 1, 8, .inl (fun _ => 0)) := by rw [← eg_293, va_up_ne _ _ (by decide)]; exact h_285
      have h_311 : g_293 8 = .inl (cs 1, 8, .inl (fun _ => 0)) := by rw [← eg_293, va_up_ne _ _ (by decide)]; exact h_286
      have h_312 : g_293 9 = .inl (cs 1, 8, .inl (fun _ => 0)) := by rw [← eg_293, va_up_ne _ _ (by decide)]; exact h_287
      have h_313 : g_293 10 = .inl (cs 1, 8, .inl (fun _ => 0)) := by rw [← eg_293, va_up_ne _ _ (by decide)]; exact h_288
      have h_314 : g_293 11 = .inl (cs 1, 6, .inl (fun _ => 0)) := by rw [← eg_293, va_up_ne _ _ (by decide)]; exact h_289
      have h_315 : g_293 12 = .inl (cs 1, 6, .inl (fun _ => 0)) := by rw [← eg_293, va_up_ne _ _ (by decide)]; exact h_290
      have h_316 : g_293 94 = .inr (0, [.int 0, .ref (ad 95), .ref (ad 96), .ref (ad 97), .ref (ad 103)]) := by rw [← eg_293, va_up_ne _ _ (by decide)]; exact h_291
      have h_317 : g_293 13 = .inr (0, [.int 0, .ref (ad 14), .ref (ad 15), .ref (ad 16), .ref (ad 22)]) := by rw [← eg_293, va_up_ne _ _ (by decide)]; exact h_292
      refine lv_aload_n hx hb dX6_copyFrom_164 rfl (lv_at hl 2 rfl) ?_
      refine q_get X iX6_copyFrom_6 hP (by decide) h_297 rfl 14 (by decide) (List.mem_of_getElem? (i := 18) rfl) (v := .ref (ad 10)) rfl dX6_copyFrom_165 ?_
      refine lv_iconst (v := 0) hx hb dX6_copyFrom_168 (by decide) ?_
      refine lv_aload_n hx hb dX6_copyFrom_169 rfl (lv_at hl 1 rfl) ?_
      refine q_get X iX6_copyFrom_6 hP (by decide) h_296 rfl 14 (by decide) (List.mem_of_getElem? (i := 18) rfl) (v := .ref (ad 91)) rfl dX6_copyFrom_170 ?_
      refine lv_iconst (v := 0) hx hb dX6_copyFrom_173 (by decide) ?_
      refine lv_bipush (v := 8) hx hb dX6_copyFrom_174 (by decide) ?_
      refine q_copyi X hl.1 (List.mem_of_getElem? (i := 10) rfl) (List.mem_of_getElem? (i := 11) rfl) (List.mem_of_getElem? (i := 12) rfl) (List.mem_of_getElem? (i := 13) rfl) hP hj hA hS 1 rfl rfl (by decide) (by decide) h_313 h_304 (by decide) (by decide) (by decide) (by decide) (by decide) (fun _ _ => rfl) (Nat.le_of_ble_eq_true rfl) (Nat.le_of_ble_eq_true rfl) dX6_copyFrom_176 (fun H locs hP hS => ?_)
      generalize eg_318 : va_up g_293 91 _ = g_318 at hP
      have hfr_320 : ∀ j, (j < 84 ∨ 84 + 10 < j) → g_318 j = g j := fun j hj => by rw [← eg_318]; exact (va_up_ne _ _ (by omega)).trans (hfr_295 j hj)
      have h_321 : g_318 84 = .inr (6, [.int 0, .int 0, .int 0, .int 0, .int 0, .int 0, .int 0, .int 0, .ref (ad 85), .ref (ad 86), .ref (ad 87), .ref (ad 88), .ref (ad 89), .ref (ad 90), .ref (ad 91), .ref (ad 92), .ref (ad 93), .ref (ad 94)]) := by rw [← eg_318, va_up_ne _ _ (by decide)]; exact h_296
      have h_322 : g_318 3 = .inr (6, [.int 0, .int 0, .int 0, .int 0, .int 0, .int 0, .int 0, .int 0, .ref (ad 4), .ref (ad 5), .ref (ad 6), .ref (ad 7), .ref (ad 8), .ref (ad 9), .ref (ad 10), .ref (ad 11), .ref (ad 12), .ref (ad 13)]) := by rw [← eg_318, va_up_ne _ _ (by decide)]; exact h_297
      have h_323 : g_318 85 = .inl (cs 1, 14, .inl f_194) := by rw [← eg_318, va_up_ne _ _ (by decide)]; exact h_298
      have h_324 : g_318 86 = .inl (cs 3, 14, .inl f81_86) := by rw [← eg_318, va_up_ne _ _ (by decide)]; exact h_299
      have h_325 : g_318 87 = .inl (cs 1, 5, .inl f_219) := by rw [← eg_318, va_up_ne _ _ (by decide)]; exact h_300
      have h_326 : g_318 88 = .inl (cs 1, 8, .inl f_244) := by rw [← eg_318, va_up_ne _ _ (by decide)]; exact h_301
      have h_327 : g_318 89 = .inl (cs 1, 8, .inl f_269) := by rw [← eg_318, va_up_ne _ _ (by decide)]; exact h_302
      have h_328 : g_318 90 = .inl (cs 1, 8, .inl f_294) := by rw [← eg_318, va_up_ne _ _ (by decide)]; exact h_303
      obtain ⟨f_319, h_329⟩ : ∃ f, g_318 91 = .inl (cs 1, 8, .inl f) := ⟨_, by rw [← eg_318]; exact va_up_self _ _ _⟩
      have h_330 : g_318 92 = .inl (cs 1, 6, .inl (fun _ => 0)) := by rw [← eg_318, va_up_ne _ _ (by decide)]; exact h_305
      have h_331 : g_318 93 = .inl (cs 1, 6, .inl (fun _ => 0)) := by rw [← eg_318, va_up_ne _ _ (by decide)]; exact h_306
      have h_332 : g_318 4 = .inl (cs 1, 14, .inl (fun _ => 0)) := by rw [← eg_318, va_up_ne _ _ (by decide)]; exact h_307
      have h_333 : g_318 5 = .inl (cs 3, 14, .inl (fun _ => 0)) := by rw [← eg_318, va_up_ne _ _ (by decide)]; exact h_308
      have h_334 : g_318 6 = .inl (cs 1, 5, .inl (fun _ => 0)) := by rw [← eg_318, va_up_ne _ _ (by decide)]; exact h_309
      have h_335 : g_318 7 = .inl (cs 1, 8, .inl (fun _ => 0)) := by rw [← eg_318, va_up_ne _ _ (by decide)]; exact h_310
      have h_336 : g_318 8 = .inl (cs 1, 8, .inl (fun _ => 0)) := by rw [← eg_318, va_up_ne _ _ (by decide)]; exact h_311
      have h_337 : g_318 9 = .inl (cs 1, 8, .inl (fun _ => 0)) := by rw [← eg_318, va_up_ne _ _ (by decide)]; exact h_312
      have h_338 : g_318 10 = .inl (cs 1, 8, .inl (fun _ => 0)) := by rw [← eg_318, va_up_ne _ _ (by decide)]; exact h_313
      have h_339 : g_318 11 = .inl (cs 1, 6, .inl (fun _ => 0)) := by rw [← eg_318, va_up_ne _ _ (by decide)]; exact h_314
      have h_340 : g_318 12 = .inl (cs 1, 6, .inl (fun _ => 0)) := by rw [← eg_318, va_up_ne _ _ (by decide)]; exact h_315
      have h_341 : g_318 94 = .inr (0, [.int 0, .ref (ad 95), .ref (ad 96), .ref (ad 97), .ref (ad 103)]) := by rw [← eg_318, va_up_ne _ _ (by decide)]; exact h_316
      have h_342 : g_318 13 = .inr (0, [.int 0, .ref (ad 14), .ref (ad 15), .ref (ad 16), .ref (ad 22)]) := by rw [← eg_318, va_up_ne _ _ (by decide)]; exact h_317
      refine lv_aload_n hx hb dX6_copyFrom_179 rfl (lv_at hl 2 rfl) ?_
      refine q_get X iX6_copyFrom_6 hP (by decide) h_322 rfl 15 (by decide) (List.mem_of_getElem? (i := 19) rfl) (v := .ref (ad 11)) rfl dX6_copyFrom_180 ?_
      refine lv_iconst (v := 0) hx hb dX6_copyFrom_183 (by decide) ?_
      refine lv_aload_n hx hb dX6_copyFrom_184 rfl (lv_at hl 1 rfl) ?_
      refine q_get X iX6_copyFrom_6 hP (by decide) h_321 rfl 15 (by decide) (List.mem_of_getElem? (i := 19) rfl) (v := .ref (ad 92)) rfl dX6_copyFrom_185 ?_
      refine lv_iconst (v := 0) hx hb dX6_copyFrom_188 (by decide) ?_
      refine lv_bipush (v := 6) hx hb dX6_copyFrom_189 (by decide) ?_
      refine q_copyi X hl.1 (List.mem_of_getElem? (i := 10) rfl) (List.mem_of_getElem? (i := 11) rfl) (List.mem_of_getElem? (i := 12) rfl) (List.mem_of_getElem? (i := 13) rfl) hP hj hA hS 1 rfl rfl (by decide) (by decide) h_339 h_330 (by decide) (by decide) (by decide) (by decide) (by decide) (fun _ _ => rfl) (Nat.le_of_ble_eq_true rfl) (Nat.le_of_ble_eq_true rfl) dX6_copyFrom_191 (fun H locs hP hS => ?_)
      generalize eg_343 : va_up g_318 92 _ = g_343 at hP
      have hfr_345 : ∀ j, (j < 84 ∨ 84 + 10 < j) → g_343 j = g j := fun j hj => by rw [← eg_343]; exact (va_up_ne _ _ (by omega)).trans (hfr_320 j hj)
      have h_346 : g_343 84 = .inr (6, [.int 0, .int 0, .int 0, .int 0, .int 0, .int 0, .int 0, .int 0, .ref (ad 85), .ref (ad 86), .ref (ad 87), .ref (ad 88), .ref (ad 89), .ref (ad 90), .ref (ad 91), .ref (ad 92), .ref (ad 93), .ref (ad 94)]) := by rw [← eg_343, va_up_ne _ _ (by decide)]; exact h_321
      have h_347 : g_343 3 = .inr (6, [.int 0, .int 0, .int 0, .int 0, .int 0, .int 0, .int 0, .int 0, .ref (ad 4), .ref (ad 5), .ref (ad 6), .ref (ad 7), .ref (ad 8), .ref (ad 9), .ref (ad 10), .ref (ad 11), .ref (ad 12), .ref (ad 13)]) := by rw [← eg_343, va_up_ne _ _ (by decide)]; exact h_322
      have h_348 : g_343 85 = .inl (cs 1, 14, .inl f_194) := by rw [← eg_343, va_up_ne _ _ (by decide)]; exact h_323
      have h_349 : g_343 86 = .inl (cs 3, 14, .inl f81_86) := by rw [← eg_343, va_up_ne _ _ (by decide)]; exact h_324
      have h_350 : g_343 87 = .inl (cs 1, 5, .inl f_219) := by rw [← eg_343, va_up_ne _ _ (by decide)]; exact h_325
      have h_351 : g_343 88 = .inl (cs 1, 8, .inl f_244) := by rw [← eg_343, va_up_ne _ _ (by decide)]; exact h_326
      have h_352 : g_343 89 = .inl (cs 1, 8, .inl f_269) := by rw [← eg_343, va_up_ne _ _ (by decide)]; exact h_327
      have h_353 : g_343 90 = .inl (cs 1, 8, .inl f_294) := by rw [← eg_343, va_up_ne _ _ (by decide)]; exact h_328
      have h_354 : g_343 91 = .inl (cs 1, 8, .inl f_319) := by rw [← eg_343, va_up_ne _ _ (by decide)]; exact h_329
      obtain ⟨f_344, h_355⟩ : ∃ f, g_343 92 = .inl (cs 1, 6, .inl f) := ⟨_, by rw [← eg_343]; exact va_up_self _ _ _⟩
      have h_356 : g_343 93 = .inl (cs 1, 6, .inl (fun _ => 0)) := by rw [← eg_343, va_up_ne _ _ (by decide)]; exact h_331
      have h_357 : g_343 4 = .inl (cs 1, 14, .inl (fun _ => 0)) := by rw [← eg_343, va_up_ne _ _ (by decide)]; exact h_332
      have h_358 : g_343 5 = .inl (cs 3, 14, .inl (fun _ => 0)) := by rw [← eg_343, va_up_ne _ _ (by decide)]; exact h_333
      have h_359 : g_343 6 = .inl (cs 1, 5, .inl (fun _ => 0)) := by rw [← eg_343, va_up_ne _ _ (by decide)]; exact h_334
      have h_360 : g_343 7 = .inl (cs 1, 8, .inl (fun _ => 0)) := by rw [← eg_343, va_up_ne _ _ (by decide)]; exact h_335
      have h_361 : g_343 8 = .inl (cs 1, 8, .inl (fun _ => 0)) := by rw [← eg_343, va_up_ne _ _ (by decide)]; exact h_336
      have h_362 : g_343 9 = .inl (cs 1, 8, .inl (fun _ => 0)) := by rw [← eg_343, va_up_ne _ _ (by decide)]; exact h_337
      have h_363 : g_343 10 = .inl (cs 1, 8, .inl (fun _ => 0)) := by rw [← eg_343, va_up_ne _ _ (by decide)]; exact h_338
      have h_364 : g_343 11 = .inl (cs 1, 6, .inl (fun _ => 0)) := by rw [← eg_343, va_up_ne _ _ (by decide)]; exact h_339
      have h_365 : g_343 12 = .inl (cs 1, 6, .inl (fun _ => 0)) := by rw [← eg_343, va_up_ne _ _ (by decide)]; exact h_340
      have h_366 : g_343 94 = .inr (0, [.int 0, .ref (ad 95), .ref (ad 96), .ref (ad 97), .ref (ad 103)]) := by rw [← eg_343, va_up_ne _ _ (by decide)]; exact h_341
      have h_367 : g_343 13 = .inr (0, [.int 0, .ref (ad 14), .ref (ad 15), .ref (ad 16), .ref (ad 22)]) := by rw [← eg_343, va_up_ne _ _ (by decide)]; exact h_342
      refine lv_aload_n hx hb dX6_copyFrom_194 rfl (lv_at hl 2 rfl) ?_
      refine q_get X iX6_copyFrom_6 hP (by decide) h_347 rfl 16 (by decide) (List.mem_of_getElem? (i := 20) rfl) (v := .ref (ad 12)) rfl dX6_copyFrom_195 ?_
      refine lv_iconst (v := 0) hx hb dX6_copyFrom_198 (by decide) ?_
      refine lv_aload_n hx hb dX6_copyFrom_199 rfl (lv_at hl 1 rfl) ?_
      refine q_get X iX6_copyFrom_6 hP (by decide) h_346 rfl 16 (by decide) (List.mem_of_getElem? (i := 20) rfl) (v := .ref (ad 93)) rfl dX6_copyFrom_200 ?_
      refine lv_iconst (v := 0) hx hb dX6_copyFrom_203 (by decide) ?_
      refine lv_bipush (v := 6) hx hb dX6_copyFrom_204 (by decide) ?_
      refine q_copyi X hl.1 (List.mem_of_getElem? (i := 10) rfl) (List.mem_of_getElem? (i := 11) rfl) (List.mem_of_getElem? (i := 12) rfl) (List.mem_of_getElem? (i := 13) rfl) hP hj hA hS 1 rfl rfl (by decide) (by decide) h_365 h_356 (by decide) (by decide) (by decide) (by decide) (by decide) (fun _ _ => rfl) (Nat.le_of_ble_eq_true rfl) (Nat.le_of_ble_eq_true rfl) dX6_copyFrom_206 (fun H locs hP hS => ?_)
      generalize eg_368 : va_up g_343 93 _ = g_368 at hP
      have hfr_370 : ∀ j, (j < 84 ∨ 84 + 10 < j) → g_368 j = g j := fun j hj => by rw [← eg_368]; exact (va_up_ne _ _ (by omega)).trans (hfr_345 j hj)
      have h_371 : g_368 84 = .inr (6, [.int 0, .int 0, .int 0, .int 0, .int 0, .int 0, .int 0, .int 0, .ref (ad 85), .ref (ad 86), .ref (ad 87), .ref (ad 88), .ref (ad 89), .ref (ad 90), .ref (ad 91), .ref (ad 92), .ref (ad 93), .ref (ad 94)]) := by rw [← eg_368, va_up_ne _ _ (by decide)]; exact h_346
      have h_372 : g_368 3 = .inr (6, [.int 0, .int 0, .int 0, .int 0, .int 0, .int 0, .int 0, .int 0, .ref (ad 4), .ref (ad 5), .ref (ad 6), .ref (ad 7), .ref (ad 8), .ref (ad 9), .ref (ad 10), .ref (ad 11), .ref (ad 12), .ref (ad 13)]) := by rw [← eg_368, va_up_ne _ _ (by decide)]; exact h_347
      have h_373 : g_368 85 = .inl (cs 1, 14, .inl f_194) := by rw [← eg_368, va_up_ne _ _ (by decide)]; exact h_348
      have h_374 : g_368 86 = .inl (cs 3, 14, .inl f81_86) := by rw [← eg_368, va_up_ne _ _ (by decide)]; exact h_349
      have h_375 : g_368 87 = .inl (cs 1, 5, .inl f_219) := by rw [← eg_368, va_up_ne _ _ (by decide)]; exact h_350
      have h_376 : g_368 88 = .inl (cs 1, 8, .inl f_244) := by rw [← eg_368, va_up_ne _ _ (by decide)]; exact h_351
      have h_377 : g_368 89 = .inl (cs 1, 8, .inl f_269) := by rw [← eg_368, va_up_ne _ _ (by decide)]; exact h_352
      have h_378 : g_368 90 = .inl (cs 1, 8, .inl f_294) := by rw [← eg_368, va_up_ne _ _ (by decide)]; exact h_353
      have h_379 : g_368 91 = .inl (cs 1, 8, .inl f_319) := by rw [← eg_368, va_up_ne _ _ (by decide)]; exact h_354
      have h_380 : g_368 92 = .inl (cs 1, 6, .inl f_344) := by rw [← eg_368, va_up_ne _ _ (by decide)]; exact h_355
      obtain ⟨f_369, h_381⟩ : ∃ f, g_368 93 = .inl (cs 1, 6, .inl f) := ⟨_, by rw [← eg_368]; exact va_up_self _ _ _⟩
      have h_382 : g_368 4 = .inl (cs 1, 14, .inl (fun _ => 0)) := by rw [← eg_368, va_up_ne _ _ (by decide)]; exact h_357
      have h_383 : g_368 5 = .inl (cs 3, 14, .inl (fun _ => 0)) := by rw [← eg_368, va_up_ne _ _ (by decide)]; exact h_358
      have h_384 : g_368 6 = .inl (cs 1, 5, .inl (fun _ => 0)) := by rw [← eg_368, va_up_ne _ _ (by decide)]; exact h_359
      have h_385 : g_368 7 = .inl (cs 1, 8, .inl (fun _ => 0)) := by rw [← eg_368, va_up_ne _ _ (by decide)]; exact h_360
      have h_386 : g_368 8 = .inl (cs 1, 8, .inl (fun _ => 0)) := by rw [← eg_368, va_up_ne _ _ (by decide)]; exact h_361
      have h_387 : g_368 9 = .inl (cs 1, 8, .inl (fun _ => 0)) := by rw [← eg_368, va_up_ne _ _ (by decide)]; exact h_362
      have h_388 : g_368 10 = .inl (cs 1, 8, .inl (fun _ => 0)) := by rw [← eg_368, va_up_ne _ _ (by decide)]; exact h_363
      have h_389 : g_368 11 = .inl (cs 1, 6, .inl (fun _ => 0)) := by rw [← eg_368, va_up_ne _ _ (by decide)]; exact h_364
      have h_390 : g_368 12 = .inl (cs 1, 6, .inl (fun _ => 0)) := by rw [← eg_368, va_up_ne _ _ (by decide)]; exact h_365
      have h_391 : g_368 94 = .inr (0, [.int 0, .ref (ad 95), .ref (ad 96), .ref (ad 97), .ref (ad 103)]) := by rw [← eg_368, va_up_ne _ _ (by decide)]; exact h_366
      have h_392 : g_368 13 = .inr (0, [.int 0, .ref (ad 14), .ref (ad 15), .ref (ad 16), .ref (ad 22)]) := by rw [← eg_368, va_up_ne _ _ (by decide)]; exact h_367
      refine lv_aload_n hx hb dX6_copyFrom_209 rfl (lv_at hl 1 rfl) ?_
      refine q_get X iX6_copyFrom_6 hP (by decide) h_371 rfl 17 (by decide) (List.mem_of_getElem? (i := 21) rfl) (v := .ref (ad 94)) rfl dX6_copyFrom_210 ?_
      refine lv_aload_n hx hb dX6_copyFrom_213 rfl (lv_at hl 2 rfl) ?_
      refine q_get X iX6_copyFrom_6 hP (by decide) h_372 rfl 17 (by decide) (List.mem_of_getElem? (i := 21) rfl) (v := .ref (ad 13)) rfl dX6_copyFrom_214 ?_
      refine q_callv (q := (RX0, TX0, 5)) (As := [.ref (ad 13)]) (rest := []) X (k_acopy84 l D cs ad hj g_368  h_391 h_392) (cwV 1 X.2.2.2.2.1 gg_X6_copyFrom_X0_copyFrom rfl rfl rfl (by decide +kernel) ⟨Nat.le_of_ble_eq_true rfl, Nat.le_of_ble_eq_true rfl⟩) (by decide) h_391 rfl hP hA hS rfl hl.1 rfl (Nat.le_of_ble_eq_true rfl) dX6_copyFrom_217 ⟨Nat.le_of_ble_eq_true rfl, Nat.le_of_ble_eq_true rfl⟩ (fun g_394 H locs hw_393 hP hS => ?_)
      rw [hw_393] at hP
      exact q_vret X hP hS ⟨h_371, hfr_370⟩ dX6_copyFrom_220
    | succ d81 ih81 =>
      intro k81 f81_86 G81 H locs ls hk81 hfr81 h81_84 h81_3 h81_85 h81_86 h81_87 h81_88 h81_89 h81_90 h81_91 h81_92 h81_93 h81_4 h81_5 h81_6 h81_7 h81_8 h81_9 h81_10 h81_11 h81_12 h81_94 h81_13 hP hS hl
      refine lv_iload_n hx hb dX6_copyFrom_81 rfl (lv_at hl 0 rfl) ?_
      refine lv_bipush (v := 14) hx hb dX6_copyFrom_82 (by decide) ?_
      refine lv_icmp_ge (tgt := 105) hx hb dX6_copyFrom_84 (by decide) (fun hc_84 => absurd hc_84 (nI_ge (a := k81) (b := 14) (by omega) (by decide))) (fun hc_84 => ?_)
      refine lv_aload_n hx hb dX6_copyFrom_87 rfl (lv_at hl 1 rfl) ?_
      refine q_get X iX6_copyFrom_6 hP (by decide) h81_84 rfl 9 (by decide) (List.mem_of_getElem? (i := 32) rfl) (v := .ref (ad 86)) rfl dX6_copyFrom_88 ?_
      refine lv_iload_n hx hb dX6_copyFrom_91 rfl (lv_at hl 0 rfl) ?_
      refine lv_aload_n hx hb dX6_copyFrom_92 rfl (lv_at hl 2 rfl) ?_
      refine q_get X iX6_copyFrom_6 hP (by decide) h81_3 rfl 9 (by decide) (List.mem_of_getElem? (i := 32) rfl) (v := .ref (ad 5)) rfl dX6_copyFrom_93 ?_
      refine lv_iload_n hx hb dX6_copyFrom_96 rfl (lv_at hl 0 rfl) ?_
      refine q_zald X hP (by decide) h81_5 (vp_in_nI (by omega) (by decide)) dX6_copyFrom_97 ?_
      refine q_zast X hP hj hA hS (by decide) h81_86 (vp_in_nI (by omega) (by decide)) dX6_copyFrom_98 (fun H locs hP hS => ?_)
      generalize eg_396 : va_up G81 86 _ = g_396 at hP
      have hfr_398 : ∀ j, (j < 84 ∨ 84 + 10 < j) → g_396 j = g j := fun j hj => by rw [← eg_396]; exact (va_up_ne _ _ (by omega)).trans (hfr81 j hj)
      have h_399 : g_396 84 = .inr (6, [.int 0, .int 0, .int 0, .int 0, .int 0, .int 0, .int 0, .int 0, .ref (ad 85), .ref (ad 86), .ref (ad 87), .ref (ad 88), .ref (ad 89), .ref (ad 90), .ref (ad 91), .ref (ad 92), .ref (ad 93), .ref (ad 94)]) := by rw [← eg_396, va_up_ne _ _ (by decide)]; exact h81_84
      have h_400 : g_396 3 = .inr (6, [.int 0, .int 0, .int 0, .int 0, .int 0, .int 0, .int 0, .int 0, .ref (ad 4), .ref (ad 5), .ref (ad 6), .ref (ad 7), .ref (ad 8), .ref (ad 9), .ref (ad 10), .ref (ad 11), .ref (ad 12), .ref (ad 13)]) := by rw [← eg_396, va_up_ne _ _ (by decide)]; exact h81_3
      have h_401 : g_396 85 = .inl (cs 1, 14, .inl f_194) := by rw [← eg_396, va_up_ne _ _ (by decide)]; exact h81_85
      obtain ⟨f_397, h_402⟩ : ∃ f, g_396 86 = .inl (cs 3, 14, .inl f) := ⟨_, by rw [← eg_396]; exact va_up_self _ _ _⟩
      have h_403 : g_396 87 = .inl (cs 1, 5, .inl (fun _ => 0)) := by rw [← eg_396, va_up_ne _ _ (by decide)]; exact h81_87
      have h_404 : g_396 88 = .inl (cs 1, 8, .inl (fun _ => 0)) := by rw [← eg_396, va_up_ne _ _ (by decide)]; exact h81_88
      have h_405 : g_396 89 = .inl (cs 1, 8, .inl (fun _ => 0)) := by rw [← eg_396, va_up_ne _ _ (by decide)]; exact h81_89
      have h_406 : g_396 90 = .inl (cs 1, 8, .inl (fun _ => 0)) := by rw [← eg_396, va_up_ne _ _ (by decide)]; exact h81_90
      have h_407 : g_396 91 = .inl (cs 1, 8, .inl (fun _ => 0)) := by rw [← eg_396, va_up_ne _ _ (by decide)]; exact h81_91
      have h_408 : g_396 92 = .inl (cs 1, 6, .inl (fun _ => 0)) := by rw [← eg_396, va_up_ne _ _ (by decide)]; exact h81_92
      have h_409 : g_396 93 = .inl (cs 1, 6, .inl (fun _ => 0)) := by rw [← eg_396, va_up_ne _ _ (by decide)]; exact h81_93
      have h_410 : g_396 4 = .inl (cs 1, 14, .inl (fun _ => 0)) := by rw [← eg_396, va_up_ne _ _ (by decide)]; exact h81_4
      have h_411 : g_396 5 = .inl (cs 3, 14, .inl (fun _ => 0)) := by rw [← eg_396, va_up_ne _ _ (by decide)]; exact h81_5
      have h_412 : g_396 6 = .inl (cs 1, 5, .inl (fun _ => 0)) := by rw [← eg_396, va_up_ne _ _ (by decide)]; exact h81_6
      have h_413 : g_396 7 = .inl (cs 1, 8, .inl (fun _ => 0)) := by rw [← eg_396, va_up_ne _ _ (by decide)]; exact h81_7
      have h_414 : g_396 8 = .inl (cs 1, 8, .inl (fun _ => 0)) := by rw [← eg_396, va_up_ne _ _ (by decide)]; exact h81_8
      have h_415 : g_396 9 = .inl (cs 1, 8, .inl (fun _ => 0)) := by rw [← eg_396, va_up_ne _ _ (by decide)]; exact h81_9
      have h_416 : g_396 10 = .inl (cs 1, 8, .inl (fun _ => 0)) := by rw [← eg_396, va_up_ne _ _ (by decide)]; exact h81_10
      have h_417 : g_396 11 = .inl (cs 1, 6, .inl (fun _ => 0)) := by rw [← eg_396, va_up_ne _ _ (by decide)]; exact h81_11
      have h_418 : g_396 12 = .inl (cs 1, 6, .inl (fun _ => 0)) := by rw [← eg_396, va_up_ne _ _ (by decide)]; exact h81_12
      have h_419 : g_396 94 = .inr (0, [.int 0, .ref (ad 95), .ref (ad 96), .ref (ad 97), .ref (ad 103)]) := by rw [← eg_396, va_up_ne _ _ (by decide)]; exact h81_94
      have h_420 : g_396 13 = .inr (0, [.int 0, .ref (ad 14), .ref (ad 15), .ref (ad 16), .ref (ad 22)]) := by rw [← eg_396, va_up_ne _ _ (by decide)]; exact h81_13
      refine lv_iinc (v := (nI (k81 + 1))) (lv' := [(2, .int (nI (k81 + 1))), (0, .ref (ad 84)), (1, .ref (ad 3))]) hx hb dX6_copyFrom_99 hl (k := 0) rfl (nI_add k81 1) (by decide) rfl (fun ls hl => ?_)
      refine lv_goto (tgt := 81) hx hb dX6_copyFrom_102 (by decide) ?_
      exact ih81 (k81 + 1) _ g_396 _ _ ls (by omega) hfr_398 h_399 h_400 h_401 h_402 h_403 h_404 h_405 h_406 h_407 h_408 h_409 h_410 h_411 h_412 h_413 h_414 h_415 h_416 h_417 h_418 h_419 h_420 hP hS (lv_sub hl [0, 1, 2] rfl)
  exact HL81 14 0 _ g_193 _ _ ls (by omega) hfr_195 h_196 h_197 h_198 h_199 h_200 h_201 h_202 h_203 h_204 h_205 h_206 h_207 h_208 h_209 h_210 h_211 h_212 h_213 h_214 h_215 h_216 h_217 hP hS (lv_sub hl [0, 1, 2] rfl)

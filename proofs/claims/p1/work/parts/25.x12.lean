theorem dX12_init_0 : decode cX12_init 0 = .ok (.aload_n 0, 1) := by decide +kernel
theorem dX12_init_1 : decode cX12_init 1 = .ok (.invokespecial 3, 3) := by decide +kernel
theorem dX12_init_4 : decode cX12_init 4 = .ok (.aload_n 0, 1) := by decide +kernel
theorem dX12_init_5 : decode cX12_init 5 = .ok (.bipush 118, 2) := by decide +kernel
theorem dX12_init_7 : decode cX12_init 7 = .ok (.newarray .int, 2) := by decide +kernel
theorem dX12_init_9 : decode cX12_init 9 = .ok (.putfield 9, 3) := by decide +kernel
theorem dX12_init_12 : decode cX12_init 12 = .ok (.aload_n 0, 1) := by decide +kernel
theorem dX12_init_13 : decode cX12_init 13 = .ok (.sipush 354, 3) := by decide +kernel
theorem dX12_init_16 : decode cX12_init 16 = .ok (.newarray .int, 2) := by decide +kernel
theorem dX12_init_18 : decode cX12_init 18 = .ok (.putfield 13, 3) := by decide +kernel
theorem dX12_init_21 : decode cX12_init 21 = .ok (.aload_n 0, 1) := by decide +kernel
theorem dX12_init_22 : decode cX12_init 22 = .ok (.iconst 3, 1) := by decide +kernel
theorem dX12_init_23 : decode cX12_init 23 = .ok (.newarray .boolean, 2) := by decide +kernel
theorem dX12_init_25 : decode cX12_init 25 = .ok (.putfield 16, 3) := by decide +kernel
theorem dX12_init_28 : decode cX12_init 28 = .ok (.aload_n 0, 1) := by decide +kernel
theorem dX12_init_29 : decode cX12_init 29 = .ok (.sipush 1000, 3) := by decide +kernel
theorem dX12_init_32 : decode cX12_init 32 = .ok (.newarray .byte, 2) := by decide +kernel
theorem dX12_init_34 : decode cX12_init 34 = .ok (.putfield 20, 3) := by decide +kernel
theorem dX12_init_37 : decode cX12_init 37 = .ok (.aload_n 0, 1) := by decide +kernel
theorem dX12_init_38 : decode cX12_init 38 = .ok (.iconst 5, 1) := by decide +kernel
theorem dX12_init_39 : decode cX12_init 39 = .ok (.newarray .int, 2) := by decide +kernel
theorem dX12_init_41 : decode cX12_init 41 = .ok (.putfield 24, 3) := by decide +kernel
theorem dX12_init_44 : decode cX12_init 44 = .ok (.aload_n 0, 1) := by decide +kernel
theorem dX12_init_45 : decode cX12_init 45 = .ok (.iconst (-1), 1) := by decide +kernel
theorem dX12_init_46 : decode cX12_init 46 = .ok (.putfield 27, 3) := by decide +kernel
theorem dX12_init_49 : decode cX12_init 49 = .ok (.aload_n 0, 1) := by decide +kernel
theorem dX12_init_50 : decode cX12_init 50 = .ok (.bipush 118, 2) := by decide +kernel
theorem dX12_init_52 : decode cX12_init 52 = .ok (.newarray .int, 2) := by decide +kernel
theorem dX12_init_54 : decode cX12_init 54 = .ok (.putfield 31, 3) := by decide +kernel
theorem dX12_init_57 : decode cX12_init 57 = .ok (.aload_n 0, 1) := by decide +kernel
theorem dX12_init_58 : decode cX12_init 58 = .ok (.bipush 70, 2) := by decide +kernel
theorem dX12_init_60 : decode cX12_init 60 = .ok (.newarray .int, 2) := by decide +kernel
theorem dX12_init_62 : decode cX12_init 62 = .ok (.putfield 34, 3) := by decide +kernel
theorem dX12_init_65 : decode cX12_init 65 = .ok (.aload_n 0, 1) := by decide +kernel
theorem dX12_init_66 : decode cX12_init 66 = .ok (.bipush 8, 2) := by decide +kernel
theorem dX12_init_68 : decode cX12_init 68 = .ok (.newarray .int, 2) := by decide +kernel
theorem dX12_init_70 : decode cX12_init 70 = .ok (.putfield 37, 3) := by decide +kernel
theorem dX12_init_73 : decode cX12_init 73 = .ok (.aload_n 0, 1) := by decide +kernel
theorem dX12_init_74 : decode cX12_init 74 = .ok (.sipush 160, 3) := by decide +kernel
theorem dX12_init_77 : decode cX12_init 77 = .ok (.newarray .int, 2) := by decide +kernel
theorem dX12_init_79 : decode cX12_init 79 = .ok (.putfield 40, 3) := by decide +kernel
theorem dX12_init_82 : decode cX12_init 82 = .ok (.aload_n 0, 1) := by decide +kernel
theorem dX12_init_83 : decode cX12_init 83 = .ok (.bipush 70, 2) := by decide +kernel
theorem dX12_init_85 : decode cX12_init 85 = .ok (.newarray .int, 2) := by decide +kernel
theorem dX12_init_87 : decode cX12_init 87 = .ok (.putfield 43, 3) := by decide +kernel
theorem dX12_init_90 : decode cX12_init 90 = .ok (.aload_n 0, 1) := by decide +kernel
theorem dX12_init_91 : decode cX12_init 91 = .ok (.sipush 560, 3) := by decide +kernel
theorem dX12_init_94 : decode cX12_init 94 = .ok (.newarray .int, 2) := by decide +kernel
theorem dX12_init_96 : decode cX12_init 96 = .ok (.putfield 46, 3) := by decide +kernel
theorem dX12_init_99 : decode cX12_init 99 = .ok (.aload_n 0, 1) := by decide +kernel
theorem dX12_init_100 : decode cX12_init 100 = .ok (.bipush 15, 2) := by decide +kernel
theorem dX12_init_102 : decode cX12_init 102 = .ok (.newarray .long, 2) := by decide +kernel
theorem dX12_init_104 : decode cX12_init 104 = .ok (.putfield 49, 3) := by decide +kernel
theorem dX12_init_107 : decode cX12_init 107 = .ok (.aload_n 0, 1) := by decide +kernel
theorem dX12_init_108 : decode cX12_init 108 = .ok (.bipush 15, 2) := by decide +kernel
theorem dX12_init_110 : decode cX12_init 110 = .ok (.newarray .long, 2) := by decide +kernel
theorem dX12_init_112 : decode cX12_init 112 = .ok (.putfield 53, 3) := by decide +kernel
theorem dX12_init_115 : decode cX12_init 115 = .ok (.aload_n 0, 1) := by decide +kernel
theorem dX12_init_116 : decode cX12_init 116 = .ok (.bipush 14, 2) := by decide +kernel
theorem dX12_init_118 : decode cX12_init 118 = .ok (.newarray .long, 2) := by decide +kernel
theorem dX12_init_120 : decode cX12_init 120 = .ok (.putfield 56, 3) := by decide +kernel
theorem dX12_init_123 : decode cX12_init 123 = .ok (.aload_n 0, 1) := by decide +kernel
theorem dX12_init_124 : decode cX12_init 124 = .ok (.bipush 75, 2) := by decide +kernel
theorem dX12_init_126 : decode cX12_init 126 = .ok (.newarray .int, 2) := by decide +kernel
theorem dX12_init_128 : decode cX12_init 128 = .ok (.putfield 59, 3) := by decide +kernel
theorem dX12_init_131 : decode cX12_init 131 = .ok (.aload_n 0, 1) := by decide +kernel
theorem dX12_init_132 : decode cX12_init 132 = .ok (.bipush 75, 2) := by decide +kernel
theorem dX12_init_134 : decode cX12_init 134 = .ok (.newarray .int, 2) := by decide +kernel
theorem dX12_init_136 : decode cX12_init 136 = .ok (.putfield 62, 3) := by decide +kernel
theorem dX12_init_139 : decode cX12_init 139 = .ok (.aload_n 0, 1) := by decide +kernel
theorem dX12_init_140 : decode cX12_init 140 = .ok (.iconst 4, 1) := by decide +kernel
theorem dX12_init_141 : decode cX12_init 141 = .ok (.newarray .int, 2) := by decide +kernel
theorem dX12_init_143 : decode cX12_init 143 = .ok (.dup, 1) := by decide +kernel
theorem dX12_init_144 : decode cX12_init 144 = .ok (.iconst 0, 1) := by decide +kernel
theorem dX12_init_145 : decode cX12_init 145 = .ok (.iconst (-1), 1) := by decide +kernel
theorem dX12_init_146 : decode cX12_init 146 = .ok (.iastore, 1) := by decide +kernel
theorem dX12_init_147 : decode cX12_init 147 = .ok (.dup, 1) := by decide +kernel
theorem dX12_init_148 : decode cX12_init 148 = .ok (.iconst 1, 1) := by decide +kernel
theorem dX12_init_149 : decode cX12_init 149 = .ok (.iconst (-1), 1) := by decide +kernel
theorem dX12_init_150 : decode cX12_init 150 = .ok (.iastore, 1) := by decide +kernel
theorem dX12_init_151 : decode cX12_init 151 = .ok (.dup, 1) := by decide +kernel
theorem dX12_init_152 : decode cX12_init 152 = .ok (.iconst 2, 1) := by decide +kernel
theorem dX12_init_153 : decode cX12_init 153 = .ok (.iconst (-1), 1) := by decide +kernel
theorem dX12_init_154 : decode cX12_init 154 = .ok (.iastore, 1) := by decide +kernel
theorem dX12_init_155 : decode cX12_init 155 = .ok (.dup, 1) := by decide +kernel
theorem dX12_init_156 : decode cX12_init 156 = .ok (.iconst 3, 1) := by decide +kernel
theorem dX12_init_157 : decode cX12_init 157 = .ok (.iconst (-1), 1) := by decide +kernel
theorem dX12_init_158 : decode cX12_init 158 = .ok (.iastore, 1) := by decide +kernel
theorem dX12_init_159 : decode cX12_init 159 = .ok (.putfield 65, 3) := by decide +kernel
theorem dX12_init_162 : decode cX12_init 162 = .ok (.aload_n 0, 1) := by decide +kernel
theorem dX12_init_163 : decode cX12_init 163 = .ok (.iconst 4, 1) := by decide +kernel
theorem dX12_init_164 : decode cX12_init 164 = .ok (.newarray .int, 2) := by decide +kernel
theorem dX12_init_166 : decode cX12_init 166 = .ok (.putfield 68, 3) := by decide +kernel
theorem dX12_init_169 : decode cX12_init 169 = .ok (.aload_n 0, 1) := by decide +kernel
theorem dX12_init_170 : decode cX12_init 170 = .ok (.sipush 240, 3) := by decide +kernel
theorem dX12_init_173 : decode cX12_init 173 = .ok (.newarray .long, 2) := by decide +kernel
theorem dX12_init_175 : decode cX12_init 175 = .ok (.putfield 71, 3) := by decide +kernel
theorem dX12_init_178 : decode cX12_init 178 = .ok (.aload_n 0, 1) := by decide +kernel
theorem dX12_init_179 : decode cX12_init 179 = .ok (.bipush 60, 2) := by decide +kernel
theorem dX12_init_181 : decode cX12_init 181 = .ok (.newarray .long, 2) := by decide +kernel
theorem dX12_init_183 : decode cX12_init 183 = .ok (.putfield 74, 3) := by decide +kernel
theorem dX12_init_186 : decode cX12_init 186 = .ok (.return_, 1) := by decide +kernel
def vX12_init : List Cond := .code yX12_init cX12_init 1 none :: ([.methodLink RX12 3 objectInit, .instanceMethod objectInit, .code objectInit ⟨#[0xb1]⟩ 1 none, .arrayClass .int, .fieldLink RX12 9 "IcicleClockModel" "world" "[I", .fieldLink RX12 13 "IcicleClockModel" "images" "[I", .arrayClass .boolean, .fieldLink RX12 16 "IcicleClockModel" "hasImage" "[Z", .arrayClass .byte, .fieldLink RX12 20 "IcicleClockModel" "tape" "[B", .fieldLink RX12 24 "IcicleClockModel" "five" "[I", .fieldLink RX12 27 "IcicleClockModel" "faultPlace" "I", .fieldLink RX12 31 "IcicleClockModel" "fresh" "[I", .fieldLink RX12 34 "IcicleClockModel" "off" "[I", .fieldLink RX12 37 "IcicleClockModel" "fell" "[I", .fieldLink RX12 40 "IcicleClockModel" "rounds" "[I", .fieldLink RX12 43 "IcicleClockModel" "pairs" "[I", .fieldLink RX12 46 "IcicleClockModel" "fellBy" "[I", .arrayClass .long, .fieldLink RX12 49 "IcicleClockModel" "hangs" "[J", .fieldLink RX12 53 "IcicleClockModel" "hangsThen" "[J", .fieldLink RX12 56 "IcicleClockModel" "oftenOn" "[J", .fieldLink RX12 59 "IcicleClockModel" "struck" "[I", .fieldLink RX12 62 "IcicleClockModel" "struckWays" "[I", .fieldLink RX12 65 "IcicleClockModel" "many" "[I", .fieldLink RX12 68 "IcicleClockModel" "width" "[I", .fieldLink RX12 71 "IcicleClockModel" "numbers" "[J", .fieldLink RX12 74 "IcicleClockModel" "moving" "[J"] ++ wsX120)
theorem iX12_init_12 : ∀ w ∈ wsX120, w ∈ vX12_init := fun _ h => List.mem_cons_of_mem _ (List.mem_append_right _ h)
set_option maxHeartbeats 8000000 in
set_option maxRecDepth 100000 in
theorem n_X12 (l : Launch) (D : va_G) (cs : Nat → ClassId) (h0 sz : Nat) : cN l yX12_init vX12_init { frames := 1, cells := 20, slots := 2968, locals := 12 } D cs h0 sz (.inr (12, [.int 0, .null, .null, .null, .null, .int 0, .null, .int 0, .int 0, .int 0, .int 0, .int 0, .int 0, .int 0, .null, .null, .null, .int 0, .int 0, .null, .null, .null, .int 0, .int 0, .int 0, .int 0, .int 0, .null, .null, .null, .long 0, .long 0, .null, .null, .int 0, .int 0, .null, .null, .null, .null])) 21 (fun a g => g 0 = .inr (12, [.int 0, .ref (a 1), .ref (a 2), .ref (a 3), .ref (a 4), .int 0, .ref (a 5), .int 0, .int 0, .int 0, .int 0, .int 0, .int 0, .int (-1), .ref (a 6), .ref (a 7), .ref (a 8), .int 0, .int 0, .ref (a 9), .ref (a 10), .ref (a 11), .int 0, .int 0, .int 0, .int 0, .int 0, .ref (a 12), .ref (a 13), .ref (a 14), .long 0, .long 0, .ref (a 15), .ref (a 16), .int 0, .int 0, .ref (a 17), .ref (a 18), .ref (a 19), .ref (a 20)]) ∧ g 1 = .inl (cs 1, 118, .inl (fun _ => 0)) ∧ g 2 = .inl (cs 1, 354, .inl (fun _ => 0)) ∧ g 3 = .inl (cs 3, 3, .inl (fun _ => 0)) ∧ g 4 = .inl (cs 0, 1000, .inl (fun _ => 0)) ∧ g 5 = .inl (cs 1, 5, .inl (fun _ => 0)) ∧ g 6 = .inl (cs 1, 118, .inl (fun _ => 0)) ∧ g 7 = .inl (cs 1, 70, .inl (fun _ => 0)) ∧ g 8 = .inl (cs 1, 8, .inl (fun _ => 0)) ∧ g 9 = .inl (cs 1, 160, .inl (fun _ => 0)) ∧ g 10 = .inl (cs 1, 70, .inl (fun _ => 0)) ∧ g 11 = .inl (cs 1, 560, .inl (fun _ => 0)) ∧ g 12 = .inl (cs 2, 15, .inr (.inl (fun _ => 0))) ∧ g 13 = .inl (cs 2, 15, .inr (.inl (fun _ => 0))) ∧ g 14 = .inl (cs 2, 14, .inr (.inl (fun _ => 0))) ∧ g 15 = .inl (cs 1, 75, .inl (fun _ => 0)) ∧ g 16 = .inl (cs 1, 75, .inl (fun _ => 0)) ∧ g 17 = .inl (cs 1, 4, .inl mF) ∧ g 18 = .inl (cs 1, 4, .inl (fun _ => 0)) ∧ g 19 = .inl (cs 2, 240, .inr (.inl (fun _ => 0))) ∧ g 20 = .inl (cs 2, 60, .inr (.inl (fun _ => 0)))) 20 2968 := by
  refine cN.start (cc := cX12_init) (maxL := 1) RX12 rfl (by decide) rfl rfl (by decide) ?_
  intro p e s m below meth c ls A X hnm0 hax hA hP hD hl hfin
  have hx := X.1
  have hb := X.2.1
  have hS : va_S A s.heap s.heap [] := va_S.rf
  obtain ⟨ad_0, g_0⟩ : (Nat → Nat) × (Nat → va_E) := (fun _ => 0, fun _ => .inr (0, []))
  have hP : va_P D vwCl ((h0, .inr (12, [.int 0, .null, .null, .null, .null, .int 0, .null, .int 0, .int 0, .int 0, .int 0, .int 0, .int 0, .int 0, .null, .null, .null, .int 0, .int 0, .null, .null, .null, .int 0, .int 0, .int 0, .int 0, .int 0, .null, .null, .null, .long 0, .long 0, .null, .null, .int 0, .int 0, .null, .null, .null, .null])) :: wL ad_0 g_0 0) s.heap := hP
  have hD : va_D A ((h0, .inr (12, [.int 0, .null, .null, .null, .null, .int 0, .null, .int 0, .int 0, .int 0, .int 0, .int 0, .int 0, .int 0, .null, .null, .null, .int 0, .int 0, .null, .null, .null, .int 0, .int 0, .int 0, .int 0, .int 0, .null, .null, .null, .long 0, .long 0, .null, .null, .int 0, .int 0, .null, .null, .null, .null])) :: wL ad_0 g_0 0) := hD
  refine lv_aload_n hx hb dX12_init_0 rfl (lv_at hl 0 rfl) ?_
  refine r_obj X hl.1 (List.mem_of_getElem? (i := 1) rfl) (List.mem_of_getElem? (i := 2) rfl) (List.mem_of_getElem? (i := 3) rfl) dX12_init_1 (Nat.le_of_ble_eq_true rfl) (Nat.le_of_ble_eq_true rfl) ?_
  refine lv_aload_n hx hb dX12_init_4 rfl (lv_at hl 0 rfl) ?_
  refine lv_bipush (v := 118) hx hb dX12_init_5 (by decide) ?_
  refine r_newa (atype := .int) X 1 rfl rfl (fun _ h => h) (List.mem_of_getElem? (i := 4) rfl) hP hD hS hA (a0 := (118, .inl (fun _ => 0))) (fun _ => rfl) (by decide) (by decide) (Nat.le_of_ble_eq_true rfl) (Nat.le_of_ble_eq_true rfl) (Nat.le_of_ble_eq_true rfl) dX12_init_7 (fun q_1 ad_2 g_3 H ead_2 eg_3 hP hD hS => ?_)
  have hP : va_P D vwCl ((h0, .inr (12, [.int 0, .null, .null, .null, .null, .int 0, .null, .int 0, .int 0, .int 0, .int 0, .int 0, .int 0, .int 0, .null, .null, .null, .int 0, .int 0, .null, .null, .null, .int 0, .int 0, .int 0, .int 0, .int 0, .null, .null, .null, .long 0, .long 0, .null, .null, .int 0, .int 0, .null, .null, .null, .null])) :: wL ad_2 g_3 1) H := hP
  have hD : va_D A ((h0, .inr (12, [.int 0, .null, .null, .null, .null, .int 0, .null, .int 0, .int 0, .int 0, .int 0, .int 0, .int 0, .int 0, .null, .null, .null, .int 0, .int 0, .null, .null, .null, .int 0, .int 0, .int 0, .int 0, .int 0, .null, .null, .null, .long 0, .long 0, .null, .null, .int 0, .int 0, .null, .null, .null, .null])) :: wL ad_2 g_3 1) := hD
  refine r_putF X hnm0 iX12_init_12 tyX12 tyX12_ok nmX12 hP hD hS rfl 1 (by decide) (List.mem_of_getElem? (i := 5) rfl) rfl rfl (ty := .array .int) (v := .ref q_1) (by decide +kernel) rfl rfl (Nat.le_of_ble_eq_true rfl) dX12_init_9 (fun H locs hP hD hS => ?_)
  have hP : va_P D vwCl ((h0, .inr (12, [.int 0, .ref q_1, .null, .null, .null, .int 0, .null, .int 0, .int 0, .int 0, .int 0, .int 0, .int 0, .int 0, .null, .null, .null, .int 0, .int 0, .null, .null, .null, .int 0, .int 0, .int 0, .int 0, .int 0, .null, .null, .null, .long 0, .long 0, .null, .null, .int 0, .int 0, .null, .null, .null, .null])) :: wL ad_2 g_3 1) H := hP
  have hD : va_D A ((h0, .inr (12, [.int 0, .ref q_1, .null, .null, .null, .int 0, .null, .int 0, .int 0, .int 0, .int 0, .int 0, .int 0, .int 0, .null, .null, .null, .int 0, .int 0, .null, .null, .null, .int 0, .int 0, .int 0, .int 0, .int 0, .null, .null, .null, .long 0, .long 0, .null, .null, .int 0, .int 0, .null, .null, .null, .null])) :: wL ad_2 g_3 1) := hD
  refine lv_aload_n hx hb dX12_init_12 rfl (lv_at hl 0 rfl) ?_
  refine lv_sipush (v := 354) hx hb dX12_init_13 (by decide) ?_
  refine r_newa (atype := .int) X 1 rfl rfl (fun _ h => h) (List.mem_of_getElem? (i := 4) rfl) hP hD hS hA (a0 := (354, .inl (fun _ => 0))) (fun _ => rfl) (by decide) (by decide) (Nat.le_of_ble_eq_true rfl) (Nat.le_of_ble_eq_true rfl) (Nat.le_of_ble_eq_true rfl) dX12_init_16 (fun q_4 ad_5 g_6 H ead_5 eg_6 hP hD hS => ?_)
  have hP : va_P D vwCl ((h0, .inr (12, [.int 0, .ref q_1, .null, .null, .null, .int 0, .null, .int 0, .int 0, .int 0, .int 0, .int 0, .int 0, .int 0, .null, .null, .null, .int 0, .int 0, .null, .null, .null, .int 0, .int 0, .int 0, .int 0, .int 0, .null, .null, .null, .long 0, .long 0, .null, .null, .int 0, .int 0, .null, .null, .null, .null])) :: wL ad_5 g_6 2) H := hP
  have hD : va_D A ((h0, .inr (12, [.int 0, .ref q_1, .null, .null, .null, .int 0, .null, .int 0, .int 0, .int 0, .int 0, .int 0, .int 0, .int 0, .null, .null, .null, .int 0, .int 0, .null, .null, .null, .int 0, .int 0, .int 0, .int 0, .int 0, .null, .null, .null, .long 0, .long 0, .null, .null, .int 0, .int 0, .null, .null, .null, .null])) :: wL ad_5 g_6 2) := hD
  refine r_putF X hnm0 iX12_init_12 tyX12 tyX12_ok nmX12 hP hD hS rfl 2 (by decide) (List.mem_of_getElem? (i := 6) rfl) rfl rfl (ty := .array .int) (v := .ref q_4) (by decide +kernel) rfl rfl (Nat.le_of_ble_eq_true rfl) dX12_init_18 (fun H locs hP hD hS => ?_)
  have hP : va_P D vwCl ((h0, .inr (12, [.int 0, .ref q_1, .ref q_4, .null, .null, .int 0, .null, .int 0, .int 0, .int 0, .int 0, .int 0, .int 0, .int 0, .null, .null, .null, .int 0, .int 0, .null, .null, .null, .int 0, .int 0, .int 0, .int 0, .int 0, .null, .null, .null, .long 0, .long 0, .null, .null, .int 0, .int 0, .null, .null, .null, .null])) :: wL ad_5 g_6 2) H := hP
  have hD : va_D A ((h0, .inr (12, [.int 0, .ref q_1, .ref q_4, .null, .null, .int 0, .null, .int 0, .int 0, .int 0, .int 0, .int 0, .int 0, .int 0, .null, .null, .null, .int 0, .int 0, .null, .null, .null, .int 0, .int 0, .int 0, .int 0, .int 0, .null, .null, .null, .long 0, .long 0, .null, .null, .int 0, .int 0, .null, .null, .null, .null])) :: wL ad_5 g_6 2) := hD
  refine lv_aload_n hx hb dX12_init_21 rfl (lv_at hl 0 rfl) ?_
  refine lv_iconst (v := 3) hx hb dX12_init_22 (by decide) ?_
  refine r_newa (atype := .boolean) X 3 rfl rfl (fun _ h => h) (List.mem_of_getElem? (i := 7) rfl) hP hD hS hA (a0 := (3, .inl (fun _ => 0))) (fun _ => rfl) (by decide) (by decide) (Nat.le_of_ble_eq_true rfl) (Nat.le_of_ble_eq_true rfl) (Nat.le_of_ble_eq_true rfl) dX12_init_23 (fun q_7 ad_8 g_9 H ead_8 eg_9 hP hD hS => ?_)
  have hP : va_P D vwCl ((h0, .inr (12, [.int 0, .ref q_1, .ref q_4, .null, .null, .int 0, .null, .int 0, .int 0, .int 0, .int 0, .int 0, .int 0, .int 0, .null, .null, .null, .int 0, .int 0, .null, .null, .null, .int 0, .int 0, .int 0, .int 0, .int 0, .null, .null, .null, .long 0, .long 0, .null, .null, .int 0, .int 0, .null, .null, .null, .null])) :: wL ad_8 g_9 3) H := hP
  have hD : va_D A ((h0, .inr (12, [.int 0, .ref q_1, .ref q_4, .null, .null, .int 0, .null, .int 0, .int 0, .int 0, .int 0, .int 0, .int 0, .int 0, .null, .null, .null, .int 0, .int 0, .null, .null, .null, .int 0, .int 0, .int 0, .int 0, .int 0, .null, .null, .null, .long 0, .long 0, .null, .null, .int 0, .int 0, .null, .null, .null, .null])) :: wL ad_8 g_9 3) := hD
  refine r_putF X hnm0 iX12_init_12 tyX12 tyX12_ok nmX12 hP hD hS rfl 3 (by decide) (List.mem_of_getElem? (i := 8) rfl) rfl rfl (ty := .array .boolean) (v := .ref q_7) (by decide +kernel) rfl rfl (Nat.le_of_ble_eq_true rfl) dX12_init_25 (fun H locs hP hD hS => ?_)
  have hP : va_P D vwCl ((h0, .inr (12, [.int 0, .ref q_1, .ref q_4, .ref q_7, .null, .int 0, .null, .int 0, .int 0, .int 0, .int 0, .int 0, .int 0, .int 0, .null, .null, .null, .int 0, .int 0, .null, .null, .null, .int 0, .int 0, .int 0, .int 0, .int 0, .null, .null, .null, .long 0, .long 0, .null, .null, .int 0, .int 0, .null, .null, .null, .null])) :: wL ad_8 g_9 3) H := hP
  have hD : va_D A ((h0, .inr (12, [.int 0, .ref q_1, .ref q_4, .ref q_7, .null, .int 0, .null, .int 0, .int 0, .int 0, .int 0, .int 0, .int 0, .int 0, .null, .null, .null, .int 0, .int 0, .null, .null, .null, .int 0, .int 0, .int 0, .int 0, .int 0, .null, .null, .null, .long 0, .long 0, .null, .null, .int 0, .int 0, .null, .null, .null, .null])) :: wL ad_8 g_9 3) := hD
  refine lv_aload_n hx hb dX12_init_28 rfl (lv_at hl 0 rfl) ?_
  refine lv_sipush (v := 1000) hx hb dX12_init_29 (by decide) ?_
  refine r_newa (atype := .byte) X 0 rfl rfl (fun _ h => h) (List.mem_of_getElem? (i := 9) rfl) hP hD hS hA (a0 := (1000, .inl (fun _ => 0))) (fun _ => rfl) (by decide) (by decide) (Nat.le_of_ble_eq_true rfl) (Nat.le_of_ble_eq_true rfl) (Nat.le_of_ble_eq_true rfl) dX12_init_32 (fun q_10 ad_11 g_12 H ead_11 eg_12 hP hD hS => ?_)
  have hP : va_P D vwCl ((h0, .inr (12, [.int 0, .ref q_1, .ref q_4, .ref q_7, .null, .int 0, .null, .int 0, .int 0, .int 0, .int 0, .int 0, .int 0, .int 0, .null, .null, .null, .int 0, .int 0, .null, .null, .null, .int 0, .int 0, .int 0, .int 0, .int 0, .null, .null, .null, .long 0, .long 0, .null, .null, .int 0, .int 0, .null, .null, .null, .null])) :: wL ad_11 g_12 4) H := hP
  have hD : va_D A ((h0, .inr (12, [.int 0, .ref q_1, .ref q_4, .ref q_7, .null, .int 0, .null, .int 0, .int 0, .int 0, .int 0, .int 0, .int 0, .int 0, .null, .null, .null, .int 0, .int 0, .null, .null, .null, .int 0, .int 0, .int 0, .int 0, .int 0, .null, .null, .null, .long 0, .long 0, .null, .null, .int 0, .int 0, .null, .null, .null, .null])) :: wL ad_11 g_12 4) := hD
  refine r_putF X hnm0 iX12_init_12 tyX12 tyX12_ok nmX12 hP hD hS rfl 4 (by decide) (List.mem_of_getElem? (i := 10) rfl) rfl rfl (ty := .array .byte) (v := .ref q_10) (by decide +kernel) rfl rfl (Nat.le_of_ble_eq_true rfl) dX12_init_34 (fun H locs hP hD hS => ?_)
  have hP : va_P D vwCl ((h0, .inr (12, [.int 0, .ref q_1, .ref q_4, .ref q_7, .ref q_10, .int 0, .null, .int 0, .int 0, .int 0, .int 0, .int 0, .int 0, .int 0, .null, .null, .null, .int 0, .int 0, .null, .null, .null, .int 0, .int 0, .int 0, .int 0, .int 0, .null, .null, .null, .long 0, .long 0, .null, .null, .int 0, .int 0, .null, .null, .null, .null])) :: wL ad_11 g_12 4) H := hP
  have hD : va_D A ((h0, .inr (12, [.int 0, .ref q_1, .ref q_4, .ref q_7, .ref q_10, .int 0, .null, .int 0, .int 0, .int 0, .int 0, .int 0, .int 0, .int 0, .null, .null, .null, .int 0, .int 0, .null, .null, .null, .int 0, .int 0, .int 0, .int 0, .int 0, .null, .null, .null, .long 0, .long 0, .null, .null, .int 0, .int 0, .null, .null, .null, .null])) :: wL ad_11 g_12 4) := hD
  refine lv_aload_n hx hb dX12_init_37 rfl (lv_at hl 0 rfl) ?_
  refine lv_iconst (v := 5) hx hb dX12_init_38 (by decide) ?_
  refine r_newa (atype := .int) X 1 rfl rfl (fun _ h => h) (List.mem_of_getElem? (i := 4) rfl) hP hD hS hA (a0 := (5, .inl (fun _ => 0))) (fun _ => rfl) (by decide) (by decide) (Nat.le_of_ble_eq_true rfl) (Nat.le_of_ble_eq_true rfl) (Nat.le_of_ble_eq_true rfl) dX12_init_39 (fun q_13 ad_14 g_15 H ead_14 eg_15 hP hD hS => ?_)
  have hP : va_P D vwCl ((h0, .inr (12, [.int 0, .ref q_1, .ref q_4, .ref q_7, .ref q_10, .int 0, .null, .int 0, .int 0, .int 0, .int 0, .int 0, .int 0, .int 0, .null, .null, .null, .int 0, .int 0, .null, .null, .null, .int 0, .int 0, .int 0, .int 0, .int 0, .null, .null, .null, .long 0, .long 0, .null, .null, .int 0, .int 0, .null, .null, .null, .null])) :: wL ad_14 g_15 5) H := hP
  have hD : va_D A ((h0, .inr (12, [.int 0, .ref q_1, .ref q_4, .ref q_7, .ref q_10, .int 0, .null, .int 0, .int 0, .int 0, .int 0, .int 0, .int 0, .int 0, .null, .null, .null, .int 0, .int 0, .null, .null, .null, .int 0, .int 0, .int 0, .int 0, .int 0, .null, .null, .null, .long 0, .long 0, .null, .null, .int 0, .int 0, .null, .null, .null, .null])) :: wL ad_14 g_15 5) := hD
  refine r_putF X hnm0 iX12_init_12 tyX12 tyX12_ok nmX12 hP hD hS rfl 6 (by decide) (List.mem_of_getElem? (i := 11) rfl) rfl rfl (ty := .array .int) (v := .ref q_13) (by decide +kernel) rfl rfl (Nat.le_of_ble_eq_true rfl) dX12_init_41 (fun H locs hP hD hS => ?_)
  have hP : va_P D vwCl ((h0, .inr (12, [.int 0, .ref q_1, .ref q_4, .ref q_7, .ref q_10, .int 0, .ref q_13, .int 0, .int 0, .int 0, .int 0, .int 0, .int 0, .int 0, .null, .null, .null, .int 0, .int 0, .null, .null, .null, .int 0, .int 0, .int 0, .int 0, .int 0, .null, .null, .null, .long 0, .long 0, .null, .null, .int 0, .int 0, .null, .null, .null, .null])) :: wL ad_14 g_15 5) H := hP
  have hD : va_D A ((h0, .inr (12, [.int 0, .ref q_1, .ref q_4, .ref q_7, .ref q_10, .int 0, .ref q_13, .int 0, .int 0, .int 0, .int 0, .int 0, .int 0, .int 0, .null, .null, .null, .int 0, .int 0, .null, .null, .null, .int 0, .int 0, .int 0, .int 0, .int 0, .null, .null, .null, .long 0, .long 0, .null, .null, .int 0, .int 0, .null, .null, .null, .null])) :: wL ad_14 g_15 5) := hD
  refine lv_aload_n hx hb dX12_init_44 rfl (lv_at hl 0 rfl) ?_
  refine lv_iconst (v := (-1)) hx hb dX12_init_45 (by decide) ?_
  refine r_put X iX12_init_12 tyX12 tyX12_ok nmX12 hP hD hS rfl 13 (by decide) (List.mem_of_getElem? (i := 12) rfl) rfl (ty := .int) (v := .int (-1)) (by decide +kernel) rfl rfl (Nat.le_of_ble_eq_true rfl) dX12_init_46 (fun H locs hP hD hS => ?_)
  have hP : va_P D vwCl ((h0, .inr (12, [.int 0, .ref q_1, .ref q_4, .ref q_7, .ref q_10, .int 0, .ref q_13, .int 0, .int 0, .int 0, .int 0, .int 0, .int 0, .int (-1), .null, .null, .null, .int 0, .int 0, .null, .null, .null, .int 0, .int 0, .int 0, .int 0, .int 0, .null, .null, .null, .long 0, .long 0, .null, .null, .int 0, .int 0, .null, .null, .null, .null])) :: wL ad_14 g_15 5) H := hP
  have hD : va_D A ((h0, .inr (12, [.int 0, .ref q_1, .ref q_4, .ref q_7, .ref q_10, .int 0, .ref q_13, .int 0, .int 0, .int 0, .int 0, .int 0, .int 0, .int (-1), .null, .null, .null, .int 0, .int 0, .null, .null, .null, .int 0, .int 0, .int 0, .int 0, .int 0, .null, .null, .null, .long 0, .long 0, .null, .null, .int 0, .int 0, .null, .null, .null, .null])) :: wL ad_14 g_15 5) := hD
  refine lv_aload_n hx hb dX12_init_49 rfl (lv_at hl 0 rfl) ?_
  refine lv_bipush (v := 118) hx hb dX12_init_50 (by decide) ?_
  refine r_newa (atype := .int) X 1 rfl rfl (fun _ h => h) (List.mem_of_getElem? (i := 4) rfl) hP hD hS hA (a0 := (118, .inl (fun _ => 0))) (fun _ => rfl) (by decide) (by decide) (Nat.le_of_ble_eq_true rfl) (Nat.le_of_ble_eq_true rfl) (Nat.le_of_ble_eq_true rfl) dX12_init_52 (fun q_16 ad_17 g_18 H ead_17 eg_18 hP hD hS => ?_)
  have hP : va_P D vwCl ((h0, .inr (12, [.int 0, .ref q_1, .ref q_4, .ref q_7, .ref q_10, .int 0, .ref q_13, .int 0, .int 0, .int 0, .int 0, .int 0, .int 0, .int (-1), .null, .null, .null, .int 0, .int 0, .null, .null, .null, .int 0, .int 0, .int 0, .int 0, .int 0, .null, .null, .null, .long 0, .long 0, .null, .null, .int 0, .int 0, .null, .null, .null, .null])) :: wL ad_17 g_18 6) H := hP
  have hD : va_D A ((h0, .inr (12, [.int 0, .ref q_1, .ref q_4, .ref q_7, .ref q_10, .int 0, .ref q_13, .int 0, .int 0, .int 0, .int 0, .int 0, .int 0, .int (-1), .null, .null, .null, .int 0, .int 0, .null, .null, .null, .int 0, .int 0, .int 0, .int 0, .int 0, .null, .null, .null, .long 0, .long 0, .null, .null, .int 0, .int 0, .null, .null, .null, .null])) :: wL ad_17 g_18 6) := hD
  refine r_putF X hnm0 iX12_init_12 tyX12 tyX12_ok nmX12 hP hD hS rfl 14 (by decide) (List.mem_of_getElem? (i := 13) rfl) rfl rfl (ty := .array .int) (v := .ref q_16) (by decide +kernel) rfl rfl (Nat.le_of_ble_eq_true rfl) dX12_init_54 (fun H locs hP hD hS => ?_)
  have hP : va_P D vwCl ((h0, .inr (12, [.int 0, .ref q_1, .ref q_4, .ref q_7, .ref q_10, .int 0, .ref q_13, .int 0, .int 0, .int 0, .int 0, .int 0, .int 0, .int (-1), .ref q_16, .null, .null, .int 0, .int 0, .null, .null, .null, .int 0, .int 0, .int 0, .int 0, .int 0, .null, .null, .null, .long 0, .long 0, .null, .null, .int 0, .int 0, .null, .null, .null, .null])) :: wL ad_17 g_18 6) H := hP
  have hD : va_D A ((h0, .inr (12, [.int 0, .ref q_1, .ref q_4, .ref q_7, .ref q_10, .int 0, .ref q_13, .int 0, .int 0, .int 0, .int 0, .int 0, .int 0, .int (-1), .ref q_16, .null, .null, .int 0, .int 0, .null, .null, .null, .int 0, .int 0, .int 0, .int 0, .int 0, .null, .null, .null, .long 0, .long 0, .null, .null, .int 0, .int 0, .null, .null, .null, .null])) :: wL ad_17 g_18 6) := hD
  refine lv_aload_n hx hb dX12_init_57 rfl (lv_at hl 0 rfl) ?_
  refine lv_bipush (v := 70) hx hb dX12_init_58 (by decide) ?_
  refine r_newa (atype := .int) X 1 rfl rfl (fun _ h => h) (List.mem_of_getElem? (i := 4) rfl) hP hD hS hA (a0 := (70, .inl (fun _ => 0))) (fun _ => rfl) (by decide) (by decide) (Nat.le_of_ble_eq_true rfl) (Nat.le_of_ble_eq_true rfl) (Nat.le_of_ble_eq_true rfl) dX12_init_60 (fun q_19 ad_20 g_21 H ead_20 eg_21 hP hD hS => ?_)
  have hP : va_P D vwCl ((h0, .inr (12, [.int 0, .ref q_1, .ref q_4, .ref q_7, .ref q_10, .int 0, .ref q_13, .int 0, .int 0, .int 0, .int 0, .int 0, .int 0, .int (-1), .ref q_16, .null, .null, .int 0, .int 0, .null, .null, .null, .int 0, .int 0, .int 0, .int 0, .int 0, .null, .null, .null, .long 0, .long 0, .null, .null, .int 0, .int 0, .null, .null, .null, .null])) :: wL ad_20 g_21 7) H := hP
  have hD : va_D A ((h0, .inr (12, [.int 0, .ref q_1, .ref q_4, .ref q_7, .ref q_10, .int 0, .ref q_13, .int 0, .int 0, .int 0, .int 0, .int 0, .int 0, .int (-1), .ref q_16, .null, .null, .int 0, .int 0, .null, .null, .null, .int 0, .int 0, .int 0, .int 0, .int 0, .null, .null, .null, .long 0, .long 0, .null, .null, .int 0, .int 0, .null, .null, .null, .null])) :: wL ad_20 g_21 7) := hD
  refine r_putF X hnm0 iX12_init_12 tyX12 tyX12_ok nmX12 hP hD hS rfl 15 (by decide) (List.mem_of_getElem? (i := 14) rfl) rfl rfl (ty := .array .int) (v := .ref q_19) (by decide +kernel) rfl rfl (Nat.le_of_ble_eq_true rfl) dX12_init_62 (fun H locs hP hD hS => ?_)
  have hP : va_P D vwCl ((h0, .inr (12, [.int 0, .ref q_1, .ref q_4, .ref q_7, .ref q_10, .int 0, .ref q_13, .int 0, .int 0, .int 0, .int 0, .int 0, .int 0, .int (-1), .ref q_16, .ref q_19, .null, .int 0, .int 0, .null, .null, .null, .int 0, .int 0, .int 0, .int 0, .int 0, .null, .null, .null, .long 0, .long 0, .null, .null, .int 0, .int 0, .null, .null, .null, .null])) :: wL ad_20 g_21 7) H := hP
  have hD : va_D A ((h0, .inr (12, [.int 0, .ref q_1, .ref q_4, .ref q_7, .ref q_10, .int 0, .ref q_13, .int 0, .int 0, .int 0, .int 0, .int 0, .int 0, .int (-1), .ref q_16, .ref q_19, .null, .int 0, .int 0, .null, .null, .null, .int 0, .int 0, .int 0, .int 0, .int 0, .null, .null, .null, .long 0, .long 0, .null, .null, .int 0, .int 0, .null, .null, .null, .null])) :: wL ad_20 g_21 7) := hD
  refine lv_aload_n hx hb dX12_init_65 rfl (lv_at hl 0 rfl) ?_
  refine lv_bipush (v := 8) hx hb dX12_init_66 (by decide) ?_
  refine r_newa (atype := .int) X 1 rfl rfl (fun _ h => h) (List.mem_of_getElem? (i := 4) rfl) hP hD hS hA (a0 := (8, .inl (fun _ => 0))) (fun _ => rfl) (by decide) (by decide) (Nat.le_of_ble_eq_true rfl) (Nat.le_of_ble_eq_true rfl) (Nat.le_of_ble_eq_true rfl) dX12_init_68 (fun q_22 ad_23 g_24 H ead_23 eg_24 hP hD hS => ?_)
  have hP : va_P D vwCl ((h0, .inr (12, [.int 0, .ref q_1, .ref q_4, .ref q_7, .ref q_10, .int 0, .ref q_13, .int 0, .int 0, .int 0, .int 0, .int 0, .int 0, .int (-1), .ref q_16, .ref q_19, .null, .int 0, .int 0, .null, .null, .null, .int 0, .int 0, .int 0, .int 0, .int 0, .null, .null, .null, .long 0, .long 0, .null, .null, .int 0, .int 0, .null, .null, .null, .null])) :: wL ad_23 g_24 8) H := hP
  have hD : va_D A ((h0, .inr (12, [.int 0, .ref q_1, .ref q_4, .ref q_7, .ref q_10, .int 0, .ref q_13, .int 0, .int 0, .int 0, .int 0, .int 0, .int 0, .int (-1), .ref q_16, .ref q_19, .null, .int 0, .int 0, .null, .null, .null, .int 0, .int 0, .int 0, .int 0, .int 0, .null, .null, .null, .long 0, .long 0, .null, .null, .int 0, .int 0, .null, .null, .null, .null])) :: wL ad_23 g_24 8) := hD
  refine r_putF X hnm0 iX12_init_12 tyX12 tyX12_ok nmX12 hP hD hS rfl 16 (by decide) (List.mem_of_getElem? (i := 15) rfl) rfl rfl (ty := .array .int) (v := .ref q_22) (by decide +kernel) rfl rfl (Nat.le_of_ble_eq_true rfl) dX12_init_70 (fun H locs hP hD hS => ?_)
  have hP : va_P D vwCl ((h0, .inr (12, [.int 0, .ref q_1, .ref q_4, .ref q_7, .ref q_10, .int 0, .ref q_13, .int 0, .int 0, .int 0, .int 0, .int 0, .int 0, .int (-1), .ref q_16, .ref q_19, .ref q_22, .int 0, .int 0, .null, .null, .null, .int 0, .int 0, .int 0, .int 0, .int 0, .null, .null, .null, .long 0, .long 0, .null, .null, .int 0, .int 0, .null, .null, .null, .null])) :: wL ad_23 g_24 8) H := hP
  have hD : va_D A ((h0, .inr (12, [.int 0, .ref q_1, .ref q_4, .ref q_7, .ref q_10, .int 0, .ref q_13, .int 0, .int 0, .int 0, .int 0, .int 0, .int 0, .int (-1), .ref q_16, .ref q_19, .ref q_22, .int 0, .int 0, .null, .null, .null, .int 0, .int 0, .int 0, .int 0, .int 0, .null, .null, .null, .long 0, .long 0, .null, .null, .int 0, .int 0, .null, .null, .null, .null])) :: wL ad_23 g_24 8) := hD
  refine lv_aload_n hx hb dX12_init_73 rfl (lv_at hl 0 rfl) ?_
  refine lv_sipush (v := 160) hx hb dX12_init_74 (by decide) ?_
  refine r_newa (atype := .int) X 1 rfl rfl (fun _ h => h) (List.mem_of_getElem? (i := 4) rfl) hP hD hS hA (a0 := (160, .inl (fun _ => 0))) (fun _ => rfl) (by decide) (by decide) (Nat.le_of_ble_eq_true rfl) (Nat.le_of_ble_eq_true rfl) (Nat.le_of_ble_eq_true rfl) dX12_init_77 (fun q_25 ad_26 g_27 H ead_26 eg_27 hP hD hS => ?_)
  have hP : va_P D vwCl ((h0, .inr (12, [.int 0, .ref q_1, .ref q_4, .ref q_7, .ref q_10, .int 0, .ref q_13, .int 0, .int 0, .int 0, .int 0, .int 0, .int 0, .int (-1), .ref q_16, .ref q_19, .ref q_22, .int 0, .int 0, .null, .null, .null, .int 0, .int 0, .int 0, .int 0, .int 0, .null, .null, .null, .long 0, .long 0, .null, .null, .int 0, .int 0, .null, .null, .null, .null])) :: wL ad_26 g_27 9) H := hP
  have hD : va_D A ((h0, .inr (12, [.int 0, .ref q_1, .ref q_4, .ref q_7, .ref q_10, .int 0, .ref q_13, .int 0, .int 0, .int 0, .int 0, .int 0, .int 0, .int (-1), .ref q_16, .ref q_19, .ref q_22, .int 0, .int 0, .null, .null, .null, .int 0, .int 0, .int 0, .int 0, .int 0, .null, .null, .null, .long 0, .long 0, .null, .null, .int 0, .int 0, .null, .null, .null, .null])) :: wL ad_26 g_27 9) := hD
  refine r_putF X hnm0 iX12_init_12 tyX12 tyX12_ok nmX12 hP hD hS rfl 19 (by decide) (List.mem_of_getElem? (i := 16) rfl) rfl rfl (ty := .array .int) (v := .ref q_25) (by decide +kernel) rfl rfl (Nat.le_of_ble_eq_true rfl) dX12_init_79 (fun H locs hP hD hS => ?_)
  have hP : va_P D vwCl ((h0, .inr (12, [.int 0, .ref q_1, .ref q_4, .ref q_7, .ref q_10, .int 0, .ref q_13, .int 0, .int 0, .int 0, .int 0, .int 0, .int 0, .int (-1), .ref q_16, .ref q_19, .ref q_22, .int 0, .int 0, .ref q_25, .null, .null, .int 0, .int 0, .int 0, .int 0, .int 0, .null, .null, .null, .long 0, .long 0, .null, .null, .int 0, .int 0, .null, .null, .null, .null])) :: wL ad_26 g_27 9) H := hP
  have hD : va_D A ((h0, .inr (12, [.int 0, .ref q_1, .ref q_4, .ref q_7, .ref q_10, .int 0, .ref q_13, .int 0, .int 0, .int 0, .int 0, .int 0, .int 0, .int (-1), .ref q_16, .ref q_19, .ref q_22, .int 0, .int 0, .ref q_25, .null, .null, .int 0, .int 0, .int 0, .int 0, .int 0, .null, .null, .null, .long 0, .long 0, .null, .null, .int 0, .int 0, .null, .null, .null, .null])) :: wL ad_26 g_27 9) := hD
  refine lv_aload_n hx hb dX12_init_82 rfl (lv_at hl 0 rfl) ?_
  refine lv_bipush (v := 70) hx hb dX12_init_83 (by decide) ?_
  refine r_newa (atype := .int) X 1 rfl rfl (fun _ h => h) (List.mem_of_getElem? (i := 4) rfl) hP hD hS hA (a0 := (70, .inl (fun _ => 0))) (fun _ => rfl) (by decide) (by decide) (Nat.le_of_ble_eq_true rfl) (Nat.le_of_ble_eq_true rfl) (Nat.le_of_ble_eq_true rfl) dX12_init_85 (fun q_28 ad_29 g_30 H ead_29 eg_30 hP hD hS => ?_)
  have hP : va_P D vwCl ((h0, .inr (12, [.int 0, .ref q_1, .ref q_4, .ref q_7, .ref q_10, .int 0, .ref q_13, .int 0, .int 0, .int 0, .int 0, .int 0, .int 0, .int (-1), .ref q_16, .ref q_19, .ref q_22, .int 0, .int 0, .ref q_25, .null, .null, .int 0, .int 0, .int 0, .int 0, .int 0, .null, .null, .null, .long 0, .long 0, .null, .null, .int 0, .int 0, .null, .null, .null, .null])) :: wL ad_29 g_30 10) H := hP
  have hD : va_D A ((h0, .inr (12, [.int 0, .ref q_1, .ref q_4, .ref q_7, .ref q_10, .int 0, .ref q_13, .int 0, .int 0, .int 0, .int 0, .int 0, .int 0, .int (-1), .ref q_16, .ref q_19, .ref q_22, .int 0, .int 0, .ref q_25, .null, .null, .int 0, .int 0, .int 0, .int 0, .int 0, .null, .null, .null, .long 0, .long 0, .null, .null, .int 0, .int 0, .null, .null, .null, .null])) :: wL ad_29 g_30 10) := hD
  refine r_putF X hnm0 iX12_init_12 tyX12 tyX12_ok nmX12 hP hD hS rfl 20 (by decide) (List.mem_of_getElem? (i := 17) rfl) rfl rfl (ty := .array .int) (v := .ref q_28) (by decide +kernel) rfl rfl (Nat.le_of_ble_eq_true rfl) dX12_init_87 (fun H locs hP hD hS => ?_)
  have hP : va_P D vwCl ((h0, .inr (12, [.int 0, .ref q_1, .ref q_4, .ref q_7, .ref q_10, .int 0, .ref q_13, .int 0, .int 0, .int 0, .int 0, .int 0, .int 0, .int (-1), .ref q_16, .ref q_19, .ref q_22, .int 0, .int 0, .ref q_25, .ref q_28, .null, .int 0, .int 0, .int 0, .int 0, .int 0, .null, .null, .null, .long 0, .long 0, .null, .null, .int 0, .int 0, .null, .null, .null, .null])) :: wL ad_29 g_30 10) H := hP
  have hD : va_D A ((h0, .inr (12, [.int 0, .ref q_1, .ref q_4, .ref q_7, .ref q_10, .int 0, .ref q_13, .int 0, .int 0, .int 0, .int 0, .int 0, .int 0, .int (-1), .ref q_16, .ref q_19, .ref q_22, .int 0, .int 0, .ref q_25, .ref q_28, .null, .int 0, .int 0, .int 0, .int 0, .int 0, .null, .null, .null, .long 0, .long 0, .null, .null, .int 0, .int 0, .null, .null, .null, .null])) :: wL ad_29 g_30 10) := hD
  refine lv_aload_n hx hb dX12_init_90 rfl (lv_at hl 0 rfl) ?_
  refine lv_sipush (v := 560) hx hb dX12_init_91 (by decide) ?_
  refine r_newa (atype := .int) X 1 rfl rfl (fun _ h => h) (List.mem_of_getElem? (i := 4) rfl) hP hD hS hA (a0 := (560, .inl (fun _ => 0))) (fun _ => rfl) (by decide) (by decide) (Nat.le_of_ble_eq_true rfl) (Nat.le_of_ble_eq_true rfl) (Nat.le_of_ble_eq_true rfl) dX12_init_94 (fun q_31 ad_32 g_33 H ead_32 eg_33 hP hD hS => ?_)
  have hP : va_P D vwCl ((h0, .inr (12, [.int 0, .ref q_1, .ref q_4, .ref q_7, .ref q_10, .int 0, .ref q_13, .int 0, .int 0, .int 0, .int 0, .int 0, .int 0, .int (-1), .ref q_16, .ref q_19, .ref q_22, .int 0, .int 0, .ref q_25, .ref q_28, .null, .int 0, .int 0, .int 0, .int 0, .int 0, .null, .null, .null, .long 0, .long 0, .null, .null, .int 0, .int 0, .null, .null, .null, .null])) :: wL ad_32 g_33 11) H := hP
  have hD : va_D A ((h0, .inr (12, [.int 0, .ref q_1, .ref q_4, .ref q_7, .ref q_10, .int 0, .ref q_13, .int 0, .int 0, .int 0, .int 0, .int 0, .int 0, .int (-1), .ref q_16, .ref q_19, .ref q_22, .int 0, .int 0, .ref q_25, .ref q_28, .null, .int 0, .int 0, .int 0, .int 0, .int 0, .null, .null, .null, .long 0, .long 0, .null, .null, .int 0, .int 0, .null, .null, .null, .null])) :: wL ad_32 g_33 11) := hD
  refine r_putF X hnm0 iX12_init_12 tyX12 tyX12_ok nmX12 hP hD hS rfl 21 (by decide) (List.mem_of_getElem? (i := 18) rfl) rfl rfl (ty := .array .int) (v := .ref q_31) (by decide +kernel) rfl rfl (Nat.le_of_ble_eq_true rfl) dX12_init_96 (fun H locs hP hD hS => ?_)
  have hP : va_P D vwCl ((h0, .inr (12, [.int 0, .ref q_1, .ref q_4, .ref q_7, .ref q_10, .int 0, .ref q_13, .int 0, .int 0, .int 0, .int 0, .int 0, .int 0, .int (-1), .ref q_16, .ref q_19, .ref q_22, .int 0, .int 0, .ref q_25, .ref q_28, .ref q_31, .int 0, .int 0, .int 0, .int 0, .int 0, .null, .null, .null, .long 0, .long 0, .null, .null, .int 0, .int 0, .null, .null, .null, .null])) :: wL ad_32 g_33 11) H := hP
  have hD : va_D A ((h0, .inr (12, [.int 0, .ref q_1, .ref q_4, .ref q_7, .ref q_10, .int 0, .ref q_13, .int 0, .int 0, .int 0, .int 0, .int 0, .int 0, .int (-1), .ref q_16, .ref q_19, .ref q_22, .int 0, .int 0, .ref q_25, .ref q_28, .ref q_31, .int 0, .int 0, .int 0, .int 0, .int 0, .null, .null, .null, .long 0, .long 0, .null, .null, .int 0, .int 0, .null, .null, .null, .null])) :: wL ad_32 g_33 11) := hD
  refine lv_aload_n hx hb dX12_init_99 rfl (lv_at hl 0 rfl) ?_
  refine lv_bipush (v := 15) hx hb dX12_init_100 (by decide) ?_
  refine r_newa (atype := .long) X 2 rfl rfl (fun _ h => h) (List.mem_of_getElem? (i := 19) rfl) hP hD hS hA (a0 := (15, .inr (.inl (fun _ => 0)))) (fun _ => rfl) (by decide) (by decide) (Nat.le_of_ble_eq_true rfl) (Nat.le_of_ble_eq_true rfl) (Nat.le_of_ble_eq_true rfl) dX12_init_102 (fun q_34 ad_35 g_36 H ead_35 eg_36 hP hD hS => ?_)
  have hP : va_P D vwCl ((h0, .inr (12, [.int 0, .ref q_1, .ref q_4, .ref q_7, .ref q_10, .int 0, .ref q_13, .int 0, .int 0, .int 0, .int 0, .int 0, .int 0, .int (-1), .ref q_16, .ref q_19, .ref q_22, .int 0, .int 0, .ref q_25, .ref q_28, .ref q_31, .int 0, .int 0, .int 0, .int 0, .int 0, .null, .null, .null, .long 0, .long 0, .null, .null, .int 0, .int 0, .null, .null, .null, .null])) :: wL ad_35 g_36 12) H := hP
  have hD : va_D A ((h0, .inr (12, [.int 0, .ref q_1, .ref q_4, .ref q_7, .ref q_10, .int 0, .ref q_13, .int 0, .int 0, .int 0, .int 0, .int 0, .int 0, .int (-1), .ref q_16, .ref q_19, .ref q_22, .int 0, .int 0, .ref q_25, .ref q_28, .ref q_31, .int 0, .int 0, .int 0, .int 0, .int 0, .null, .null, .null, .long 0, .long 0, .null, .null, .int 0, .int 0, .null, .null, .null, .null])) :: wL ad_35 g_36 12) := hD
  refine r_putF X hnm0 iX12_init_12 tyX12 tyX12_ok nmX12 hP hD hS rfl 27 (by decide) (List.mem_of_getElem? (i := 20) rfl) rfl rfl (ty := .array .long) (v := .ref q_34) (by decide +kernel) rfl rfl (Nat.le_of_ble_eq_true rfl) dX12_init_104 (fun H locs hP hD hS => ?_)
  have hP : va_P D vwCl ((h0, .inr (12, [.int 0, .ref q_1, .ref q_4, .ref q_7, .ref q_10, .int 0, .ref q_13, .int 0, .int 0, .int 0, .int 0, .int 0, .int 0, .int (-1), .ref q_16, .ref q_19, .ref q_22, .int 0, .int 0, .ref q_25, .ref q_28, .ref q_31, .int 0, .int 0, .int 0, .int 0, .int 0, .ref q_34, .null, .null, .long 0, .long 0, .null, .null, .int 0, .int 0, .null, .null, .null, .null])) :: wL ad_35 g_36 12) H := hP
  have hD : va_D A ((h0, .inr (12, [.int 0, .ref q_1, .ref q_4, .ref q_7, .ref q_10, .int 0, .ref q_13, .int 0, .int 0, .int 0, .int 0, .int 0, .int 0, .int (-1), .ref q_16, .ref q_19, .ref q_22, .int 0, .int 0, .ref q_25, .ref q_28, .ref q_31, .int 0, .int 0, .int 0, .int 0, .int 0, .ref q_34, .null, .null, .long 0, .long 0, .null, .null, .int 0, .int 0, .null, .null, .null, .null])) :: wL ad_35 g_36 12) := hD
  refine lv_aload_n hx hb dX12_init_107 rfl (lv_at hl 0 rfl) ?_
  refine lv_bipush (v := 15) hx hb dX12_init_108 (by decide) ?_
  refine r_newa (atype := .long) X 2 rfl rfl (fun _ h => h) (List.mem_of_getElem? (i := 19) rfl) hP hD hS hA (a0 := (15, .inr (.inl (fun _ => 0)))) (fun _ => rfl) (by decide) (by decide) (Nat.le_of_ble_eq_true rfl) (Nat.le_of_ble_eq_true rfl) (Nat.le_of_ble_eq_true rfl) dX12_init_110 (fun q_37 ad_38 g_39 H ead_38 eg_39 hP hD hS => ?_)
  have hP : va_P D vwCl ((h0, .inr (12, [.int 0, .ref q_1, .ref q_4, .ref q_7, .ref q_10, .int 0, .ref q_13, .int 0, .int 0, .int 0, .int 0, .int 0, .int 0, .int (-1), .ref q_16, .ref q_19, .ref q_22, .int 0, .int 0, .ref q_25, .ref q_28, .ref q_31, .int 0, .int 0, .int 0, .int 0, .int 0, .ref q_34, .null, .null, .long 0, .long 0, .null, .null, .int 0, .int 0, .null, .null, .null, .null])) :: wL ad_38 g_39 13) H := hP
  have hD : va_D A ((h0, .inr (12, [.int 0, .ref q_1, .ref q_4, .ref q_7, .ref q_10, .int 0, .ref q_13, .int 0, .int 0, .int 0, .int 0, .int 0, .int 0, .int (-1), .ref q_16, .ref q_19, .ref q_22, .int 0, .int 0, .ref q_25, .ref q_28, .ref q_31, .int 0, .int 0, .int 0, .int 0, .int 0, .ref q_34, .null, .null, .long 0, .long 0, .null, .null, .int 0, .int 0, .null, .null, .null, .null])) :: wL ad_38 g_39 13) := hD
  refine r_putF X hnm0 iX12_init_12 tyX12 tyX12_ok nmX12 hP hD hS rfl 28 (by decide) (List.mem_of_getElem? (i := 21) rfl) rfl rfl (ty := .array .long) (v := .ref q_37) (by decide +kernel) rfl rfl (Nat.le_of_ble_eq_true rfl) dX12_init_112 (fun H locs hP hD hS => ?_)
  have hP : va_P D vwCl ((h0, .inr (12, [.int 0, .ref q_1, .ref q_4, .ref q_7, .ref q_10, .int 0, .ref q_13, .int 0, .int 0, .int 0, .int 0, .int 0, .int 0, .int (-1), .ref q_16, .ref q_19, .ref q_22, .int 0, .int 0, .ref q_25, .ref q_28, .ref q_31, .int 0, .int 0, .int 0, .int 0, .int 0, .ref q_34, .ref q_37, .null, .long 0, .long 0, .null, .null, .int 0, .int 0, .null, .null, .null, .null])) :: wL ad_38 g_39 13) H := hP
  have hD : va_D A ((h0, .inr (12, [.int 0, .ref q_1, .ref q_4, .ref q_7, .ref q_10, .int 0, .ref q_13, .int 0, .int 0, .int 0, .int 0, .int 0, .int 0, .int (-1), .ref q_16, .ref q_19, .ref q_22, .int 0, .int 0, .ref q_25, .ref q_28, .ref q_31, .int 0, .int 0, .int 0, .int 0, .int 0, .ref q_34, .ref q_37, .null, .long 0, .long 0, .null, .null, .int 0, .int 0, .null, .null, .null, .null])) :: wL ad_38 g_39 13) := hD
  refine lv_aload_n hx hb dX12_init_115 rfl (lv_at hl 0 rfl) ?_
  refine lv_bipush (v := 14) hx hb dX12_init_116 (by decide) ?_
  refine r_newa (atype := .long) X 2 rfl rfl (fun _ h => h) (List.mem_of_getElem? (i := 19) rfl) hP hD hS hA (a0 := (14, .inr (.inl (fun _ => 0)))) (fun _ => rfl) (by decide) (by decide) (Nat.le_of_ble_eq_true rfl) (Nat.le_of_ble_eq_true rfl) (Nat.le_of_ble_eq_true rfl) dX12_init_118 (fun q_40 ad_41 g_42 H ead_41 eg_42 hP hD hS => ?_)
  have hP : va_P D vwCl ((h0, .inr (12, [.int 0, .ref q_1, .ref q_4, .ref q_7, .ref q_10, .int 0, .ref q_13, .int 0, .int 0, .int 0, .int 0, .int 0, .int 0, .int (-1), .ref q_16, .ref q_19, .ref q_22, .int 0, .int 0, .ref q_25, .ref q_28, .ref q_31, .int 0, .int 0, .int 0, .int 0, .int 0, .ref q_34, .ref q_37, .null, .long 0, .long 0, .null, .null, .int 0, .int 0, .null, .null, .null, .null])) :: wL ad_41 g_42 14) H := hP
  have hD : va_D A ((h0, .inr (12, [.int 0, .ref q_1, .ref q_4, .ref q_7, .ref q_10, .int 0, .ref q_13, .int 0, .int 0, .int 0, .int 0, .int 0, .int 0, .int (-1), .ref q_16, .ref q_19, .ref q_22, .int 0, .int 0, .ref q_25, .ref q_28, .ref q_31, .int 0, .int 0, .int 0, .int 0, .int 0, .ref q_34, .ref q_37, .null, .long 0, .long 0, .null, .null, .int 0, .int 0, .null, .null, .null, .null])) :: wL ad_41 g_42 14) := hD
  refine r_putF X hnm0 iX12_init_12 tyX12 tyX12_ok nmX12 hP hD hS rfl 29 (by decide) (List.mem_of_getElem? (i := 22) rfl) rfl rfl (ty := .array .long) (v := .ref q_40) (by decide +kernel) rfl rfl (Nat.le_of_ble_eq_true rfl) dX12_init_120 (fun H locs hP hD hS => ?_)
  have hP : va_P D vwCl ((h0, .inr (12, [.int 0, .ref q_1, .ref q_4, .ref q_7, .ref q_10, .int 0, .ref q_13, .int 0, .int 0, .int 0, .int 0, .int 0, .int 0, .int (-1), .ref q_16, .ref q_19, .ref q_22, .int 0, .int 0, .ref q_25, .ref q_28, .ref q_31, .int 0, .int 0, .int 0, .int 0, .int 0, .ref q_34, .ref q_37, .ref q_40, .long 0, .long 0, .null, .null, .int 0, .int 0, .null, .null, .null, .null])) :: wL ad_41 g_42 14) H := hP
  have hD : va_D A ((h0, .inr (12, [.int 0, .ref q_1, .ref q_4, .ref q_7, .ref q_10, .int 0, .ref q_13, .int 0, .int 0, .int 0, .int 0, .int 0, .int 0, .int (-1), .ref q_16, .ref q_19, .ref q_22, .int 0, .int 0, .ref q_25, .ref q_28, .ref q_31, .int 0, .int 0, .int 0, .int 0, .int 0, .ref q_34, .ref q_37, .ref q_40, .long 0, .long 0, .null, .null, .int 0, .int 0, .null, .null, .null, .null])) :: wL ad_41 g_42 14) := hD
  refine lv_aload_n hx hb dX12_init_123 rfl (lv_at hl 0 rfl) ?_
  refine lv_bipush (v := 75) hx hb dX12_init_124 (by decide) ?_
  refine r_newa (atype := .int) X 1 rfl rfl (fun _ h => h) (List.mem_of_getElem? (i := 4) rfl) hP hD hS hA (a0 := (75, .inl (fun _ => 0))) (fun _ => rfl) (by decide) (by decide) (Nat.le_of_ble_eq_true rfl) (Nat.le_of_ble_eq_true rfl) (Nat.le_of_ble_eq_true rfl) dX12_init_126 (fun q_43 ad_44 g_45 H ead_44 eg_45 hP hD hS => ?_)
  have hP : va_P D vwCl ((h0, .inr (12, [.int 0, .ref q_1, .ref q_4, .ref q_7, .ref q_10, .int 0, .ref q_13, .int 0, .int 0, .int 0, .int 0, .int 0, .int 0, .int (-1), .ref q_16, .ref q_19, .ref q_22, .int 0, .int 0, .ref q_25, .ref q_28, .ref q_31, .int 0, .int 0, .int 0, .int 0, .int 0, .ref q_34, .ref q_37, .ref q_40, .long 0, .long 0, .null, .null, .int 0, .int 0, .null, .null, .null, .null])) :: wL ad_44 g_45 15) H := hP
  have hD : va_D A ((h0, .inr (12, [.int 0, .ref q_1, .ref q_4, .ref q_7, .ref q_10, .int 0, .ref q_13, .int 0, .int 0, .int 0, .int 0, .int 0, .int 0, .int (-1), .ref q_16, .ref q_19, .ref q_22, .int 0, .int 0, .ref q_25, .ref q_28, .ref q_31, .int 0, .int 0, .int 0, .int 0, .int 0, .ref q_34, .ref q_37, .ref q_40, .long 0, .long 0, .null, .null, .int 0, .int 0, .null, .null, .null, .null])) :: wL ad_44 g_45 15) := hD
  refine r_putF X hnm0 iX12_init_12 tyX12 tyX12_ok nmX12 hP hD hS rfl 32 (by decide) (List.mem_of_getElem? (i := 23) rfl) rfl rfl (ty := .array .int) (v := .ref q_43) (by decide +kernel) rfl rfl (Nat.le_of_ble_eq_true rfl) dX12_init_128 (fun H locs hP hD hS => ?_)
  have hP : va_P D vwCl ((h0, .inr (12, [.int 0, .ref q_1, .ref q_4, .ref q_7, .ref q_10, .int 0, .ref q_13, .int 0, .int 0, .int 0, .int 0, .int 0, .int 0, .int (-1), .ref q_16, .ref q_19, .ref q_22, .int 0, .int 0, .ref q_25, .ref q_28, .ref q_31, .int 0, .int 0, .int 0, .int 0, .int 0, .ref q_34, .ref q_37, .ref q_40, .long 0, .long 0, .ref q_43, .null, .int 0, .int 0, .null, .null, .null, .null])) :: wL ad_44 g_45 15) H := hP
  have hD : va_D A ((h0, .inr (12, [.int 0, .ref q_1, .ref q_4, .ref q_7, .ref q_10, .int 0, .ref q_13, .int 0, .int 0, .int 0, .int 0, .int 0, .int 0, .int (-1), .ref q_16, .ref q_19, .ref q_22, .int 0, .int 0, .ref q_25, .ref q_28, .ref q_31, .int 0, .int 0, .int 0, .int 0, .int 0, .ref q_34, .ref q_37, .ref q_40, .long 0, .long 0, .ref q_43, .null, .int 0, .int 0, .null, .null, .null, .null])) :: wL ad_44 g_45 15) := hD
  refine lv_aload_n hx hb dX12_init_131 rfl (lv_at hl 0 rfl) ?_
  refine lv_bipush (v := 75) hx hb dX12_init_132 (by decide) ?_
  refine r_newa (atype := .int) X 1 rfl rfl (fun _ h => h) (List.mem_of_getElem? (i := 4) rfl) hP hD hS hA (a0 := (75, .inl (fun _ => 0))) (fun _ => rfl) (by decide) (by decide) (Nat.le_of_ble_eq_true rfl) (Nat.le_of_ble_eq_true rfl) (Nat.le_of_ble_eq_true rfl) dX12_init_134 (fun q_46 ad_47 g_48 H ead_47 eg_48 hP hD hS => ?_)
  have hP : va_P D vwCl ((h0, .inr (12, [.int 0, .ref q_1, .ref q_4, .ref q_7, .ref q_10, .int 0, .ref q_13, .int 0, .int 0, .int 0, .int 0, .int 0, .int 0, .int (-1), .ref q_16, .ref q_19, .ref q_22, .int 0, .int 0, .ref q_25, .ref q_28, .ref q_31, .int 0, .int 0, .int 0, .int 0, .int 0, .ref q_34, .ref q_37, .ref q_40, .long 0, .long 0, .ref q_43, .null, .int 0, .int 0, .null, .null, .null, .null])) :: wL ad_47 g_48 16) H := hP
  have hD : va_D A ((h0, .inr (12, [.int 0, .ref q_1, .ref q_4, .ref q_7, .ref q_10, .int 0, .ref q_13, .int 0, .int 0, .int 0, .int 0, .int 0, .int 0, .int (-1), .ref q_16, .ref q_19, .ref q_22, .int 0, .int 0, .ref q_25, .ref q_28, .ref q_31, .int 0, .int 0, .int 0, .int 0, .int 0, .ref q_34, .ref q_37, .ref q_40, .long 0, .long 0, .ref q_43, .null, .int 0, .int 0, .null, .null, .null, .null])) :: wL ad_47 g_48 16) := hD
  refine r_putF X hnm0 iX12_init_12 tyX12 tyX12_ok nmX12 hP hD hS rfl 33 (by decide) (List.mem_of_getElem? (i := 24) rfl) rfl rfl (ty := .array .int) (v := .ref q_46) (by decide +kernel) rfl rfl (Nat.le_of_ble_eq_true rfl) dX12_init_136 (fun H locs hP hD hS => ?_)
  have hP : va_P D vwCl ((h0, .inr (12, [.int 0, .ref q_1, .ref q_4, .ref q_7, .ref q_10, .int 0, .ref q_13, .int 0, .int 0, .int 0, .int 0, .int 0, .int 0, .int (-1), .ref q_16, .ref q_19, .ref q_22, .int 0, .int 0, .ref q_25, .ref q_28, .ref q_31, .int 0, .int 0, .int 0, .int 0, .int 0, .ref q_34, .ref q_37, .ref q_40, .long 0, .long 0, .ref q_43, .ref q_46, .int 0, .int 0, .null, .null, .null, .null])) :: wL ad_47 g_48 16) H := hP
  have hD : va_D A ((h0, .inr (12, [.int 0, .ref q_1, .ref q_4, .ref q_7, .ref q_10, .int 0, .ref q_13, .int 0, .int 0, .int 0, .int 0, .int 0, .int 0, .int (-1), .ref q_16, .ref q_19, .ref q_22, .int 0, .int 0, .ref q_25, .ref q_28, .ref q_31, .int 0, .int 0, .int 0, .int 0, .int 0, .ref q_34, .ref q_37, .ref q_40, .long 0, .long 0, .ref q_43, .ref q_46, .int 0, .int 0, .null, .null, .null, .null])) :: wL ad_47 g_48 16) := hD
  refine lv_aload_n hx hb dX12_init_139 rfl (lv_at hl 0 rfl) ?_
  refine lv_iconst (v := 4) hx hb dX12_init_140 (by decide) ?_
  refine r_newa (atype := .int) X 1 rfl rfl (fun _ h => h) (List.mem_of_getElem? (i := 4) rfl) hP hD hS hA (a0 := (4, .inl (fun _ => 0))) (fun _ => rfl) (by decide) (by decide) (Nat.le_of_ble_eq_true rfl) (Nat.le_of_ble_eq_true rfl) (Nat.le_of_ble_eq_true rfl) dX12_init_141 (fun q_49 ad_50 g_51 H ead_50 eg_51 hP hD hS => ?_)
  have hP : va_P D vwCl ((h0, .inr (12, [.int 0, .ref q_1, .ref q_4, .ref q_7, .ref q_10, .int 0, .ref q_13, .int 0, .int 0, .int 0, .int 0, .int 0, .int 0, .int (-1), .ref q_16, .ref q_19, .ref q_22, .int 0, .int 0, .ref q_25, .ref q_28, .ref q_31, .int 0, .int 0, .int 0, .int 0, .int 0, .ref q_34, .ref q_37, .ref q_40, .long 0, .long 0, .ref q_43, .ref q_46, .int 0, .int 0, .null, .null, .null, .null])) :: wL ad_50 g_51 17) H := hP
  have hD : va_D A ((h0, .inr (12, [.int 0, .ref q_1, .ref q_4, .ref q_7, .ref q_10, .int 0, .ref q_13, .int 0, .int 0, .int 0, .int 0, .int 0, .int 0, .int (-1), .ref q_16, .ref q_19, .ref q_22, .int 0, .int 0, .ref q_25, .ref q_28, .ref q_31, .int 0, .int 0, .int 0, .int 0, .int 0, .ref q_34, .ref q_37, .ref q_40, .long 0, .long 0, .ref q_43, .ref q_46, .int 0, .int 0, .null, .null, .null, .null])) :: wL ad_50 g_51 17) := hD
  have hq_52 : ad_50 16 = q_49 := by rw [ead_50]; rfl
  have hg_53 : g_51 16 = .inl (cs 1, 4, .inl (fun _ => 0)) := by rw [eg_51]; rfl
  refine lv_dup hx hb dX12_init_143 rfl ?_
  refine lv_iconst (v := 0) hx hb dX12_init_144 (by decide) ?_
  refine lv_iconst (v := (-1)) hx hb dX12_init_145 (by decide) ?_
  refine r_iast X hP hD hS (by decide) hq_52 hg_53 (k := 0) (x := (-1)) (by unfold vp_in; decide) dX12_init_146 (fun g_54 H locs eg_54 hP hD hS => ?_)
  have hg_55 : g_54 16 = .inl (cs 1, 4, .inl (upd (fun _ => 0) (Int32.toNatClampNeg 0) (-1))) := by rw [eg_54]; exact va_up_self _ _ _
  have hP : va_P D vwCl ((h0, .inr (12, [.int 0, .ref q_1, .ref q_4, .ref q_7, .ref q_10, .int 0, .ref q_13, .int 0, .int 0, .int 0, .int 0, .int 0, .int 0, .int (-1), .ref q_16, .ref q_19, .ref q_22, .int 0, .int 0, .ref q_25, .ref q_28, .ref q_31, .int 0, .int 0, .int 0, .int 0, .int 0, .ref q_34, .ref q_37, .ref q_40, .long 0, .long 0, .ref q_43, .ref q_46, .int 0, .int 0, .null, .null, .null, .null])) :: wL ad_50 g_54 17) H := hP
  have hD : va_D A ((h0, .inr (12, [.int 0, .ref q_1, .ref q_4, .ref q_7, .ref q_10, .int 0, .ref q_13, .int 0, .int 0, .int 0, .int 0, .int 0, .int 0, .int (-1), .ref q_16, .ref q_19, .ref q_22, .int 0, .int 0, .ref q_25, .ref q_28, .ref q_31, .int 0, .int 0, .int 0, .int 0, .int 0, .ref q_34, .ref q_37, .ref q_40, .long 0, .long 0, .ref q_43, .ref q_46, .int 0, .int 0, .null, .null, .null, .null])) :: wL ad_50 g_54 17) := hD
  refine lv_dup hx hb dX12_init_147 rfl ?_
  refine lv_iconst (v := 1) hx hb dX12_init_148 (by decide) ?_
  refine lv_iconst (v := (-1)) hx hb dX12_init_149 (by decide) ?_
  refine r_iast X hP hD hS (by decide) hq_52 hg_55 (k := 1) (x := (-1)) (by unfold vp_in; decide) dX12_init_150 (fun g_56 H locs eg_56 hP hD hS => ?_)
  have hg_57 : g_56 16 = .inl (cs 1, 4, .inl (upd (upd (fun _ => 0) (Int32.toNatClampNeg 0) (-1)) (Int32.toNatClampNeg 1) (-1))) := by rw [eg_56]; exact va_up_self _ _ _
  have hP : va_P D vwCl ((h0, .inr (12, [.int 0, .ref q_1, .ref q_4, .ref q_7, .ref q_10, .int 0, .ref q_13, .int 0, .int 0, .int 0, .int 0, .int 0, .int 0, .int (-1), .ref q_16, .ref q_19, .ref q_22, .int 0, .int 0, .ref q_25, .ref q_28, .ref q_31, .int 0, .int 0, .int 0, .int 0, .int 0, .ref q_34, .ref q_37, .ref q_40, .long 0, .long 0, .ref q_43, .ref q_46, .int 0, .int 0, .null, .null, .null, .null])) :: wL ad_50 g_56 17) H := hP
  have hD : va_D A ((h0, .inr (12, [.int 0, .ref q_1, .ref q_4, .ref q_7, .ref q_10, .int 0, .ref q_13, .int 0, .int 0, .int 0, .int 0, .int 0, .int 0, .int (-1), .ref q_16, .ref q_19, .ref q_22, .int 0, .int 0, .ref q_25, .ref q_28, .ref q_31, .int 0, .int 0, .int 0, .int 0, .int 0, .ref q_34, .ref q_37, .ref q_40, .long 0, .long 0, .ref q_43, .ref q_46, .int 0, .int 0, .null, .null, .null, .null])) :: wL ad_50 g_56 17) := hD
  refine lv_dup hx hb dX12_init_151 rfl ?_
  refine lv_iconst (v := 2) hx hb dX12_init_152 (by decide) ?_
  refine lv_iconst (v := (-1)) hx hb dX12_init_153 (by decide) ?_
  refine r_iast X hP hD hS (by decide) hq_52 hg_57 (k := 2) (x := (-1)) (by unfold vp_in; decide) dX12_init_154 (fun g_58 H locs eg_58 hP hD hS => ?_)
  have hg_59 : g_58 16 = .inl (cs 1, 4, .inl (upd (upd (upd (fun _ => 0) (Int32.toNatClampNeg 0) (-1)) (Int32.toNatClampNeg 1) (-1)) (Int32.toNatClampNeg 2) (-1))) := by rw [eg_58]; exact va_up_self _ _ _
  have hP : va_P D vwCl ((h0, .inr (12, [.int 0, .ref q_1, .ref q_4, .ref q_7, .ref q_10, .int 0, .ref q_13, .int 0, .int 0, .int 0, .int 0, .int 0, .int 0, .int (-1), .ref q_16, .ref q_19, .ref q_22, .int 0, .int 0, .ref q_25, .ref q_28, .ref q_31, .int 0, .int 0, .int 0, .int 0, .int 0, .ref q_34, .ref q_37, .ref q_40, .long 0, .long 0, .ref q_43, .ref q_46, .int 0, .int 0, .null, .null, .null, .null])) :: wL ad_50 g_58 17) H := hP
  have hD : va_D A ((h0, .inr (12, [.int 0, .ref q_1, .ref q_4, .ref q_7, .ref q_10, .int 0, .ref q_13, .int 0, .int 0, .int 0, .int 0, .int 0, .int 0, .int (-1), .ref q_16, .ref q_19, .ref q_22, .int 0, .int 0, .ref q_25, .ref q_28, .ref q_31, .int 0, .int 0, .int 0, .int 0, .int 0, .ref q_34, .ref q_37, .ref q_40, .long 0, .long 0, .ref q_43, .ref q_46, .int 0, .int 0, .null, .null, .null, .null])) :: wL ad_50 g_58 17) := hD
  refine lv_dup hx hb dX12_init_155 rfl ?_
  refine lv_iconst (v := 3) hx hb dX12_init_156 (by decide) ?_
  refine lv_iconst (v := (-1)) hx hb dX12_init_157 (by decide) ?_
  refine r_iast X hP hD hS (by decide) hq_52 hg_59 (k := 3) (x := (-1)) (by unfold vp_in; decide) dX12_init_158 (fun g_60 H locs eg_60 hP hD hS => ?_)
  have hg_61 : g_60 16 = .inl (cs 1, 4, .inl (upd (upd (upd (upd (fun _ => 0) (Int32.toNatClampNeg 0) (-1)) (Int32.toNatClampNeg 1) (-1)) (Int32.toNatClampNeg 2) (-1)) (Int32.toNatClampNeg 3) (-1))) := by rw [eg_60]; exact va_up_self _ _ _
  have hP : va_P D vwCl ((h0, .inr (12, [.int 0, .ref q_1, .ref q_4, .ref q_7, .ref q_10, .int 0, .ref q_13, .int 0, .int 0, .int 0, .int 0, .int 0, .int 0, .int (-1), .ref q_16, .ref q_19, .ref q_22, .int 0, .int 0, .ref q_25, .ref q_28, .ref q_31, .int 0, .int 0, .int 0, .int 0, .int 0, .ref q_34, .ref q_37, .ref q_40, .long 0, .long 0, .ref q_43, .ref q_46, .int 0, .int 0, .null, .null, .null, .null])) :: wL ad_50 g_60 17) H := hP
  have hD : va_D A ((h0, .inr (12, [.int 0, .ref q_1, .ref q_4, .ref q_7, .ref q_10, .int 0, .ref q_13, .int 0, .int 0, .int 0, .int 0, .int 0, .int 0, .int (-1), .ref q_16, .ref q_19, .ref q_22, .int 0, .int 0, .ref q_25, .ref q_28, .ref q_31, .int 0, .int 0, .int 0, .int 0, .int 0, .ref q_34, .ref q_37, .ref q_40, .long 0, .long 0, .ref q_43, .ref q_46, .int 0, .int 0, .null, .null, .null, .null])) :: wL ad_50 g_60 17) := hD
  refine r_putF X hnm0 iX12_init_12 tyX12 tyX12_ok nmX12 hP hD hS rfl 36 (by decide) (List.mem_of_getElem? (i := 25) rfl) rfl rfl (ty := .array .int) (v := .ref q_49) (by decide +kernel) rfl rfl (Nat.le_of_ble_eq_true rfl) dX12_init_159 (fun H locs hP hD hS => ?_)
  have hP : va_P D vwCl ((h0, .inr (12, [.int 0, .ref q_1, .ref q_4, .ref q_7, .ref q_10, .int 0, .ref q_13, .int 0, .int 0, .int 0, .int 0, .int 0, .int 0, .int (-1), .ref q_16, .ref q_19, .ref q_22, .int 0, .int 0, .ref q_25, .ref q_28, .ref q_31, .int 0, .int 0, .int 0, .int 0, .int 0, .ref q_34, .ref q_37, .ref q_40, .long 0, .long 0, .ref q_43, .ref q_46, .int 0, .int 0, .ref q_49, .null, .null, .null])) :: wL ad_50 g_60 17) H := hP
  have hD : va_D A ((h0, .inr (12, [.int 0, .ref q_1, .ref q_4, .ref q_7, .ref q_10, .int 0, .ref q_13, .int 0, .int 0, .int 0, .int 0, .int 0, .int 0, .int (-1), .ref q_16, .ref q_19, .ref q_22, .int 0, .int 0, .ref q_25, .ref q_28, .ref q_31, .int 0, .int 0, .int 0, .int 0, .int 0, .ref q_34, .ref q_37, .ref q_40, .long 0, .long 0, .ref q_43, .ref q_46, .int 0, .int 0, .ref q_49, .null, .null, .null])) :: wL ad_50 g_60 17) := hD
  refine lv_aload_n hx hb dX12_init_162 rfl (lv_at hl 0 rfl) ?_
  refine lv_iconst (v := 4) hx hb dX12_init_163 (by decide) ?_
  refine r_newa (atype := .int) X 1 rfl rfl (fun _ h => h) (List.mem_of_getElem? (i := 4) rfl) hP hD hS hA (a0 := (4, .inl (fun _ => 0))) (fun _ => rfl) (by decide) (by decide) (Nat.le_of_ble_eq_true rfl) (Nat.le_of_ble_eq_true rfl) (Nat.le_of_ble_eq_true rfl) dX12_init_164 (fun q_62 ad_63 g_64 H ead_63 eg_64 hP hD hS => ?_)
  have hP : va_P D vwCl ((h0, .inr (12, [.int 0, .ref q_1, .ref q_4, .ref q_7, .ref q_10, .int 0, .ref q_13, .int 0, .int 0, .int 0, .int 0, .int 0, .int 0, .int (-1), .ref q_16, .ref q_19, .ref q_22, .int 0, .int 0, .ref q_25, .ref q_28, .ref q_31, .int 0, .int 0, .int 0, .int 0, .int 0, .ref q_34, .ref q_37, .ref q_40, .long 0, .long 0, .ref q_43, .ref q_46, .int 0, .int 0, .ref q_49, .null, .null, .null])) :: wL ad_63 g_64 18) H := hP
  have hD : va_D A ((h0, .inr (12, [.int 0, .ref q_1, .ref q_4, .ref q_7, .ref q_10, .int 0, .ref q_13, .int 0, .int 0, .int 0, .int 0, .int 0, .int 0, .int (-1), .ref q_16, .ref q_19, .ref q_22, .int 0, .int 0, .ref q_25, .ref q_28, .ref q_31, .int 0, .int 0, .int 0, .int 0, .int 0, .ref q_34, .ref q_37, .ref q_40, .long 0, .long 0, .ref q_43, .ref q_46, .int 0, .int 0, .ref q_49, .null, .null, .null])) :: wL ad_63 g_64 18) := hD
  have hq_65 : ad_63 16 = q_49 := by rw [ead_63]; exact hq_52
  have hg_66 : g_64 16 = .inl (cs 1, 4, .inl (upd (upd (upd (upd (fun _ => 0) (Int32.toNatClampNeg 0) (-1)) (Int32.toNatClampNeg 1) (-1)) (Int32.toNatClampNeg 2) (-1)) (Int32.toNatClampNeg 3) (-1))) := by rw [eg_64]; exact hg_61
  refine r_putF X hnm0 iX12_init_12 tyX12 tyX12_ok nmX12 hP hD hS rfl 37 (by decide) (List.mem_of_getElem? (i := 26) rfl) rfl rfl (ty := .array .int) (v := .ref q_62) (by decide +kernel) rfl rfl (Nat.le_of_ble_eq_true rfl) dX12_init_166 (fun H locs hP hD hS => ?_)
  have hP : va_P D vwCl ((h0, .inr (12, [.int 0, .ref q_1, .ref q_4, .ref q_7, .ref q_10, .int 0, .ref q_13, .int 0, .int 0, .int 0, .int 0, .int 0, .int 0, .int (-1), .ref q_16, .ref q_19, .ref q_22, .int 0, .int 0, .ref q_25, .ref q_28, .ref q_31, .int 0, .int 0, .int 0, .int 0, .int 0, .ref q_34, .ref q_37, .ref q_40, .long 0, .long 0, .ref q_43, .ref q_46, .int 0, .int 0, .ref q_49, .ref q_62, .null, .null])) :: wL ad_63 g_64 18) H := hP
  have hD : va_D A ((h0, .inr (12, [.int 0, .ref q_1, .ref q_4, .ref q_7, .ref q_10, .int 0, .ref q_13, .int 0, .int 0, .int 0, .int 0, .int 0, .int 0, .int (-1), .ref q_16, .ref q_19, .ref q_22, .int 0, .int 0, .ref q_25, .ref q_28, .ref q_31, .int 0, .int 0, .int 0, .int 0, .int 0, .ref q_34, .ref q_37, .ref q_40, .long 0, .long 0, .ref q_43, .ref q_46, .int 0, .int 0, .ref q_49, .ref q_62, .null, .null])) :: wL ad_63 g_64 18) := hD
  refine lv_aload_n hx hb dX12_init_169 rfl (lv_at hl 0 rfl) ?_
  refine lv_sipush (v := 240) hx hb dX12_init_170 (by decide) ?_
  refine r_newa (atype := .long) X 2 rfl rfl (fun _ h => h) (List.mem_of_getElem? (i := 19) rfl) hP hD hS hA (a0 := (240, .inr (.inl (fun _ => 0)))) (fun _ => rfl) (by decide) (by decide) (Nat.le_of_ble_eq_true rfl) (Nat.le_of_ble_eq_true rfl) (Nat.le_of_ble_eq_true rfl) dX12_init_173 (fun q_67 ad_68 g_69 H ead_68 eg_69 hP hD hS => ?_)
  have hP : va_P D vwCl ((h0, .inr (12, [.int 0, .ref q_1, .ref q_4, .ref q_7, .ref q_10, .int 0, .ref q_13, .int 0, .int 0, .int 0, .int 0, .int 0, .int 0, .int (-1), .ref q_16, .ref q_19, .ref q_22, .int 0, .int 0, .ref q_25, .ref q_28, .ref q_31, .int 0, .int 0, .int 0, .int 0, .int 0, .ref q_34, .ref q_37, .ref q_40, .long 0, .long 0, .ref q_43, .ref q_46, .int 0, .int 0, .ref q_49, .ref q_62, .null, .null])) :: wL ad_68 g_69 19) H := hP
  have hD : va_D A ((h0, .inr (12, [.int 0, .ref q_1, .ref q_4, .ref q_7, .ref q_10, .int 0, .ref q_13, .int 0, .int 0, .int 0, .int 0, .int 0, .int 0, .int (-1), .ref q_16, .ref q_19, .ref q_22, .int 0, .int 0, .ref q_25, .ref q_28, .ref q_31, .int 0, .int 0, .int 0, .int 0, .int 0, .ref q_34, .ref q_37, .ref q_40, .long 0, .long 0, .ref q_43, .ref q_46, .int 0, .int 0, .ref q_49, .ref q_62, .null, .null])) :: wL ad_68 g_69 19) := hD
  have hq_70 : ad_68 16 = q_49 := by rw [ead_68]; exact hq_65
  have hg_71 : g_69 16 = .inl (cs 1, 4, .inl (upd (upd (upd (upd (fun _ => 0) (Int32.toNatClampNeg 0) (-1)) (Int32.toNatClampNeg 1) (-1)) (Int32.toNatClampNeg 2) (-1)) (Int32.toNatClampNeg 3) (-1))) := by rw [eg_69]; exact hg_66
  refine r_putF X hnm0 iX12_init_12 tyX12 tyX12_ok nmX12 hP hD hS rfl 38 (by decide) (List.mem_of_getElem? (i := 27) rfl) rfl rfl (ty := .array .long) (v := .ref q_67) (by decide +kernel) rfl rfl (Nat.le_of_ble_eq_true rfl) dX12_init_175 (fun H locs hP hD hS => ?_)
  have hP : va_P D vwCl ((h0, .inr (12, [.int 0, .ref q_1, .ref q_4, .ref q_7, .ref q_10, .int 0, .ref q_13, .int 0, .int 0, .int 0, .int 0, .int 0, .int 0, .int (-1), .ref q_16, .ref q_19, .ref q_22, .int 0, .int 0, .ref q_25, .ref q_28, .ref q_31, .int 0, .int 0, .int 0, .int 0, .int 0, .ref q_34, .ref q_37, .ref q_40, .long 0, .long 0, .ref q_43, .ref q_46, .int 0, .int 0, .ref q_49, .ref q_62, .ref q_67, .null])) :: wL ad_68 g_69 19) H := hP
  have hD : va_D A ((h0, .inr (12, [.int 0, .ref q_1, .ref q_4, .ref q_7, .ref q_10, .int 0, .ref q_13, .int 0, .int 0, .int 0, .int 0, .int 0, .int 0, .int (-1), .ref q_16, .ref q_19, .ref q_22, .int 0, .int 0, .ref q_25, .ref q_28, .ref q_31, .int 0, .int 0, .int 0, .int 0, .int 0, .ref q_34, .ref q_37, .ref q_40, .long 0, .long 0, .ref q_43, .ref q_46, .int 0, .int 0, .ref q_49, .ref q_62, .ref q_67, .null])) :: wL ad_68 g_69 19) := hD
  refine lv_aload_n hx hb dX12_init_178 rfl (lv_at hl 0 rfl) ?_
  refine lv_bipush (v := 60) hx hb dX12_init_179 (by decide) ?_
  refine r_newa (atype := .long) X 2 rfl rfl (fun _ h => h) (List.mem_of_getElem? (i := 19) rfl) hP hD hS hA (a0 := (60, .inr (.inl (fun _ => 0)))) (fun _ => rfl) (by decide) (by decide) (Nat.le_of_ble_eq_true rfl) (Nat.le_of_ble_eq_true rfl) (Nat.le_of_ble_eq_true rfl) dX12_init_181 (fun q_72 ad_73 g_74 H ead_73 eg_74 hP hD hS => ?_)
  have hP : va_P D vwCl ((h0, .inr (12, [.int 0, .ref q_1, .ref q_4, .ref q_7, .ref q_10, .int 0, .ref q_13, .int 0, .int 0, .int 0, .int 0, .int 0, .int 0, .int (-1), .ref q_16, .ref q_19, .ref q_22, .int 0, .int 0, .ref q_25, .ref q_28, .ref q_31, .int 0, .int 0, .int 0, .int 0, .int 0, .ref q_34, .ref q_37, .ref q_40, .long 0, .long 0, .ref q_43, .ref q_46, .int 0, .int 0, .ref q_49, .ref q_62, .ref q_67, .null])) :: wL ad_73 g_74 20) H := hP
  have hD : va_D A ((h0, .inr (12, [.int 0, .ref q_1, .ref q_4, .ref q_7, .ref q_10, .int 0, .ref q_13, .int 0, .int 0, .int 0, .int 0, .int 0, .int 0, .int (-1), .ref q_16, .ref q_19, .ref q_22, .int 0, .int 0, .ref q_25, .ref q_28, .ref q_31, .int 0, .int 0, .int 0, .int 0, .int 0, .ref q_34, .ref q_37, .ref q_40, .long 0, .long 0, .ref q_43, .ref q_46, .int 0, .int 0, .ref q_49, .ref q_62, .ref q_67, .null])) :: wL ad_73 g_74 20) := hD
  have hq_75 : ad_73 16 = q_49 := by rw [ead_73]; exact hq_70
  have hg_76 : g_74 16 = .inl (cs 1, 4, .inl (upd (upd (upd (upd (fun _ => 0) (Int32.toNatClampNeg 0) (-1)) (Int32.toNatClampNeg 1) (-1)) (Int32.toNatClampNeg 2) (-1)) (Int32.toNatClampNeg 3) (-1))) := by rw [eg_74]; exact hg_71
  refine r_putF X hnm0 iX12_init_12 tyX12 tyX12_ok nmX12 hP hD hS rfl 39 (by decide) (List.mem_of_getElem? (i := 28) rfl) rfl rfl (ty := .array .long) (v := .ref q_72) (by decide +kernel) rfl rfl (Nat.le_of_ble_eq_true rfl) dX12_init_183 (fun H locs hP hD hS => ?_)
  have hP : va_P D vwCl ((h0, .inr (12, [.int 0, .ref q_1, .ref q_4, .ref q_7, .ref q_10, .int 0, .ref q_13, .int 0, .int 0, .int 0, .int 0, .int 0, .int 0, .int (-1), .ref q_16, .ref q_19, .ref q_22, .int 0, .int 0, .ref q_25, .ref q_28, .ref q_31, .int 0, .int 0, .int 0, .int 0, .int 0, .ref q_34, .ref q_37, .ref q_40, .long 0, .long 0, .ref q_43, .ref q_46, .int 0, .int 0, .ref q_49, .ref q_62, .ref q_67, .ref q_72])) :: wL ad_73 g_74 20) H := hP
  have hD : va_D A ((h0, .inr (12, [.int 0, .ref q_1, .ref q_4, .ref q_7, .ref q_10, .int 0, .ref q_13, .int 0, .int 0, .int 0, .int 0, .int 0, .int 0, .int (-1), .ref q_16, .ref q_19, .ref q_22, .int 0, .int 0, .ref q_25, .ref q_28, .ref q_31, .int 0, .int 0, .int 0, .int 0, .int 0, .ref q_34, .ref q_37, .ref q_40, .long 0, .long 0, .ref q_43, .ref q_46, .int 0, .int 0, .ref q_49, .ref q_62, .ref q_67, .ref q_72])) :: wL ad_73 g_74 20) := hD
  have eW : (h0, .inr (12, [.int 0, .ref q_1, .ref q_4, .ref q_7, .ref q_10, .int 0, .ref q_13, .int 0, .int 0, .int 0, .int 0, .int 0, .int 0, .int (-1), .ref q_16, .ref q_19, .ref q_22, .int 0, .int 0, .ref q_25, .ref q_28, .ref q_31, .int 0, .int 0, .int 0, .int 0, .int 0, .ref q_34, .ref q_37, .ref q_40, .long 0, .long 0, .ref q_43, .ref q_46, .int 0, .int 0, .ref q_49, .ref q_62, .ref q_67, .ref q_72])) :: wL ad_73 g_74 20 = wL (ct (fun _ => h0) 1 ad_73) (ct (fun _ => .inr (12, [.int 0, .ref q_1, .ref q_4, .ref q_7, .ref q_10, .int 0, .ref q_13, .int 0, .int 0, .int 0, .int 0, .int 0, .int 0, .int (-1), .ref q_16, .ref q_19, .ref q_22, .int 0, .int 0, .ref q_25, .ref q_28, .ref q_31, .int 0, .int 0, .int 0, .int 0, .int 0, .ref q_34, .ref q_37, .ref q_40, .long 0, .long 0, .ref q_43, .ref q_46, .int 0, .int 0, .ref q_49, .ref q_62, .ref q_67, .ref q_72])) 1 g_74) 21 := by rw [wL_cons, show 1 + 20 = 21 from rfl]
  rw [eW] at hP hD
  refine W.widen (k := 20) (n := 2968) (Nat.le_of_ble_eq_true rfl) (Nat.le_of_ble_eq_true rfl) ?_
  refine hfin H locs 186 ls _ _ hP hD hS rfl ?_ dX12_init_186
  subst eg_74
  subst ead_73
  subst eg_69
  subst ead_68
  subst eg_64
  subst ead_63
  subst eg_60
  subst eg_58
  subst eg_56
  subst eg_54
  subst eg_51
  subst ead_50
  subst eg_48
  subst ead_47
  subst eg_45
  subst ead_44
  subst eg_42
  subst ead_41
  subst eg_39
  subst ead_38
  subst eg_36
  subst ead_35
  subst eg_33
  subst ead_32
  subst eg_30
  subst ead_29
  subst eg_27
  subst ead_26
  subst eg_24
  subst ead_23
  subst eg_21
  subst ead_20
  subst eg_18
  subst ead_17
  subst eg_15
  subst ead_14
  subst eg_12
  subst ead_11
  subst eg_9
  subst ead_8
  subst eg_6
  subst ead_5
  subst eg_3
  subst ead_2
  exact ⟨rfl, rfl, rfl, rfl, rfl, rfl, rfl, rfl, rfl, rfl, rfl, rfl, rfl, rfl, rfl, rfl, rfl, rfl, rfl, rfl, rfl⟩

theorem dX11_init_0 : decode cX11_init 0 = .ok (.aload_n 0, 1) := by decide +kernel
theorem dX11_init_1 : decode cX11_init 1 = .ok (.invokespecial 3, 3) := by decide +kernel
theorem dX11_init_4 : decode cX11_init 4 = .ok (.aload_n 0, 1) := by decide +kernel
theorem dX11_init_5 : decode cX11_init 5 = .ok (.new 9, 3) := by decide +kernel
theorem dX11_init_8 : decode cX11_init 8 = .ok (.dup, 1) := by decide +kernel
theorem dX11_init_9 : decode cX11_init 9 = .ok (.invokespecial 11, 3) := by decide +kernel
theorem dX11_init_12 : decode cX11_init 12 = .ok (.putfield 12, 3) := by decide +kernel
theorem dX11_init_15 : decode cX11_init 15 = .ok (.aload_n 0, 1) := by decide +kernel
theorem dX11_init_16 : decode cX11_init 16 = .ok (.new 16, 3) := by decide +kernel
theorem dX11_init_19 : decode cX11_init 19 = .ok (.dup, 1) := by decide +kernel
theorem dX11_init_20 : decode cX11_init 20 = .ok (.invokespecial 18, 3) := by decide +kernel
theorem dX11_init_23 : decode cX11_init 23 = .ok (.putfield 19, 3) := by decide +kernel
theorem dX11_init_26 : decode cX11_init 26 = .ok (.aload_n 0, 1) := by decide +kernel
theorem dX11_init_27 : decode cX11_init 27 = .ok (.new 16, 3) := by decide +kernel
theorem dX11_init_30 : decode cX11_init 30 = .ok (.dup, 1) := by decide +kernel
theorem dX11_init_31 : decode cX11_init 31 = .ok (.invokespecial 18, 3) := by decide +kernel
theorem dX11_init_34 : decode cX11_init 34 = .ok (.putfield 23, 3) := by decide +kernel
theorem dX11_init_37 : decode cX11_init 37 = .ok (.aload_n 0, 1) := by decide +kernel
theorem dX11_init_38 : decode cX11_init 38 = .ok (.iconst 3, 1) := by decide +kernel
theorem dX11_init_39 : decode cX11_init 39 = .ok (.anewarray 16, 3) := by decide +kernel
theorem dX11_init_42 : decode cX11_init 42 = .ok (.putfield 26, 3) := by decide +kernel
theorem dX11_init_45 : decode cX11_init 45 = .ok (.iconst 0, 1) := by decide +kernel
theorem dX11_init_46 : decode cX11_init 46 = .ok (.istore_n 1, 1) := by decide +kernel
theorem dX11_init_47 : decode cX11_init 47 = .ok (.iload_n 1, 1) := by decide +kernel
theorem dX11_init_48 : decode cX11_init 48 = .ok (.iconst 3, 1) := by decide +kernel
theorem dX11_init_49 : decode cX11_init 49 = .ok (.if_icmp .ge 22, 3) := by decide +kernel
theorem dX11_init_52 : decode cX11_init 52 = .ok (.aload_n 0, 1) := by decide +kernel
theorem dX11_init_53 : decode cX11_init 53 = .ok (.getfield 26, 3) := by decide +kernel
theorem dX11_init_56 : decode cX11_init 56 = .ok (.iload_n 1, 1) := by decide +kernel
theorem dX11_init_57 : decode cX11_init 57 = .ok (.new 16, 3) := by decide +kernel
theorem dX11_init_60 : decode cX11_init 60 = .ok (.dup, 1) := by decide +kernel
theorem dX11_init_61 : decode cX11_init 61 = .ok (.invokespecial 18, 3) := by decide +kernel
theorem dX11_init_64 : decode cX11_init 64 = .ok (.aastore, 1) := by decide +kernel
theorem dX11_init_65 : decode cX11_init 65 = .ok (.iinc 1 1, 3) := by decide +kernel
theorem dX11_init_68 : decode cX11_init 68 = .ok (.goto (-21), 3) := by decide +kernel
theorem dX11_init_71 : decode cX11_init 71 = .ok (.aload_n 0, 1) := by decide +kernel
theorem dX11_init_72 : decode cX11_init 72 = .ok (.iconst 3, 1) := by decide +kernel
theorem dX11_init_73 : decode cX11_init 73 = .ok (.newarray .boolean, 2) := by decide +kernel
theorem dX11_init_75 : decode cX11_init 75 = .ok (.putfield 30, 3) := by decide +kernel
theorem dX11_init_78 : decode cX11_init 78 = .ok (.aload_n 0, 1) := by decide +kernel
theorem dX11_init_79 : decode cX11_init 79 = .ok (.iconst 4, 1) := by decide +kernel
theorem dX11_init_80 : decode cX11_init 80 = .ok (.anewarray 34, 3) := by decide +kernel
theorem dX11_init_83 : decode cX11_init 83 = .ok (.putfield 36, 3) := by decide +kernel
theorem dX11_init_86 : decode cX11_init 86 = .ok (.iconst 0, 1) := by decide +kernel
theorem dX11_init_87 : decode cX11_init 87 = .ok (.istore_n 1, 1) := by decide +kernel
theorem dX11_init_88 : decode cX11_init 88 = .ok (.iload_n 1, 1) := by decide +kernel
theorem dX11_init_89 : decode cX11_init 89 = .ok (.iconst 4, 1) := by decide +kernel
theorem dX11_init_90 : decode cX11_init 90 = .ok (.if_icmp .ge 22, 3) := by decide +kernel
theorem dX11_init_93 : decode cX11_init 93 = .ok (.aload_n 0, 1) := by decide +kernel
theorem dX11_init_94 : decode cX11_init 94 = .ok (.getfield 36, 3) := by decide +kernel
theorem dX11_init_97 : decode cX11_init 97 = .ok (.iload_n 1, 1) := by decide +kernel
theorem dX11_init_98 : decode cX11_init 98 = .ok (.new 34, 3) := by decide +kernel
theorem dX11_init_101 : decode cX11_init 101 = .ok (.dup, 1) := by decide +kernel
theorem dX11_init_102 : decode cX11_init 102 = .ok (.invokespecial 40, 3) := by decide +kernel
theorem dX11_init_105 : decode cX11_init 105 = .ok (.aastore, 1) := by decide +kernel
theorem dX11_init_106 : decode cX11_init 106 = .ok (.iinc 1 1, 3) := by decide +kernel
theorem dX11_init_109 : decode cX11_init 109 = .ok (.goto (-21), 3) := by decide +kernel
theorem dX11_init_112 : decode cX11_init 112 = .ok (.aload_n 0, 1) := by decide +kernel
theorem dX11_init_113 : decode cX11_init 113 = .ok (.new 41, 3) := by decide +kernel
theorem dX11_init_116 : decode cX11_init 116 = .ok (.dup, 1) := by decide +kernel
theorem dX11_init_117 : decode cX11_init 117 = .ok (.invokespecial 43, 3) := by decide +kernel
theorem dX11_init_120 : decode cX11_init 120 = .ok (.putfield 44, 3) := by decide +kernel
theorem dX11_init_123 : decode cX11_init 123 = .ok (.aload_n 0, 1) := by decide +kernel
theorem dX11_init_124 : decode cX11_init 124 = .ok (.new 41, 3) := by decide +kernel
theorem dX11_init_127 : decode cX11_init 127 = .ok (.dup, 1) := by decide +kernel
theorem dX11_init_128 : decode cX11_init 128 = .ok (.invokespecial 43, 3) := by decide +kernel
theorem dX11_init_131 : decode cX11_init 131 = .ok (.putfield 48, 3) := by decide +kernel
theorem dX11_init_134 : decode cX11_init 134 = .ok (.aload_n 0, 1) := by decide +kernel
theorem dX11_init_135 : decode cX11_init 135 = .ok (.new 51, 3) := by decide +kernel
theorem dX11_init_138 : decode cX11_init 138 = .ok (.dup, 1) := by decide +kernel
theorem dX11_init_139 : decode cX11_init 139 = .ok (.invokespecial 53, 3) := by decide +kernel
theorem dX11_init_142 : decode cX11_init 142 = .ok (.putfield 54, 3) := by decide +kernel
theorem dX11_init_145 : decode cX11_init 145 = .ok (.aload_n 0, 1) := by decide +kernel
theorem dX11_init_146 : decode cX11_init 146 = .ok (.new 58, 3) := by decide +kernel
theorem dX11_init_149 : decode cX11_init 149 = .ok (.dup, 1) := by decide +kernel
theorem dX11_init_150 : decode cX11_init 150 = .ok (.invokespecial 60, 3) := by decide +kernel
theorem dX11_init_153 : decode cX11_init 153 = .ok (.putfield 61, 3) := by decide +kernel
theorem dX11_init_156 : decode cX11_init 156 = .ok (.aload_n 0, 1) := by decide +kernel
theorem dX11_init_157 : decode cX11_init 157 = .ok (.new 65, 3) := by decide +kernel
theorem dX11_init_160 : decode cX11_init 160 = .ok (.dup, 1) := by decide +kernel
theorem dX11_init_161 : decode cX11_init 161 = .ok (.invokespecial 67, 3) := by decide +kernel
theorem dX11_init_164 : decode cX11_init 164 = .ok (.putfield 68, 3) := by decide +kernel
theorem dX11_init_167 : decode cX11_init 167 = .ok (.aload_n 0, 1) := by decide +kernel
theorem dX11_init_168 : decode cX11_init 168 = .ok (.new 72, 3) := by decide +kernel
theorem dX11_init_171 : decode cX11_init 171 = .ok (.dup, 1) := by decide +kernel
theorem dX11_init_172 : decode cX11_init 172 = .ok (.invokespecial 74, 3) := by decide +kernel
theorem dX11_init_175 : decode cX11_init 175 = .ok (.putfield 75, 3) := by decide +kernel
theorem dX11_init_178 : decode cX11_init 178 = .ok (.aload_n 0, 1) := by decide +kernel
theorem dX11_init_179 : decode cX11_init 179 = .ok (.new 79, 3) := by decide +kernel
theorem dX11_init_182 : decode cX11_init 182 = .ok (.dup, 1) := by decide +kernel
theorem dX11_init_183 : decode cX11_init 183 = .ok (.invokespecial 81, 3) := by decide +kernel
theorem dX11_init_186 : decode cX11_init 186 = .ok (.putfield 82, 3) := by decide +kernel
theorem dX11_init_189 : decode cX11_init 189 = .ok (.aload_n 0, 1) := by decide +kernel
theorem dX11_init_190 : decode cX11_init 190 = .ok (.new 86, 3) := by decide +kernel
theorem dX11_init_193 : decode cX11_init 193 = .ok (.dup, 1) := by decide +kernel
theorem dX11_init_194 : decode cX11_init 194 = .ok (.invokespecial 88, 3) := by decide +kernel
theorem dX11_init_197 : decode cX11_init 197 = .ok (.putfield 89, 3) := by decide +kernel
theorem dX11_init_200 : decode cX11_init 200 = .ok (.return_, 1) := by decide +kernel
def vX11_init : List Cond := .code yX11_init cX11_init 2 none :: ([.methodLink RX11 3 objectInit, .instanceMethod objectInit, .code objectInit ⟨#[0xb1]⟩ 1 none, .classLink RX11 9 RX7, .instantiable RX7 7, .initialized RX7, .code yX7_init cX7_init 1 none, .methodLink RX7 3 objectInit, .arrayClass .byte, .fieldLink RX7 9 "IcicleClock$Tape" "bytes" "[B", .fieldLink RX7 15 "IcicleClock$Tape" "faultPlace" "I", .instanceMethod yX7_init, .fieldLink RX11 12 "IcicleClock" "tape" "LIcicleClock$Tape;", .classLink RX11 16 RX6, .instantiable RX6 18, .initialized RX6, .code yX6_init cX6_init 1 none, .methodLink RX6 3 objectInit, .arrayClass .int, .fieldLink RX6 9 "IcicleClock$Street" "thaw" "[I", .arrayClass .boolean, .fieldLink RX6 15 "IcicleClock$Street" "isThaw" "[Z", .fieldLink RX6 19 "IcicleClock$Street" "sun" "[I", .fieldLink RX6 22 "IcicleClock$Street" "eaveOf" "[I", .fieldLink RX6 25 "IcicleClock$Street" "lengthTold" "[I", .fieldLink RX6 28 "IcicleClock$Street" "lengthHung" "[I", .fieldLink RX6 31 "IcicleClock$Street" "hourOf" "[I", .fieldLink RX6 34 "IcicleClock$Street" "dueHour" "[I", .fieldLink RX6 37 "IcicleClock$Street" "dueDay" "[I", .classLink RX6 40 RX0, .instantiable RX0 5, .initialized RX0, .code yX0_init cX0_init 1 none, .methodLink RX0 3 objectInit, .fieldLink RX0 9 "IcicleClock$Acts" "eaves" "[I", .fieldLink RX0 15 "IcicleClock$Acts" "days" "[I", .classLink RX0 18 "[[I", .fieldLink RX0 20 "IcicleClock$Acts" "slammed" "[[I", .fieldLink RX0 23 "IcicleClock$Acts" "rung" "[I", .instanceMethod yX0_init, .fieldLink RX6 43 "IcicleClock$Street" "acts" "LIcicleClock$Acts;", .instanceMethod yX6_init, .fieldLink RX11 19 "IcicleClock" "now" "LIcicleClock$Street;", .fieldLink RX11 23 "IcicleClock" "draft" "LIcicleClock$Street;", .fieldLink RX11 26 "IcicleClock" "images" "[LIcicleClock$Street;", .fieldLink RX11 30 "IcicleClock" "kept" "[Z", .classLink RX11 34 RX5, .fieldLink RX11 36 "IcicleClock" "slots" "[LIcicleClock$Slot;", .instantiable RX5 4, .initialized RX5, .code yX5_init cX5_init 1 none, .methodLink RX5 3 objectInit, .arrayClass .long, .fieldLink RX5 9 "IcicleClock$Slot" "numbers" "[J", .instanceMethod yX5_init, .classLink RX11 41 RX10, .instantiable RX10 4, .initialized RX10, .code yX10_init cX10_init 1 none, .methodLink RX10 3 objectInit, .fieldLink RX10 9 "IcicleClock$Winter" "doorEave" "I", .fieldLink RX10 15 "IcicleClock$Winter" "doorDay" "I", .fieldLink RX10 18 "IcicleClock$Winter" "fall" "[I", .instanceMethod yX10_init, .fieldLink RX11 44 "IcicleClock" "winter" "LIcicleClock$Winter;", .fieldLink RX11 48 "IcicleClock" "whatIf" "LIcicleClock$Winter;", .classLink RX11 51 RX3, .instantiable RX3 2, .initialized RX3, .code yX3_init cX3_init 1 none, .methodLink RX3 3 objectInit, .fieldLink RX3 9 "IcicleClock$Seen" "fall" "[I", .instanceMethod yX3_init, .fieldLink RX11 54 "IcicleClock" "seen" "LIcicleClock$Seen;", .classLink RX11 58 RX4, .instantiable RX4 3, .initialized RX4, .code yX4_init cX4_init 1 none, .methodLink RX4 3 objectInit, .classLink RX4 9 "[[I", .fieldLink RX4 11 "IcicleClock$Slams" "tally" "[[I", .instanceMethod yX4_init, .fieldLink RX11 61 "IcicleClock" "slammings" "LIcicleClock$Slams;", .classLink RX11 65 RX9, .instantiable RX9 4, .initialized RX9, .code yX9_init cX9_init 1 none, .methodLink RX9 3 objectInit, .fieldLink RX9 9 "IcicleClock$Weathers" "least" "[I", .fieldLink RX9 15 "IcicleClock$Weathers" "most" "[I", .classLink RX9 18 "[[I", .fieldLink RX9 20 "IcicleClock$Weathers" "goings" "[[I", .instanceMethod yX9_init, .fieldLink RX11 68 "IcicleClock" "skies" "LIcicleClock$Weathers;", .classLink RX11 72 RX1, .instantiable RX1 4, .initialized RX1, .code yX1_init cX1_init 1 none, .methodLink RX1 3 objectInit, .fieldLink RX1 9 "IcicleClock$Chances" "hanging" "[J", .fieldLink RX1 15 "IcicleClock$Chances" "weight" "[J", .fieldLink RX1 18 "IcicleClock$Chances" "whole" "[J", .instanceMethod yX1_init, .fieldLink RX11 75 "IcicleClock" "chances" "LIcicleClock$Chances;", .classLink RX11 79 RX8, .instantiable RX8 6, .initialized RX8, .code yX8_init cX8_init 1 none, .methodLink RX8 3 objectInit, .classLink RX8 9 "[[I", .fieldLink RX8 11 "IcicleClock$Walker" "struck" "[[I", .fieldLink RX8 16 "IcicleClock$Walker" "least" "[[I", .fieldLink RX8 19 "IcicleClock$Walker" "many" "[[I", .instanceMethod yX8_init, .fieldLink RX11 82 "IcicleClock" "walker" "LIcicleClock$Walker;", .classLink RX11 86 RX2, .instantiable RX2 3, .initialized RX2, .code yX2_init cX2_init 1 none, .methodLink RX2 3 objectInit, .classLink RX2 9 "[[I", .fieldLink RX2 11 "IcicleClock$Clerks" "shared" "[[I", .instanceMethod yX2_init, .fieldLink RX11 89 "IcicleClock" "clerks" "LIcicleClock$Clerks;"] ++ wsX70 ++ wsX110 ++ wsX60 ++ wsX00 ++ wsX50 ++ wsX100 ++ wsX30 ++ wsX40 ++ wsX90 ++ wsX10 ++ wsX80 ++ wsX20)
theorem iX11_init_7 : ∀ w ∈ wsX70, w ∈ vX11_init := fun _ h => List.mem_cons_of_mem _ (List.mem_append_left _ (List.mem_append_left _ (List.mem_append_left _ (List.mem_append_left _ (List.mem_append_left _ (List.mem_append_left _ (List.mem_append_left _ (List.mem_append_left _ (List.mem_append_left _ (List.mem_append_left _ (List.mem_append_left _ (List.mem_append_right _ h))))))))))))
theorem iX11_init_11 : ∀ w ∈ wsX110, w ∈ vX11_init := fun _ h => List.mem_cons_of_mem _ (List.mem_append_left _ (List.mem_append_left _ (List.mem_append_left _ (List.mem_append_left _ (List.mem_append_left _ (List.mem_append_left _ (List.mem_append_left _ (List.mem_append_left _ (List.mem_append_left _ (List.mem_append_left _ (List.mem_append_right _ h)))))))))))
theorem iX11_init_6 : ∀ w ∈ wsX60, w ∈ vX11_init := fun _ h => List.mem_cons_of_mem _ (List.mem_append_left _ (List.mem_append_left _ (List.mem_append_left _ (List.mem_append_left _ (List.mem_append_left _ (List.mem_append_left _ (List.mem_append_left _ (List.mem_append_left _ (List.mem_append_left _ (List.mem_append_right _ h))))))))))
theorem iX11_init_0 : ∀ w ∈ wsX00, w ∈ vX11_init := fun _ h => List.mem_cons_of_mem _ (List.mem_append_left _ (List.mem_append_left _ (List.mem_append_left _ (List.mem_append_left _ (List.mem_append_left _ (List.mem_append_left _ (List.mem_append_left _ (List.mem_append_left _ (List.mem_append_right _ h)))))))))
theorem iX11_init_5 : ∀ w ∈ wsX50, w ∈ vX11_init := fun _ h => List.mem_cons_of_mem _ (List.mem_append_left _ (List.mem_append_left _ (List.mem_append_left _ (List.mem_append_left _ (List.mem_append_left _ (List.mem_append_left _ (List.mem_append_left _ (List.mem_append_right _ h))))))))
theorem iX11_init_10 : ∀ w ∈ wsX100, w ∈ vX11_init := fun _ h => List.mem_cons_of_mem _ (List.mem_append_left _ (List.mem_append_left _ (List.mem_append_left _ (List.mem_append_left _ (List.mem_append_left _ (List.mem_append_left _ (List.mem_append_right _ h)))))))
theorem iX11_init_3 : ∀ w ∈ wsX30, w ∈ vX11_init := fun _ h => List.mem_cons_of_mem _ (List.mem_append_left _ (List.mem_append_left _ (List.mem_append_left _ (List.mem_append_left _ (List.mem_append_left _ (List.mem_append_right _ h))))))
theorem iX11_init_4 : ∀ w ∈ wsX40, w ∈ vX11_init := fun _ h => List.mem_cons_of_mem _ (List.mem_append_left _ (List.mem_append_left _ (List.mem_append_left _ (List.mem_append_left _ (List.mem_append_right _ h)))))
theorem iX11_init_9 : ∀ w ∈ wsX90, w ∈ vX11_init := fun _ h => List.mem_cons_of_mem _ (List.mem_append_left _ (List.mem_append_left _ (List.mem_append_left _ (List.mem_append_right _ h))))
theorem iX11_init_1 : ∀ w ∈ wsX10, w ∈ vX11_init := fun _ h => List.mem_cons_of_mem _ (List.mem_append_left _ (List.mem_append_left _ (List.mem_append_right _ h)))
theorem iX11_init_8 : ∀ w ∈ wsX80, w ∈ vX11_init := fun _ h => List.mem_cons_of_mem _ (List.mem_append_left _ (List.mem_append_right _ h))
theorem iX11_init_2 : ∀ w ∈ wsX20, w ∈ vX11_init := fun _ h => List.mem_cons_of_mem _ (List.mem_append_right _ h)
set_option maxRecDepth 20000 in
theorem gg_X11_init_X7_init : GoodIn vX11_init vX7_init := goodIn_r _ [7, 8, 2, 3, 9, 10, 11, 125, 126, 127, 128, 129, 130, 131] (by decide +kernel) (by decide +kernel)
set_option maxRecDepth 20000 in
theorem gg_X11_init_X6_init : GoodIn vX11_init vX6_init := goodIn_r _ [17, 18, 2, 3, 19, 20, 21, 22, 23, 24, 25, 26, 27, 28, 29, 30, 31, 32, 33, 34, 35, 36, 37, 38, 39, 40, 41, 146, 147, 148, 149, 150, 151, 152, 153, 154, 155, 156, 157, 158, 159, 160, 161, 162, 163, 164, 165, 166, 167, 168] (by decide +kernel) (by decide +kernel)
set_option maxRecDepth 20000 in
theorem gg_X11_init_X5_init : GoodIn vX11_init vX5_init := goodIn_r _ [51, 52, 2, 3, 53, 54, 169, 170, 171, 172] (by decide +kernel) (by decide +kernel)
set_option maxRecDepth 20000 in
theorem gg_X11_init_X10_init : GoodIn vX11_init vX10_init := goodIn_r _ [59, 60, 2, 3, 61, 62, 19, 63, 173, 174, 175, 176] (by decide +kernel) (by decide +kernel)
set_option maxRecDepth 20000 in
theorem gg_X11_init_X3_init : GoodIn vX11_init vX3_init := goodIn_r _ [70, 71, 2, 3, 19, 72, 177, 178] (by decide +kernel) (by decide +kernel)
set_option maxRecDepth 20000 in
theorem gg_X11_init_X4_init : GoodIn vX11_init vX4_init := goodIn_r _ [78, 79, 2, 3, 80, 19, 81, 179, 180, 181] (by decide +kernel) (by decide +kernel)
set_option maxRecDepth 20000 in
theorem gg_X11_init_X9_init : GoodIn vX11_init vX9_init := goodIn_r _ [87, 88, 2, 3, 19, 89, 90, 91, 92, 182, 183, 184, 185] (by decide +kernel) (by decide +kernel)
set_option maxRecDepth 20000 in
theorem gg_X11_init_X1_init : GoodIn vX11_init vX1_init := goodIn_r _ [98, 99, 2, 3, 53, 100, 101, 102, 186, 187, 188, 189] (by decide +kernel) (by decide +kernel)
set_option maxRecDepth 20000 in
theorem gg_X11_init_X8_init : GoodIn vX11_init vX8_init := goodIn_r _ [108, 109, 2, 3, 110, 19, 111, 112, 113, 190, 191, 192, 193, 194, 195] (by decide +kernel) (by decide +kernel)
set_option maxRecDepth 20000 in
theorem gg_X11_init_X2_init : GoodIn vX11_init vX2_init := goodIn_r _ [119, 120, 2, 3, 121, 19, 122, 196, 197, 198] (by decide +kernel) (by decide +kernel)
set_option maxHeartbeats 8000000 in
set_option maxRecDepth 100000 in
theorem n_X11 (l : Launch) (D : va_G) (cs : Nat → ClassId) (h0 sz : Nat) : cN l yX11_init vX11_init { frames := 3, cells := 196, slots := 3237, locals := 52 } D cs h0 sz (.inr (11, [.null, .null, .null, .null, .null, .null, .null, .null, .null, .null, .null, .null, .null, .null])) 197 (fun a g => g 0 = .inr (11, [.ref (a 1), .ref (a 3), .ref (a 23), .ref (a 43), .ref (a 104), .ref (a 105), .ref (a 114), .ref (a 116), .ref (a 118), .ref (a 120), .ref (a 130), .ref (a 140), .ref (a 144), .ref (a 190)]) ∧ g 1 = .inr (7, [.ref (a 2), .int 0, .int 0, .int (-1), .int 0, .int 0, .int 0]) ∧ g 2 = .inl (cs 0, 1000, .inl (fun _ => 0)) ∧ g 3 = .inr (6, [.int 0, .int 0, .int 0, .int 0, .int 0, .int 0, .int 0, .int 0, .ref (a 4), .ref (a 5), .ref (a 6), .ref (a 7), .ref (a 8), .ref (a 9), .ref (a 10), .ref (a 11), .ref (a 12), .ref (a 13)]) ∧ g 4 = .inl (cs 1, 14, .inl (fun _ => 0)) ∧ g 5 = .inl (cs 3, 14, .inl (fun _ => 0)) ∧ g 6 = .inl (cs 1, 5, .inl (fun _ => 0)) ∧ g 7 = .inl (cs 1, 8, .inl (fun _ => 0)) ∧ g 8 = .inl (cs 1, 8, .inl (fun _ => 0)) ∧ g 9 = .inl (cs 1, 8, .inl (fun _ => 0)) ∧ g 10 = .inl (cs 1, 8, .inl (fun _ => 0)) ∧ g 11 = .inl (cs 1, 6, .inl (fun _ => 0)) ∧ g 12 = .inl (cs 1, 6, .inl (fun _ => 0)) ∧ g 13 = .inr (0, [.int 0, .ref (a 14), .ref (a 15), .ref (a 16), .ref (a 22)]) ∧ g 23 = .inr (6, [.int 0, .int 0, .int 0, .int 0, .int 0, .int 0, .int 0, .int 0, .ref (a 24), .ref (a 25), .ref (a 26), .ref (a 27), .ref (a 28), .ref (a 29), .ref (a 30), .ref (a 31), .ref (a 32), .ref (a 33)]) ∧ g 24 = .inl (cs 1, 14, .inl (fun _ => 0)) ∧ g 25 = .inl (cs 3, 14, .inl (fun _ => 0)) ∧ g 26 = .inl (cs 1, 5, .inl (fun _ => 0)) ∧ g 27 = .inl (cs 1, 8, .inl (fun _ => 0)) ∧ g 28 = .inl (cs 1, 8, .inl (fun _ => 0)) ∧ g 29 = .inl (cs 1, 8, .inl (fun _ => 0)) ∧ g 30 = .inl (cs 1, 8, .inl (fun _ => 0)) ∧ g 31 = .inl (cs 1, 6, .inl (fun _ => 0)) ∧ g 32 = .inl (cs 1, 6, .inl (fun _ => 0)) ∧ g 33 = .inr (0, [.int 0, .ref (a 34), .ref (a 35), .ref (a 36), .ref (a 42)]) ∧ g 43 = .inl (cs 5, 3, .inr (.inr (.inr (.inr (va_up (va_up (va_up (fun _ => none) 0 (some (a 44))) 1 (some (a 64))) 2 (some (a 84))))))) ∧ g 44 = .inr (6, [.int 0, .int 0, .int 0, .int 0, .int 0, .int 0, .int 0, .int 0, .ref (a 45), .ref (a 46), .ref (a 47), .ref (a 48), .ref (a 49), .ref (a 50), .ref (a 51), .ref (a 52), .ref (a 53), .ref (a 54)]) ∧ g 45 = .inl (cs 1, 14, .inl (fun _ => 0)) ∧ g 46 = .inl (cs 3, 14, .inl (fun _ => 0)) ∧ g 47 = .inl (cs 1, 5, .inl (fun _ => 0)) ∧ g 48 = .inl (cs 1, 8, .inl (fun _ => 0)) ∧ g 49 = .inl (cs 1, 8, .inl (fun _ => 0)) ∧ g 50 = .inl (cs 1, 8, .inl (fun _ => 0)) ∧ g 51 = .inl (cs 1, 8, .inl (fun _ => 0)) ∧ g 52 = .inl (cs 1, 6, .inl (fun _ => 0)) ∧ g 53 = .inl (cs 1, 6, .inl (fun _ => 0)) ∧ g 54 = .inr (0, [.int 0, .ref (a 55), .ref (a 56), .ref (a 57), .ref (a 63)]) ∧ g 64 = .inr (6, [.int 0, .int 0, .int 0, .int 0, .int 0, .int 0, .int 0, .int 0, .ref (a 65), .ref (a 66), .ref (a 67), .ref (a 68), .ref (a 69), .ref (a 70), .ref (a 71), .ref (a 72), .ref (a 73), .ref (a 74)]) ∧ g 65 = .inl (cs 1, 14, .inl (fun _ => 0)) ∧ g 66 = .inl (cs 3, 14, .inl (fun _ => 0)) ∧ g 67 = .inl (cs 1, 5, .inl (fun _ => 0)) ∧ g 68 = .inl (cs 1, 8, .inl (fun _ => 0)) ∧ g 69 = .inl (cs 1, 8, .inl (fun _ => 0)) ∧ g 70 = .inl (cs 1, 8, .inl (fun _ => 0)) ∧ g 71 = .inl (cs 1, 8, .inl (fun _ => 0)) ∧ g 72 = .inl (cs 1, 6, .inl (fun _ => 0)) ∧ g 73 = .inl (cs 1, 6, .inl (fun _ => 0)) ∧ g 74 = .inr (0, [.int 0, .ref (a 75), .ref (a 76), .ref (a 77), .ref (a 83)]) ∧ g 84 = .inr (6, [.int 0, .int 0, .int 0, .int 0, .int 0, .int 0, .int 0, .int 0, .ref (a 85), .ref (a 86), .ref (a 87), .ref (a 88), .ref (a 89), .ref (a 90), .ref (a 91), .ref (a 92), .ref (a 93), .ref (a 94)]) ∧ g 85 = .inl (cs 1, 14, .inl (fun _ => 0)) ∧ g 86 = .inl (cs 3, 14, .inl (fun _ => 0)) ∧ g 87 = .inl (cs 1, 5, .inl (fun _ => 0)) ∧ g 88 = .inl (cs 1, 8, .inl (fun _ => 0)) ∧ g 89 = .inl (cs 1, 8, .inl (fun _ => 0)) ∧ g 90 = .inl (cs 1, 8, .inl (fun _ => 0)) ∧ g 91 = .inl (cs 1, 8, .inl (fun _ => 0)) ∧ g 92 = .inl (cs 1, 6, .inl (fun _ => 0)) ∧ g 93 = .inl (cs 1, 6, .inl (fun _ => 0)) ∧ g 94 = .inr (0, [.int 0, .ref (a 95), .ref (a 96), .ref (a 97), .ref (a 103)]) ∧ g 104 = .inl (cs 3, 3, .inl (fun _ => 0)) ∧ g 105 = .inl (cs 4, 4, .inr (.inr (.inr (.inr (va_up (va_up (va_up (va_up (fun _ => none) 0 (some (a 106))) 1 (some (a 108))) 2 (some (a 110))) 3 (some (a 112))))))) ∧ g 106 = .inr (5, [.ref (a 107), .int 0, .int 0, .int 0]) ∧ g 107 = .inl (cs 2, 60, .inr (.inl (fun _ => 0))) ∧ g 108 = .inr (5, [.ref (a 109), .int 0, .int 0, .int 0]) ∧ g 109 = .inl (cs 2, 60, .inr (.inl (fun _ => 0))) ∧ g 110 = .inr (5, [.ref (a 111), .int 0, .int 0, .int 0]) ∧ g 111 = .inl (cs 2, 60, .inr (.inl (fun _ => 0))) ∧ g 112 = .inr (5, [.ref (a 113), .int 0, .int 0, .int 0]) ∧ g 113 = .inl (cs 2, 60, .inr (.inl (fun _ => 0))) ∧ g 114 = .inr (10, [.int 0, .int (-1), .int (-1), .ref (a 115)])) 196 3237 := by
  refine cN.start (cc := cX11_init) (maxL := 2) RX11 rfl (by decide) rfl rfl (by decide) ?_
  intro p e s m below meth c ls A X hnm0 hax hA hP hD hl hfin
  have hx := X.1
  have hb := X.2.1
  have hS : va_S A s.heap s.heap [] := va_S.rf
  obtain ⟨ad_0, g_0⟩ : (Nat → Nat) × (Nat → va_E) := (fun _ => 0, fun _ => .inr (0, []))
  have hP : va_P D vwCl ((h0, .inr (11, [.null, .null, .null, .null, .null, .null, .null, .null, .null, .null, .null, .null, .null, .null])) :: wL ad_0 g_0 0) s.heap := hP
  have hD : va_D A ((h0, .inr (11, [.null, .null, .null, .null, .null, .null, .null, .null, .null, .null, .null, .null, .null, .null])) :: wL ad_0 g_0 0) := hD
  refine lv_aload_n hx hb dX11_init_0 rfl (lv_at hl 0 rfl) ?_
  refine r_obj X hl.1 (List.mem_of_getElem? (i := 1) rfl) (List.mem_of_getElem? (i := 2) rfl) (List.mem_of_getElem? (i := 3) rfl) dX11_init_1 (Nat.le_of_ble_eq_true rfl) (Nat.le_of_ble_eq_true rfl) ?_
  refine lv_aload_n hx hb dX11_init_4 rfl (lv_at hl 0 rfl) ?_
  refine r_new (ci := 7) (fs := [.null, .int 0, .int 0, .int 0, .int 0, .int 0, .int 0]) X iX11_init_7 tyX7 tyX7_ok (List.mem_of_getElem? (i := 4) rfl) (List.mem_of_getElem? (i := 5) rfl) (List.mem_of_getElem? (i := 6) rfl) hP hD hS hA rfl (fun j hj => by rcases (show j = 0 ∨ j = 1 ∨ j = 2 ∨ j = 3 ∨ j = 4 ∨ j = 5 ∨ j = 6 by omega) with rfl | rfl | rfl | rfl | rfl | rfl | rfl <;> rfl) (Nat.le_of_ble_eq_true rfl) (Nat.le_of_ble_eq_true rfl) dX11_init_5 (fun q_1 H hP hD hS => ?_)
  have hP : va_P D vwCl (((h0, .inr (11, [.null, .null, .null, .null, .null, .null, .null, .null, .null, .null, .null, .null, .null, .null])) :: wL ad_0 g_0 0) ++ [(q_1, .inr (7, [.null, .int 0, .int 0, .int 0, .int 0, .int 0, .int 0]))]) H := hP
  have hD : va_D A (((h0, .inr (11, [.null, .null, .null, .null, .null, .null, .null, .null, .null, .null, .null, .null, .null, .null])) :: wL ad_0 g_0 0) ++ [(q_1, .inr (7, [.null, .int 0, .int 0, .int 0, .int 0, .int 0, .int 0]))]) := hD
  refine lv_dup hx hb dX11_init_8 rfl ?_
  refine r_init X hax hP hD hS hA (n_Tape l D cs q_1 H.size) ⟨va_cnB 0 X.2.2.2.2.1 gg_X11_init_X7_init rfl rfl rfl (hax.1 _ (List.mem_of_getElem? (i := 0) rfl)) (X.2.2.2.2.1 _ (List.mem_of_getElem? (i := 6) rfl)) (by decide +kernel) ⟨Nat.le_of_ble_eq_true rfl, Nat.le_of_ble_eq_true rfl⟩, rfl, X.2.2.2.2.1 _ (List.mem_of_getElem? (i := 12) rfl)⟩ hl.1 (Nat.le_of_ble_eq_true rfl) dX11_init_9 ⟨Nat.le_of_ble_eq_true rfl, Nat.le_of_ble_eq_true rfl⟩ (fun a_2 c_3 H locs h_4 h_5 hP hD hS => ?_)
  obtain ⟨ad_6, ead_6⟩ : ∃ x, x = ct ad_0 0 a_2 := ⟨_, rfl⟩
  obtain ⟨g_7, eg_7⟩ : ∃ x, x = ct g_0 0 c_3 := ⟨_, rfl⟩
  have eT : wL ad_0 g_0 0 ++ wL a_2 c_3 2 = wL ad_6 g_7 2 := by rw [ead_6, eg_7]; exact wL_app _ _ _ _ _ _
  have hP : va_P D vwCl ((h0, .inr (11, [.null, .null, .null, .null, .null, .null, .null, .null, .null, .null, .null, .null, .null, .null])) :: wL ad_6 g_7 2) H := by rw [← eT]; exact hP
  have hD : va_D A ((h0, .inr (11, [.null, .null, .null, .null, .null, .null, .null, .null, .null, .null, .null, .null, .null, .null])) :: wL ad_6 g_7 2) := by rw [← eT]; exact hD
  refine r_putF X hnm0 iX11_init_11 tyX11 tyX11_ok nmX11 hP hD hS rfl 0 (by decide) (List.mem_of_getElem? (i := 13) rfl) rfl rfl (ty := .object "IcicleClock$Tape") (v := .ref q_1) (by decide +kernel) rfl rfl (Nat.le_of_ble_eq_true rfl) dX11_init_12 (fun H locs hP hD hS => ?_)
  have hP : va_P D vwCl ((h0, .inr (11, [.ref q_1, .null, .null, .null, .null, .null, .null, .null, .null, .null, .null, .null, .null, .null])) :: wL ad_6 g_7 2) H := hP
  have hD : va_D A ((h0, .inr (11, [.ref q_1, .null, .null, .null, .null, .null, .null, .null, .null, .null, .null, .null, .null, .null])) :: wL ad_6 g_7 2) := hD
  refine lv_aload_n hx hb dX11_init_15 rfl (lv_at hl 0 rfl) ?_
  refine r_new (ci := 6) (fs := [.int 0, .int 0, .int 0, .int 0, .int 0, .int 0, .int 0, .int 0, .null, .null, .null, .null, .null, .null, .null, .null, .null, .null]) X iX11_init_6 tyX6 tyX6_ok (List.mem_of_getElem? (i := 14) rfl) (List.mem_of_getElem? (i := 15) rfl) (List.mem_of_getElem? (i := 16) rfl) hP hD hS hA rfl (fun j hj => by rcases (show j = 0 ∨ j = 1 ∨ j = 2 ∨ j = 3 ∨ j = 4 ∨ j = 5 ∨ j = 6 ∨ j = 7 ∨ j = 8 ∨ j = 9 ∨ j = 10 ∨ j = 11 ∨ j = 12 ∨ j = 13 ∨ j = 14 ∨ j = 15 ∨ j = 16 ∨ j = 17 by omega) with rfl | rfl | rfl | rfl | rfl | rfl | rfl | rfl | rfl | rfl | rfl | rfl | rfl | rfl | rfl | rfl | rfl | rfl <;> rfl) (Nat.le_of_ble_eq_true rfl) (Nat.le_of_ble_eq_true rfl) dX11_init_16 (fun q_8 H hP hD hS => ?_)
  have hP : va_P D vwCl (((h0, .inr (11, [.ref q_1, .null, .null, .null, .null, .null, .null, .null, .null, .null, .null, .null, .null, .null])) :: wL ad_6 g_7 2) ++ [(q_8, .inr (6, [.int 0, .int 0, .int 0, .int 0, .int 0, .int 0, .int 0, .int 0, .null, .null, .null, .null, .null, .null, .null, .null, .null, .null]))]) H := hP
  have hD : va_D A (((h0, .inr (11, [.ref q_1, .null, .null, .null, .null, .null, .null, .null, .null, .null, .null, .null, .null, .null])) :: wL ad_6 g_7 2) ++ [(q_8, .inr (6, [.int 0, .int 0, .int 0, .int 0, .int 0, .int 0, .int 0, .int 0, .null, .null, .null, .null, .null, .null, .null, .null, .null, .null]))]) := hD
  refine lv_dup hx hb dX11_init_19 rfl ?_
  refine r_init X hax hP hD hS hA (n_Street l D cs q_8 H.size) ⟨va_cnB 0 X.2.2.2.2.1 gg_X11_init_X6_init rfl rfl rfl (hax.1 _ (List.mem_of_getElem? (i := 1) rfl)) (X.2.2.2.2.1 _ (List.mem_of_getElem? (i := 16) rfl)) (by decide +kernel) ⟨Nat.le_of_ble_eq_true rfl, Nat.le_of_ble_eq_true rfl⟩, rfl, X.2.2.2.2.1 _ (List.mem_of_getElem? (i := 42) rfl)⟩ hl.1 (Nat.le_of_ble_eq_true rfl) dX11_init_20 ⟨Nat.le_of_ble_eq_true rfl, Nat.le_of_ble_eq_true rfl⟩ (fun a_9 c_10 H locs h_11 h_12 hP hD hS => ?_)
  obtain ⟨ad_13, ead_13⟩ : ∃ x, x = ct ad_6 2 a_9 := ⟨_, rfl⟩
  obtain ⟨g_14, eg_14⟩ : ∃ x, x = ct g_7 2 c_10 := ⟨_, rfl⟩
  have eT : wL ad_6 g_7 2 ++ wL a_9 c_10 20 = wL ad_13 g_14 22 := by rw [ead_13, eg_14]; exact wL_app _ _ _ _ _ _
  have hP : va_P D vwCl ((h0, .inr (11, [.ref q_1, .null, .null, .null, .null, .null, .null, .null, .null, .null, .null, .null, .null, .null])) :: wL ad_13 g_14 22) H := by rw [← eT]; exact hP
  have hD : va_D A ((h0, .inr (11, [.ref q_1, .null, .null, .null, .null, .null, .null, .null, .null, .null, .null, .null, .null, .null])) :: wL ad_13 g_14 22) := by rw [← eT]; exact hD
  refine r_putF X hnm0 iX11_init_11 tyX11 tyX11_ok nmX11 hP hD hS rfl 1 (by decide) (List.mem_of_getElem? (i := 43) rfl) rfl rfl (ty := .object "IcicleClock$Street") (v := .ref q_8) (by decide +kernel) rfl rfl (Nat.le_of_ble_eq_true rfl) dX11_init_23 (fun H locs hP hD hS => ?_)
  have hP : va_P D vwCl ((h0, .inr (11, [.ref q_1, .ref q_8, .null, .null, .null, .null, .null, .null, .null, .null, .null, .null, .null, .null])) :: wL ad_13 g_14 22) H := hP
  have hD : va_D A ((h0, .inr (11, [.ref q_1, .ref q_8, .null, .null, .null, .null, .null, .null, .null, .null, .null, .null, .null, .null])) :: wL ad_13 g_14 22) := hD
  refine lv_aload_n hx hb dX11_init_26 rfl (lv_at hl 0 rfl) ?_
  refine r_new (ci := 6) (fs := [.int 0, .int 0, .int 0, .int 0, .int 0, .int 0, .int 0, .int 0, .null, .null, .null, .null, .null, .null, .null, .null, .null, .null]) X iX11_init_6 tyX6 tyX6_ok (List.mem_of_getElem? (i := 14) rfl) (List.mem_of_getElem? (i := 15) rfl) (List.mem_of_getElem? (i := 16) rfl) hP hD hS hA rfl (fun j hj => by rcases (show j = 0 ∨ j = 1 ∨ j = 2 ∨ j = 3 ∨ j = 4 ∨ j = 5 ∨ j = 6 ∨ j = 7 ∨ j = 8 ∨ j = 9 ∨ j = 10 ∨ j = 11 ∨ j = 12 ∨ j = 13 ∨ j = 14 ∨ j = 15 ∨ j = 16 ∨ j = 17 by omega) with rfl | rfl | rfl | rfl | rfl | rfl | rfl | rfl | rfl | rfl | rfl | rfl | rfl | rfl | rfl | rfl | rfl | rfl <;> rfl) (Nat.le_of_ble_eq_true rfl) (Nat.le_of_ble_eq_true rfl) dX11_init_27 (fun q_15 H hP hD hS => ?_)
  have hP : va_P D vwCl (((h0, .inr (11, [.ref q_1, .ref q_8, .null, .null, .null, .null, .null, .null, .null, .null, .null, .null, .null, .null])) :: wL ad_13 g_14 22) ++ [(q_15, .inr (6, [.int 0, .int 0, .int 0, .int 0, .int 0, .int 0, .int 0, .int 0, .null, .null, .null, .null, .null, .null, .null, .null, .null, .null]))]) H := hP
  have hD : va_D A (((h0, .inr (11, [.ref q_1, .ref q_8, .null, .null, .null, .null, .null, .null, .null, .null, .null, .null, .null, .null])) :: wL ad_13 g_14 22) ++ [(q_15, .inr (6, [.int 0, .int 0, .int 0, .int 0, .int 0, .int 0, .int 0, .int 0, .null, .null, .null, .null, .null, .null, .null, .null, .null, .null]))]) := hD
  refine lv_dup hx hb dX11_init_30 rfl ?_
  refine r_init X hax hP hD hS hA (n_Street l D cs q_15 H.size) ⟨va_cnB 0 X.2.2.2.2.1 gg_X11_init_X6_init rfl rfl rfl (hax.1 _ (List.mem_of_getElem? (i := 1) rfl)) (X.2.2.2.2.1 _ (List.mem_of_getElem? (i := 16) rfl)) (by decide +kernel) ⟨Nat.le_of_ble_eq_true rfl, Nat.le_of_ble_eq_true rfl⟩, rfl, X.2.2.2.2.1 _ (List.mem_of_getElem? (i := 42) rfl)⟩ hl.1 (Nat.le_of_ble_eq_true rfl) dX11_init_31 ⟨Nat.le_of_ble_eq_true rfl, Nat.le_of_ble_eq_true rfl⟩ (fun a_16 c_17 H locs h_18 h_19 hP hD hS => ?_)
  obtain ⟨ad_20, ead_20⟩ : ∃ x, x = ct ad_13 22 a_16 := ⟨_, rfl⟩
  obtain ⟨g_21, eg_21⟩ : ∃ x, x = ct g_14 22 c_17 := ⟨_, rfl⟩
  have eT : wL ad_13 g_14 22 ++ wL a_16 c_17 20 = wL ad_20 g_21 42 := by rw [ead_20, eg_21]; exact wL_app _ _ _ _ _ _
  have hP : va_P D vwCl ((h0, .inr (11, [.ref q_1, .ref q_8, .null, .null, .null, .null, .null, .null, .null, .null, .null, .null, .null, .null])) :: wL ad_20 g_21 42) H := by rw [← eT]; exact hP
  have hD : va_D A ((h0, .inr (11, [.ref q_1, .ref q_8, .null, .null, .null, .null, .null, .null, .null, .null, .null, .null, .null, .null])) :: wL ad_20 g_21 42) := by rw [← eT]; exact hD
  refine r_putF X hnm0 iX11_init_11 tyX11 tyX11_ok nmX11 hP hD hS rfl 2 (by decide) (List.mem_of_getElem? (i := 44) rfl) rfl rfl (ty := .object "IcicleClock$Street") (v := .ref q_15) (by decide +kernel) rfl rfl (Nat.le_of_ble_eq_true rfl) dX11_init_34 (fun H locs hP hD hS => ?_)
  have hP : va_P D vwCl ((h0, .inr (11, [.ref q_1, .ref q_8, .ref q_15, .null, .null, .null, .null, .null, .null, .null, .null, .null, .null, .null])) :: wL ad_20 g_21 42) H := hP
  have hD : va_D A ((h0, .inr (11, [.ref q_1, .ref q_8, .ref q_15, .null, .null, .null, .null, .null, .null, .null, .null, .null, .null, .null])) :: wL ad_20 g_21 42) := hD
  refine lv_aload_n hx hb dX11_init_37 rfl (lv_at hl 0 rfl) ?_
  refine lv_iconst (v := 3) hx hb dX11_init_38 (by decide) ?_
  refine r_newq (N' := 3) X 5 rfl (List.mem_of_getElem? (i := 14) rfl) hax.2.2.2 hP hD hS hA (by decide) (by decide) (Nat.le_of_ble_eq_true rfl) (Nat.le_of_ble_eq_true rfl) (Nat.le_of_ble_eq_true rfl) dX11_init_39 (fun q_22 ad_23 g_24 H ead_23 eg_24 hP hD hS => ?_)
  have hP : va_P D vwCl ((h0, .inr (11, [.ref q_1, .ref q_8, .ref q_15, .null, .null, .null, .null, .null, .null, .null, .null, .null, .null, .null])) :: wL ad_23 g_24 43) H := hP
  have hD : va_D A ((h0, .inr (11, [.ref q_1, .ref q_8, .ref q_15, .null, .null, .null, .null, .null, .null, .null, .null, .null, .null, .null])) :: wL ad_23 g_24 43) := hD
  have hq_25 : ad_23 42 = q_22 := by rw [ead_23]; rfl
  have hg_26 : g_24 42 = .inl (cs 5, 3, .inr (.inr (.inr (.inr (fun _ => none))))) := by rw [eg_24]; rfl
  refine r_putF X hnm0 iX11_init_11 tyX11 tyX11_ok nmX11 hP hD hS rfl 3 (by decide) (List.mem_of_getElem? (i := 45) rfl) rfl rfl (ty := .array (.object "IcicleClock$Street")) (v := .ref q_22) (by decide +kernel) rfl rfl (Nat.le_of_ble_eq_true rfl) dX11_init_42 (fun H locs hP hD hS => ?_)
  have hP : va_P D vwCl ((h0, .inr (11, [.ref q_1, .ref q_8, .ref q_15, .ref q_22, .null, .null, .null, .null, .null, .null, .null, .null, .null, .null])) :: wL ad_23 g_24 43) H := hP
  have hD : va_D A ((h0, .inr (11, [.ref q_1, .ref q_8, .ref q_15, .ref q_22, .null, .null, .null, .null, .null, .null, .null, .null, .null, .null])) :: wL ad_23 g_24 43) := hD
  refine lv_iconst (v := 0) hx hb dX11_init_45 (by decide) ?_
  refine lv_istore_n (lv' := [(1, .int 0), (0, .ref h0)]) hx hb dX11_init_46 rfl hl (by decide) rfl (fun ls hl => ?_)
  refine lv_iload_n hx hb dX11_init_47 rfl (lv_at hl 0 rfl) ?_
  refine lv_iconst (v := 3) hx hb dX11_init_48 (by decide) ?_
  refine lv_icmp_ge (tgt := 71) hx hb dX11_init_49 (by decide) (fun h => absurd h (by decide)) (fun _ => ?_)
  refine lv_aload_n hx hb dX11_init_52 rfl (lv_at hl 1 rfl) ?_
  refine r_get X iX11_init_11 hP rfl 3 (by decide) (List.mem_of_getElem? (i := 45) rfl) (v := .ref q_22) rfl dX11_init_53 ?_
  refine lv_iload_n hx hb dX11_init_56 rfl (lv_at hl 0 rfl) ?_
  refine r_new (ci := 6) (fs := [.int 0, .int 0, .int 0, .int 0, .int 0, .int 0, .int 0, .int 0, .null, .null, .null, .null, .null, .null, .null, .null, .null, .null]) X iX11_init_6 tyX6 tyX6_ok (List.mem_of_getElem? (i := 14) rfl) (List.mem_of_getElem? (i := 15) rfl) (List.mem_of_getElem? (i := 16) rfl) hP hD hS hA rfl (fun j hj => by rcases (show j = 0 ∨ j = 1 ∨ j = 2 ∨ j = 3 ∨ j = 4 ∨ j = 5 ∨ j = 6 ∨ j = 7 ∨ j = 8 ∨ j = 9 ∨ j = 10 ∨ j = 11 ∨ j = 12 ∨ j = 13 ∨ j = 14 ∨ j = 15 ∨ j = 16 ∨ j = 17 by omega) with rfl | rfl | rfl | rfl | rfl | rfl | rfl | rfl | rfl | rfl | rfl | rfl | rfl | rfl | rfl | rfl | rfl | rfl <;> rfl) (Nat.le_of_ble_eq_true rfl) (Nat.le_of_ble_eq_true rfl) dX11_init_57 (fun q_27 H hP hD hS => ?_)
  have hP : va_P D vwCl (((h0, .inr (11, [.ref q_1, .ref q_8, .ref q_15, .ref q_22, .null, .null, .null, .null, .null, .null, .null, .null, .null, .null])) :: wL ad_23 g_24 43) ++ [(q_27, .inr (6, [.int 0, .int 0, .int 0, .int 0, .int 0, .int 0, .int 0, .int 0, .null, .null, .null, .null, .null, .null, .null, .null, .null, .null]))]) H := hP
  have hD : va_D A (((h0, .inr (11, [.ref q_1, .ref q_8, .ref q_15, .ref q_22, .null, .null, .null, .null, .null, .null, .null, .null, .null, .null])) :: wL ad_23 g_24 43) ++ [(q_27, .inr (6, [.int 0, .int 0, .int 0, .int 0, .int 0, .int 0, .int 0, .int 0, .null, .null, .null, .null, .null, .null, .null, .null, .null, .null]))]) := hD
  refine lv_dup hx hb dX11_init_60 rfl ?_
  refine r_init X hax hP hD hS hA (n_Street l D cs q_27 H.size) ⟨va_cnB 0 X.2.2.2.2.1 gg_X11_init_X6_init rfl rfl rfl (hax.1 _ (List.mem_of_getElem? (i := 1) rfl)) (X.2.2.2.2.1 _ (List.mem_of_getElem? (i := 16) rfl)) (by decide +kernel) ⟨Nat.le_of_ble_eq_true rfl, Nat.le_of_ble_eq_true rfl⟩, rfl, X.2.2.2.2.1 _ (List.mem_of_getElem? (i := 42) rfl)⟩ hl.1 (Nat.le_of_ble_eq_true rfl) dX11_init_61 ⟨Nat.le_of_ble_eq_true rfl, Nat.le_of_ble_eq_true rfl⟩ (fun a_28 c_29 H locs h_30 h_31 hP hD hS => ?_)
  obtain ⟨ad_32, ead_32⟩ : ∃ x, x = ct ad_23 43 a_28 := ⟨_, rfl⟩
  obtain ⟨g_33, eg_33⟩ : ∃ x, x = ct g_24 43 c_29 := ⟨_, rfl⟩
  have eT : wL ad_23 g_24 43 ++ wL a_28 c_29 20 = wL ad_32 g_33 63 := by rw [ead_32, eg_33]; exact wL_app _ _ _ _ _ _
  have hP : va_P D vwCl ((h0, .inr (11, [.ref q_1, .ref q_8, .ref q_15, .ref q_22, .null, .null, .null, .null, .null, .null, .null, .null, .null, .null])) :: wL ad_32 g_33 63) H := by rw [← eT]; exact hP
  have hD : va_D A ((h0, .inr (11, [.ref q_1, .ref q_8, .ref q_15, .ref q_22, .null, .null, .null, .null, .null, .null, .null, .null, .null, .null])) :: wL ad_32 g_33 63) := by rw [← eT]; exact hD
  have hq_34 : ad_32 42 = q_22 := by rw [ead_32]; exact hq_25
  have hg_35 : g_33 42 = .inl (cs 5, 3, .inr (.inr (.inr (.inr (fun _ => none))))) := by rw [eg_33]; exact hg_26
  have hj_37 : ad_32 43 = q_27 := by rw [ead_32]; exact h_30
  have hv_38 := h_31.1
  obtain ⟨hv_38s, hv_38⟩ : ∃ fs, g_33 43 = .inr (6, fs) := ⟨_, by rw [eg_33]; exact hv_38⟩
  refine r_aast X hP hD hS (by decide) hq_34 hg_35 (r := (RX6, TX6, 18)) rfl (by decide) hj_37 hv_38 rfl (by unfold vp_in; decide) dX11_init_64 (fun g_36 H locs eg_36 hP hD hS => ?_)
  have hg_39 : g_36 42 = .inl (cs 5, 3, .inr (.inr (.inr (.inr (va_up (fun _ => none) (Int32.toNatClampNeg 0) (some q_27)))))) := by rw [eg_36]; exact va_up_self _ _ _
  have hP : va_P D vwCl ((h0, .inr (11, [.ref q_1, .ref q_8, .ref q_15, .ref q_22, .null, .null, .null, .null, .null, .null, .null, .null, .null, .null])) :: wL ad_32 g_36 63) H := hP
  have hD : va_D A ((h0, .inr (11, [.ref q_1, .ref q_8, .ref q_15, .ref q_22, .null, .null, .null, .null, .null, .null, .null, .null, .null, .null])) :: wL ad_32 g_36 63) := hD
  refine lv_iinc (v := 1) (lv' := [(1, .int 1), (0, .ref h0)]) hx hb dX11_init_65 hl (k := 0) rfl (by decide) (by decide) rfl (fun ls hl => ?_)
  refine lv_goto (tgt := 47) hx hb dX11_init_68 (by decide) ?_
  refine lv_iload_n hx hb dX11_init_47 rfl (lv_at hl 0 rfl) ?_
  refine lv_iconst (v := 3) hx hb dX11_init_48 (by decide) ?_
  refine lv_icmp_ge (tgt := 71) hx hb dX11_init_49 (by decide) (fun h => absurd h (by decide)) (fun _ => ?_)
  refine lv_aload_n hx hb dX11_init_52 rfl (lv_at hl 1 rfl) ?_
  refine r_get X iX11_init_11 hP rfl 3 (by decide) (List.mem_of_getElem? (i := 45) rfl) (v := .ref q_22) rfl dX11_init_53 ?_
  refine lv_iload_n hx hb dX11_init_56 rfl (lv_at hl 0 rfl) ?_
  refine r_new (ci := 6) (fs := [.int 0, .int 0, .int 0, .int 0, .int 0, .int 0, .int 0, .int 0, .null, .null, .null, .null, .null, .null, .null, .null, .null, .null]) X iX11_init_6 tyX6 tyX6_ok (List.mem_of_getElem? (i := 14) rfl) (List.mem_of_getElem? (i := 15) rfl) (List.mem_of_getElem? (i := 16) rfl) hP hD hS hA rfl (fun j hj => by rcases (show j = 0 ∨ j = 1 ∨ j = 2 ∨ j = 3 ∨ j = 4 ∨ j = 5 ∨ j = 6 ∨ j = 7 ∨ j = 8 ∨ j = 9 ∨ j = 10 ∨ j = 11 ∨ j = 12 ∨ j = 13 ∨ j = 14 ∨ j = 15 ∨ j = 16 ∨ j = 17 by omega) with rfl | rfl | rfl | rfl | rfl | rfl | rfl | rfl | rfl | rfl | rfl | rfl | rfl | rfl | rfl | rfl | rfl | rfl <;> rfl) (Nat.le_of_ble_eq_true rfl) (Nat.le_of_ble_eq_true rfl) dX11_init_57 (fun q_40 H hP hD hS => ?_)
  have hP : va_P D vwCl (((h0, .inr (11, [.ref q_1, .ref q_8, .ref q_15, .ref q_22, .null, .null, .null, .null, .null, .null, .null, .null, .null, .null])) :: wL ad_32 g_36 63) ++ [(q_40, .inr (6, [.int 0, .int 0, .int 0, .int 0, .int 0, .int 0, .int 0, .int 0, .null, .null, .null, .null, .null, .null, .null, .null, .null, .null]))]) H := hP
  have hD : va_D A (((h0, .inr (11, [.ref q_1, .ref q_8, .ref q_15, .ref q_22, .null, .null, .null, .null, .null, .null, .null, .null, .null, .null])) :: wL ad_32 g_36 63) ++ [(q_40, .inr (6, [.int 0, .int 0, .int 0, .int 0, .int 0, .int 0, .int 0, .int 0, .null, .null, .null, .null, .null, .null, .null, .null, .null, .null]))]) := hD
  refine lv_dup hx hb dX11_init_60 rfl ?_
  refine r_init X hax hP hD hS hA (n_Street l D cs q_40 H.size) ⟨va_cnB 0 X.2.2.2.2.1 gg_X11_init_X6_init rfl rfl rfl (hax.1 _ (List.mem_of_getElem? (i := 1) rfl)) (X.2.2.2.2.1 _ (List.mem_of_getElem? (i := 16) rfl)) (by decide +kernel) ⟨Nat.le_of_ble_eq_true rfl, Nat.le_of_ble_eq_true rfl⟩, rfl, X.2.2.2.2.1 _ (List.mem_of_getElem? (i := 42) rfl)⟩ hl.1 (Nat.le_of_ble_eq_true rfl) dX11_init_61 ⟨Nat.le_of_ble_eq_true rfl, Nat.le_of_ble_eq_true rfl⟩ (fun a_41 c_42 H locs h_43 h_44 hP hD hS => ?_)
  obtain ⟨ad_45, ead_45⟩ : ∃ x, x = ct ad_32 63 a_41 := ⟨_, rfl⟩
  obtain ⟨g_46, eg_46⟩ : ∃ x, x = ct g_36 63 c_42 := ⟨_, rfl⟩
  have eT : wL ad_32 g_36 63 ++ wL a_41 c_42 20 = wL ad_45 g_46 83 := by rw [ead_45, eg_46]; exact wL_app _ _ _ _ _ _
  have hP : va_P D vwCl ((h0, .inr (11, [.ref q_1, .ref q_8, .ref q_15, .ref q_22, .null, .null, .null, .null, .null, .null, .null, .null, .null, .null])) :: wL ad_45 g_46 83) H := by rw [← eT]; exact hP
  have hD : va_D A ((h0, .inr (11, [.ref q_1, .ref q_8, .ref q_15, .ref q_22, .null, .null, .null, .null, .null, .null, .null, .null, .null, .null])) :: wL ad_45 g_46 83) := by rw [← eT]; exact hD
  have hq_47 : ad_45 42 = q_22 := by rw [ead_45]; exact hq_34
  have hg_48 : g_46 42 = .inl (cs 5, 3, .inr (.inr (.inr (.inr (va_up (fun _ => none) (Int32.toNatClampNeg 0) (some q_27)))))) := by rw [eg_46]; exact hg_39
  have hj_50 : ad_45 63 = q_40 := by rw [ead_45]; exact h_43
  have hv_51 := h_44.1
  obtain ⟨hv_51s, hv_51⟩ : ∃ fs, g_46 63 = .inr (6, fs) := ⟨_, by rw [eg_46]; exact hv_51⟩
  refine r_aast X hP hD hS (by decide) hq_47 hg_48 (r := (RX6, TX6, 18)) rfl (by decide) hj_50 hv_51 rfl (by unfold vp_in; decide) dX11_init_64 (fun g_49 H locs eg_49 hP hD hS => ?_)
  have hg_52 : g_49 42 = .inl (cs 5, 3, .inr (.inr (.inr (.inr (va_up (va_up (fun _ => none) (Int32.toNatClampNeg 0) (some q_27)) (Int32.toNatClampNeg 1) (some q_40)))))) := by rw [eg_49]; exact va_up_self _ _ _
  have hP : va_P D vwCl ((h0, .inr (11, [.ref q_1, .ref q_8, .ref q_15, .ref q_22, .null, .null, .null, .null, .null, .null, .null, .null, .null, .null])) :: wL ad_45 g_49 83) H := hP
  have hD : va_D A ((h0, .inr (11, [.ref q_1, .ref q_8, .ref q_15, .ref q_22, .null, .null, .null, .null, .null, .null, .null, .null, .null, .null])) :: wL ad_45 g_49 83) := hD
  refine lv_iinc (v := 2) (lv' := [(1, .int 2), (0, .ref h0)]) hx hb dX11_init_65 hl (k := 0) rfl (by decide) (by decide) rfl (fun ls hl => ?_)
  refine lv_goto (tgt := 47) hx hb dX11_init_68 (by decide) ?_
  refine lv_iload_n hx hb dX11_init_47 rfl (lv_at hl 0 rfl) ?_
  refine lv_iconst (v := 3) hx hb dX11_init_48 (by decide) ?_
  refine lv_icmp_ge (tgt := 71) hx hb dX11_init_49 (by decide) (fun h => absurd h (by decide)) (fun _ => ?_)
  refine lv_aload_n hx hb dX11_init_52 rfl (lv_at hl 1 rfl) ?_
  refine r_get X iX11_init_11 hP rfl 3 (by decide) (List.mem_of_getElem? (i := 45) rfl) (v := .ref q_22) rfl dX11_init_53 ?_
  refine lv_iload_n hx hb dX11_init_56 rfl (lv_at hl 0 rfl) ?_
  refine r_new (ci := 6) (fs := [.int 0, .int 0, .int 0, .int 0, .int 0, .int 0, .int 0, .int 0, .null, .null, .null, .null, .null, .null, .null, .null, .null, .null]) X iX11_init_6 tyX6 tyX6_ok (List.mem_of_getElem? (i := 14) rfl) (List.mem_of_getElem? (i := 15) rfl) (List.mem_of_getElem? (i := 16) rfl) hP hD hS hA rfl (fun j hj => by rcases (show j = 0 ∨ j = 1 ∨ j = 2 ∨ j = 3 ∨ j = 4 ∨ j = 5 ∨ j = 6 ∨ j = 7 ∨ j = 8 ∨ j = 9 ∨ j = 10 ∨ j = 11 ∨ j = 12 ∨ j = 13 ∨ j = 14 ∨ j = 15 ∨ j = 16 ∨ j = 17 by omega) with rfl | rfl | rfl | rfl | rfl | rfl | rfl | rfl | rfl | rfl | rfl | rfl | rfl | rfl | rfl | rfl | rfl | rfl <;> rfl) (Nat.le_of_ble_eq_true rfl) (Nat.le_of_ble_eq_true rfl) dX11_init_57 (fun q_53 H hP hD hS => ?_)
  have hP : va_P D vwCl (((h0, .inr (11, [.ref q_1, .ref q_8, .ref q_15, .ref q_22, .null, .null, .null, .null, .null, .null, .null, .null, .null, .null])) :: wL ad_45 g_49 83) ++ [(q_53, .inr (6, [.int 0, .int 0, .int 0, .int 0, .int 0, .int 0, .int 0, .int 0, .null, .null, .null, .null, .null, .null, .null, .null, .null, .null]))]) H := hP
  have hD : va_D A (((h0, .inr (11, [.ref q_1, .ref q_8, .ref q_15, .ref q_22, .null, .null, .null, .null, .null, .null, .null, .null, .null, .null])) :: wL ad_45 g_49 83) ++ [(q_53, .inr (6, [.int 0, .int 0, .int 0, .int 0, .int 0, .int 0, .int 0, .int 0, .null, .null, .null, .null, .null, .null, .null, .null, .null, .null]))]) := hD
  refine lv_dup hx hb dX11_init_60 rfl ?_
  refine r_init X hax hP hD hS hA (n_Street l D cs q_53 H.size) ⟨va_cnB 0 X.2.2.2.2.1 gg_X11_init_X6_init rfl rfl rfl (hax.1 _ (List.mem_of_getElem? (i := 1) rfl)) (X.2.2.2.2.1 _ (List.mem_of_getElem? (i := 16) rfl)) (by decide +kernel) ⟨Nat.le_of_ble_eq_true rfl, Nat.le_of_ble_eq_true rfl⟩, rfl, X.2.2.2.2.1 _ (List.mem_of_getElem? (i := 42) rfl)⟩ hl.1 (Nat.le_of_ble_eq_true rfl) dX11_init_61 ⟨Nat.le_of_ble_eq_true rfl, Nat.le_of_ble_eq_true rfl⟩ (fun a_54 c_55 H locs h_56 h_57 hP hD hS => ?_)
  obtain ⟨ad_58, ead_58⟩ : ∃ x, x = ct ad_45 83 a_54 := ⟨_, rfl⟩
  obtain ⟨g_59, eg_59⟩ : ∃ x, x = ct g_49 83 c_55 := ⟨_, rfl⟩
  have eT : wL ad_45 g_49 83 ++ wL a_54 c_55 20 = wL ad_58 g_59 103 := by rw [ead_58, eg_59]; exact wL_app _ _ _ _ _ _
  have hP : va_P D vwCl ((h0, .inr (11, [.ref q_1, .ref q_8, .ref q_15, .ref q_22, .null, .null, .null, .null, .null, .null, .null, .null, .null, .null])) :: wL ad_58 g_59 103) H := by rw [← eT]; exact hP
  have hD : va_D A ((h0, .inr (11, [.ref q_1, .ref q_8, .ref q_15, .ref q_22, .null, .null, .null, .null, .null, .null, .null, .null, .null, .null])) :: wL ad_58 g_59 103) := by rw [← eT]; exact hD
  have hq_60 : ad_58 42 = q_22 := by rw [ead_58]; exact hq_47
  have hg_61 : g_59 42 = .inl (cs 5, 3, .inr (.inr (.inr (.inr (va_up (va_up (fun _ => none) (Int32.toNatClampNeg 0) (some q_27)) (Int32.toNatClampNeg 1) (some q_40)))))) := by rw [eg_59]; exact hg_52
  have hj_63 : ad_58 83 = q_53 := by rw [ead_58]; exact h_56
  have hv_64 := h_57.1
  obtain ⟨hv_64s, hv_64⟩ : ∃ fs, g_59 83 = .inr (6, fs) := ⟨_, by rw [eg_59]; exact hv_64⟩
  refine r_aast X hP hD hS (by decide) hq_60 hg_61 (r := (RX6, TX6, 18)) rfl (by decide) hj_63 hv_64 rfl (by unfold vp_in; decide) dX11_init_64 (fun g_62 H locs eg_62 hP hD hS => ?_)
  have hg_65 : g_62 42 = .inl (cs 5, 3, .inr (.inr (.inr (.inr (va_up (va_up (va_up (fun _ => none) (Int32.toNatClampNeg 0) (some q_27)) (Int32.toNatClampNeg 1) (some q_40)) (Int32.toNatClampNeg 2) (some q_53)))))) := by rw [eg_62]; exact va_up_self _ _ _
  have hP : va_P D vwCl ((h0, .inr (11, [.ref q_1, .ref q_8, .ref q_15, .ref q_22, .null, .null, .null, .null, .null, .null, .null, .null, .null, .null])) :: wL ad_58 g_62 103) H := hP
  have hD : va_D A ((h0, .inr (11, [.ref q_1, .ref q_8, .ref q_15, .ref q_22, .null, .null, .null, .null, .null, .null, .null, .null, .null, .null])) :: wL ad_58 g_62 103) := hD
  refine lv_iinc (v := 3) (lv' := [(1, .int 3), (0, .ref h0)]) hx hb dX11_init_65 hl (k := 0) rfl (by decide) (by decide) rfl (fun ls hl => ?_)
  refine lv_goto (tgt := 47) hx hb dX11_init_68 (by decide) ?_
  refine lv_iload_n hx hb dX11_init_47 rfl (lv_at hl 0 rfl) ?_
  refine lv_iconst (v := 3) hx hb dX11_init_48 (by decide) ?_
  refine lv_icmp_ge (tgt := 71) hx hb dX11_init_49 (by decide) (fun _ => ?_) (fun h => absurd h (by decide))
  refine lv_aload_n hx hb dX11_init_71 rfl (lv_at hl 1 rfl) ?_
  refine lv_iconst (v := 3) hx hb dX11_init_72 (by decide) ?_
  refine r_newa (atype := .boolean) X 3 rfl rfl (fun _ h => h) (List.mem_of_getElem? (i := 21) rfl) hP hD hS hA (a0 := (3, .inl (fun _ => 0))) (fun _ => rfl) (by decide) (by decide) (Nat.le_of_ble_eq_true rfl) (Nat.le_of_ble_eq_true rfl) (Nat.le_of_ble_eq_true rfl) dX11_init_73 (fun q_66 ad_67 g_68 H ead_67 eg_68 hP hD hS => ?_)
  have hP : va_P D vwCl ((h0, .inr (11, [.ref q_1, .ref q_8, .ref q_15, .ref q_22, .null, .null, .null, .null, .null, .null, .null, .null, .null, .null])) :: wL ad_67 g_68 104) H := hP
  have hD : va_D A ((h0, .inr (11, [.ref q_1, .ref q_8, .ref q_15, .ref q_22, .null, .null, .null, .null, .null, .null, .null, .null, .null, .null])) :: wL ad_67 g_68 104) := hD
  have hq_69 : ad_67 42 = q_22 := by rw [ead_67]; exact hq_60
  have hg_70 : g_68 42 = .inl (cs 5, 3, .inr (.inr (.inr (.inr (va_up (va_up (va_up (fun _ => none) (Int32.toNatClampNeg 0) (some q_27)) (Int32.toNatClampNeg 1) (some q_40)) (Int32.toNatClampNeg 2) (some q_53)))))) := by rw [eg_68]; exact hg_65
  refine r_putF X hnm0 iX11_init_11 tyX11 tyX11_ok nmX11 hP hD hS rfl 4 (by decide) (List.mem_of_getElem? (i := 46) rfl) rfl rfl (ty := .array .boolean) (v := .ref q_66) (by decide +kernel) rfl rfl (Nat.le_of_ble_eq_true rfl) dX11_init_75 (fun H locs hP hD hS => ?_)
  have hP : va_P D vwCl ((h0, .inr (11, [.ref q_1, .ref q_8, .ref q_15, .ref q_22, .ref q_66, .null, .null, .null, .null, .null, .null, .null, .null, .null])) :: wL ad_67 g_68 104) H := hP
  have hD : va_D A ((h0, .inr (11, [.ref q_1, .ref q_8, .ref q_15, .ref q_22, .ref q_66, .null, .null, .null, .null, .null, .null, .null, .null, .null])) :: wL ad_67 g_68 104) := hD
  refine lv_aload_n hx hb dX11_init_78 rfl (lv_at hl 1 rfl) ?_
  refine lv_iconst (v := 4) hx hb dX11_init_79 (by decide) ?_
  refine r_newq (N' := 4) X 4 rfl (List.mem_of_getElem? (i := 47) rfl) hax.2.2.1 hP hD hS hA (by decide) (by decide) (Nat.le_of_ble_eq_true rfl) (Nat.le_of_ble_eq_true rfl) (Nat.le_of_ble_eq_true rfl) dX11_init_80 (fun q_71 ad_72 g_73 H ead_72 eg_73 hP hD hS => ?_)
  have hP : va_P D vwCl ((h0, .inr (11, [.ref q_1, .ref q_8, .ref q_15, .ref q_22, .ref q_66, .null, .null, .null, .null, .null, .null, .null, .null, .null])) :: wL ad_72 g_73 105) H := hP
  have hD : va_D A ((h0, .inr (11, [.ref q_1, .ref q_8, .ref q_15, .ref q_22, .ref q_66, .null, .null, .null, .null, .null, .null, .null, .null, .null])) :: wL ad_72 g_73 105) := hD
  have hq_74 : ad_72 42 = q_22 := by rw [ead_72]; exact hq_69
  have hg_75 : g_73 42 = .inl (cs 5, 3, .inr (.inr (.inr (.inr (va_up (va_up (va_up (fun _ => none) (Int32.toNatClampNeg 0) (some q_27)) (Int32.toNatClampNeg 1) (some q_40)) (Int32.toNatClampNeg 2) (some q_53)))))) := by rw [eg_73]; exact hg_70
  have hq_76 : ad_72 104 = q_71 := by rw [ead_72]; rfl
  have hg_77 : g_73 104 = .inl (cs 4, 4, .inr (.inr (.inr (.inr (fun _ => none))))) := by rw [eg_73]; rfl
  refine r_putF X hnm0 iX11_init_11 tyX11 tyX11_ok nmX11 hP hD hS rfl 5 (by decide) (List.mem_of_getElem? (i := 48) rfl) rfl rfl (ty := .array (.object "IcicleClock$Slot")) (v := .ref q_71) (by decide +kernel) rfl rfl (Nat.le_of_ble_eq_true rfl) dX11_init_83 (fun H locs hP hD hS => ?_)
  have hP : va_P D vwCl ((h0, .inr (11, [.ref q_1, .ref q_8, .ref q_15, .ref q_22, .ref q_66, .ref q_71, .null, .null, .null, .null, .null, .null, .null, .null])) :: wL ad_72 g_73 105) H := hP
  have hD : va_D A ((h0, .inr (11, [.ref q_1, .ref q_8, .ref q_15, .ref q_22, .ref q_66, .ref q_71, .null, .null, .null, .null, .null, .null, .null, .null])) :: wL ad_72 g_73 105) := hD
  refine lv_iconst (v := 0) hx hb dX11_init_86 (by decide) ?_
  refine lv_istore_n (lv' := [(1, .int 0), (0, .ref h0)]) hx hb dX11_init_87 rfl hl (by decide) rfl (fun ls hl => ?_)
  refine lv_iload_n hx hb dX11_init_88 rfl (lv_at hl 0 rfl) ?_
  refine lv_iconst (v := 4) hx hb dX11_init_89 (by decide) ?_
  refine lv_icmp_ge (tgt := 112) hx hb dX11_init_90 (by decide) (fun h => absurd h (by decide)) (fun _ => ?_)
  refine lv_aload_n hx hb dX11_init_93 rfl (lv_at hl 1 rfl) ?_
  refine r_get X iX11_init_11 hP rfl 5 (by decide) (List.mem_of_getElem? (i := 48) rfl) (v := .ref q_71) rfl dX11_init_94 ?_
  refine lv_iload_n hx hb dX11_init_97 rfl (lv_at hl 0 rfl) ?_
  refine r_new (ci := 5) (fs := [.null, .int 0, .int 0, .int 0]) X iX11_init_5 tyX5 tyX5_ok (List.mem_of_getElem? (i := 47) rfl) (List.mem_of_getElem? (i := 49) rfl) (List.mem_of_getElem? (i := 50) rfl) hP hD hS hA rfl (fun j hj => by rcases (show j = 0 ∨ j = 1 ∨ j = 2 ∨ j = 3 by omega) with rfl | rfl | rfl | rfl <;> rfl) (Nat.le_of_ble_eq_true rfl) (Nat.le_of_ble_eq_true rfl) dX11_init_98 (fun q_78 H hP hD hS => ?_)
  have hP : va_P D vwCl (((h0, .inr (11, [.ref q_1, .ref q_8, .ref q_15, .ref q_22, .ref q_66, .ref q_71, .null, .null, .null, .null, .null, .null, .null, .null])) :: wL ad_72 g_73 105) ++ [(q_78, .inr (5, [.null, .int 0, .int 0, .int 0]))]) H := hP
  have hD : va_D A (((h0, .inr (11, [.ref q_1, .ref q_8, .ref q_15, .ref q_22, .ref q_66, .ref q_71, .null, .null, .null, .null, .null, .null, .null, .null])) :: wL ad_72 g_73 105) ++ [(q_78, .inr (5, [.null, .int 0, .int 0, .int 0]))]) := hD
  refine lv_dup hx hb dX11_init_101 rfl ?_
  refine r_init X hax hP hD hS hA (n_Slot l D cs q_78 H.size) ⟨va_cnB 0 X.2.2.2.2.1 gg_X11_init_X5_init rfl rfl rfl (hax.1 _ (List.mem_of_getElem? (i := 3) rfl)) (X.2.2.2.2.1 _ (List.mem_of_getElem? (i := 50) rfl)) (by decide +kernel) ⟨Nat.le_of_ble_eq_true rfl, Nat.le_of_ble_eq_true rfl⟩, rfl, X.2.2.2.2.1 _ (List.mem_of_getElem? (i := 55) rfl)⟩ hl.1 (Nat.le_of_ble_eq_true rfl) dX11_init_102 ⟨Nat.le_of_ble_eq_true rfl, Nat.le_of_ble_eq_true rfl⟩ (fun a_79 c_80 H locs h_81 h_82 hP hD hS => ?_)
  obtain ⟨ad_83, ead_83⟩ : ∃ x, x = ct ad_72 105 a_79 := ⟨_, rfl⟩
  obtain ⟨g_84, eg_84⟩ : ∃ x, x = ct g_73 105 c_80 := ⟨_, rfl⟩
  have eT : wL ad_72 g_73 105 ++ wL a_79 c_80 2 = wL ad_83 g_84 107 := by rw [ead_83, eg_84]; exact wL_app _ _ _ _ _ _
  have hP : va_P D vwCl ((h0, .inr (11, [.ref q_1, .ref q_8, .ref q_15, .ref q_22, .ref q_66, .ref q_71, .null, .null, .null, .null, .null, .null, .null, .null])) :: wL ad_83 g_84 107) H := by rw [← eT]; exact hP
  have hD : va_D A ((h0, .inr (11, [.ref q_1, .ref q_8, .ref q_15, .ref q_22, .ref q_66, .ref q_71, .null, .null, .null, .null, .null, .null, .null, .null])) :: wL ad_83 g_84 107) := by rw [← eT]; exact hD
  have hq_85 : ad_83 42 = q_22 := by rw [ead_83]; exact hq_74
  have hg_86 : g_84 42 = .inl (cs 5, 3, .inr (.inr (.inr (.inr (va_up (va_up (va_up (fun _ => none) (Int32.toNatClampNeg 0) (some q_27)) (Int32.toNatClampNeg 1) (some q_40)) (Int32.toNatClampNeg 2) (some q_53)))))) := by rw [eg_84]; exact hg_75
  have hq_87 : ad_83 104 = q_71 := by rw [ead_83]; exact hq_76
  have hg_88 : g_84 104 = .inl (cs 4, 4, .inr (.inr (.inr (.inr (fun _ => none))))) := by rw [eg_84]; exact hg_77
  have hj_90 : ad_83 105 = q_78 := by rw [ead_83]; exact h_81
  have hv_91 := h_82.1
  obtain ⟨hv_91s, hv_91⟩ : ∃ fs, g_84 105 = .inr (5, fs) := ⟨_, by rw [eg_84]; exact hv_91⟩
  refine r_aast X hP hD hS (by decide) hq_87 hg_88 (r := (RX5, TX5, 4)) rfl (by decide) hj_90 hv_91 rfl (by unfold vp_in; decide) dX11_init_105 (fun g_89 H locs eg_89 hP hD hS => ?_)
  have hg_92 : g_89 104 = .inl (cs 4, 4, .inr (.inr (.inr (.inr (va_up (fun _ => none) (Int32.toNatClampNeg 0) (some q_78)))))) := by rw [eg_89]; exact va_up_self _ _ _
  have hP : va_P D vwCl ((h0, .inr (11, [.ref q_1, .ref q_8, .ref q_15, .ref q_22, .ref q_66, .ref q_71, .null, .null, .null, .null, .null, .null, .null, .null])) :: wL ad_83 g_89 107) H := hP
  have hD : va_D A ((h0, .inr (11, [.ref q_1, .ref q_8, .ref q_15, .ref q_22, .ref q_66, .ref q_71, .null, .null, .null, .null, .null, .null, .null, .null])) :: wL ad_83 g_89 107) := hD
  have hg_93 : g_89 42 = .inl (cs 5, 3, .inr (.inr (.inr (.inr (va_up (va_up (va_up (fun _ => none) (Int32.toNatClampNeg 0) (some q_27)) (Int32.toNatClampNeg 1) (some q_40)) (Int32.toNatClampNeg 2) (some q_53)))))) := by rw [eg_89]; exact hg_86
  refine lv_iinc (v := 1) (lv' := [(1, .int 1), (0, .ref h0)]) hx hb dX11_init_106 hl (k := 0) rfl (by decide) (by decide) rfl (fun ls hl => ?_)
  refine lv_goto (tgt := 88) hx hb dX11_init_109 (by decide) ?_
  refine lv_iload_n hx hb dX11_init_88 rfl (lv_at hl 0 rfl) ?_
  refine lv_iconst (v := 4) hx hb dX11_init_89 (by decide) ?_
  refine lv_icmp_ge (tgt := 112) hx hb dX11_init_90 (by decide) (fun h => absurd h (by decide)) (fun _ => ?_)
  refine lv_aload_n hx hb dX11_init_93 rfl (lv_at hl 1 rfl) ?_
  refine r_get X iX11_init_11 hP rfl 5 (by decide) (List.mem_of_getElem? (i := 48) rfl) (v := .ref q_71) rfl dX11_init_94 ?_
  refine lv_iload_n hx hb dX11_init_97 rfl (lv_at hl 0 rfl) ?_
  refine r_new (ci := 5) (fs := [.null, .int 0, .int 0, .int 0]) X iX11_init_5 tyX5 tyX5_ok (List.mem_of_getElem? (i := 47) rfl) (List.mem_of_getElem? (i := 49) rfl) (List.mem_of_getElem? (i := 50) rfl) hP hD hS hA rfl (fun j hj => by rcases (show j = 0 ∨ j = 1 ∨ j = 2 ∨ j = 3 by omega) with rfl | rfl | rfl | rfl <;> rfl) (Nat.le_of_ble_eq_true rfl) (Nat.le_of_ble_eq_true rfl) dX11_init_98 (fun q_94 H hP hD hS => ?_)
  have hP : va_P D vwCl (((h0, .inr (11, [.ref q_1, .ref q_8, .ref q_15, .ref q_22, .ref q_66, .ref q_71, .null, .null, .null, .null, .null, .null, .null, .null])) :: wL ad_83 g_89 107) ++ [(q_94, .inr (5, [.null, .int 0, .int 0, .int 0]))]) H := hP
  have hD : va_D A (((h0, .inr (11, [.ref q_1, .ref q_8, .ref q_15, .ref q_22, .ref q_66, .ref q_71, .null, .null, .null, .null, .null, .null, .null, .null])) :: wL ad_83 g_89 107) ++ [(q_94, .inr (5, [.null, .int 0, .int 0, .int 0]))]) := hD
  refine lv_dup hx hb dX11_init_101 rfl ?_
  refine r_init X hax hP hD hS hA (n_Slot l D cs q_94 H.size) ⟨va_cnB 0 X.2.2.2.2.1 gg_X11_init_X5_init rfl rfl rfl (hax.1 _ (List.mem_of_getElem? (i := 3) rfl)) (X.2.2.2.2.1 _ (List.mem_of_getElem? (i := 50) rfl)) (by decide +kernel) ⟨Nat.le_of_ble_eq_true rfl, Nat.le_of_ble_eq_true rfl⟩, rfl, X.2.2.2.2.1 _ (List.mem_of_getElem? (i := 55) rfl)⟩ hl.1 (Nat.le_of_ble_eq_true rfl) dX11_init_102 ⟨Nat.le_of_ble_eq_true rfl, Nat.le_of_ble_eq_true rfl⟩ (fun a_95 c_96 H locs h_97 h_98 hP hD hS => ?_)
  obtain ⟨ad_99, ead_99⟩ : ∃ x, x = ct ad_83 107 a_95 := ⟨_, rfl⟩
  obtain ⟨g_100, eg_100⟩ : ∃ x, x = ct g_89 107 c_96 := ⟨_, rfl⟩
  have eT : wL ad_83 g_89 107 ++ wL a_95 c_96 2 = wL ad_99 g_100 109 := by rw [ead_99, eg_100]; exact wL_app _ _ _ _ _ _
  have hP : va_P D vwCl ((h0, .inr (11, [.ref q_1, .ref q_8, .ref q_15, .ref q_22, .ref q_66, .ref q_71, .null, .null, .null, .null, .null, .null, .null, .null])) :: wL ad_99 g_100 109) H := by rw [← eT]; exact hP
  have hD : va_D A ((h0, .inr (11, [.ref q_1, .ref q_8, .ref q_15, .ref q_22, .ref q_66, .ref q_71, .null, .null, .null, .null, .null, .null, .null, .null])) :: wL ad_99 g_100 109) := by rw [← eT]; exact hD
  have hq_101 : ad_99 42 = q_22 := by rw [ead_99]; exact hq_85
  have hg_102 : g_100 42 = .inl (cs 5, 3, .inr (.inr (.inr (.inr (va_up (va_up (va_up (fun _ => none) (Int32.toNatClampNeg 0) (some q_27)) (Int32.toNatClampNeg 1) (some q_40)) (Int32.toNatClampNeg 2) (some q_53)))))) := by rw [eg_100]; exact hg_93
  have hq_103 : ad_99 104 = q_71 := by rw [ead_99]; exact hq_87
  have hg_104 : g_100 104 = .inl (cs 4, 4, .inr (.inr (.inr (.inr (va_up (fun _ => none) (Int32.toNatClampNeg 0) (some q_78)))))) := by rw [eg_100]; exact hg_92
  have hj_106 : ad_99 107 = q_94 := by rw [ead_99]; exact h_97
  have hv_107 := h_98.1
  obtain ⟨hv_107s, hv_107⟩ : ∃ fs, g_100 107 = .inr (5, fs) := ⟨_, by rw [eg_100]; exact hv_107⟩
  refine r_aast X hP hD hS (by decide) hq_103 hg_104 (r := (RX5, TX5, 4)) rfl (by decide) hj_106 hv_107 rfl (by unfold vp_in; decide) dX11_init_105 (fun g_105 H locs eg_105 hP hD hS => ?_)
  have hg_108 : g_105 104 = .inl (cs 4, 4, .inr (.inr (.inr (.inr (va_up (va_up (fun _ => none) (Int32.toNatClampNeg 0) (some q_78)) (Int32.toNatClampNeg 1) (some q_94)))))) := by rw [eg_105]; exact va_up_self _ _ _
  have hP : va_P D vwCl ((h0, .inr (11, [.ref q_1, .ref q_8, .ref q_15, .ref q_22, .ref q_66, .ref q_71, .null, .null, .null, .null, .null, .null, .null, .null])) :: wL ad_99 g_105 109) H := hP
  have hD : va_D A ((h0, .inr (11, [.ref q_1, .ref q_8, .ref q_15, .ref q_22, .ref q_66, .ref q_71, .null, .null, .null, .null, .null, .null, .null, .null])) :: wL ad_99 g_105 109) := hD
  have hg_109 : g_105 42 = .inl (cs 5, 3, .inr (.inr (.inr (.inr (va_up (va_up (va_up (fun _ => none) (Int32.toNatClampNeg 0) (some q_27)) (Int32.toNatClampNeg 1) (some q_40)) (Int32.toNatClampNeg 2) (some q_53)))))) := by rw [eg_105]; exact hg_102
  refine lv_iinc (v := 2) (lv' := [(1, .int 2), (0, .ref h0)]) hx hb dX11_init_106 hl (k := 0) rfl (by decide) (by decide) rfl (fun ls hl => ?_)
  refine lv_goto (tgt := 88) hx hb dX11_init_109 (by decide) ?_
  refine lv_iload_n hx hb dX11_init_88 rfl (lv_at hl 0 rfl) ?_
  refine lv_iconst (v := 4) hx hb dX11_init_89 (by decide) ?_
  refine lv_icmp_ge (tgt := 112) hx hb dX11_init_90 (by decide) (fun h => absurd h (by decide)) (fun _ => ?_)
  refine lv_aload_n hx hb dX11_init_93 rfl (lv_at hl 1 rfl) ?_
  refine r_get X iX11_init_11 hP rfl 5 (by decide) (List.mem_of_getElem? (i := 48) rfl) (v := .ref q_71) rfl dX11_init_94 ?_
  refine lv_iload_n hx hb dX11_init_97 rfl (lv_at hl 0 rfl) ?_
  refine r_new (ci := 5) (fs := [.null, .int 0, .int 0, .int 0]) X iX11_init_5 tyX5 tyX5_ok (List.mem_of_getElem? (i := 47) rfl) (List.mem_of_getElem? (i := 49) rfl) (List.mem_of_getElem? (i := 50) rfl) hP hD hS hA rfl (fun j hj => by rcases (show j = 0 ∨ j = 1 ∨ j = 2 ∨ j = 3 by omega) with rfl | rfl | rfl | rfl <;> rfl) (Nat.le_of_ble_eq_true rfl) (Nat.le_of_ble_eq_true rfl) dX11_init_98 (fun q_110 H hP hD hS => ?_)
  have hP : va_P D vwCl (((h0, .inr (11, [.ref q_1, .ref q_8, .ref q_15, .ref q_22, .ref q_66, .ref q_71, .null, .null, .null, .null, .null, .null, .null, .null])) :: wL ad_99 g_105 109) ++ [(q_110, .inr (5, [.null, .int 0, .int 0, .int 0]))]) H := hP
  have hD : va_D A (((h0, .inr (11, [.ref q_1, .ref q_8, .ref q_15, .ref q_22, .ref q_66, .ref q_71, .null, .null, .null, .null, .null, .null, .null, .null])) :: wL ad_99 g_105 109) ++ [(q_110, .inr (5, [.null, .int 0, .int 0, .int 0]))]) := hD
  refine lv_dup hx hb dX11_init_101 rfl ?_
  refine r_init X hax hP hD hS hA (n_Slot l D cs q_110 H.size) ⟨va_cnB 0 X.2.2.2.2.1 gg_X11_init_X5_init rfl rfl rfl (hax.1 _ (List.mem_of_getElem? (i := 3) rfl)) (X.2.2.2.2.1 _ (List.mem_of_getElem? (i := 50) rfl)) (by decide +kernel) ⟨Nat.le_of_ble_eq_true rfl, Nat.le_of_ble_eq_true rfl⟩, rfl, X.2.2.2.2.1 _ (List.mem_of_getElem? (i := 55) rfl)⟩ hl.1 (Nat.le_of_ble_eq_true rfl) dX11_init_102 ⟨Nat.le_of_ble_eq_true rfl, Nat.le_of_ble_eq_true rfl⟩ (fun a_111 c_112 H locs h_113 h_114 hP hD hS => ?_)
  obtain ⟨ad_115, ead_115⟩ : ∃ x, x = ct ad_99 109 a_111 := ⟨_, rfl⟩
  obtain ⟨g_116, eg_116⟩ : ∃ x, x = ct g_105 109 c_112 := ⟨_, rfl⟩
  have eT : wL ad_99 g_105 109 ++ wL a_111 c_112 2 = wL ad_115 g_116 111 := by rw [ead_115, eg_116]; exact wL_app _ _ _ _ _ _
  have hP : va_P D vwCl ((h0, .inr (11, [.ref q_1, .ref q_8, .ref q_15, .ref q_22, .ref q_66, .ref q_71, .null, .null, .null, .null, .null, .null, .null, .null])) :: wL ad_115 g_116 111) H := by rw [← eT]; exact hP
  have hD : va_D A ((h0, .inr (11, [.ref q_1, .ref q_8, .ref q_15, .ref q_22, .ref q_66, .ref q_71, .null, .null, .null, .null, .null, .null, .null, .null])) :: wL ad_115 g_116 111) := by rw [← eT]; exact hD
  have hq_117 : ad_115 42 = q_22 := by rw [ead_115]; exact hq_101
  have hg_118 : g_116 42 = .inl (cs 5, 3, .inr (.inr (.inr (.inr (va_up (va_up (va_up (fun _ => none) (Int32.toNatClampNeg 0) (some q_27)) (Int32.toNatClampNeg 1) (some q_40)) (Int32.toNatClampNeg 2) (some q_53)))))) := by rw [eg_116]; exact hg_109
  have hq_119 : ad_115 104 = q_71 := by rw [ead_115]; exact hq_103
  have hg_120 : g_116 104 = .inl (cs 4, 4, .inr (.inr (.inr (.inr (va_up (va_up (fun _ => none) (Int32.toNatClampNeg 0) (some q_78)) (Int32.toNatClampNeg 1) (some q_94)))))) := by rw [eg_116]; exact hg_108
  have hj_122 : ad_115 109 = q_110 := by rw [ead_115]; exact h_113
  have hv_123 := h_114.1
  obtain ⟨hv_123s, hv_123⟩ : ∃ fs, g_116 109 = .inr (5, fs) := ⟨_, by rw [eg_116]; exact hv_123⟩
  refine r_aast X hP hD hS (by decide) hq_119 hg_120 (r := (RX5, TX5, 4)) rfl (by decide) hj_122 hv_123 rfl (by unfold vp_in; decide) dX11_init_105 (fun g_121 H locs eg_121 hP hD hS => ?_)
  have hg_124 : g_121 104 = .inl (cs 4, 4, .inr (.inr (.inr (.inr (va_up (va_up (va_up (fun _ => none) (Int32.toNatClampNeg 0) (some q_78)) (Int32.toNatClampNeg 1) (some q_94)) (Int32.toNatClampNeg 2) (some q_110)))))) := by rw [eg_121]; exact va_up_self _ _ _
  have hP : va_P D vwCl ((h0, .inr (11, [.ref q_1, .ref q_8, .ref q_15, .ref q_22, .ref q_66, .ref q_71, .null, .null, .null, .null, .null, .null, .null, .null])) :: wL ad_115 g_121 111) H := hP
  have hD : va_D A ((h0, .inr (11, [.ref q_1, .ref q_8, .ref q_15, .ref q_22, .ref q_66, .ref q_71, .null, .null, .null, .null, .null, .null, .null, .null])) :: wL ad_115 g_121 111) := hD
  have hg_125 : g_121 42 = .inl (cs 5, 3, .inr (.inr (.inr (.inr (va_up (va_up (va_up (fun _ => none) (Int32.toNatClampNeg 0) (some q_27)) (Int32.toNatClampNeg 1) (some q_40)) (Int32.toNatClampNeg 2) (some q_53)))))) := by rw [eg_121]; exact hg_118
  refine lv_iinc (v := 3) (lv' := [(1, .int 3), (0, .ref h0)]) hx hb dX11_init_106 hl (k := 0) rfl (by decide) (by decide) rfl (fun ls hl => ?_)
  refine lv_goto (tgt := 88) hx hb dX11_init_109 (by decide) ?_
  refine lv_iload_n hx hb dX11_init_88 rfl (lv_at hl 0 rfl) ?_
  refine lv_iconst (v := 4) hx hb dX11_init_89 (by decide) ?_
  refine lv_icmp_ge (tgt := 112) hx hb dX11_init_90 (by decide) (fun h => absurd h (by decide)) (fun _ => ?_)
  refine lv_aload_n hx hb dX11_init_93 rfl (lv_at hl 1 rfl) ?_
  refine r_get X iX11_init_11 hP rfl 5 (by decide) (List.mem_of_getElem? (i := 48) rfl) (v := .ref q_71) rfl dX11_init_94 ?_
  refine lv_iload_n hx hb dX11_init_97 rfl (lv_at hl 0 rfl) ?_
  refine r_new (ci := 5) (fs := [.null, .int 0, .int 0, .int 0]) X iX11_init_5 tyX5 tyX5_ok (List.mem_of_getElem? (i := 47) rfl) (List.mem_of_getElem? (i := 49) rfl) (List.mem_of_getElem? (i := 50) rfl) hP hD hS hA rfl (fun j hj => by rcases (show j = 0 ∨ j = 1 ∨ j = 2 ∨ j = 3 by omega) with rfl | rfl | rfl | rfl <;> rfl) (Nat.le_of_ble_eq_true rfl) (Nat.le_of_ble_eq_true rfl) dX11_init_98 (fun q_126 H hP hD hS => ?_)
  have hP : va_P D vwCl (((h0, .inr (11, [.ref q_1, .ref q_8, .ref q_15, .ref q_22, .ref q_66, .ref q_71, .null, .null, .null, .null, .null, .null, .null, .null])) :: wL ad_115 g_121 111) ++ [(q_126, .inr (5, [.null, .int 0, .int 0, .int 0]))]) H := hP
  have hD : va_D A (((h0, .inr (11, [.ref q_1, .ref q_8, .ref q_15, .ref q_22, .ref q_66, .ref q_71, .null, .null, .null, .null, .null, .null, .null, .null])) :: wL ad_115 g_121 111) ++ [(q_126, .inr (5, [.null, .int 0, .int 0, .int 0]))]) := hD
  refine lv_dup hx hb dX11_init_101 rfl ?_
  refine r_init X hax hP hD hS hA (n_Slot l D cs q_126 H.size) ⟨va_cnB 0 X.2.2.2.2.1 gg_X11_init_X5_init rfl rfl rfl (hax.1 _ (List.mem_of_getElem? (i := 3) rfl)) (X.2.2.2.2.1 _ (List.mem_of_getElem? (i := 50) rfl)) (by decide +kernel) ⟨Nat.le_of_ble_eq_true rfl, Nat.le_of_ble_eq_true rfl⟩, rfl, X.2.2.2.2.1 _ (List.mem_of_getElem? (i := 55) rfl)⟩ hl.1 (Nat.le_of_ble_eq_true rfl) dX11_init_102 ⟨Nat.le_of_ble_eq_true rfl, Nat.le_of_ble_eq_true rfl⟩ (fun a_127 c_128 H locs h_129 h_130 hP hD hS => ?_)
  obtain ⟨ad_131, ead_131⟩ : ∃ x, x = ct ad_115 111 a_127 := ⟨_, rfl⟩
  obtain ⟨g_132, eg_132⟩ : ∃ x, x = ct g_121 111 c_128 := ⟨_, rfl⟩
  have eT : wL ad_115 g_121 111 ++ wL a_127 c_128 2 = wL ad_131 g_132 113 := by rw [ead_131, eg_132]; exact wL_app _ _ _ _ _ _
  have hP : va_P D vwCl ((h0, .inr (11, [.ref q_1, .ref q_8, .ref q_15, .ref q_22, .ref q_66, .ref q_71, .null, .null, .null, .null, .null, .null, .null, .null])) :: wL ad_131 g_132 113) H := by rw [← eT]; exact hP
  have hD : va_D A ((h0, .inr (11, [.ref q_1, .ref q_8, .ref q_15, .ref q_22, .ref q_66, .ref q_71, .null, .null, .null, .null, .null, .null, .null, .null])) :: wL ad_131 g_132 113) := by rw [← eT]; exact hD
  have hq_133 : ad_131 42 = q_22 := by rw [ead_131]; exact hq_117
  have hg_134 : g_132 42 = .inl (cs 5, 3, .inr (.inr (.inr (.inr (va_up (va_up (va_up (fun _ => none) (Int32.toNatClampNeg 0) (some q_27)) (Int32.toNatClampNeg 1) (some q_40)) (Int32.toNatClampNeg 2) (some q_53)))))) := by rw [eg_132]; exact hg_125
  have hq_135 : ad_131 104 = q_71 := by rw [ead_131]; exact hq_119
  have hg_136 : g_132 104 = .inl (cs 4, 4, .inr (.inr (.inr (.inr (va_up (va_up (va_up (fun _ => none) (Int32.toNatClampNeg 0) (some q_78)) (Int32.toNatClampNeg 1) (some q_94)) (Int32.toNatClampNeg 2) (some q_110)))))) := by rw [eg_132]; exact hg_124
  have hj_138 : ad_131 111 = q_126 := by rw [ead_131]; exact h_129
  have hv_139 := h_130.1
  obtain ⟨hv_139s, hv_139⟩ : ∃ fs, g_132 111 = .inr (5, fs) := ⟨_, by rw [eg_132]; exact hv_139⟩
  refine r_aast X hP hD hS (by decide) hq_135 hg_136 (r := (RX5, TX5, 4)) rfl (by decide) hj_138 hv_139 rfl (by unfold vp_in; decide) dX11_init_105 (fun g_137 H locs eg_137 hP hD hS => ?_)
  have hg_140 : g_137 104 = .inl (cs 4, 4, .inr (.inr (.inr (.inr (va_up (va_up (va_up (va_up (fun _ => none) (Int32.toNatClampNeg 0) (some q_78)) (Int32.toNatClampNeg 1) (some q_94)) (Int32.toNatClampNeg 2) (some q_110)) (Int32.toNatClampNeg 3) (some q_126)))))) := by rw [eg_137]; exact va_up_self _ _ _
  have hP : va_P D vwCl ((h0, .inr (11, [.ref q_1, .ref q_8, .ref q_15, .ref q_22, .ref q_66, .ref q_71, .null, .null, .null, .null, .null, .null, .null, .null])) :: wL ad_131 g_137 113) H := hP
  have hD : va_D A ((h0, .inr (11, [.ref q_1, .ref q_8, .ref q_15, .ref q_22, .ref q_66, .ref q_71, .null, .null, .null, .null, .null, .null, .null, .null])) :: wL ad_131 g_137 113) := hD
  have hg_141 : g_137 42 = .inl (cs 5, 3, .inr (.inr (.inr (.inr (va_up (va_up (va_up (fun _ => none) (Int32.toNatClampNeg 0) (some q_27)) (Int32.toNatClampNeg 1) (some q_40)) (Int32.toNatClampNeg 2) (some q_53)))))) := by rw [eg_137]; exact hg_134
  refine lv_iinc (v := 4) (lv' := [(1, .int 4), (0, .ref h0)]) hx hb dX11_init_106 hl (k := 0) rfl (by decide) (by decide) rfl (fun ls hl => ?_)
  refine lv_goto (tgt := 88) hx hb dX11_init_109 (by decide) ?_
  refine lv_iload_n hx hb dX11_init_88 rfl (lv_at hl 0 rfl) ?_
  refine lv_iconst (v := 4) hx hb dX11_init_89 (by decide) ?_
  refine lv_icmp_ge (tgt := 112) hx hb dX11_init_90 (by decide) (fun _ => ?_) (fun h => absurd h (by decide))
  refine lv_aload_n hx hb dX11_init_112 rfl (lv_at hl 1 rfl) ?_
  refine r_new (ci := 10) (fs := [.int 0, .int 0, .int 0, .null]) X iX11_init_10 tyX10 tyX10_ok (List.mem_of_getElem? (i := 56) rfl) (List.mem_of_getElem? (i := 57) rfl) (List.mem_of_getElem? (i := 58) rfl) hP hD hS hA rfl (fun j hj => by rcases (show j = 0 ∨ j = 1 ∨ j = 2 ∨ j = 3 by omega) with rfl | rfl | rfl | rfl <;> rfl) (Nat.le_of_ble_eq_true rfl) (Nat.le_of_ble_eq_true rfl) dX11_init_113 (fun q_142 H hP hD hS => ?_)
  have hP : va_P D vwCl (((h0, .inr (11, [.ref q_1, .ref q_8, .ref q_15, .ref q_22, .ref q_66, .ref q_71, .null, .null, .null, .null, .null, .null, .null, .null])) :: wL ad_131 g_137 113) ++ [(q_142, .inr (10, [.int 0, .int 0, .int 0, .null]))]) H := hP
  have hD : va_D A (((h0, .inr (11, [.ref q_1, .ref q_8, .ref q_15, .ref q_22, .ref q_66, .ref q_71, .null, .null, .null, .null, .null, .null, .null, .null])) :: wL ad_131 g_137 113) ++ [(q_142, .inr (10, [.int 0, .int 0, .int 0, .null]))]) := hD
  refine lv_dup hx hb dX11_init_116 rfl ?_
  refine r_init X hax hP hD hS hA (n_Winter l D cs q_142 H.size) ⟨va_cnB 0 X.2.2.2.2.1 gg_X11_init_X10_init rfl rfl rfl (hax.1 _ (List.mem_of_getElem? (i := 4) rfl)) (X.2.2.2.2.1 _ (List.mem_of_getElem? (i := 58) rfl)) (by decide +kernel) ⟨Nat.le_of_ble_eq_true rfl, Nat.le_of_ble_eq_true rfl⟩, rfl, X.2.2.2.2.1 _ (List.mem_of_getElem? (i := 64) rfl)⟩ hl.1 (Nat.le_of_ble_eq_true rfl) dX11_init_117 ⟨Nat.le_of_ble_eq_true rfl, Nat.le_of_ble_eq_true rfl⟩ (fun a_143 c_144 H locs h_145 h_146 hP hD hS => ?_)
  obtain ⟨ad_147, ead_147⟩ : ∃ x, x = ct ad_131 113 a_143 := ⟨_, rfl⟩
  obtain ⟨g_148, eg_148⟩ : ∃ x, x = ct g_137 113 c_144 := ⟨_, rfl⟩
  have eT : wL ad_131 g_137 113 ++ wL a_143 c_144 2 = wL ad_147 g_148 115 := by rw [ead_147, eg_148]; exact wL_app _ _ _ _ _ _
  have hP : va_P D vwCl ((h0, .inr (11, [.ref q_1, .ref q_8, .ref q_15, .ref q_22, .ref q_66, .ref q_71, .null, .null, .null, .null, .null, .null, .null, .null])) :: wL ad_147 g_148 115) H := by rw [← eT]; exact hP
  have hD : va_D A ((h0, .inr (11, [.ref q_1, .ref q_8, .ref q_15, .ref q_22, .ref q_66, .ref q_71, .null, .null, .null, .null, .null, .null, .null, .null])) :: wL ad_147 g_148 115) := by rw [← eT]; exact hD
  have hq_149 : ad_147 42 = q_22 := by rw [ead_147]; exact hq_133
  have hg_150 : g_148 42 = .inl (cs 5, 3, .inr (.inr (.inr (.inr (va_up (va_up (va_up (fun _ => none) (Int32.toNatClampNeg 0) (some q_27)) (Int32.toNatClampNeg 1) (some q_40)) (Int32.toNatClampNeg 2) (some q_53)))))) := by rw [eg_148]; exact hg_141
  have hq_151 : ad_147 104 = q_71 := by rw [ead_147]; exact hq_135
  have hg_152 : g_148 104 = .inl (cs 4, 4, .inr (.inr (.inr (.inr (va_up (va_up (va_up (va_up (fun _ => none) (Int32.toNatClampNeg 0) (some q_78)) (Int32.toNatClampNeg 1) (some q_94)) (Int32.toNatClampNeg 2) (some q_110)) (Int32.toNatClampNeg 3) (some q_126)))))) := by rw [eg_148]; exact hg_140
  refine r_putF X hnm0 iX11_init_11 tyX11 tyX11_ok nmX11 hP hD hS rfl 6 (by decide) (List.mem_of_getElem? (i := 65) rfl) rfl rfl (ty := .object "IcicleClock$Winter") (v := .ref q_142) (by decide +kernel) rfl rfl (Nat.le_of_ble_eq_true rfl) dX11_init_120 (fun H locs hP hD hS => ?_)
  have hP : va_P D vwCl ((h0, .inr (11, [.ref q_1, .ref q_8, .ref q_15, .ref q_22, .ref q_66, .ref q_71, .ref q_142, .null, .null, .null, .null, .null, .null, .null])) :: wL ad_147 g_148 115) H := hP
  have hD : va_D A ((h0, .inr (11, [.ref q_1, .ref q_8, .ref q_15, .ref q_22, .ref q_66, .ref q_71, .ref q_142, .null, .null, .null, .null, .null, .null, .null])) :: wL ad_147 g_148 115) := hD
  refine lv_aload_n hx hb dX11_init_123 rfl (lv_at hl 1 rfl) ?_
  refine r_new (ci := 10) (fs := [.int 0, .int 0, .int 0, .null]) X iX11_init_10 tyX10 tyX10_ok (List.mem_of_getElem? (i := 56) rfl) (List.mem_of_getElem? (i := 57) rfl) (List.mem_of_getElem? (i := 58) rfl) hP hD hS hA rfl (fun j hj => by rcases (show j = 0 ∨ j = 1 ∨ j = 2 ∨ j = 3 by omega) with rfl | rfl | rfl | rfl <;> rfl) (Nat.le_of_ble_eq_true rfl) (Nat.le_of_ble_eq_true rfl) dX11_init_124 (fun q_153 H hP hD hS => ?_)
  have hP : va_P D vwCl (((h0, .inr (11, [.ref q_1, .ref q_8, .ref q_15, .ref q_22, .ref q_66, .ref q_71, .ref q_142, .null, .null, .null, .null, .null, .null, .null])) :: wL ad_147 g_148 115) ++ [(q_153, .inr (10, [.int 0, .int 0, .int 0, .null]))]) H := hP
  have hD : va_D A (((h0, .inr (11, [.ref q_1, .ref q_8, .ref q_15, .ref q_22, .ref q_66, .ref q_71, .ref q_142, .null, .null, .null, .null, .null, .null, .null])) :: wL ad_147 g_148 115) ++ [(q_153, .inr (10, [.int 0, .int 0, .int 0, .null]))]) := hD
  refine lv_dup hx hb dX11_init_127 rfl ?_
  refine r_init X hax hP hD hS hA (n_Winter l D cs q_153 H.size) ⟨va_cnB 0 X.2.2.2.2.1 gg_X11_init_X10_init rfl rfl rfl (hax.1 _ (List.mem_of_getElem? (i := 4) rfl)) (X.2.2.2.2.1 _ (List.mem_of_getElem? (i := 58) rfl)) (by decide +kernel) ⟨Nat.le_of_ble_eq_true rfl, Nat.le_of_ble_eq_true rfl⟩, rfl, X.2.2.2.2.1 _ (List.mem_of_getElem? (i := 64) rfl)⟩ hl.1 (Nat.le_of_ble_eq_true rfl) dX11_init_128 ⟨Nat.le_of_ble_eq_true rfl, Nat.le_of_ble_eq_true rfl⟩ (fun a_154 c_155 H locs h_156 h_157 hP hD hS => ?_)
  obtain ⟨ad_158, ead_158⟩ : ∃ x, x = ct ad_147 115 a_154 := ⟨_, rfl⟩
  obtain ⟨g_159, eg_159⟩ : ∃ x, x = ct g_148 115 c_155 := ⟨_, rfl⟩
  have eT : wL ad_147 g_148 115 ++ wL a_154 c_155 2 = wL ad_158 g_159 117 := by rw [ead_158, eg_159]; exact wL_app _ _ _ _ _ _
  have hP : va_P D vwCl ((h0, .inr (11, [.ref q_1, .ref q_8, .ref q_15, .ref q_22, .ref q_66, .ref q_71, .ref q_142, .null, .null, .null, .null, .null, .null, .null])) :: wL ad_158 g_159 117) H := by rw [← eT]; exact hP
  have hD : va_D A ((h0, .inr (11, [.ref q_1, .ref q_8, .ref q_15, .ref q_22, .ref q_66, .ref q_71, .ref q_142, .null, .null, .null, .null, .null, .null, .null])) :: wL ad_158 g_159 117) := by rw [← eT]; exact hD
  have hq_160 : ad_158 42 = q_22 := by rw [ead_158]; exact hq_149
  have hg_161 : g_159 42 = .inl (cs 5, 3, .inr (.inr (.inr (.inr (va_up (va_up (va_up (fun _ => none) (Int32.toNatClampNeg 0) (some q_27)) (Int32.toNatClampNeg 1) (some q_40)) (Int32.toNatClampNeg 2) (some q_53)))))) := by rw [eg_159]; exact hg_150
  have hq_162 : ad_158 104 = q_71 := by rw [ead_158]; exact hq_151
  have hg_163 : g_159 104 = .inl (cs 4, 4, .inr (.inr (.inr (.inr (va_up (va_up (va_up (va_up (fun _ => none) (Int32.toNatClampNeg 0) (some q_78)) (Int32.toNatClampNeg 1) (some q_94)) (Int32.toNatClampNeg 2) (some q_110)) (Int32.toNatClampNeg 3) (some q_126)))))) := by rw [eg_159]; exact hg_152
  refine r_putF X hnm0 iX11_init_11 tyX11 tyX11_ok nmX11 hP hD hS rfl 7 (by decide) (List.mem_of_getElem? (i := 66) rfl) rfl rfl (ty := .object "IcicleClock$Winter") (v := .ref q_153) (by decide +kernel) rfl rfl (Nat.le_of_ble_eq_true rfl) dX11_init_131 (fun H locs hP hD hS => ?_)
  have hP : va_P D vwCl ((h0, .inr (11, [.ref q_1, .ref q_8, .ref q_15, .ref q_22, .ref q_66, .ref q_71, .ref q_142, .ref q_153, .null, .null, .null, .null, .null, .null])) :: wL ad_158 g_159 117) H := hP
  have hD : va_D A ((h0, .inr (11, [.ref q_1, .ref q_8, .ref q_15, .ref q_22, .ref q_66, .ref q_71, .ref q_142, .ref q_153, .null, .null, .null, .null, .null, .null])) :: wL ad_158 g_159 117) := hD
  refine lv_aload_n hx hb dX11_init_134 rfl (lv_at hl 1 rfl) ?_
  refine r_new (ci := 3) (fs := [.null, .int 0]) X iX11_init_3 tyX3 tyX3_ok (List.mem_of_getElem? (i := 67) rfl) (List.mem_of_getElem? (i := 68) rfl) (List.mem_of_getElem? (i := 69) rfl) hP hD hS hA rfl (fun j hj => by rcases (show j = 0 ∨ j = 1 by omega) with rfl | rfl <;> rfl) (Nat.le_of_ble_eq_true rfl) (Nat.le_of_ble_eq_true rfl) dX11_init_135 (fun q_164 H hP hD hS => ?_)
  have hP : va_P D vwCl (((h0, .inr (11, [.ref q_1, .ref q_8, .ref q_15, .ref q_22, .ref q_66, .ref q_71, .ref q_142, .ref q_153, .null, .null, .null, .null, .null, .null])) :: wL ad_158 g_159 117) ++ [(q_164, .inr (3, [.null, .int 0]))]) H := hP
  have hD : va_D A (((h0, .inr (11, [.ref q_1, .ref q_8, .ref q_15, .ref q_22, .ref q_66, .ref q_71, .ref q_142, .ref q_153, .null, .null, .null, .null, .null, .null])) :: wL ad_158 g_159 117) ++ [(q_164, .inr (3, [.null, .int 0]))]) := hD
  refine lv_dup hx hb dX11_init_138 rfl ?_
  refine r_init X hax hP hD hS hA (n_Seen l D cs q_164 H.size) ⟨va_cnB 0 X.2.2.2.2.1 gg_X11_init_X3_init rfl rfl rfl (hax.1 _ (List.mem_of_getElem? (i := 5) rfl)) (X.2.2.2.2.1 _ (List.mem_of_getElem? (i := 69) rfl)) (by decide +kernel) ⟨Nat.le_of_ble_eq_true rfl, Nat.le_of_ble_eq_true rfl⟩, rfl, X.2.2.2.2.1 _ (List.mem_of_getElem? (i := 73) rfl)⟩ hl.1 (Nat.le_of_ble_eq_true rfl) dX11_init_139 ⟨Nat.le_of_ble_eq_true rfl, Nat.le_of_ble_eq_true rfl⟩ (fun a_165 c_166 H locs h_167 h_168 hP hD hS => ?_)
  obtain ⟨ad_169, ead_169⟩ : ∃ x, x = ct ad_158 117 a_165 := ⟨_, rfl⟩
  obtain ⟨g_170, eg_170⟩ : ∃ x, x = ct g_159 117 c_166 := ⟨_, rfl⟩
  have eT : wL ad_158 g_159 117 ++ wL a_165 c_166 2 = wL ad_169 g_170 119 := by rw [ead_169, eg_170]; exact wL_app _ _ _ _ _ _
  have hP : va_P D vwCl ((h0, .inr (11, [.ref q_1, .ref q_8, .ref q_15, .ref q_22, .ref q_66, .ref q_71, .ref q_142, .ref q_153, .null, .null, .null, .null, .null, .null])) :: wL ad_169 g_170 119) H := by rw [← eT]; exact hP
  have hD : va_D A ((h0, .inr (11, [.ref q_1, .ref q_8, .ref q_15, .ref q_22, .ref q_66, .ref q_71, .ref q_142, .ref q_153, .null, .null, .null, .null, .null, .null])) :: wL ad_169 g_170 119) := by rw [← eT]; exact hD
  have hq_171 : ad_169 42 = q_22 := by rw [ead_169]; exact hq_160
  have hg_172 : g_170 42 = .inl (cs 5, 3, .inr (.inr (.inr (.inr (va_up (va_up (va_up (fun _ => none) (Int32.toNatClampNeg 0) (some q_27)) (Int32.toNatClampNeg 1) (some q_40)) (Int32.toNatClampNeg 2) (some q_53)))))) := by rw [eg_170]; exact hg_161
  have hq_173 : ad_169 104 = q_71 := by rw [ead_169]; exact hq_162
  have hg_174 : g_170 104 = .inl (cs 4, 4, .inr (.inr (.inr (.inr (va_up (va_up (va_up (va_up (fun _ => none) (Int32.toNatClampNeg 0) (some q_78)) (Int32.toNatClampNeg 1) (some q_94)) (Int32.toNatClampNeg 2) (some q_110)) (Int32.toNatClampNeg 3) (some q_126)))))) := by rw [eg_170]; exact hg_163
  refine r_putF X hnm0 iX11_init_11 tyX11 tyX11_ok nmX11 hP hD hS rfl 8 (by decide) (List.mem_of_getElem? (i := 74) rfl) rfl rfl (ty := .object "IcicleClock$Seen") (v := .ref q_164) (by decide +kernel) rfl rfl (Nat.le_of_ble_eq_true rfl) dX11_init_142 (fun H locs hP hD hS => ?_)
  have hP : va_P D vwCl ((h0, .inr (11, [.ref q_1, .ref q_8, .ref q_15, .ref q_22, .ref q_66, .ref q_71, .ref q_142, .ref q_153, .ref q_164, .null, .null, .null, .null, .null])) :: wL ad_169 g_170 119) H := hP
  have hD : va_D A ((h0, .inr (11, [.ref q_1, .ref q_8, .ref q_15, .ref q_22, .ref q_66, .ref q_71, .ref q_142, .ref q_153, .ref q_164, .null, .null, .null, .null, .null])) :: wL ad_169 g_170 119) := hD
  refine lv_aload_n hx hb dX11_init_145 rfl (lv_at hl 1 rfl) ?_
  refine r_new (ci := 4) (fs := [.int 0, .int 0, .null]) X iX11_init_4 tyX4 tyX4_ok (List.mem_of_getElem? (i := 75) rfl) (List.mem_of_getElem? (i := 76) rfl) (List.mem_of_getElem? (i := 77) rfl) hP hD hS hA rfl (fun j hj => by rcases (show j = 0 ∨ j = 1 ∨ j = 2 by omega) with rfl | rfl | rfl <;> rfl) (Nat.le_of_ble_eq_true rfl) (Nat.le_of_ble_eq_true rfl) dX11_init_146 (fun q_175 H hP hD hS => ?_)
  have hP : va_P D vwCl (((h0, .inr (11, [.ref q_1, .ref q_8, .ref q_15, .ref q_22, .ref q_66, .ref q_71, .ref q_142, .ref q_153, .ref q_164, .null, .null, .null, .null, .null])) :: wL ad_169 g_170 119) ++ [(q_175, .inr (4, [.int 0, .int 0, .null]))]) H := hP
  have hD : va_D A (((h0, .inr (11, [.ref q_1, .ref q_8, .ref q_15, .ref q_22, .ref q_66, .ref q_71, .ref q_142, .ref q_153, .ref q_164, .null, .null, .null, .null, .null])) :: wL ad_169 g_170 119) ++ [(q_175, .inr (4, [.int 0, .int 0, .null]))]) := hD
  refine lv_dup hx hb dX11_init_149 rfl ?_
  refine r_init X hax hP hD hS hA (n_Slams l D cs q_175 H.size) ⟨va_cnB 0 X.2.2.2.2.1 gg_X11_init_X4_init rfl rfl rfl (hax.1 _ (List.mem_of_getElem? (i := 6) rfl)) (X.2.2.2.2.1 _ (List.mem_of_getElem? (i := 77) rfl)) (by decide +kernel) ⟨Nat.le_of_ble_eq_true rfl, Nat.le_of_ble_eq_true rfl⟩, rfl, X.2.2.2.2.1 _ (List.mem_of_getElem? (i := 82) rfl)⟩ hl.1 (Nat.le_of_ble_eq_true rfl) dX11_init_150 ⟨Nat.le_of_ble_eq_true rfl, Nat.le_of_ble_eq_true rfl⟩ (fun a_176 c_177 H locs h_178 h_179 hP hD hS => ?_)
  obtain ⟨ad_180, ead_180⟩ : ∃ x, x = ct ad_169 119 a_176 := ⟨_, rfl⟩
  obtain ⟨g_181, eg_181⟩ : ∃ x, x = ct g_170 119 c_177 := ⟨_, rfl⟩
  have eT : wL ad_169 g_170 119 ++ wL a_176 c_177 10 = wL ad_180 g_181 129 := by rw [ead_180, eg_181]; exact wL_app _ _ _ _ _ _
  have hP : va_P D vwCl ((h0, .inr (11, [.ref q_1, .ref q_8, .ref q_15, .ref q_22, .ref q_66, .ref q_71, .ref q_142, .ref q_153, .ref q_164, .null, .null, .null, .null, .null])) :: wL ad_180 g_181 129) H := by rw [← eT]; exact hP
  have hD : va_D A ((h0, .inr (11, [.ref q_1, .ref q_8, .ref q_15, .ref q_22, .ref q_66, .ref q_71, .ref q_142, .ref q_153, .ref q_164, .null, .null, .null, .null, .null])) :: wL ad_180 g_181 129) := by rw [← eT]; exact hD
  have hq_182 : ad_180 42 = q_22 := by rw [ead_180]; exact hq_171
  have hg_183 : g_181 42 = .inl (cs 5, 3, .inr (.inr (.inr (.inr (va_up (va_up (va_up (fun _ => none) (Int32.toNatClampNeg 0) (some q_27)) (Int32.toNatClampNeg 1) (some q_40)) (Int32.toNatClampNeg 2) (some q_53)))))) := by rw [eg_181]; exact hg_172
  have hq_184 : ad_180 104 = q_71 := by rw [ead_180]; exact hq_173
  have hg_185 : g_181 104 = .inl (cs 4, 4, .inr (.inr (.inr (.inr (va_up (va_up (va_up (va_up (fun _ => none) (Int32.toNatClampNeg 0) (some q_78)) (Int32.toNatClampNeg 1) (some q_94)) (Int32.toNatClampNeg 2) (some q_110)) (Int32.toNatClampNeg 3) (some q_126)))))) := by rw [eg_181]; exact hg_174
  refine r_putF X hnm0 iX11_init_11 tyX11 tyX11_ok nmX11 hP hD hS rfl 9 (by decide) (List.mem_of_getElem? (i := 83) rfl) rfl rfl (ty := .object "IcicleClock$Slams") (v := .ref q_175) (by decide +kernel) rfl rfl (Nat.le_of_ble_eq_true rfl) dX11_init_153 (fun H locs hP hD hS => ?_)
  have hP : va_P D vwCl ((h0, .inr (11, [.ref q_1, .ref q_8, .ref q_15, .ref q_22, .ref q_66, .ref q_71, .ref q_142, .ref q_153, .ref q_164, .ref q_175, .null, .null, .null, .null])) :: wL ad_180 g_181 129) H := hP
  have hD : va_D A ((h0, .inr (11, [.ref q_1, .ref q_8, .ref q_15, .ref q_22, .ref q_66, .ref q_71, .ref q_142, .ref q_153, .ref q_164, .ref q_175, .null, .null, .null, .null])) :: wL ad_180 g_181 129) := hD
  refine lv_aload_n hx hb dX11_init_156 rfl (lv_at hl 1 rfl) ?_
  refine r_new (ci := 9) (fs := [.null, .null, .null, .int 0]) X iX11_init_9 tyX9 tyX9_ok (List.mem_of_getElem? (i := 84) rfl) (List.mem_of_getElem? (i := 85) rfl) (List.mem_of_getElem? (i := 86) rfl) hP hD hS hA rfl (fun j hj => by rcases (show j = 0 ∨ j = 1 ∨ j = 2 ∨ j = 3 by omega) with rfl | rfl | rfl | rfl <;> rfl) (Nat.le_of_ble_eq_true rfl) (Nat.le_of_ble_eq_true rfl) dX11_init_157 (fun q_186 H hP hD hS => ?_)
  have hP : va_P D vwCl (((h0, .inr (11, [.ref q_1, .ref q_8, .ref q_15, .ref q_22, .ref q_66, .ref q_71, .ref q_142, .ref q_153, .ref q_164, .ref q_175, .null, .null, .null, .null])) :: wL ad_180 g_181 129) ++ [(q_186, .inr (9, [.null, .null, .null, .int 0]))]) H := hP
  have hD : va_D A (((h0, .inr (11, [.ref q_1, .ref q_8, .ref q_15, .ref q_22, .ref q_66, .ref q_71, .ref q_142, .ref q_153, .ref q_164, .ref q_175, .null, .null, .null, .null])) :: wL ad_180 g_181 129) ++ [(q_186, .inr (9, [.null, .null, .null, .int 0]))]) := hD
  refine lv_dup hx hb dX11_init_160 rfl ?_
  refine r_init X hax hP hD hS hA (n_Weathers l D cs q_186 H.size) ⟨va_cnB 0 X.2.2.2.2.1 gg_X11_init_X9_init rfl rfl rfl (hax.1 _ (List.mem_of_getElem? (i := 7) rfl)) (X.2.2.2.2.1 _ (List.mem_of_getElem? (i := 86) rfl)) (by decide +kernel) ⟨Nat.le_of_ble_eq_true rfl, Nat.le_of_ble_eq_true rfl⟩, rfl, X.2.2.2.2.1 _ (List.mem_of_getElem? (i := 93) rfl)⟩ hl.1 (Nat.le_of_ble_eq_true rfl) dX11_init_161 ⟨Nat.le_of_ble_eq_true rfl, Nat.le_of_ble_eq_true rfl⟩ (fun a_187 c_188 H locs h_189 h_190 hP hD hS => ?_)
  obtain ⟨ad_191, ead_191⟩ : ∃ x, x = ct ad_180 129 a_187 := ⟨_, rfl⟩
  obtain ⟨g_192, eg_192⟩ : ∃ x, x = ct g_181 129 c_188 := ⟨_, rfl⟩
  have eT : wL ad_180 g_181 129 ++ wL a_187 c_188 10 = wL ad_191 g_192 139 := by rw [ead_191, eg_192]; exact wL_app _ _ _ _ _ _
  have hP : va_P D vwCl ((h0, .inr (11, [.ref q_1, .ref q_8, .ref q_15, .ref q_22, .ref q_66, .ref q_71, .ref q_142, .ref q_153, .ref q_164, .ref q_175, .null, .null, .null, .null])) :: wL ad_191 g_192 139) H := by rw [← eT]; exact hP
  have hD : va_D A ((h0, .inr (11, [.ref q_1, .ref q_8, .ref q_15, .ref q_22, .ref q_66, .ref q_71, .ref q_142, .ref q_153, .ref q_164, .ref q_175, .null, .null, .null, .null])) :: wL ad_191 g_192 139) := by rw [← eT]; exact hD
  have hq_193 : ad_191 42 = q_22 := by rw [ead_191]; exact hq_182
  have hg_194 : g_192 42 = .inl (cs 5, 3, .inr (.inr (.inr (.inr (va_up (va_up (va_up (fun _ => none) (Int32.toNatClampNeg 0) (some q_27)) (Int32.toNatClampNeg 1) (some q_40)) (Int32.toNatClampNeg 2) (some q_53)))))) := by rw [eg_192]; exact hg_183
  have hq_195 : ad_191 104 = q_71 := by rw [ead_191]; exact hq_184
  have hg_196 : g_192 104 = .inl (cs 4, 4, .inr (.inr (.inr (.inr (va_up (va_up (va_up (va_up (fun _ => none) (Int32.toNatClampNeg 0) (some q_78)) (Int32.toNatClampNeg 1) (some q_94)) (Int32.toNatClampNeg 2) (some q_110)) (Int32.toNatClampNeg 3) (some q_126)))))) := by rw [eg_192]; exact hg_185
  refine r_putF X hnm0 iX11_init_11 tyX11 tyX11_ok nmX11 hP hD hS rfl 10 (by decide) (List.mem_of_getElem? (i := 94) rfl) rfl rfl (ty := .object "IcicleClock$Weathers") (v := .ref q_186) (by decide +kernel) rfl rfl (Nat.le_of_ble_eq_true rfl) dX11_init_164 (fun H locs hP hD hS => ?_)
  have hP : va_P D vwCl ((h0, .inr (11, [.ref q_1, .ref q_8, .ref q_15, .ref q_22, .ref q_66, .ref q_71, .ref q_142, .ref q_153, .ref q_164, .ref q_175, .ref q_186, .null, .null, .null])) :: wL ad_191 g_192 139) H := hP
  have hD : va_D A ((h0, .inr (11, [.ref q_1, .ref q_8, .ref q_15, .ref q_22, .ref q_66, .ref q_71, .ref q_142, .ref q_153, .ref q_164, .ref q_175, .ref q_186, .null, .null, .null])) :: wL ad_191 g_192 139) := hD
  refine lv_aload_n hx hb dX11_init_167 rfl (lv_at hl 1 rfl) ?_
  refine r_new (ci := 1) (fs := [.null, .null, .null, .int 0]) X iX11_init_1 tyX1 tyX1_ok (List.mem_of_getElem? (i := 95) rfl) (List.mem_of_getElem? (i := 96) rfl) (List.mem_of_getElem? (i := 97) rfl) hP hD hS hA rfl (fun j hj => by rcases (show j = 0 ∨ j = 1 ∨ j = 2 ∨ j = 3 by omega) with rfl | rfl | rfl | rfl <;> rfl) (Nat.le_of_ble_eq_true rfl) (Nat.le_of_ble_eq_true rfl) dX11_init_168 (fun q_197 H hP hD hS => ?_)
  have hP : va_P D vwCl (((h0, .inr (11, [.ref q_1, .ref q_8, .ref q_15, .ref q_22, .ref q_66, .ref q_71, .ref q_142, .ref q_153, .ref q_164, .ref q_175, .ref q_186, .null, .null, .null])) :: wL ad_191 g_192 139) ++ [(q_197, .inr (1, [.null, .null, .null, .int 0]))]) H := hP
  have hD : va_D A (((h0, .inr (11, [.ref q_1, .ref q_8, .ref q_15, .ref q_22, .ref q_66, .ref q_71, .ref q_142, .ref q_153, .ref q_164, .ref q_175, .ref q_186, .null, .null, .null])) :: wL ad_191 g_192 139) ++ [(q_197, .inr (1, [.null, .null, .null, .int 0]))]) := hD
  refine lv_dup hx hb dX11_init_171 rfl ?_
  refine r_init X hax hP hD hS hA (n_Chances l D cs q_197 H.size) ⟨va_cnB 0 X.2.2.2.2.1 gg_X11_init_X1_init rfl rfl rfl (hax.1 _ (List.mem_of_getElem? (i := 8) rfl)) (X.2.2.2.2.1 _ (List.mem_of_getElem? (i := 97) rfl)) (by decide +kernel) ⟨Nat.le_of_ble_eq_true rfl, Nat.le_of_ble_eq_true rfl⟩, rfl, X.2.2.2.2.1 _ (List.mem_of_getElem? (i := 103) rfl)⟩ hl.1 (Nat.le_of_ble_eq_true rfl) dX11_init_172 ⟨Nat.le_of_ble_eq_true rfl, Nat.le_of_ble_eq_true rfl⟩ (fun a_198 c_199 H locs h_200 h_201 hP hD hS => ?_)
  obtain ⟨ad_202, ead_202⟩ : ∃ x, x = ct ad_191 139 a_198 := ⟨_, rfl⟩
  obtain ⟨g_203, eg_203⟩ : ∃ x, x = ct g_192 139 c_199 := ⟨_, rfl⟩
  have eT : wL ad_191 g_192 139 ++ wL a_198 c_199 4 = wL ad_202 g_203 143 := by rw [ead_202, eg_203]; exact wL_app _ _ _ _ _ _
  have hP : va_P D vwCl ((h0, .inr (11, [.ref q_1, .ref q_8, .ref q_15, .ref q_22, .ref q_66, .ref q_71, .ref q_142, .ref q_153, .ref q_164, .ref q_175, .ref q_186, .null, .null, .null])) :: wL ad_202 g_203 143) H := by rw [← eT]; exact hP
  have hD : va_D A ((h0, .inr (11, [.ref q_1, .ref q_8, .ref q_15, .ref q_22, .ref q_66, .ref q_71, .ref q_142, .ref q_153, .ref q_164, .ref q_175, .ref q_186, .null, .null, .null])) :: wL ad_202 g_203 143) := by rw [← eT]; exact hD
  have hq_204 : ad_202 42 = q_22 := by rw [ead_202]; exact hq_193
  have hg_205 : g_203 42 = .inl (cs 5, 3, .inr (.inr (.inr (.inr (va_up (va_up (va_up (fun _ => none) (Int32.toNatClampNeg 0) (some q_27)) (Int32.toNatClampNeg 1) (some q_40)) (Int32.toNatClampNeg 2) (some q_53)))))) := by rw [eg_203]; exact hg_194
  have hq_206 : ad_202 104 = q_71 := by rw [ead_202]; exact hq_195
  have hg_207 : g_203 104 = .inl (cs 4, 4, .inr (.inr (.inr (.inr (va_up (va_up (va_up (va_up (fun _ => none) (Int32.toNatClampNeg 0) (some q_78)) (Int32.toNatClampNeg 1) (some q_94)) (Int32.toNatClampNeg 2) (some q_110)) (Int32.toNatClampNeg 3) (some q_126)))))) := by rw [eg_203]; exact hg_196
  refine r_putF X hnm0 iX11_init_11 tyX11 tyX11_ok nmX11 hP hD hS rfl 11 (by decide) (List.mem_of_getElem? (i := 104) rfl) rfl rfl (ty := .object "IcicleClock$Chances") (v := .ref q_197) (by decide +kernel) rfl rfl (Nat.le_of_ble_eq_true rfl) dX11_init_175 (fun H locs hP hD hS => ?_)
  have hP : va_P D vwCl ((h0, .inr (11, [.ref q_1, .ref q_8, .ref q_15, .ref q_22, .ref q_66, .ref q_71, .ref q_142, .ref q_153, .ref q_164, .ref q_175, .ref q_186, .ref q_197, .null, .null])) :: wL ad_202 g_203 143) H := hP
  have hD : va_D A ((h0, .inr (11, [.ref q_1, .ref q_8, .ref q_15, .ref q_22, .ref q_66, .ref q_71, .ref q_142, .ref q_153, .ref q_164, .ref q_175, .ref q_186, .ref q_197, .null, .null])) :: wL ad_202 g_203 143) := hD
  refine lv_aload_n hx hb dX11_init_178 rfl (lv_at hl 1 rfl) ?_
  refine r_new (ci := 8) (fs := [.int 0, .null, .null, .null, .int 0, .int 0]) X iX11_init_8 tyX8 tyX8_ok (List.mem_of_getElem? (i := 105) rfl) (List.mem_of_getElem? (i := 106) rfl) (List.mem_of_getElem? (i := 107) rfl) hP hD hS hA rfl (fun j hj => by rcases (show j = 0 ∨ j = 1 ∨ j = 2 ∨ j = 3 ∨ j = 4 ∨ j = 5 by omega) with rfl | rfl | rfl | rfl | rfl | rfl <;> rfl) (Nat.le_of_ble_eq_true rfl) (Nat.le_of_ble_eq_true rfl) dX11_init_179 (fun q_208 H hP hD hS => ?_)
  have hP : va_P D vwCl (((h0, .inr (11, [.ref q_1, .ref q_8, .ref q_15, .ref q_22, .ref q_66, .ref q_71, .ref q_142, .ref q_153, .ref q_164, .ref q_175, .ref q_186, .ref q_197, .null, .null])) :: wL ad_202 g_203 143) ++ [(q_208, .inr (8, [.int 0, .null, .null, .null, .int 0, .int 0]))]) H := hP
  have hD : va_D A (((h0, .inr (11, [.ref q_1, .ref q_8, .ref q_15, .ref q_22, .ref q_66, .ref q_71, .ref q_142, .ref q_153, .ref q_164, .ref q_175, .ref q_186, .ref q_197, .null, .null])) :: wL ad_202 g_203 143) ++ [(q_208, .inr (8, [.int 0, .null, .null, .null, .int 0, .int 0]))]) := hD
  refine lv_dup hx hb dX11_init_182 rfl ?_
  refine r_init X hax hP hD hS hA (n_Walker l D cs q_208 H.size) ⟨va_cnB 0 X.2.2.2.2.1 gg_X11_init_X8_init rfl rfl rfl (hax.1 _ (List.mem_of_getElem? (i := 9) rfl)) (X.2.2.2.2.1 _ (List.mem_of_getElem? (i := 107) rfl)) (by decide +kernel) ⟨Nat.le_of_ble_eq_true rfl, Nat.le_of_ble_eq_true rfl⟩, rfl, X.2.2.2.2.1 _ (List.mem_of_getElem? (i := 114) rfl)⟩ hl.1 (Nat.le_of_ble_eq_true rfl) dX11_init_183 ⟨Nat.le_of_ble_eq_true rfl, Nat.le_of_ble_eq_true rfl⟩ (fun a_209 c_210 H locs h_211 h_212 hP hD hS => ?_)
  obtain ⟨ad_213, ead_213⟩ : ∃ x, x = ct ad_202 143 a_209 := ⟨_, rfl⟩
  obtain ⟨g_214, eg_214⟩ : ∃ x, x = ct g_203 143 c_210 := ⟨_, rfl⟩
  have eT : wL ad_202 g_203 143 ++ wL a_209 c_210 46 = wL ad_213 g_214 189 := by rw [ead_213, eg_214]; exact wL_app _ _ _ _ _ _
  have hP : va_P D vwCl ((h0, .inr (11, [.ref q_1, .ref q_8, .ref q_15, .ref q_22, .ref q_66, .ref q_71, .ref q_142, .ref q_153, .ref q_164, .ref q_175, .ref q_186, .ref q_197, .null, .null])) :: wL ad_213 g_214 189) H := by rw [← eT]; exact hP
  have hD : va_D A ((h0, .inr (11, [.ref q_1, .ref q_8, .ref q_15, .ref q_22, .ref q_66, .ref q_71, .ref q_142, .ref q_153, .ref q_164, .ref q_175, .ref q_186, .ref q_197, .null, .null])) :: wL ad_213 g_214 189) := by rw [← eT]; exact hD
  have hq_215 : ad_213 42 = q_22 := by rw [ead_213]; exact hq_204
  have hg_216 : g_214 42 = .inl (cs 5, 3, .inr (.inr (.inr (.inr (va_up (va_up (va_up (fun _ => none) (Int32.toNatClampNeg 0) (some q_27)) (Int32.toNatClampNeg 1) (some q_40)) (Int32.toNatClampNeg 2) (some q_53)))))) := by rw [eg_214]; exact hg_205
  have hq_217 : ad_213 104 = q_71 := by rw [ead_213]; exact hq_206
  have hg_218 : g_214 104 = .inl (cs 4, 4, .inr (.inr (.inr (.inr (va_up (va_up (va_up (va_up (fun _ => none) (Int32.toNatClampNeg 0) (some q_78)) (Int32.toNatClampNeg 1) (some q_94)) (Int32.toNatClampNeg 2) (some q_110)) (Int32.toNatClampNeg 3) (some q_126)))))) := by rw [eg_214]; exact hg_207
  refine r_putF X hnm0 iX11_init_11 tyX11 tyX11_ok nmX11 hP hD hS rfl 12 (by decide) (List.mem_of_getElem? (i := 115) rfl) rfl rfl (ty := .object "IcicleClock$Walker") (v := .ref q_208) (by decide +kernel) rfl rfl (Nat.le_of_ble_eq_true rfl) dX11_init_186 (fun H locs hP hD hS => ?_)
  have hP : va_P D vwCl ((h0, .inr (11, [.ref q_1, .ref q_8, .ref q_15, .ref q_22, .ref q_66, .ref q_71, .ref q_142, .ref q_153, .ref q_164, .ref q_175, .ref q_186, .ref q_197, .ref q_208, .null])) :: wL ad_213 g_214 189) H := hP
  have hD : va_D A ((h0, .inr (11, [.ref q_1, .ref q_8, .ref q_15, .ref q_22, .ref q_66, .ref q_71, .ref q_142, .ref q_153, .ref q_164, .ref q_175, .ref q_186, .ref q_197, .ref q_208, .null])) :: wL ad_213 g_214 189) := hD
  refine lv_aload_n hx hb dX11_init_189 rfl (lv_at hl 1 rfl) ?_
  refine r_new (ci := 2) (fs := [.int 0, .int 0, .null]) X iX11_init_2 tyX2 tyX2_ok (List.mem_of_getElem? (i := 116) rfl) (List.mem_of_getElem? (i := 117) rfl) (List.mem_of_getElem? (i := 118) rfl) hP hD hS hA rfl (fun j hj => by rcases (show j = 0 ∨ j = 1 ∨ j = 2 by omega) with rfl | rfl | rfl <;> rfl) (Nat.le_of_ble_eq_true rfl) (Nat.le_of_ble_eq_true rfl) dX11_init_190 (fun q_219 H hP hD hS => ?_)
  have hP : va_P D vwCl (((h0, .inr (11, [.ref q_1, .ref q_8, .ref q_15, .ref q_22, .ref q_66, .ref q_71, .ref q_142, .ref q_153, .ref q_164, .ref q_175, .ref q_186, .ref q_197, .ref q_208, .null])) :: wL ad_213 g_214 189) ++ [(q_219, .inr (2, [.int 0, .int 0, .null]))]) H := hP
  have hD : va_D A (((h0, .inr (11, [.ref q_1, .ref q_8, .ref q_15, .ref q_22, .ref q_66, .ref q_71, .ref q_142, .ref q_153, .ref q_164, .ref q_175, .ref q_186, .ref q_197, .ref q_208, .null])) :: wL ad_213 g_214 189) ++ [(q_219, .inr (2, [.int 0, .int 0, .null]))]) := hD
  refine lv_dup hx hb dX11_init_193 rfl ?_
  refine r_init X hax hP hD hS hA (n_Clerks l D cs q_219 H.size) ⟨va_cnB 0 X.2.2.2.2.1 gg_X11_init_X2_init rfl rfl rfl (hax.1 _ (List.mem_of_getElem? (i := 10) rfl)) (X.2.2.2.2.1 _ (List.mem_of_getElem? (i := 118) rfl)) (by decide +kernel) ⟨Nat.le_of_ble_eq_true rfl, Nat.le_of_ble_eq_true rfl⟩, rfl, X.2.2.2.2.1 _ (List.mem_of_getElem? (i := 123) rfl)⟩ hl.1 (Nat.le_of_ble_eq_true rfl) dX11_init_194 ⟨Nat.le_of_ble_eq_true rfl, Nat.le_of_ble_eq_true rfl⟩ (fun a_220 c_221 H locs h_222 h_223 hP hD hS => ?_)
  obtain ⟨ad_224, ead_224⟩ : ∃ x, x = ct ad_213 189 a_220 := ⟨_, rfl⟩
  obtain ⟨g_225, eg_225⟩ : ∃ x, x = ct g_214 189 c_221 := ⟨_, rfl⟩
  have eT : wL ad_213 g_214 189 ++ wL a_220 c_221 7 = wL ad_224 g_225 196 := by rw [ead_224, eg_225]; exact wL_app _ _ _ _ _ _
  have hP : va_P D vwCl ((h0, .inr (11, [.ref q_1, .ref q_8, .ref q_15, .ref q_22, .ref q_66, .ref q_71, .ref q_142, .ref q_153, .ref q_164, .ref q_175, .ref q_186, .ref q_197, .ref q_208, .null])) :: wL ad_224 g_225 196) H := by rw [← eT]; exact hP
  have hD : va_D A ((h0, .inr (11, [.ref q_1, .ref q_8, .ref q_15, .ref q_22, .ref q_66, .ref q_71, .ref q_142, .ref q_153, .ref q_164, .ref q_175, .ref q_186, .ref q_197, .ref q_208, .null])) :: wL ad_224 g_225 196) := by rw [← eT]; exact hD
  have hq_226 : ad_224 42 = q_22 := by rw [ead_224]; exact hq_215
  have hg_227 : g_225 42 = .inl (cs 5, 3, .inr (.inr (.inr (.inr (va_up (va_up (va_up (fun _ => none) (Int32.toNatClampNeg 0) (some q_27)) (Int32.toNatClampNeg 1) (some q_40)) (Int32.toNatClampNeg 2) (some q_53)))))) := by rw [eg_225]; exact hg_216
  have hq_228 : ad_224 104 = q_71 := by rw [ead_224]; exact hq_217
  have hg_229 : g_225 104 = .inl (cs 4, 4, .inr (.inr (.inr (.inr (va_up (va_up (va_up (va_up (fun _ => none) (Int32.toNatClampNeg 0) (some q_78)) (Int32.toNatClampNeg 1) (some q_94)) (Int32.toNatClampNeg 2) (some q_110)) (Int32.toNatClampNeg 3) (some q_126)))))) := by rw [eg_225]; exact hg_218
  refine r_putF X hnm0 iX11_init_11 tyX11 tyX11_ok nmX11 hP hD hS rfl 13 (by decide) (List.mem_of_getElem? (i := 124) rfl) rfl rfl (ty := .object "IcicleClock$Clerks") (v := .ref q_219) (by decide +kernel) rfl rfl (Nat.le_of_ble_eq_true rfl) dX11_init_197 (fun H locs hP hD hS => ?_)
  have hP : va_P D vwCl ((h0, .inr (11, [.ref q_1, .ref q_8, .ref q_15, .ref q_22, .ref q_66, .ref q_71, .ref q_142, .ref q_153, .ref q_164, .ref q_175, .ref q_186, .ref q_197, .ref q_208, .ref q_219])) :: wL ad_224 g_225 196) H := hP
  have hD : va_D A ((h0, .inr (11, [.ref q_1, .ref q_8, .ref q_15, .ref q_22, .ref q_66, .ref q_71, .ref q_142, .ref q_153, .ref q_164, .ref q_175, .ref q_186, .ref q_197, .ref q_208, .ref q_219])) :: wL ad_224 g_225 196) := hD
  have eW : (h0, .inr (11, [.ref q_1, .ref q_8, .ref q_15, .ref q_22, .ref q_66, .ref q_71, .ref q_142, .ref q_153, .ref q_164, .ref q_175, .ref q_186, .ref q_197, .ref q_208, .ref q_219])) :: wL ad_224 g_225 196 = wL (ct (fun _ => h0) 1 ad_224) (ct (fun _ => .inr (11, [.ref q_1, .ref q_8, .ref q_15, .ref q_22, .ref q_66, .ref q_71, .ref q_142, .ref q_153, .ref q_164, .ref q_175, .ref q_186, .ref q_197, .ref q_208, .ref q_219])) 1 g_225) 197 := by rw [wL_cons, show 1 + 196 = 197 from rfl]
  rw [eW] at hP hD
  refine W.widen (k := 196) (n := 3237) (Nat.le_of_ble_eq_true rfl) (Nat.le_of_ble_eq_true rfl) ?_
  refine hfin H locs 200 ls _ _ hP hD hS rfl ?_ dX11_init_200
  subst h_4
  subst h_11
  subst h_18
  subst h_30
  subst h_43
  subst h_56
  subst h_81
  subst h_97
  subst h_113
  subst h_129
  subst h_145
  subst h_156
  subst h_167
  subst h_178
  subst h_189
  subst h_200
  subst h_211
  subst h_222
  subst eg_225
  subst ead_224
  subst eg_214
  subst ead_213
  subst eg_203
  subst ead_202
  subst eg_192
  subst ead_191
  subst eg_181
  subst ead_180
  subst eg_170
  subst ead_169
  subst eg_159
  subst ead_158
  subst eg_148
  subst ead_147
  subst eg_137
  subst eg_132
  subst ead_131
  subst eg_121
  subst eg_116
  subst ead_115
  subst eg_105
  subst eg_100
  subst ead_99
  subst eg_89
  subst eg_84
  subst ead_83
  subst eg_73
  subst ead_72
  subst eg_68
  subst ead_67
  subst eg_62
  subst eg_59
  subst ead_58
  subst eg_49
  subst eg_46
  subst ead_45
  subst eg_36
  subst eg_33
  subst ead_32
  subst eg_24
  subst ead_23
  subst eg_21
  subst ead_20
  subst eg_14
  subst ead_13
  subst eg_7
  subst ead_6
  exact ⟨rfl, h_5.1, h_5.2, h_12.1, h_12.2.1, h_12.2.2.1, h_12.2.2.2.1, h_12.2.2.2.2.1, h_12.2.2.2.2.2.1, h_12.2.2.2.2.2.2.1, h_12.2.2.2.2.2.2.2.1, h_12.2.2.2.2.2.2.2.2.1, h_12.2.2.2.2.2.2.2.2.2.1, h_12.2.2.2.2.2.2.2.2.2.2, h_19.1, h_19.2.1, h_19.2.2.1, h_19.2.2.2.1, h_19.2.2.2.2.1, h_19.2.2.2.2.2.1, h_19.2.2.2.2.2.2.1, h_19.2.2.2.2.2.2.2.1, h_19.2.2.2.2.2.2.2.2.1, h_19.2.2.2.2.2.2.2.2.2.1, h_19.2.2.2.2.2.2.2.2.2.2, rfl, h_31.1, h_31.2.1, h_31.2.2.1, h_31.2.2.2.1, h_31.2.2.2.2.1, h_31.2.2.2.2.2.1, h_31.2.2.2.2.2.2.1, h_31.2.2.2.2.2.2.2.1, h_31.2.2.2.2.2.2.2.2.1, h_31.2.2.2.2.2.2.2.2.2.1, h_31.2.2.2.2.2.2.2.2.2.2, h_44.1, h_44.2.1, h_44.2.2.1, h_44.2.2.2.1, h_44.2.2.2.2.1, h_44.2.2.2.2.2.1, h_44.2.2.2.2.2.2.1, h_44.2.2.2.2.2.2.2.1, h_44.2.2.2.2.2.2.2.2.1, h_44.2.2.2.2.2.2.2.2.2.1, h_44.2.2.2.2.2.2.2.2.2.2, h_57.1, h_57.2.1, h_57.2.2.1, h_57.2.2.2.1, h_57.2.2.2.2.1, h_57.2.2.2.2.2.1, h_57.2.2.2.2.2.2.1, h_57.2.2.2.2.2.2.2.1, h_57.2.2.2.2.2.2.2.2.1, h_57.2.2.2.2.2.2.2.2.2.1, h_57.2.2.2.2.2.2.2.2.2.2, rfl, rfl, h_82.1, h_82.2, h_98.1, h_98.2, h_114.1, h_114.2, h_130.1, h_130.2, h_146⟩

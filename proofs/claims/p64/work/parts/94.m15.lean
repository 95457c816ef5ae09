theorem dX12_readNext_0 : decode cX12_readNext 0 = .ok (.aload_n 0, 1) := by decide +kernel
theorem dX12_readNext_1 : decode cX12_readNext 1 = .ok (.ldc 173, 2) := by decide +kernel
theorem dX12_readNext_3 : decode cX12_readNext 3 = .ok (.invokevirtual 140, 3) := by decide +kernel
theorem dX12_readNext_6 : decode cX12_readNext 6 = .ok (.ifCond .ne 30, 3) := by decide +kernel
theorem dX12_readNext_9 : decode cX12_readNext 9 = .ok (.aload_n 0, 1) := by decide +kernel
theorem dX12_readNext_10 : decode cX12_readNext 10 = .ok (.ldc 175, 2) := by decide +kernel
theorem dX12_readNext_12 : decode cX12_readNext 12 = .ok (.invokevirtual 140, 3) := by decide +kernel
theorem dX12_readNext_15 : decode cX12_readNext 15 = .ok (.ifCond .ne 21, 3) := by decide +kernel
theorem dX12_readNext_18 : decode cX12_readNext 18 = .ok (.aload_n 0, 1) := by decide +kernel
theorem dX12_readNext_19 : decode cX12_readNext 19 = .ok (.ldc 177, 2) := by decide +kernel
theorem dX12_readNext_21 : decode cX12_readNext 21 = .ok (.invokevirtual 140, 3) := by decide +kernel
theorem dX12_readNext_24 : decode cX12_readNext 24 = .ok (.ifCond .ne 12, 3) := by decide +kernel
theorem dX12_readNext_27 : decode cX12_readNext 27 = .ok (.aload_n 0, 1) := by decide +kernel
theorem dX12_readNext_28 : decode cX12_readNext 28 = .ok (.ldc 179, 2) := by decide +kernel
theorem dX12_readNext_30 : decode cX12_readNext 30 = .ok (.invokevirtual 140, 3) := by decide +kernel
theorem dX12_readNext_33 : decode cX12_readNext 33 = .ok (.ifCond .eq 7, 3) := by decide +kernel
theorem dX12_readNext_40 : decode cX12_readNext 40 = .ok (.iconst 0, 1) := by decide +kernel
theorem dX12_readNext_36 : decode cX12_readNext 36 = .ok (.iconst 1, 1) := by decide +kernel
theorem dX12_readNext_37 : decode cX12_readNext 37 = .ok (.goto 4, 3) := by decide +kernel
theorem dX12_readNext_41 : decode cX12_readNext 41 = .ok (.istore_n 1, 1) := by decide +kernel
theorem dX12_readNext_42 : decode cX12_readNext 42 = .ok (.iload_n 1, 1) := by decide +kernel
theorem dX12_readNext_43 : decode cX12_readNext 43 = .ok (.ifCond .ne 8, 3) := by decide +kernel
theorem dX12_readNext_46 : decode cX12_readNext 46 = .ok (.aload_n 0, 1) := by decide +kernel
theorem dX12_readNext_47 : decode cX12_readNext 47 = .ok (.iconst 1, 1) := by decide +kernel
theorem dX12_readNext_48 : decode cX12_readNext 48 = .ok (.invokevirtual 150, 3) := by decide +kernel
theorem dX12_readNext_51 : decode cX12_readNext 51 = .ok (.aload_n 0, 1) := by decide +kernel
theorem dX12_readNext_52 : decode cX12_readNext 52 = .ok (.ldc 173, 2) := by decide +kernel
theorem dX12_readNext_54 : decode cX12_readNext 54 = .ok (.invokevirtual 140, 3) := by decide +kernel
theorem dX12_readNext_57 : decode cX12_readNext 57 = .ok (.ifCond .eq 14, 3) := by decide +kernel
theorem dX12_readNext_60 : decode cX12_readNext 60 = .ok (.aload_n 0, 1) := by decide +kernel
theorem dX12_readNext_61 : decode cX12_readNext 61 = .ok (.getfield 31, 3) := by decide +kernel
theorem dX12_readNext_64 : decode cX12_readNext 64 = .ok (.iconst 3, 1) := by decide +kernel
theorem dX12_readNext_65 : decode cX12_readNext 65 = .ok (.iaload, 1) := by decide +kernel
theorem dX12_readNext_66 : decode cX12_readNext 66 = .ok (.bipush 14, 2) := by decide +kernel
theorem dX12_readNext_68 : decode cX12_readNext 68 = .ok (.if_icmp .eq 22, 3) := by decide +kernel
theorem dX12_readNext_71 : decode cX12_readNext 71 = .ok (.aload_n 0, 1) := by decide +kernel
theorem dX12_readNext_72 : decode cX12_readNext 72 = .ok (.ldc 175, 2) := by decide +kernel
theorem dX12_readNext_74 : decode cX12_readNext 74 = .ok (.invokevirtual 140, 3) := by decide +kernel
theorem dX12_readNext_77 : decode cX12_readNext 77 = .ok (.ifCond .eq 18, 3) := by decide +kernel
theorem dX12_readNext_80 : decode cX12_readNext 80 = .ok (.aload_n 0, 1) := by decide +kernel
theorem dX12_readNext_81 : decode cX12_readNext 81 = .ok (.getfield 31, 3) := by decide +kernel
theorem dX12_readNext_84 : decode cX12_readNext 84 = .ok (.iconst 4, 1) := by decide +kernel
theorem dX12_readNext_85 : decode cX12_readNext 85 = .ok (.iaload, 1) := by decide +kernel
theorem dX12_readNext_86 : decode cX12_readNext 86 = .ok (.iconst 5, 1) := by decide +kernel
theorem dX12_readNext_87 : decode cX12_readNext 87 = .ok (.if_icmp .ne 8, 3) := by decide +kernel
theorem dX12_readNext_90 : decode cX12_readNext 90 = .ok (.aload_n 0, 1) := by decide +kernel
theorem dX12_readNext_91 : decode cX12_readNext 91 = .ok (.iconst 3, 1) := by decide +kernel
theorem dX12_readNext_92 : decode cX12_readNext 92 = .ok (.invokevirtual 150, 3) := by decide +kernel
theorem dX12_readNext_95 : decode cX12_readNext 95 = .ok (.aload_n 0, 1) := by decide +kernel
theorem dX12_readNext_96 : decode cX12_readNext 96 = .ok (.ldc 177, 2) := by decide +kernel
theorem dX12_readNext_98 : decode cX12_readNext 98 = .ok (.invokevirtual 140, 3) := by decide +kernel
theorem dX12_readNext_101 : decode cX12_readNext 101 = .ok (.ifCond .eq 14, 3) := by decide +kernel
theorem dX12_readNext_104 : decode cX12_readNext 104 = .ok (.aload_n 0, 1) := by decide +kernel
theorem dX12_readNext_105 : decode cX12_readNext 105 = .ok (.getfield 31, 3) := by decide +kernel
theorem dX12_readNext_108 : decode cX12_readNext 108 = .ok (.iconst 5, 1) := by decide +kernel
theorem dX12_readNext_109 : decode cX12_readNext 109 = .ok (.iaload, 1) := by decide +kernel
theorem dX12_readNext_110 : decode cX12_readNext 110 = .ok (.bipush 8, 2) := by decide +kernel
theorem dX12_readNext_112 : decode cX12_readNext 112 = .ok (.if_icmp .eq 24, 3) := by decide +kernel
theorem dX12_readNext_115 : decode cX12_readNext 115 = .ok (.aload_n 0, 1) := by decide +kernel
theorem dX12_readNext_116 : decode cX12_readNext 116 = .ok (.ldc 179, 2) := by decide +kernel
theorem dX12_readNext_118 : decode cX12_readNext 118 = .ok (.invokevirtual 140, 3) := by decide +kernel
theorem dX12_readNext_121 : decode cX12_readNext 121 = .ok (.ifCond .eq 20, 3) := by decide +kernel
theorem dX12_readNext_124 : decode cX12_readNext 124 = .ok (.aload_n 0, 1) := by decide +kernel
theorem dX12_readNext_125 : decode cX12_readNext 125 = .ok (.getfield 31, 3) := by decide +kernel
theorem dX12_readNext_128 : decode cX12_readNext 128 = .ok (.bipush 6, 2) := by decide +kernel
theorem dX12_readNext_130 : decode cX12_readNext 130 = .ok (.iaload, 1) := by decide +kernel
theorem dX12_readNext_131 : decode cX12_readNext 131 = .ok (.bipush 6, 2) := by decide +kernel
theorem dX12_readNext_133 : decode cX12_readNext 133 = .ok (.if_icmp .ne 8, 3) := by decide +kernel
theorem dX12_readNext_136 : decode cX12_readNext 136 = .ok (.aload_n 0, 1) := by decide +kernel
theorem dX12_readNext_137 : decode cX12_readNext 137 = .ok (.iconst 3, 1) := by decide +kernel
theorem dX12_readNext_138 : decode cX12_readNext 138 = .ok (.invokevirtual 150, 3) := by decide +kernel
theorem dX12_readNext_141 : decode cX12_readNext 141 = .ok (.aload_n 0, 1) := by decide +kernel
theorem dX12_readNext_142 : decode cX12_readNext 142 = .ok (.invokevirtual 126, 3) := by decide +kernel
theorem dX12_readNext_145 : decode cX12_readNext 145 = .ok (.ifCond .ne 4, 3) := by decide +kernel
theorem dX12_readNext_148 : decode cX12_readNext 148 = .ok (.return_, 1) := by decide +kernel
theorem dX12_readNext_149 : decode cX12_readNext 149 = .ok (.aload_n 0, 1) := by decide +kernel
theorem dX12_readNext_150 : decode cX12_readNext 150 = .ok (.ldc 173, 2) := by decide +kernel
theorem dX12_readNext_152 : decode cX12_readNext 152 = .ok (.invokevirtual 147, 3) := by decide +kernel
theorem dX12_readNext_155 : decode cX12_readNext 155 = .ok (.ifCond .eq 10, 3) := by decide +kernel
theorem dX12_readNext_158 : decode cX12_readNext 158 = .ok (.aload_n 0, 1) := by decide +kernel
theorem dX12_readNext_159 : decode cX12_readNext 159 = .ok (.invokevirtual 181, 3) := by decide +kernel
theorem dX12_readNext_162 : decode cX12_readNext 162 = .ok (.goto 129, 3) := by decide +kernel
theorem dX12_readNext_165 : decode cX12_readNext 165 = .ok (.aload_n 0, 1) := by decide +kernel
theorem dX12_readNext_166 : decode cX12_readNext 166 = .ok (.ldc 175, 2) := by decide +kernel
theorem dX12_readNext_168 : decode cX12_readNext 168 = .ok (.invokevirtual 147, 3) := by decide +kernel
theorem dX12_readNext_171 : decode cX12_readNext 171 = .ok (.ifCond .eq 38, 3) := by decide +kernel
theorem dX12_readNext_174 : decode cX12_readNext 174 = .ok (.aload_n 0, 1) := by decide +kernel
theorem dX12_readNext_175 : decode cX12_readNext 175 = .ok (.getfield 31, 3) := by decide +kernel
theorem dX12_readNext_178 : decode cX12_readNext 178 = .ok (.bipush 37, 2) := by decide +kernel
theorem dX12_readNext_180 : decode cX12_readNext 180 = .ok (.aload_n 0, 1) := by decide +kernel
theorem dX12_readNext_181 : decode cX12_readNext 181 = .ok (.getfield 31, 3) := by decide +kernel
theorem dX12_readNext_184 : decode cX12_readNext 184 = .ok (.iconst 4, 1) := by decide +kernel
theorem dX12_readNext_185 : decode cX12_readNext 185 = .ok (.iaload, 1) := by decide +kernel
theorem dX12_readNext_186 : decode cX12_readNext 186 = .ok (.iadd, 1) := by decide +kernel
theorem dX12_readNext_187 : decode cX12_readNext 187 = .ok (.aload_n 0, 1) := by decide +kernel
theorem dX12_readNext_188 : decode cX12_readNext 188 = .ok (.ldc 184, 2) := by decide +kernel
theorem dX12_readNext_190 : decode cX12_readNext 190 = .ok (.iconst 0, 1) := by decide +kernel
theorem dX12_readNext_191 : decode cX12_readNext 191 = .ok (.iconst 4, 1) := by decide +kernel
theorem dX12_readNext_192 : decode cX12_readNext 192 = .ok (.invokevirtual 166, 3) := by decide +kernel
theorem dX12_readNext_195 : decode cX12_readNext 195 = .ok (.iastore, 1) := by decide +kernel
theorem dX12_readNext_196 : decode cX12_readNext 196 = .ok (.aload_n 0, 1) := by decide +kernel
theorem dX12_readNext_197 : decode cX12_readNext 197 = .ok (.getfield 31, 3) := by decide +kernel
theorem dX12_readNext_200 : decode cX12_readNext 200 = .ok (.iconst 4, 1) := by decide +kernel
theorem dX12_readNext_201 : decode cX12_readNext 201 = .ok (.dup2, 1) := by decide +kernel
theorem dX12_readNext_202 : decode cX12_readNext 202 = .ok (.iaload, 1) := by decide +kernel
theorem dX12_readNext_203 : decode cX12_readNext 203 = .ok (.iconst 1, 1) := by decide +kernel
theorem dX12_readNext_204 : decode cX12_readNext 204 = .ok (.iadd, 1) := by decide +kernel
theorem dX12_readNext_205 : decode cX12_readNext 205 = .ok (.iastore, 1) := by decide +kernel
theorem dX12_readNext_206 : decode cX12_readNext 206 = .ok (.goto 85, 3) := by decide +kernel
theorem dX12_readNext_209 : decode cX12_readNext 209 = .ok (.aload_n 0, 1) := by decide +kernel
theorem dX12_readNext_210 : decode cX12_readNext 210 = .ok (.ldc 177, 2) := by decide +kernel
theorem dX12_readNext_212 : decode cX12_readNext 212 = .ok (.invokevirtual 147, 3) := by decide +kernel
theorem dX12_readNext_215 : decode cX12_readNext 215 = .ok (.ifCond .eq 10, 3) := by decide +kernel
theorem dX12_readNext_218 : decode cX12_readNext 218 = .ok (.aload_n 0, 1) := by decide +kernel
theorem dX12_readNext_219 : decode cX12_readNext 219 = .ok (.invokevirtual 186, 3) := by decide +kernel
theorem dX12_readNext_222 : decode cX12_readNext 222 = .ok (.goto 69, 3) := by decide +kernel
theorem dX12_readNext_225 : decode cX12_readNext 225 = .ok (.aload_n 0, 1) := by decide +kernel
theorem dX12_readNext_226 : decode cX12_readNext 226 = .ok (.invokevirtual 144, 3) := by decide +kernel
theorem dX12_readNext_229 : decode cX12_readNext 229 = .ok (.bipush 66, 2) := by decide +kernel
theorem dX12_readNext_231 : decode cX12_readNext 231 = .ok (.iconst 2, 1) := by decide +kernel
theorem dX12_readNext_232 : decode cX12_readNext 232 = .ok (.aload_n 0, 1) := by decide +kernel
theorem dX12_readNext_233 : decode cX12_readNext 233 = .ok (.getfield 31, 3) := by decide +kernel
theorem dX12_readNext_236 : decode cX12_readNext 236 = .ok (.bipush 6, 2) := by decide +kernel
theorem dX12_readNext_238 : decode cX12_readNext 238 = .ok (.iaload, 1) := by decide +kernel
theorem dX12_readNext_239 : decode cX12_readNext 239 = .ok (.imul, 1) := by decide +kernel
theorem dX12_readNext_240 : decode cX12_readNext 240 = .ok (.iadd, 1) := by decide +kernel
theorem dX12_readNext_241 : decode cX12_readNext 241 = .ok (.istore_n 2, 1) := by decide +kernel
theorem dX12_readNext_242 : decode cX12_readNext 242 = .ok (.aload_n 0, 1) := by decide +kernel
theorem dX12_readNext_243 : decode cX12_readNext 243 = .ok (.getfield 31, 3) := by decide +kernel
theorem dX12_readNext_246 : decode cX12_readNext 246 = .ok (.iload_n 2, 1) := by decide +kernel
theorem dX12_readNext_247 : decode cX12_readNext 247 = .ok (.aload_n 0, 1) := by decide +kernel
theorem dX12_readNext_248 : decode cX12_readNext 248 = .ok (.ldc 171, 2) := by decide +kernel
theorem dX12_readNext_250 : decode cX12_readNext 250 = .ok (.iconst 0, 1) := by decide +kernel
theorem dX12_readNext_251 : decode cX12_readNext 251 = .ok (.bipush 23, 2) := by decide +kernel
theorem dX12_readNext_253 : decode cX12_readNext 253 = .ok (.invokevirtual 166, 3) := by decide +kernel
theorem dX12_readNext_256 : decode cX12_readNext 256 = .ok (.iastore, 1) := by decide +kernel
theorem dX12_readNext_257 : decode cX12_readNext 257 = .ok (.aload_n 0, 1) := by decide +kernel
theorem dX12_readNext_258 : decode cX12_readNext 258 = .ok (.getfield 31, 3) := by decide +kernel
theorem dX12_readNext_261 : decode cX12_readNext 261 = .ok (.iload_n 2, 1) := by decide +kernel
theorem dX12_readNext_262 : decode cX12_readNext 262 = .ok (.iconst 1, 1) := by decide +kernel
theorem dX12_readNext_263 : decode cX12_readNext 263 = .ok (.iadd, 1) := by decide +kernel
theorem dX12_readNext_264 : decode cX12_readNext 264 = .ok (.aload_n 0, 1) := by decide +kernel
theorem dX12_readNext_265 : decode cX12_readNext 265 = .ok (.ldc 189, 2) := by decide +kernel
theorem dX12_readNext_267 : decode cX12_readNext 267 = .ok (.iconst 0, 1) := by decide +kernel
theorem dX12_readNext_268 : decode cX12_readNext 268 = .ok (.aload_n 0, 1) := by decide +kernel
theorem dX12_readNext_269 : decode cX12_readNext 269 = .ok (.getfield 31, 3) := by decide +kernel
theorem dX12_readNext_272 : decode cX12_readNext 272 = .ok (.iconst 3, 1) := by decide +kernel
theorem dX12_readNext_273 : decode cX12_readNext 273 = .ok (.iaload, 1) := by decide +kernel
theorem dX12_readNext_274 : decode cX12_readNext 274 = .ok (.iconst 1, 1) := by decide +kernel
theorem dX12_readNext_275 : decode cX12_readNext 275 = .ok (.isub, 1) := by decide +kernel
theorem dX12_readNext_276 : decode cX12_readNext 276 = .ok (.invokevirtual 166, 3) := by decide +kernel
theorem dX12_readNext_279 : decode cX12_readNext 279 = .ok (.iastore, 1) := by decide +kernel
theorem dX12_readNext_280 : decode cX12_readNext 280 = .ok (.aload_n 0, 1) := by decide +kernel
theorem dX12_readNext_281 : decode cX12_readNext 281 = .ok (.getfield 31, 3) := by decide +kernel
theorem dX12_readNext_284 : decode cX12_readNext 284 = .ok (.bipush 6, 2) := by decide +kernel
theorem dX12_readNext_286 : decode cX12_readNext 286 = .ok (.dup2, 1) := by decide +kernel
theorem dX12_readNext_287 : decode cX12_readNext 287 = .ok (.iaload, 1) := by decide +kernel
theorem dX12_readNext_288 : decode cX12_readNext 288 = .ok (.iconst 1, 1) := by decide +kernel
theorem dX12_readNext_289 : decode cX12_readNext 289 = .ok (.iadd, 1) := by decide +kernel
theorem dX12_readNext_290 : decode cX12_readNext 290 = .ok (.iastore, 1) := by decide +kernel
theorem dX12_readNext_291 : decode cX12_readNext 291 = .ok (.return_, 1) := by decide +kernel
noncomputable def vX12_readNext : List Cond := .code yX12_readNext cX12_readNext 3 none :: (([.methodLink RX12 140 yX12_is, .instanceMethod yX12_is, .selects RX12 yX12_is yX12_is, .initialized RX12, .methodLink RX12 150 yX12_errs, .instanceMethod yX12_errs, .selects RX12 yX12_errs yX12_errs, .fieldLink RX12 31 "IcicleClockModel" "fresh" "[I", .methodLink RX12 126 yX12_good, .instanceMethod yX12_good, .selects RX12 yX12_good yX12_good, .methodLink RX12 147 yX12_takes, .instanceMethod yX12_takes, .selects RX12 yX12_takes yX12_takes, .methodLink RX12 181 yX12_readDay, .instanceMethod yX12_readDay, .selects RX12 yX12_readDay yX12_readDay, .methodLink RX12 166 yX12_told, .instanceMethod yX12_told, .selects RX12 yX12_told yX12_told, .methodLink RX12 186 yX12_readIcicle, .instanceMethod yX12_readIcicle, .selects RX12 yX12_readIcicle yX12_readIcicle, .methodLink RX12 144 yX12_advance, .instanceMethod yX12_advance, .selects RX12 yX12_advance yX12_advance] : List Cond) ++ (wsX120 ++ (vX12_is ++ (vX12_errs ++ (vX12_good ++ (vX12_takes ++ (vX12_readDay ++ (vX12_told ++ (vX12_readIcicle ++ vX12_advance)))))))))
theorem iX12_readNext_12 : ∀ w ∈ wsX120, w ∈ vX12_readNext := fun _ h => List.mem_cons_of_mem _ (List.mem_append_right _ (List.mem_append_left _ h))
theorem gs_X12_readNext : Gd vX12_readNext := Gd.cons (by decide +kernel) (Gd.app (Gd.r (by decide +kernel)) (Gd.app gwX_12 (Gd.app gs_X12_is (Gd.app gs_X12_errs (Gd.app gs_X12_good (Gd.app gs_X12_takes (Gd.app gs_X12_readDay (Gd.app gs_X12_told (Gd.app gs_X12_readIcicle gs_X12_advance)))))))))
theorem gg_X12_readNext_X12_is : GoodIn vX12_readNext (wsV RX12 140 RX12 yX12_is vX12_is) := goodIn_app (goodIn_r _ [1, 2, 3, 4] (by decide +kernel) (by decide +kernel)) (fun w h => ⟨List.mem_cons_of_mem _ (List.mem_append_right _ (List.mem_append_right _ (List.mem_append_left _ h))), gs_X12_is w h⟩)
theorem gg_X12_readNext_X12_errs : GoodIn vX12_readNext (wsV RX12 150 RX12 yX12_errs vX12_errs) := goodIn_app (goodIn_r _ [5, 6, 7, 4] (by decide +kernel) (by decide +kernel)) (fun w h => ⟨List.mem_cons_of_mem _ (List.mem_append_right _ (List.mem_append_right _ (List.mem_append_right _ (List.mem_append_left _ h)))), gs_X12_errs w h⟩)
theorem gg_X12_readNext_X12_good : GoodIn vX12_readNext (wsV RX12 126 RX12 yX12_good vX12_good) := goodIn_app (goodIn_r _ [9, 10, 11, 4] (by decide +kernel) (by decide +kernel)) (fun w h => ⟨List.mem_cons_of_mem _ (List.mem_append_right _ (List.mem_append_right _ (List.mem_append_right _ (List.mem_append_right _ (List.mem_append_left _ h))))), gs_X12_good w h⟩)
theorem gg_X12_readNext_X12_takes : GoodIn vX12_readNext (wsV RX12 147 RX12 yX12_takes vX12_takes) := goodIn_app (goodIn_r _ [12, 13, 14, 4] (by decide +kernel) (by decide +kernel)) (fun w h => ⟨List.mem_cons_of_mem _ (List.mem_append_right _ (List.mem_append_right _ (List.mem_append_right _ (List.mem_append_right _ (List.mem_append_right _ (List.mem_append_left _ h)))))), gs_X12_takes w h⟩)
theorem gg_X12_readNext_X12_readDay : GoodIn vX12_readNext (wsV RX12 181 RX12 yX12_readDay vX12_readDay) := goodIn_app (goodIn_r _ [15, 16, 17, 4] (by decide +kernel) (by decide +kernel)) (fun w h => ⟨List.mem_cons_of_mem _ (List.mem_append_right _ (List.mem_append_right _ (List.mem_append_right _ (List.mem_append_right _ (List.mem_append_right _ (List.mem_append_right _ (List.mem_append_left _ h))))))), gs_X12_readDay w h⟩)
theorem gg_X12_readNext_X12_told : GoodIn vX12_readNext (wsV RX12 166 RX12 yX12_told vX12_told) := goodIn_app (goodIn_r _ [18, 19, 20, 4] (by decide +kernel) (by decide +kernel)) (fun w h => ⟨List.mem_cons_of_mem _ (List.mem_append_right _ (List.mem_append_right _ (List.mem_append_right _ (List.mem_append_right _ (List.mem_append_right _ (List.mem_append_right _ (List.mem_append_right _ (List.mem_append_left _ h)))))))), gs_X12_told w h⟩)
theorem gg_X12_readNext_X12_readIcicle : GoodIn vX12_readNext (wsV RX12 186 RX12 yX12_readIcicle vX12_readIcicle) := goodIn_app (goodIn_r _ [21, 22, 23, 4] (by decide +kernel) (by decide +kernel)) (fun w h => ⟨List.mem_cons_of_mem _ (List.mem_append_right _ (List.mem_append_right _ (List.mem_append_right _ (List.mem_append_right _ (List.mem_append_right _ (List.mem_append_right _ (List.mem_append_right _ (List.mem_append_right _ (List.mem_append_left _ h))))))))), gs_X12_readIcicle w h⟩)
theorem gg_X12_readNext_X12_advance : GoodIn vX12_readNext (wsV RX12 144 RX12 yX12_advance vX12_advance) := goodIn_app (goodIn_r _ [24, 25, 26, 4] (by decide +kernel) (by decide +kernel)) (fun w h => ⟨List.mem_cons_of_mem _ (List.mem_append_right _ (List.mem_append_right _ (List.mem_append_right _ (List.mem_append_right _ (List.mem_append_right _ (List.mem_append_right _ (List.mem_append_right _ (List.mem_append_right _ (List.mem_append_right _ (h)))))))))), gs_X12_advance w h⟩)
set_option maxHeartbeats 4000000 in
set_option maxRecDepth 100000 in
theorem s_X12_readNext (l : Launch) (D : va_G) (cs : Nat → ClassId) (ad : Nat → Nat) (kS : kSt) (K : sK) (hKO : KO K) (hj : wJ ad 218) (g : Nat → va_E) (hW : WF (shp ad K) ad cs g) : sV l yX12_readNext vX12_readNext { frames := 9, cells := 0, slots := 0, locals := 195 } D cs ad kS [.ref (ad 197)] g (fun g2 => WF (shp ad K) ad cs g2 ∧ (∀ j, j ≠ 197 ∧ j ≠ 203 → g2 j = g j) ∧ (gI g 197 8 ≤ gI g2 197 8)) := by
  refine Met.startS (cc := cX12_readNext) (maxL := 3) (ret := none) RX12 rfl (by decide) rfl (Nat.le_of_ble_eq_true rfl) ?_
  intro p e s m below meth c ls X Z hP hl
  have hx := X.1
  have hb := X.2.1
  have hS : va_S (wA ad 218) s.heap s.heap [] := va_S.rf
  have hA : ∀ i, i < 218 → wA ad 218 (ad i) := fun i h => ⟨i, h, rfl⟩
  have hfr : ∀ j, j ≠ 197 ∧ j ≠ 203 → g j = g j := fun _ _ => rfl
  have hl : lv_has ls 3 [(0, .ref (ad 197))] := hl
  obtain ⟨fsc_1, hgc_1, hOc_1⟩ := hW.obj (i := 197) (by decide) (sh_197 ad K)
  obtain ⟨x_3, hk_2, -⟩ := hOc_1.int 12 rfl
  have hgix_3 := gI_of hgc_1 hk_2
  obtain ⟨x_5, hk_4, hlx_5, hhx_5⟩ := hOc_1.int 8 rfl
  have hgix_5 := gI_of hgc_1 hk_4
  refine lv_aload_n hx hb dX12_readNext_0 rfl (lv_at hl 0 rfl) ?_
  refine va_ldcS hx hb X.2.2.2.2.2.1 (sq_12_173 Z) dX12_readNext_1 ?_
  have hgi_6 := gI_of hgc_1 hk_2
  have hgi_7 := gI_of hgc_1 hk_4
  refine s_calli (q := (RX12, TX12, 40)) (As := [.ref (kS.1 4)]) (rest := []) X Z (s_X12_is l D cs ad kS K hKO hj g hW 4 (by omega)) (cwV 1 X.2.2.2.2.1 gg_X12_readNext_X12_is rfl rfl rfl (by decide +kernel) ⟨Nat.le_of_ble_eq_true rfl, Nat.le_of_ble_eq_true rfl⟩) (by decide) hgc_1 rfl hP hA hS.2.1 hS rfl hl.1 rfl (Nat.le_of_ble_eq_true rfl) dX12_readNext_3 ⟨Nat.le_of_ble_eq_true rfl, Nat.le_of_ble_eq_true rfl⟩ (fun r_10 g_9 H locs hw_8 hP hS => ?_)
  obtain ⟨hw_8g, hw_8⟩ := hw_8
  rw [hw_8g] at hP
  have HJ41 : ∀ (v41_s0 : Int32) (G41 : Nat → va_E) (H : Heap) (locs : List Loc) (ls : Array Slot), (0 ≤ v41_s0.toInt ∧ v41_s0.toInt ≤ 1) → gI g 197 8 ≤ gI G41 197 8 → (v41_s0.toInt ≠ 0 → 1 ≤ isI kS G41 4 + isI kS G41 7 + isI kS G41 9 + isI kS G41 13) → WF (shp ad K) ad cs G41 → (∀ j, j ≠ 197 ∧ j ≠ 203 → G41 j = g j) → G41 197 = .inr (12, fsc_1) → va_P D vwCl (wL ad G41 218) H → va_S (wA ad 218) s.heap H locs → lv_has ls 3 [(0, .ref (ad 197))] → W p l e ({ frames := 9, cells := 0, slots := 0, locals := 195 } : Room) s m ([.ref (ad 197)] : List Value).toArray below meth c H locs 0 0 (MQ below (qV D ad 218 (fun g2 => WF (shp ad K) ad cs g2 ∧ (∀ j, j ≠ 197 ∧ j ≠ 203 → g2 j = g j) ∧ (gI g 197 8 ≤ gI g2 197 8))) ([.ref (ad 197)] : List Value).toArray s 0 0 (wA ad 218)) (F0 m 41 ls [.int v41_s0]) := by
    intro v41_s0 G41 H locs ls hv41_0 he41_0 he41_1 hW41 hfr41 hg41_0 hP hS hl
    try clear hw_8
    have hgi_11 := gI_of hg41_0 hk_2
    have hgi_12 := gI_of hg41_0 hk_4
    refine lv_istore_n (lv' := [(1, .int v41_s0), (0, .ref (ad 197))]) hx hb dX12_readNext_41 rfl hl (by decide) rfl (fun ls hl => ?_)
    refine lv_iload_n hx hb dX12_readNext_42 rfl (lv_at hl 0 rfl) ?_
    have HJ51 : ∀ (G51 : Nat → va_E) (H : Heap) (locs : List Loc) (ls : Array Slot), gI g 197 8 ≤ gI G51 197 8 → (gI G51 197 12 ≠ 0 ∨ 1 ≤ isI kS G51 4 + isI kS G51 7 + isI kS G51 9 + isI kS G51 13) → WF (shp ad K) ad cs G51 → (∀ j, j ≠ 197 ∧ j ≠ 203 → G51 j = g j) → va_P D vwCl (wL ad G51 218) H → va_S (wA ad 218) s.heap H locs → lv_has ls 3 [(0, .ref (ad 197))] → W p l e ({ frames := 9, cells := 0, slots := 0, locals := 195 } : Room) s m ([.ref (ad 197)] : List Value).toArray below meth c H locs 0 0 (MQ below (qV D ad 218 (fun g2 => WF (shp ad K) ad cs g2 ∧ (∀ j, j ≠ 197 ∧ j ≠ 203 → g2 j = g j) ∧ (gI g 197 8 ≤ gI g2 197 8))) ([.ref (ad 197)] : List Value).toArray s 0 0 (wA ad 218)) (F0 m 51 ls []) := by
      intro G51 H locs ls he51_0 he51_1 hW51 hfr51 hP hS hl
      try clear hw_8
      try clear he41_0
      try clear he41_1
      obtain ⟨fsc_13, hgc_13, hOc_13⟩ := hW51.obj (i := 197) (by decide) (sh_197 ad K)
      obtain ⟨x_15, hk_14, -⟩ := hOc_13.int 12 rfl
      have hgix_15 := gI_of hgc_13 hk_14
      obtain ⟨x_18, hk_17, hlx_18, hhx_18⟩ := hOc_13.int 8 rfl
      have hgix_18 := gI_of hgc_13 hk_17
      refine lv_aload_n hx hb dX12_readNext_51 rfl (lv_at hl 0 rfl) ?_
      refine va_ldcS hx hb X.2.2.2.2.2.1 (sq_12_173 Z) dX12_readNext_52 ?_
      have hgi_20 := gI_of hgc_13 hk_14
      have hgi_21 := gI_of hgc_13 hk_17
      refine s_calli (q := (RX12, TX12, 40)) (As := [.ref (kS.1 4)]) (rest := []) X Z (s_X12_is l D cs ad kS K hKO hj G51 hW51 4 (by omega)) (cwV 1 X.2.2.2.2.1 gg_X12_readNext_X12_is rfl rfl rfl (by decide +kernel) ⟨Nat.le_of_ble_eq_true rfl, Nat.le_of_ble_eq_true rfl⟩) (by decide) hgc_13 rfl hP hA hS.2.1 hS rfl hl.1 rfl (Nat.le_of_ble_eq_true rfl) dX12_readNext_54 ⟨Nat.le_of_ble_eq_true rfl, Nat.le_of_ble_eq_true rfl⟩ (fun r_24 g_23 H locs hw_22 hP hS => ?_)
      obtain ⟨hw_22g, hw_22⟩ := hw_22
      rw [hw_22g] at hP
      have HJ95 : ∀ (G95 : Nat → va_E) (H : Heap) (locs : List Loc) (ls : Array Slot), gI g 197 8 ≤ gI G95 197 8 → (gI G95 197 12 ≠ 0 ∨ 1 ≤ isI kS G95 4 + isI kS G95 7 + isI kS G95 9 + isI kS G95 13) → (gI G95 197 12 ≠ 0 ∨ ((isI kS G95 4 = 0 ∨ gA G95 203 3 ≠ 14) ∧ (isI kS G95 7 = 0 ∨ gA G95 203 4 ≠ 5))) → WF (shp ad K) ad cs G95 → (∀ j, j ≠ 197 ∧ j ≠ 203 → G95 j = g j) → va_P D vwCl (wL ad G95 218) H → va_S (wA ad 218) s.heap H locs → lv_has ls 3 [(0, .ref (ad 197))] → W p l e ({ frames := 9, cells := 0, slots := 0, locals := 195 } : Room) s m ([.ref (ad 197)] : List Value).toArray below meth c H locs 0 0 (MQ below (qV D ad 218 (fun g2 => WF (shp ad K) ad cs g2 ∧ (∀ j, j ≠ 197 ∧ j ≠ 203 → g2 j = g j) ∧ (gI g 197 8 ≤ gI g2 197 8))) ([.ref (ad 197)] : List Value).toArray s 0 0 (wA ad 218)) (F0 m 95 ls []) := by
        intro G95 H locs ls he95_0 he95_1 he95_2 hW95 hfr95 hP hS hl
        try clear hw_8
        try clear he41_0
        try clear he41_1
        try clear he51_0
        try clear he51_1
        try clear hw_22
        obtain ⟨fsc_25, hgc_25, hOc_25⟩ := hW95.obj (i := 197) (by decide) (sh_197 ad K)
        obtain ⟨x_27, hk_26, -⟩ := hOc_25.int 12 rfl
        have hgix_27 := gI_of hgc_25 hk_26
        obtain ⟨x_30, hk_29, hlx_30, hhx_30⟩ := hOc_25.int 8 rfl
        have hgix_30 := gI_of hgc_25 hk_29
        refine lv_aload_n hx hb dX12_readNext_95 rfl (lv_at hl 0 rfl) ?_
        refine va_ldcS hx hb X.2.2.2.2.2.1 (sq_12_177 Z) dX12_readNext_96 ?_
        have hgi_32 := gI_of hgc_25 hk_26
        have hgi_33 := gI_of hgc_25 hk_29
        refine s_calli (q := (RX12, TX12, 40)) (As := [.ref (kS.1 9)]) (rest := []) X Z (s_X12_is l D cs ad kS K hKO hj G95 hW95 9 (by omega)) (cwV 1 X.2.2.2.2.1 gg_X12_readNext_X12_is rfl rfl rfl (by decide +kernel) ⟨Nat.le_of_ble_eq_true rfl, Nat.le_of_ble_eq_true rfl⟩) (by decide) hgc_25 rfl hP hA hS.2.1 hS rfl hl.1 rfl (Nat.le_of_ble_eq_true rfl) dX12_readNext_98 ⟨Nat.le_of_ble_eq_true rfl, Nat.le_of_ble_eq_true rfl⟩ (fun r_36 g_35 H locs hw_34 hP hS => ?_)
        obtain ⟨hw_34g, hw_34⟩ := hw_34
        rw [hw_34g] at hP
        have HJ141 : ∀ (G141 : Nat → va_E) (H : Heap) (locs : List Loc) (ls : Array Slot), gI g 197 8 ≤ gI G141 197 8 → (gI G141 197 12 ≠ 0 ∨ 1 ≤ isI kS G141 4 + isI kS G141 7 + isI kS G141 9 + isI kS G141 13) → (gI G141 197 12 ≠ 0 ∨ ((isI kS G141 4 = 0 ∨ gA G141 203 3 ≠ 14) ∧ (isI kS G141 7 = 0 ∨ gA G141 203 4 ≠ 5) ∧ (isI kS G141 9 = 0 ∨ gA G141 203 5 ≠ 8) ∧ (isI kS G141 13 = 0 ∨ gA G141 203 6 ≠ 6))) → WF (shp ad K) ad cs G141 → (∀ j, j ≠ 197 ∧ j ≠ 203 → G141 j = g j) → va_P D vwCl (wL ad G141 218) H → va_S (wA ad 218) s.heap H locs → lv_has ls 3 [(0, .ref (ad 197))] → W p l e ({ frames := 9, cells := 0, slots := 0, locals := 195 } : Room) s m ([.ref (ad 197)] : List Value).toArray below meth c H locs 0 0 (MQ below (qV D ad 218 (fun g2 => WF (shp ad K) ad cs g2 ∧ (∀ j, j ≠ 197 ∧ j ≠ 203 → g2 j = g j) ∧ (gI g 197 8 ≤ gI g2 197 8))) ([.ref (ad 197)] : List Value).toArray s 0 0 (wA ad 218)) (F0 m 141 ls []) := by
          intro G141 H locs ls he141_0 he141_1 he141_2 hW141 hfr141 hP hS hl
          try clear hw_8
          try clear he41_0
          try clear he41_1
          try clear he51_0
          try clear he51_1
          try clear hw_22
          try clear he95_0
          try clear he95_1
          try clear he95_2
          try clear hw_34
          obtain ⟨fsc_37, hgc_37, hOc_37⟩ := hW141.obj (i := 197) (by decide) (sh_197 ad K)
          obtain ⟨x_39, hk_38, -⟩ := hOc_37.int 12 rfl
          have hgix_39 := gI_of hgc_37 hk_38
          obtain ⟨x_42, hk_41, hlx_42, hhx_42⟩ := hOc_37.int 8 rfl
          have hgix_42 := gI_of hgc_37 hk_41
          refine lv_aload_n hx hb dX12_readNext_141 rfl (lv_at hl 0 rfl) ?_
          have hgi_44 := gI_of hgc_37 hk_38
          have hgi_45 := gI_of hgc_37 hk_41
          refine s_calli (q := (RX12, TX12, 40)) (As := []) (rest := []) X Z (s_X12_good l D cs ad kS K hKO hj G141 hW141) (cwV 0 X.2.2.2.2.1 gg_X12_readNext_X12_good rfl rfl rfl (by decide +kernel) ⟨Nat.le_of_ble_eq_true rfl, Nat.le_of_ble_eq_true rfl⟩) (by decide) hgc_37 rfl hP hA hS.2.1 hS rfl hl.1 rfl (Nat.le_of_ble_eq_true rfl) dX12_readNext_142 ⟨Nat.le_of_ble_eq_true rfl, Nat.le_of_ble_eq_true rfl⟩ (fun r_48 g_47 H locs hw_46 hP hS => ?_)
          obtain ⟨hw_46g, hw_46⟩ := hw_46
          rw [hw_46g] at hP
          refine lv_if_ne (tgt := 149) hx hb dX12_readNext_145 (by decide) (fun hc_49 => ?_) (fun hc_49 => ?_)
          · have hhc_49 := n_ne (rfl : r_48.toInt = r_48.toInt) (by decide : (0 : Int32).toInt = 0) hc_49
            obtain ⟨fc_50, hgc_50, hFc_50⟩ := hW141.arr (i := 203) (by decide) (sh_203 ad K)
            have hwb4 : 0 ≤ gA G141 203 3 ∧ gA G141 203 3 ≤ 14 := by rw [gA_of hgc_50]; have h8 := hFc_50 3; unfold wq at h8; omega
            have hwb7 : 0 ≤ gA G141 203 4 ∧ gA G141 203 4 ≤ 5 := by rw [gA_of hgc_50]; have h8 := hFc_50 4; unfold wq at h8; omega
            have hwb9 : 0 ≤ gA G141 203 5 ∧ gA G141 203 5 ≤ 8 := by rw [gA_of hgc_50]; have h8 := hFc_50 5; unfold wq at h8; omega
            have hwb13 : 0 ≤ gA G141 203 6 ∧ gA G141 203 6 ≤ 6 := by rw [gA_of hgc_50]; have h8 := hFc_50 6; unfold wq at h8; omega
            have hgz : gI G141 197 12 = 0 := by omega
            have hkn1 : 1 ≤ isI kS G141 4 + isI kS G141 7 + isI kS G141 9 + isI kS G141 13 := he141_1.resolve_left (fun q => q hgz)
            have hdd := he141_2.resolve_left (fun q => q hgz)
            obtain ⟨hdd4, hdd7, hdd9, hdd13⟩ := hdd
            clear he141_1 he141_2
            have hdf1_4 : isI kS G141 4 = 0 ∨ gA G141 203 3 ≤ 13 := hdd4.imp id (fun q => by omega)
            clear hdd4
            have hdf1_7 : isI kS G141 7 = 0 ∨ gA G141 203 4 ≤ 4 := hdd7.imp id (fun q => by omega)
            clear hdd7
            have hdf1_9 : isI kS G141 9 = 0 ∨ gA G141 203 5 ≤ 7 := hdd9.imp id (fun q => by omega)
            clear hdd9
            have hdf1_13 : isI kS G141 13 = 0 ∨ gA G141 203 6 ≤ 5 := hdd13.imp id (fun q => by omega)
            clear hdd13
            have h01q_51 := isI_01 kS G141 4
            have h01q_52 := isI_01 kS G141 7
            have h01q_53 := isI_01 kS G141 9
            have h01q_54 := isI_01 kS G141 13
            refine lv_aload_n hx hb dX12_readNext_149 rfl (lv_at hl 0 rfl) ?_
            refine va_ldcS hx hb X.2.2.2.2.2.1 (sq_12_173 Z) dX12_readNext_150 ?_
            have hgi_55 := gI_of hgc_37 hk_38
            have hgi_56 := gI_of hgc_37 hk_41
            refine s_calli (q := (RX12, TX12, 40)) (As := [.ref (kS.1 4)]) (rest := []) X Z (s_X12_takes l D cs ad kS K hKO hj G141 hW141 4 (by omega)) (cwV 1 X.2.2.2.2.1 gg_X12_readNext_X12_takes rfl rfl rfl (by decide +kernel) ⟨Nat.le_of_ble_eq_true rfl, Nat.le_of_ble_eq_true rfl⟩) (by decide) hgc_37 rfl hP hA hS.2.1 hS rfl hl.1 rfl (Nat.le_of_ble_eq_true rfl) dX12_readNext_152 ⟨Nat.le_of_ble_eq_true rfl, Nat.le_of_ble_eq_true rfl⟩ (fun r_59 g_58 H locs hw_57 hP hS => ?_)
            obtain ⟨hw_57W, hw_57f, hw_57⟩ := hw_57
            have hfr_60 : ∀ j, j ≠ 197 ∧ j ≠ 203 → g_58 j = g j := fun j hj => (hw_57f j (by first | exact hj | exact hj.1 | exact hj.2 | exact hj.2.1 | exact hj.2.2 | omega)).trans (hfr141 j hj)
            have hg_61 := (hw_57f 203 (by first | decide | omega)).trans hgc_50
            have h203r_59 := hw_57f 203 (by omega)
            have h203r_59_3 := gA_tr h203r_59 3
            have h203r_59_4 := gA_tr h203r_59 4
            have h203r_59_5 := gA_tr h203r_59 5
            have h203r_59_6 := gA_tr h203r_59 6
            have HJ291 : ∀ (G291 : Nat → va_E) (H : Heap) (locs : List Loc) (ls : Array Slot), gI g 197 8 ≤ gI G291 197 8 → WF (shp ad K) ad cs G291 → (∀ j, j ≠ 197 ∧ j ≠ 203 → G291 j = g j) → va_P D vwCl (wL ad G291 218) H → va_S (wA ad 218) s.heap H locs → lv_has ls 3 [] → W p l e ({ frames := 9, cells := 0, slots := 0, locals := 195 } : Room) s m ([.ref (ad 197)] : List Value).toArray below meth c H locs 0 0 (MQ below (qV D ad 218 (fun g2 => WF (shp ad K) ad cs g2 ∧ (∀ j, j ≠ 197 ∧ j ≠ 203 → g2 j = g j) ∧ (gI g 197 8 ≤ gI g2 197 8))) ([.ref (ad 197)] : List Value).toArray s 0 0 (wA ad 218)) (F0 m 291 ls []) := by
              intro G291 H locs ls he291_0 hW291 hfr291 hP hS hl
              try clear hw_8
              try clear he41_0
              try clear he41_1
              try clear he51_0
              try clear he51_1
              try clear hw_22
              try clear he95_0
              try clear he95_1
              try clear he95_2
              try clear hw_34
              try clear he141_0
              try clear he141_1
              try clear he141_2
              try clear hw_46
              try clear hhc_49
              try clear hwb4
              try clear hwb7
              try clear hwb9
              try clear hwb13
              try clear hgz
              try clear hkn1
              try clear hdf1_4
              try clear hdf1_7
              try clear hdf1_9
              try clear hdf1_13
              try clear h01q_51
              try clear h01q_52
              try clear h01q_53
              try clear h01q_54
              try clear hw_57
              try clear h203r_59
              try clear h203r_59_3
              try clear h203r_59_4
              try clear h203r_59_5
              try clear h203r_59_6
              obtain ⟨fsc_62, hgc_62, hOc_62⟩ := hW291.obj (i := 197) (by decide) (sh_197 ad K)
              obtain ⟨x_64, hk_63, -⟩ := hOc_62.int 12 rfl
              have hgix_64 := gI_of hgc_62 hk_63
              obtain ⟨x_67, hk_66, hlx_67, hhx_67⟩ := hOc_62.int 8 rfl
              have hgix_67 := gI_of hgc_62 hk_66
              have hgi_69 := gI_of hgc_62 hk_63
              have hgi_70 := gI_of hgc_62 hk_66
              exact q_vret X hP hS ⟨hW291, hfr291, (by omega)⟩ dX12_readNext_291
            refine lv_if_eq (tgt := 165) hx hb dX12_readNext_155 (by decide) (fun hc_71 => ?_) (fun hc_71 => ?_)
            · have hhc_71 := n_eq (rfl : r_59.toInt = r_59.toInt) (by decide : (0 : Int32).toInt = 0) hc_71
              have heq2 := hw_57.2.2.2.1 (by omega)
              have hkn2 : 1 ≤ isI kS g_58 7 + isI kS g_58 9 + isI kS g_58 13 := by rw [heq2]; omega
              have hdf2_7 : isI kS g_58 7 = 0 ∨ gA g_58 203 4 ≤ 4 := by rw [heq2]; exact hdf1_7
              have hdf2_9 : isI kS g_58 9 = 0 ∨ gA g_58 203 5 ≤ 7 := by rw [heq2]; exact hdf1_9
              have hdf2_13 : isI kS g_58 13 = 0 ∨ gA g_58 203 6 ≤ 5 := by rw [heq2]; exact hdf1_13
              have hg8_2 : gI g_58 197 8 = gI G141 197 8 := by rw [heq2]
              clear hdf1_4
              clear hdf1_7
              clear hdf1_9
              clear hdf1_13
              clear hkn1
              clear heq2
              have h01q_72 := isI_01 kS g_58 7
              have h01q_73 := isI_01 kS g_58 9
              have h01q_74 := isI_01 kS g_58 13
              refine lv_aload_n hx hb dX12_readNext_165 rfl (lv_at hl 0 rfl) ?_
              refine va_ldcS hx hb X.2.2.2.2.2.1 (sq_12_175 Z) dX12_readNext_166 ?_
              obtain ⟨fsc_75, hgc_75, hOc_75⟩ := hw_57W.obj (i := 197) (by decide) (sh_197 ad K)
              obtain ⟨x_77, hk_76, -⟩ := hOc_75.int 12 rfl
              have hgix_77 := gI_of hgc_75 hk_76
              obtain ⟨x_80, hk_79, hlx_80, hhx_80⟩ := hOc_75.int 8 rfl
              have hgix_80 := gI_of hgc_75 hk_79
              refine s_calli (q := (RX12, TX12, 40)) (As := [.ref (kS.1 7)]) (rest := []) X Z (s_X12_takes l D cs ad kS K hKO hj g_58 hw_57W 7 (by omega)) (cwV 1 X.2.2.2.2.1 gg_X12_readNext_X12_takes rfl rfl rfl (by decide +kernel) ⟨Nat.le_of_ble_eq_true rfl, Nat.le_of_ble_eq_true rfl⟩) (by decide) hgc_75 rfl hP hA hS.2.1 hS rfl hl.1 rfl (Nat.le_of_ble_eq_true rfl) dX12_readNext_168 ⟨Nat.le_of_ble_eq_true rfl, Nat.le_of_ble_eq_true rfl⟩ (fun r_84 g_83 H locs hw_82 hP hS => ?_)
              obtain ⟨hw_82W, hw_82f, hw_82⟩ := hw_82
              have hfr_85 : ∀ j, j ≠ 197 ∧ j ≠ 203 → g_83 j = g j := fun j hj => (hw_82f j (by first | exact hj | exact hj.1 | exact hj.2 | exact hj.2.1 | exact hj.2.2 | omega)).trans (hfr_60 j hj)
              have hg_86 := (hw_82f 203 (by first | decide | omega)).trans hg_61
              have h203r_84 := hw_82f 203 (by omega)
              have h203r_84_3 := gA_tr h203r_84 3
              have h203r_84_4 := gA_tr h203r_84 4
              have h203r_84_5 := gA_tr h203r_84 5
              have h203r_84_6 := gA_tr h203r_84 6
              refine lv_if_eq (tgt := 209) hx hb dX12_readNext_171 (by decide) (fun hc_87 => ?_) (fun hc_87 => ?_)
              · have hhc_87 := n_eq (rfl : r_84.toInt = r_84.toInt) (by decide : (0 : Int32).toInt = 0) hc_87
                have heq3 := hw_82.2.2.2.1 (by omega)
                have hkn3 : 1 ≤ isI kS g_83 9 + isI kS g_83 13 := by rw [heq3]; omega
                have hdf3_9 : isI kS g_83 9 = 0 ∨ gA g_83 203 5 ≤ 7 := by rw [heq3]; exact hdf2_9
                have hdf3_13 : isI kS g_83 13 = 0 ∨ gA g_83 203 6 ≤ 5 := by rw [heq3]; exact hdf2_13
                have hg8_3 : gI g_83 197 8 = gI g_58 197 8 := by rw [heq3]
                clear hdf2_7
                clear hdf2_9
                clear hdf2_13
                clear hkn2
                clear heq3
                have h01q_88 := isI_01 kS g_83 9
                have h01q_89 := isI_01 kS g_83 13
                refine lv_aload_n hx hb dX12_readNext_209 rfl (lv_at hl 0 rfl) ?_
                refine va_ldcS hx hb X.2.2.2.2.2.1 (sq_12_177 Z) dX12_readNext_210 ?_
                obtain ⟨fsc_90, hgc_90, hOc_90⟩ := hw_82W.obj (i := 197) (by decide) (sh_197 ad K)
                obtain ⟨x_92, hk_91, -⟩ := hOc_90.int 12 rfl
                have hgix_92 := gI_of hgc_90 hk_91
                obtain ⟨x_95, hk_94, hlx_95, hhx_95⟩ := hOc_90.int 8 rfl
                have hgix_95 := gI_of hgc_90 hk_94
                refine s_calli (q := (RX12, TX12, 40)) (As := [.ref (kS.1 9)]) (rest := []) X Z (s_X12_takes l D cs ad kS K hKO hj g_83 hw_82W 9 (by omega)) (cwV 1 X.2.2.2.2.1 gg_X12_readNext_X12_takes rfl rfl rfl (by decide +kernel) ⟨Nat.le_of_ble_eq_true rfl, Nat.le_of_ble_eq_true rfl⟩) (by decide) hgc_90 rfl hP hA hS.2.1 hS rfl hl.1 rfl (Nat.le_of_ble_eq_true rfl) dX12_readNext_212 ⟨Nat.le_of_ble_eq_true rfl, Nat.le_of_ble_eq_true rfl⟩ (fun r_99 g_98 H locs hw_97 hP hS => ?_)
                obtain ⟨hw_97W, hw_97f, hw_97⟩ := hw_97
                have hfr_100 : ∀ j, j ≠ 197 ∧ j ≠ 203 → g_98 j = g j := fun j hj => (hw_97f j (by first | exact hj | exact hj.1 | exact hj.2 | exact hj.2.1 | exact hj.2.2 | omega)).trans (hfr_85 j hj)
                have hg_101 := (hw_97f 203 (by first | decide | omega)).trans hg_86
                have h203r_99 := hw_97f 203 (by omega)
                have h203r_99_3 := gA_tr h203r_99 3
                have h203r_99_4 := gA_tr h203r_99 4
                have h203r_99_5 := gA_tr h203r_99 5
                have h203r_99_6 := gA_tr h203r_99 6
                refine lv_if_eq (tgt := 225) hx hb dX12_readNext_215 (by decide) (fun hc_102 => ?_) (fun hc_102 => ?_)
                · have hhc_102 := n_eq (rfl : r_99.toInt = r_99.toInt) (by decide : (0 : Int32).toInt = 0) hc_102
                  have heq4 := hw_97.2.2.2.1 (by omega)
                  have hkn4 : 1 ≤ isI kS g_98 13 := by rw [heq4]; omega
                  have hdf4_13 : isI kS g_98 13 = 0 ∨ gA g_98 203 6 ≤ 5 := by rw [heq4]; exact hdf3_13
                  have hg8_4 : gI g_98 197 8 = gI g_83 197 8 := by rw [heq4]
                  clear hdf3_9
                  clear hdf3_13
                  clear hkn3
                  clear heq4
                  have h01q_103 := isI_01 kS g_98 13
                  have hf6 : gA g_98 203 6 ≤ 5 := by omega
                  clear hdf4_13
                  refine lv_aload_n hx hb dX12_readNext_225 rfl (lv_at hl 0 rfl) ?_
                  obtain ⟨fsc_104, hgc_104, hOc_104⟩ := hw_97W.obj (i := 197) (by decide) (sh_197 ad K)
                  obtain ⟨x_106, hk_105, -⟩ := hOc_104.int 12 rfl
                  have hgix_106 := gI_of hgc_104 hk_105
                  obtain ⟨x_109, hk_108, hlx_109, hhx_109⟩ := hOc_104.int 8 rfl
                  have hgix_109 := gI_of hgc_104 hk_108
                  refine s_callv (q := (RX12, TX12, 40)) (As := []) (rest := []) X Z (s_X12_advance l D cs ad kS K hKO hj g_98 hw_97W) (cwV 0 X.2.2.2.2.1 gg_X12_readNext_X12_advance rfl rfl rfl (by decide +kernel) ⟨Nat.le_of_ble_eq_true rfl, Nat.le_of_ble_eq_true rfl⟩) (by decide) hgc_104 rfl hP hA hS.2.1 hS rfl hl.1 rfl (Nat.le_of_ble_eq_true rfl) dX12_readNext_226 ⟨Nat.le_of_ble_eq_true rfl, Nat.le_of_ble_eq_true rfl⟩ (fun g_112 H locs hw_111 hP hS => ?_)
                  obtain ⟨hw_111W, hw_111f, hw_111⟩ := hw_111
                  have hfr_114 : ∀ j, j ≠ 197 ∧ j ≠ 203 → g_112 j = g j := fun j hj => (hw_111f j (by first | exact hj | exact hj.1 | exact hj.2 | exact hj.2.1 | exact hj.2.2 | omega)).trans (hfr_100 j hj)
                  have hg_115 := (hw_111f 203 (by first | decide | omega)).trans hg_101
                  have h203a := hw_111f 203 (by omega)
                  have h203a_6 := gA_tr h203a 6
                  refine lv_bipush (v := 66) hx hb dX12_readNext_229 (by decide) ?_
                  refine lv_iconst (v := 2) hx hb dX12_readNext_231 (by decide) ?_
                  refine lv_aload_n hx hb dX12_readNext_232 rfl (lv_at hl 0 rfl) ?_
                  obtain ⟨fsc_116, hgc_116, hOc_116⟩ := hw_111W.obj (i := 197) (by decide) (sh_197 ad K)
                  have hk_117 := hOc_116.ref 14 rfl
                  refine q_get X iX12_readNext_12 hP (by decide) hgc_116 rfl 14 (by decide) (List.mem_of_getElem? (i := 8) rfl) (v := .ref (ad 203)) hk_117 dX12_readNext_233 ?_
                  refine lv_bipush (v := 6) hx hb dX12_readNext_236 (by decide) ?_
                  refine q_iald X hP (by decide) hg_115 (by unfold vp_in; decide) dX12_readNext_238 ?_
                  refine lv_topi (fun z_118 ez_118 => ?_)
                  have hqz_118 : wq (6) z_118.toInt := ez_118 ▸ hFc_50 _
                  have hz_118 : 0 ≤ z_118.toInt ∧ z_118.toInt ≤ 6 := by unfold wq at hqz_118; omega
                  clear hqz_118
                  have hgaz_118 : gA g_112 203 ((6 : Int32).toNatClampNeg) = z_118.toInt := by rw [ez_118]; exact gA_of hg_115 _
                  rw [(by decide : (6 : Int32).toNatClampNeg = 6)] at hgaz_118
                  refine lv_imul hx hb dX12_readNext_239 ?_
                  refine lv_topi (fun z_119 ez_119 => ?_)
                  have hz_119 : z_119.toInt = 2 * z_118.toInt := n_mul (by decide : (2 : Int32).toInt = 2) (rfl : z_118.toInt = z_118.toInt) ez_119 (by omega) (by omega)
                  refine lv_iadd hx hb dX12_readNext_240 ?_
                  refine lv_topi (fun z_120 ez_120 => ?_)
                  have hz_120 : z_120.toInt = 66 + z_119.toInt := n_add (by decide : (66 : Int32).toInt = 66) (rfl : z_119.toInt = z_119.toInt) ez_120 (by omega) (by omega)
                  refine lv_istore_n (lv' := [(2, .int z_120), (0, .ref (ad 197))]) hx hb dX12_readNext_241 rfl hl (by decide) rfl (fun ls hl => ?_)
                  refine lv_aload_n hx hb dX12_readNext_242 rfl (lv_at hl 1 rfl) ?_
                  refine q_get X iX12_readNext_12 hP (by decide) hgc_116 rfl 14 (by decide) (List.mem_of_getElem? (i := 8) rfl) (v := .ref (ad 203)) hk_117 dX12_readNext_243 ?_
                  refine lv_iload_n hx hb dX12_readNext_246 rfl (lv_at hl 0 rfl) ?_
                  refine lv_aload_n hx hb dX12_readNext_247 rfl (lv_at hl 1 rfl) ?_
                  refine va_ldcS hx hb X.2.2.2.2.2.1 (sq_12_171 Z) dX12_readNext_248 ?_
                  refine lv_iconst (v := 0) hx hb dX12_readNext_250 (by decide) ?_
                  refine lv_bipush (v := 23) hx hb dX12_readNext_251 (by decide) ?_
                  obtain ⟨x_122, hk_121, -⟩ := hOc_116.int 12 rfl
                  have hgix_122 := gI_of hgc_116 hk_121
                  obtain ⟨x_125, hk_124, hlx_125, hhx_125⟩ := hOc_116.int 8 rfl
                  have hgix_125 := gI_of hgc_116 hk_124
                  refine s_calli (q := (RX12, TX12, 40)) (As := [.ref (kS.1 12), .int 0, .int 23]) (rest := [.int z_120, .ref (ad 203)]) X Z (s_X12_told l D cs ad kS K hKO hj g_112 hw_111W 12 0 23 (by omega)) (cwV 3 X.2.2.2.2.1 gg_X12_readNext_X12_told rfl rfl rfl (by decide +kernel) ⟨Nat.le_of_ble_eq_true rfl, Nat.le_of_ble_eq_true rfl⟩) (by decide) hgc_116 rfl hP hA hS.2.1 hS rfl hl.1 rfl (Nat.le_of_ble_eq_true rfl) dX12_readNext_253 ⟨Nat.le_of_ble_eq_true rfl, Nat.le_of_ble_eq_true rfl⟩ (fun r_129 g_128 H locs hw_127 hP hS => ?_)
                  obtain ⟨hw_127W, hw_127f, hw_127⟩ := hw_127
                  have hfr_130 : ∀ j, j ≠ 197 ∧ j ≠ 203 → g_128 j = g j := fun j hj => (hw_127f j (by first | exact hj | exact hj.1 | exact hj.2 | exact hj.2.1 | exact hj.2.2 | omega)).trans (hfr_114 j hj)
                  have hg_131 := (hw_127f 203 (by first | decide | omega)).trans hg_115
                  have hqk_132 : (0 : Int32).toInt = 0 := by decide
                  have hqk_133 : (23 : Int32).toInt = 23 := by decide
                  have hc_256 := n_cl (rfl : z_120.toInt = z_120.toInt) (by omega)
                  have hu_135 : wq (z_120.toNatClampNeg) (r_129 : Int32).toInt := by unfold wq; omega
                  refine s_iast X hP hj hA hS (by decide) hg_131 (n_in (rfl : z_120.toInt = z_120.toInt) (by omega) (by omega)) dX12_readNext_256 hw_127W (sh_203 ad K) (hFc_50.put hu_135) (fun fc_134 gc_134 H locs ec_134 hFc_134 hgc_134 hfc_134 hWc_134 hP hS => ?_)
                  have hfr_136 : ∀ j, j ≠ 197 ∧ j ≠ 203 → gc_134 j = g j := fun j hj => (hfc_134 j (by first | exact hj | exact hj.1 | exact hj.2 | exact hj.2.1 | exact hj.2.2 | omega)).trans (hfr_130 j hj)
                  have hcl_137 := n_cl (rfl : z_120.toInt = z_120.toInt) (by omega)
                  have hgtc_134 := gI_tr (hfc_134 197 (by decide)) 8
                  refine lv_aload_n hx hb dX12_readNext_257 rfl (lv_at hl 1 rfl) ?_
                  obtain ⟨fsc_138, hgc_138, hOc_138⟩ := hWc_134.obj (i := 197) (by decide) (sh_197 ad K)
                  have hk_139 := hOc_138.ref 14 rfl
                  refine q_get X iX12_readNext_12 hP (by decide) hgc_138 rfl 14 (by decide) (List.mem_of_getElem? (i := 8) rfl) (v := .ref (ad 203)) hk_139 dX12_readNext_258 ?_
                  refine lv_iload_n hx hb dX12_readNext_261 rfl (lv_at hl 0 rfl) ?_
                  refine lv_iconst (v := 1) hx hb dX12_readNext_262 (by decide) ?_
                  refine lv_iadd hx hb dX12_readNext_263 ?_
                  refine lv_topi (fun z_140 ez_140 => ?_)
                  have hz_140 : z_140.toInt = z_120.toInt + 1 := n_add (rfl : z_120.toInt = z_120.toInt) (by decide : (1 : Int32).toInt = 1) ez_140 (by omega) (by omega)
                  refine lv_aload_n hx hb dX12_readNext_264 rfl (lv_at hl 1 rfl) ?_
                  refine va_ldcS hx hb X.2.2.2.2.2.1 (sq_12_189 Z) dX12_readNext_265 ?_
                  refine lv_iconst (v := 0) hx hb dX12_readNext_267 (by decide) ?_
                  refine lv_aload_n hx hb dX12_readNext_268 rfl (lv_at hl 1 rfl) ?_
                  refine q_get X iX12_readNext_12 hP (by decide) hgc_138 rfl 14 (by decide) (List.mem_of_getElem? (i := 8) rfl) (v := .ref (ad 203)) hk_139 dX12_readNext_269 ?_
                  refine lv_iconst (v := 3) hx hb dX12_readNext_272 (by decide) ?_
                  refine q_iald X hP (by decide) hgc_134 (by unfold vp_in; decide) dX12_readNext_273 ?_
                  refine lv_topi (fun z_141 ez_141 => ?_)
                  have hqz_141 : wq (3) z_141.toInt := ez_141 ▸ hFc_134 _
                  have hz_141 : 0 ≤ z_141.toInt ∧ z_141.toInt ≤ 14 := by unfold wq at hqz_141; omega
                  clear hqz_141
                  refine lv_iconst (v := 1) hx hb dX12_readNext_274 (by decide) ?_
                  refine lv_isub hx hb dX12_readNext_275 ?_
                  refine lv_topi (fun z_142 ez_142 => ?_)
                  have hz_142 : z_142.toInt = z_141.toInt - 1 := n_sub (rfl : z_141.toInt = z_141.toInt) (by decide : (1 : Int32).toInt = 1) ez_142 (by omega) (by omega)
                  obtain ⟨x_144, hk_143, -⟩ := hOc_138.int 12 rfl
                  have hgix_144 := gI_of hgc_138 hk_143
                  obtain ⟨x_147, hk_146, hlx_147, hhx_147⟩ := hOc_138.int 8 rfl
                  have hgix_147 := gI_of hgc_138 hk_146
                  refine s_calli (q := (RX12, TX12, 40)) (As := [.ref (kS.1 14), .int 0, .int z_142]) (rest := [.int z_140, .ref (ad 203)]) X Z (s_X12_told l D cs ad kS K hKO hj gc_134 hWc_134 14 0 z_142 (by omega)) (cwV 3 X.2.2.2.2.1 gg_X12_readNext_X12_told rfl rfl rfl (by decide +kernel) ⟨Nat.le_of_ble_eq_true rfl, Nat.le_of_ble_eq_true rfl⟩) (by decide) hgc_138 rfl hP hA hS.2.1 hS rfl hl.1 rfl (Nat.le_of_ble_eq_true rfl) dX12_readNext_276 ⟨Nat.le_of_ble_eq_true rfl, Nat.le_of_ble_eq_true rfl⟩ (fun r_151 g_150 H locs hw_149 hP hS => ?_)
                  obtain ⟨hw_149W, hw_149f, hw_149⟩ := hw_149
                  have hfr_152 : ∀ j, j ≠ 197 ∧ j ≠ 203 → g_150 j = g j := fun j hj => (hw_149f j (by first | exact hj | exact hj.1 | exact hj.2 | exact hj.2.1 | exact hj.2.2 | omega)).trans (hfr_136 j hj)
                  have hg_153 := (hw_149f 203 (by first | decide | omega)).trans hgc_134
                  have hqk_154 : (0 : Int32).toInt = 0 := by decide
                  have hc_279 := n_cl (rfl : z_140.toInt = z_140.toInt) (by omega)
                  have hu_156 : wq (z_140.toNatClampNeg) (r_151 : Int32).toInt := by unfold wq; omega
                  refine s_iast X hP hj hA hS (by decide) hg_153 (n_in (rfl : z_140.toInt = z_140.toInt) (by omega) (by omega)) dX12_readNext_279 hw_149W (sh_203 ad K) (hFc_134.put hu_156) (fun fc_155 gc_155 H locs ec_155 hFc_155 hgc_155 hfc_155 hWc_155 hP hS => ?_)
                  have hfr_157 : ∀ j, j ≠ 197 ∧ j ≠ 203 → gc_155 j = g j := fun j hj => (hfc_155 j (by first | exact hj | exact hj.1 | exact hj.2 | exact hj.2.1 | exact hj.2.2 | omega)).trans (hfr_152 j hj)
                  have hcl_158 := n_cl (rfl : z_140.toInt = z_140.toInt) (by omega)
                  have hgtc_155 := gI_tr (hfc_155 197 (by decide)) 8
                  refine lv_aload_n hx hb dX12_readNext_280 rfl (lv_at hl 1 rfl) ?_
                  obtain ⟨fsc_159, hgc_159, hOc_159⟩ := hWc_155.obj (i := 197) (by decide) (sh_197 ad K)
                  have hk_160 := hOc_159.ref 14 rfl
                  refine q_get X iX12_readNext_12 hP (by decide) hgc_159 rfl 14 (by decide) (List.mem_of_getElem? (i := 8) rfl) (v := .ref (ad 203)) hk_160 dX12_readNext_281 ?_
                  refine lv_bipush (v := 6) hx hb dX12_readNext_284 (by decide) ?_
                  refine lv_dup2_11 hx hb dX12_readNext_286 rfl rfl ?_
                  refine q_iald X hP (by decide) hgc_155 (by unfold vp_in; decide) dX12_readNext_287 ?_
                  refine lv_topi (fun z_161 ez_161 => ?_)
                  have hqz_161 : wq (6) z_161.toInt := ez_161 ▸ hFc_155 _
                  have hz_161 : 0 ≤ z_161.toInt ∧ z_161.toInt ≤ 6 := by unfold wq at hqz_161; omega
                  clear hqz_161
                  have hl3 : (6 : Int32).toNatClampNeg = 6 := by decide
                  have hsmz_161 : z_161.toInt = z_118.toInt := by rw [ez_161, ec_155, ec_134]; unfold upd; rw [if_neg (by omega), if_neg (by omega), ← ez_118]
                  refine lv_iconst (v := 1) hx hb dX12_readNext_288 (by decide) ?_
                  refine lv_iadd hx hb dX12_readNext_289 ?_
                  refine lv_topi (fun z_162 ez_162 => ?_)
                  have hz_162 : z_162.toInt = z_161.toInt + 1 := n_add (rfl : z_161.toInt = z_161.toInt) (by decide : (1 : Int32).toInt = 1) ez_162 (by omega) (by omega)
                  have hu_164 : wq (6) (z_162 : Int32).toInt := by unfold wq; omega
                  refine s_iast X hP hj hA hS (by decide) hgc_155 (by unfold vp_in; decide) dX12_readNext_290 hWc_155 (sh_203 ad K) (hFc_155.put hu_164) (fun fc_163 gc_163 H locs ec_163 hFc_163 hgc_163 hfc_163 hWc_163 hP hS => ?_)
                  have hg_166 := (hfc_163 197 (by decide)).trans hgc_159
                  have hfr_165 : ∀ j, j ≠ 197 ∧ j ≠ 203 → gc_163 j = g j := fun j hj => (hfc_163 j (by first | exact hj | exact hj.1 | exact hj.2 | exact hj.2.1 | exact hj.2.2 | omega)).trans (hfr_157 j hj)
                  have hgtc_163 := gI_tr (hfc_163 197 (by decide)) 8
                  obtain ⟨x_168, hk_167, -⟩ := hOc_159.int 12 rfl
                  have hgix_168 := gI_of hg_166 hk_167
                  obtain ⟨x_171, hk_170, hlx_171, hhx_171⟩ := hOc_159.int 8 rfl
                  have hgix_171 := gI_of hg_166 hk_170
                  exact HJ291 gc_163 _ _ ls (by omega) hWc_163 hfr_165 hP hS (lv_sub hl [] rfl)
                · have hhc_102 := n_ne (rfl : r_99.toInt = r_99.toInt) (by decide : (0 : Int32).toInt = 0) hc_102
                  refine lv_aload_n hx hb dX12_readNext_218 rfl (lv_at hl 0 rfl) ?_
                  obtain ⟨fsc_173, hgc_173, hOc_173⟩ := hw_97W.obj (i := 197) (by decide) (sh_197 ad K)
                  obtain ⟨x_175, hk_174, -⟩ := hOc_173.int 12 rfl
                  have hgix_175 := gI_of hgc_173 hk_174
                  obtain ⟨x_178, hk_177, hlx_178, hhx_178⟩ := hOc_173.int 8 rfl
                  have hgix_178 := gI_of hgc_173 hk_177
                  refine s_callv (q := (RX12, TX12, 40)) (As := []) (rest := []) X Z (s_X12_readIcicle l D cs ad kS K hKO hj g_98 hw_97W  (by omega)) (cwV 0 X.2.2.2.2.1 gg_X12_readNext_X12_readIcicle rfl rfl rfl (by decide +kernel) ⟨Nat.le_of_ble_eq_true rfl, Nat.le_of_ble_eq_true rfl⟩) (by decide) hgc_173 rfl hP hA hS.2.1 hS rfl hl.1 rfl (Nat.le_of_ble_eq_true rfl) dX12_readNext_219 ⟨Nat.le_of_ble_eq_true rfl, Nat.le_of_ble_eq_true rfl⟩ (fun g_181 H locs hw_180 hP hS => ?_)
                  obtain ⟨hw_180W, hw_180f, hw_180⟩ := hw_180
                  have hfr_183 : ∀ j, j ≠ 197 ∧ j ≠ 203 → g_181 j = g j := fun j hj => (hw_180f j (by first | exact hj | exact hj.1 | exact hj.2 | exact hj.2.1 | exact hj.2.2 | omega)).trans (hfr_100 j hj)
                  refine lv_goto (tgt := 291) hx hb dX12_readNext_222 (by decide) ?_
                  obtain ⟨fsc_184, hgc_184, hOc_184⟩ := hw_180W.obj (i := 197) (by decide) (sh_197 ad K)
                  obtain ⟨x_186, hk_185, -⟩ := hOc_184.int 12 rfl
                  have hgix_186 := gI_of hgc_184 hk_185
                  obtain ⟨x_189, hk_188, hlx_189, hhx_189⟩ := hOc_184.int 8 rfl
                  have hgix_189 := gI_of hgc_184 hk_188
                  exact HJ291 g_181 _ _ ls (by omega) hw_180W hfr_183 hP hS (lv_sub hl [] rfl)
              · have hhc_87 := n_ne (rfl : r_84.toInt = r_84.toInt) (by decide : (0 : Int32).toInt = 0) hc_87
                refine lv_aload_n hx hb dX12_readNext_174 rfl (lv_at hl 0 rfl) ?_
                obtain ⟨fsc_191, hgc_191, hOc_191⟩ := hw_82W.obj (i := 197) (by decide) (sh_197 ad K)
                have hk_192 := hOc_191.ref 14 rfl
                refine q_get X iX12_readNext_12 hP (by decide) hgc_191 rfl 14 (by decide) (List.mem_of_getElem? (i := 8) rfl) (v := .ref (ad 203)) hk_192 dX12_readNext_175 ?_
                refine lv_bipush (v := 37) hx hb dX12_readNext_178 (by decide) ?_
                refine lv_aload_n hx hb dX12_readNext_180 rfl (lv_at hl 0 rfl) ?_
                refine q_get X iX12_readNext_12 hP (by decide) hgc_191 rfl 14 (by decide) (List.mem_of_getElem? (i := 8) rfl) (v := .ref (ad 203)) hk_192 dX12_readNext_181 ?_
                refine lv_iconst (v := 4) hx hb dX12_readNext_184 (by decide) ?_
                refine q_iald X hP (by decide) hg_86 (by unfold vp_in; decide) dX12_readNext_185 ?_
                refine lv_topi (fun z_193 ez_193 => ?_)
                have hqz_193 : wq (4) z_193.toInt := ez_193 ▸ hFc_50 _
                have hz_193 : 0 ≤ z_193.toInt ∧ z_193.toInt ≤ 5 := by unfold wq at hqz_193; omega
                clear hqz_193
                have hgaz_193 : gA g_83 203 ((4 : Int32).toNatClampNeg) = z_193.toInt := by rw [ez_193]; exact gA_of hg_86 _
                rw [(by decide : (4 : Int32).toNatClampNeg = 4)] at hgaz_193
                refine lv_iadd hx hb dX12_readNext_186 ?_
                refine lv_topi (fun z_194 ez_194 => ?_)
                have hz_194 : z_194.toInt = 37 + z_193.toInt := n_add (by decide : (37 : Int32).toInt = 37) (rfl : z_193.toInt = z_193.toInt) ez_194 (by omega) (by omega)
                refine lv_aload_n hx hb dX12_readNext_187 rfl (lv_at hl 0 rfl) ?_
                refine va_ldcS hx hb X.2.2.2.2.2.1 (sq_12_184 Z) dX12_readNext_188 ?_
                refine lv_iconst (v := 0) hx hb dX12_readNext_190 (by decide) ?_
                refine lv_iconst (v := 4) hx hb dX12_readNext_191 (by decide) ?_
                obtain ⟨x_196, hk_195, -⟩ := hOc_191.int 12 rfl
                have hgix_196 := gI_of hgc_191 hk_195
                obtain ⟨x_199, hk_198, hlx_199, hhx_199⟩ := hOc_191.int 8 rfl
                have hgix_199 := gI_of hgc_191 hk_198
                refine s_calli (q := (RX12, TX12, 40)) (As := [.ref (kS.1 8), .int 0, .int 4]) (rest := [.int z_194, .ref (ad 203)]) X Z (s_X12_told l D cs ad kS K hKO hj g_83 hw_82W 8 0 4 (by omega)) (cwV 3 X.2.2.2.2.1 gg_X12_readNext_X12_told rfl rfl rfl (by decide +kernel) ⟨Nat.le_of_ble_eq_true rfl, Nat.le_of_ble_eq_true rfl⟩) (by decide) hgc_191 rfl hP hA hS.2.1 hS rfl hl.1 rfl (Nat.le_of_ble_eq_true rfl) dX12_readNext_192 ⟨Nat.le_of_ble_eq_true rfl, Nat.le_of_ble_eq_true rfl⟩ (fun r_203 g_202 H locs hw_201 hP hS => ?_)
                obtain ⟨hw_201W, hw_201f, hw_201⟩ := hw_201
                have hfr_204 : ∀ j, j ≠ 197 ∧ j ≠ 203 → g_202 j = g j := fun j hj => (hw_201f j (by first | exact hj | exact hj.1 | exact hj.2 | exact hj.2.1 | exact hj.2.2 | omega)).trans (hfr_85 j hj)
                have hg_205 := (hw_201f 203 (by first | decide | omega)).trans hg_86
                have hqk_206 : (0 : Int32).toInt = 0 := by decide
                have hqk_207 : (4 : Int32).toInt = 4 := by decide
                have hc_195 := n_cl (rfl : z_194.toInt = z_194.toInt) (by omega)
                have hu_209 : wq (z_194.toNatClampNeg) (r_203 : Int32).toInt := by unfold wq; omega
                refine s_iast X hP hj hA hS (by decide) hg_205 (n_in (rfl : z_194.toInt = z_194.toInt) (by omega) (by omega)) dX12_readNext_195 hw_201W (sh_203 ad K) (hFc_50.put hu_209) (fun fc_208 gc_208 H locs ec_208 hFc_208 hgc_208 hfc_208 hWc_208 hP hS => ?_)
                have hfr_210 : ∀ j, j ≠ 197 ∧ j ≠ 203 → gc_208 j = g j := fun j hj => (hfc_208 j (by first | exact hj | exact hj.1 | exact hj.2 | exact hj.2.1 | exact hj.2.2 | omega)).trans (hfr_204 j hj)
                have hcl_211 := n_cl (rfl : z_194.toInt = z_194.toInt) (by omega)
                have hgtc_208 := gI_tr (hfc_208 197 (by decide)) 8
                refine lv_aload_n hx hb dX12_readNext_196 rfl (lv_at hl 0 rfl) ?_
                obtain ⟨fsc_212, hgc_212, hOc_212⟩ := hWc_208.obj (i := 197) (by decide) (sh_197 ad K)
                have hk_213 := hOc_212.ref 14 rfl
                refine q_get X iX12_readNext_12 hP (by decide) hgc_212 rfl 14 (by decide) (List.mem_of_getElem? (i := 8) rfl) (v := .ref (ad 203)) hk_213 dX12_readNext_197 ?_
                refine lv_iconst (v := 4) hx hb dX12_readNext_200 (by decide) ?_
                refine lv_dup2_11 hx hb dX12_readNext_201 rfl rfl ?_
                refine q_iald X hP (by decide) hgc_208 (by unfold vp_in; decide) dX12_readNext_202 ?_
                refine lv_topi (fun z_214 ez_214 => ?_)
                have hqz_214 : wq (4) z_214.toInt := ez_214 ▸ hFc_208 _
                have hz_214 : 0 ≤ z_214.toInt ∧ z_214.toInt ≤ 5 := by unfold wq at hqz_214; omega
                clear hqz_214
                have hl3 : (4 : Int32).toNatClampNeg = 4 := by decide
                have hsmz_214 : z_214.toInt = z_193.toInt := by rw [ez_214, ec_208]; unfold upd; rw [if_neg (by omega), ← ez_193]
                refine lv_iconst (v := 1) hx hb dX12_readNext_203 (by decide) ?_
                refine lv_iadd hx hb dX12_readNext_204 ?_
                refine lv_topi (fun z_215 ez_215 => ?_)
                have hz_215 : z_215.toInt = z_214.toInt + 1 := n_add (rfl : z_214.toInt = z_214.toInt) (by decide : (1 : Int32).toInt = 1) ez_215 (by omega) (by omega)
                have hu_217 : wq (4) (z_215 : Int32).toInt := by unfold wq; omega
                refine s_iast X hP hj hA hS (by decide) hgc_208 (by unfold vp_in; decide) dX12_readNext_205 hWc_208 (sh_203 ad K) (hFc_208.put hu_217) (fun fc_216 gc_216 H locs ec_216 hFc_216 hgc_216 hfc_216 hWc_216 hP hS => ?_)
                have hg_219 := (hfc_216 197 (by decide)).trans hgc_212
                have hfr_218 : ∀ j, j ≠ 197 ∧ j ≠ 203 → gc_216 j = g j := fun j hj => (hfc_216 j (by first | exact hj | exact hj.1 | exact hj.2 | exact hj.2.1 | exact hj.2.2 | omega)).trans (hfr_210 j hj)
                have hgtc_216 := gI_tr (hfc_216 197 (by decide)) 8
                refine lv_goto (tgt := 291) hx hb dX12_readNext_206 (by decide) ?_
                obtain ⟨x_221, hk_220, -⟩ := hOc_212.int 12 rfl
                have hgix_221 := gI_of hg_219 hk_220
                obtain ⟨x_224, hk_223, hlx_224, hhx_224⟩ := hOc_212.int 8 rfl
                have hgix_224 := gI_of hg_219 hk_223
                exact HJ291 gc_216 _ _ ls (by omega) hWc_216 hfr_218 hP hS (lv_sub hl [] rfl)
            · have hhc_71 := n_ne (rfl : r_59.toInt = r_59.toInt) (by decide : (0 : Int32).toInt = 0) hc_71
              refine lv_aload_n hx hb dX12_readNext_158 rfl (lv_at hl 0 rfl) ?_
              obtain ⟨fsc_226, hgc_226, hOc_226⟩ := hw_57W.obj (i := 197) (by decide) (sh_197 ad K)
              obtain ⟨x_228, hk_227, -⟩ := hOc_226.int 12 rfl
              have hgix_228 := gI_of hgc_226 hk_227
              obtain ⟨x_231, hk_230, hlx_231, hhx_231⟩ := hOc_226.int 8 rfl
              have hgix_231 := gI_of hgc_226 hk_230
              refine s_callv (q := (RX12, TX12, 40)) (As := []) (rest := []) X Z (s_X12_readDay l D cs ad kS K hKO hj g_58 hw_57W  (by omega)) (cwV 0 X.2.2.2.2.1 gg_X12_readNext_X12_readDay rfl rfl rfl (by decide +kernel) ⟨Nat.le_of_ble_eq_true rfl, Nat.le_of_ble_eq_true rfl⟩) (by decide) hgc_226 rfl hP hA hS.2.1 hS rfl hl.1 rfl (Nat.le_of_ble_eq_true rfl) dX12_readNext_159 ⟨Nat.le_of_ble_eq_true rfl, Nat.le_of_ble_eq_true rfl⟩ (fun g_234 H locs hw_233 hP hS => ?_)
              obtain ⟨hw_233W, hw_233f, hw_233⟩ := hw_233
              have hfr_236 : ∀ j, j ≠ 197 ∧ j ≠ 203 → g_234 j = g j := fun j hj => (hw_233f j (by first | exact hj | exact hj.1 | exact hj.2 | exact hj.2.1 | exact hj.2.2 | omega)).trans (hfr_60 j hj)
              refine lv_goto (tgt := 291) hx hb dX12_readNext_162 (by decide) ?_
              obtain ⟨fsc_237, hgc_237, hOc_237⟩ := hw_233W.obj (i := 197) (by decide) (sh_197 ad K)
              obtain ⟨x_239, hk_238, -⟩ := hOc_237.int 12 rfl
              have hgix_239 := gI_of hgc_237 hk_238
              obtain ⟨x_242, hk_241, hlx_242, hhx_242⟩ := hOc_237.int 8 rfl
              have hgix_242 := gI_of hgc_237 hk_241
              exact HJ291 g_234 _ _ ls (by omega) hw_233W hfr_236 hP hS (lv_sub hl [] rfl)
          · have hhc_49 := n_eq (rfl : r_48.toInt = r_48.toInt) (by decide : (0 : Int32).toInt = 0) hc_49
            have hgi_244 := gI_of hgc_37 hk_38
            have hgi_245 := gI_of hgc_37 hk_41
            exact q_vret X hP hS ⟨hW141, hfr141, (by omega)⟩ dX12_readNext_148
        have HJ136 : ∀ (G136 : Nat → va_E) (H : Heap) (locs : List Loc) (ls : Array Slot), gI g 197 8 ≤ gI G136 197 8 → WF (shp ad K) ad cs G136 → (∀ j, j ≠ 197 ∧ j ≠ 203 → G136 j = g j) → va_P D vwCl (wL ad G136 218) H → va_S (wA ad 218) s.heap H locs → lv_has ls 3 [(0, .ref (ad 197))] → W p l e ({ frames := 9, cells := 0, slots := 0, locals := 195 } : Room) s m ([.ref (ad 197)] : List Value).toArray below meth c H locs 0 0 (MQ below (qV D ad 218 (fun g2 => WF (shp ad K) ad cs g2 ∧ (∀ j, j ≠ 197 ∧ j ≠ 203 → g2 j = g j) ∧ (gI g 197 8 ≤ gI g2 197 8))) ([.ref (ad 197)] : List Value).toArray s 0 0 (wA ad 218)) (F0 m 136 ls []) := by
          intro G136 H locs ls he136_0 hW136 hfr136 hP hS hl
          try clear hw_8
          try clear he41_0
          try clear he41_1
          try clear he51_0
          try clear he51_1
          try clear hw_22
          try clear he95_0
          try clear he95_1
          try clear he95_2
          try clear hw_34
          try clear he141_0
          try clear he141_1
          try clear he141_2
          try clear hw_46
          try clear hhc_49
          try clear hwb4
          try clear hwb7
          try clear hwb9
          try clear hwb13
          try clear hgz
          try clear hkn1
          try clear hdf1_4
          try clear hdf1_7
          try clear hdf1_9
          try clear hdf1_13
          try clear h01q_51
          try clear h01q_52
          try clear h01q_53
          try clear h01q_54
          try clear hw_57
          try clear h203r_59
          try clear h203r_59_3
          try clear h203r_59_4
          try clear h203r_59_5
          try clear h203r_59_6
          try clear he291_0
          try clear hhc_71
          try clear hkn2
          try clear hdf2_7
          try clear hdf2_9
          try clear hdf2_13
          try clear hg8_2
          try clear h01q_72
          try clear h01q_73
          try clear h01q_74
          try clear hw_82
          try clear h203r_84
          try clear h203r_84_3
          try clear h203r_84_4
          try clear h203r_84_5
          try clear h203r_84_6
          try clear hhc_87
          try clear hkn3
          try clear hdf3_9
          try clear hdf3_13
          try clear hg8_3
          try clear h01q_88
          try clear h01q_89
          try clear hw_97
          try clear h203r_99
          try clear h203r_99_3
          try clear h203r_99_4
          try clear h203r_99_5
          try clear h203r_99_6
          try clear hhc_102
          try clear hkn4
          try clear hdf4_13
          try clear hg8_4
          try clear h01q_103
          try clear hw_111
          try clear h203a
          try clear h203a_6
          try clear hw_127
          try clear hw_149
          try clear hw_180
          try clear hw_201
          try clear hw_233
          obtain ⟨fsc_246, hgc_246, hOc_246⟩ := hW136.obj (i := 197) (by decide) (sh_197 ad K)
          obtain ⟨x_248, hk_247, -⟩ := hOc_246.int 12 rfl
          have hgix_248 := gI_of hgc_246 hk_247
          obtain ⟨x_251, hk_250, hlx_251, hhx_251⟩ := hOc_246.int 8 rfl
          have hgix_251 := gI_of hgc_246 hk_250
          refine lv_aload_n hx hb dX12_readNext_136 rfl (lv_at hl 0 rfl) ?_
          refine lv_iconst (v := 3) hx hb dX12_readNext_137 (by decide) ?_
          have hgi_253 := gI_of hgc_246 hk_247
          have hgi_254 := gI_of hgc_246 hk_250
          have hqk_255 : (3 : Int32).toInt = 3 := by decide
          refine s_callv (q := (RX12, TX12, 40)) (As := [.int 3]) (rest := []) X Z (s_X12_errs l D cs ad kS K hKO hj G136 hW136 3 (by omega)) (cwV 1 X.2.2.2.2.1 gg_X12_readNext_X12_errs rfl rfl rfl (by decide +kernel) ⟨Nat.le_of_ble_eq_true rfl, Nat.le_of_ble_eq_true rfl⟩) (by decide) hgc_246 rfl hP hA hS.2.1 hS rfl hl.1 rfl (Nat.le_of_ble_eq_true rfl) dX12_readNext_138 ⟨Nat.le_of_ble_eq_true rfl, Nat.le_of_ble_eq_true rfl⟩ (fun g_257 H locs hw_256 hP hS => ?_)
          obtain ⟨hw_256W, hw_256f, hw_256⟩ := hw_256
          have hfr_259 : ∀ j, j ≠ 197 ∧ j ≠ 203 → g_257 j = g j := fun j hj => (hw_256f j (by first | exact hj | exact hj.1 | exact hj.2 | exact hj.2.1 | exact hj.2.2 | omega)).trans (hfr136 j hj)
          obtain ⟨fsc_260, hgc_260, hOc_260⟩ := hw_256W.obj (i := 197) (by decide) (sh_197 ad K)
          obtain ⟨x_262, hk_261, -⟩ := hOc_260.int 12 rfl
          have hgix_262 := gI_of hgc_260 hk_261
          obtain ⟨x_265, hk_264, hlx_265, hhx_265⟩ := hOc_260.int 8 rfl
          have hgix_265 := gI_of hgc_260 hk_264
          exact HJ141 g_257 _ _ ls (by omega) (by omega) (by omega) hw_256W hfr_259 hP hS (lv_sub hl [0] rfl)
        have HJ115 : ∀ (G115 : Nat → va_E) (H : Heap) (locs : List Loc) (ls : Array Slot), gI g 197 8 ≤ gI G115 197 8 → (gI G115 197 12 ≠ 0 ∨ 1 ≤ isI kS G115 4 + isI kS G115 7 + isI kS G115 9 + isI kS G115 13) → (gI G115 197 12 ≠ 0 ∨ ((isI kS G115 4 = 0 ∨ gA G115 203 3 ≠ 14) ∧ (isI kS G115 7 = 0 ∨ gA G115 203 4 ≠ 5) ∧ (isI kS G115 9 = 0 ∨ gA G115 203 5 ≠ 8))) → WF (shp ad K) ad cs G115 → (∀ j, j ≠ 197 ∧ j ≠ 203 → G115 j = g j) → va_P D vwCl (wL ad G115 218) H → va_S (wA ad 218) s.heap H locs → lv_has ls 3 [(0, .ref (ad 197))] → W p l e ({ frames := 9, cells := 0, slots := 0, locals := 195 } : Room) s m ([.ref (ad 197)] : List Value).toArray below meth c H locs 0 0 (MQ below (qV D ad 218 (fun g2 => WF (shp ad K) ad cs g2 ∧ (∀ j, j ≠ 197 ∧ j ≠ 203 → g2 j = g j) ∧ (gI g 197 8 ≤ gI g2 197 8))) ([.ref (ad 197)] : List Value).toArray s 0 0 (wA ad 218)) (F0 m 115 ls []) := by
          intro G115 H locs ls he115_0 he115_1 he115_2 hW115 hfr115 hP hS hl
          try clear hw_8
          try clear he41_0
          try clear he41_1
          try clear he51_0
          try clear he51_1
          try clear hw_22
          try clear he95_0
          try clear he95_1
          try clear he95_2
          try clear hw_34
          try clear he141_0
          try clear he141_1
          try clear he141_2
          try clear hw_46
          try clear hhc_49
          try clear hwb4
          try clear hwb7
          try clear hwb9
          try clear hwb13
          try clear hgz
          try clear hkn1
          try clear hdf1_4
          try clear hdf1_7
          try clear hdf1_9
          try clear hdf1_13
          try clear h01q_51
          try clear h01q_52
          try clear h01q_53
          try clear h01q_54
          try clear hw_57
          try clear h203r_59
          try clear h203r_59_3
          try clear h203r_59_4
          try clear h203r_59_5
          try clear h203r_59_6
          try clear he291_0
          try clear hhc_71
          try clear hkn2
          try clear hdf2_7
          try clear hdf2_9
          try clear hdf2_13
          try clear hg8_2
          try clear h01q_72
          try clear h01q_73
          try clear h01q_74
          try clear hw_82
          try clear h203r_84
          try clear h203r_84_3
          try clear h203r_84_4
          try clear h203r_84_5
          try clear h203r_84_6
          try clear hhc_87
          try clear hkn3
          try clear hdf3_9
          try clear hdf3_13
          try clear hg8_3
          try clear h01q_88
          try clear h01q_89
          try clear hw_97
          try clear h203r_99
          try clear h203r_99_3
          try clear h203r_99_4
          try clear h203r_99_5
          try clear h203r_99_6
          try clear hhc_102
          try clear hkn4
          try clear hdf4_13
          try clear hg8_4
          try clear h01q_103
          try clear hw_111
          try clear h203a
          try clear h203a_6
          try clear hw_127
          try clear hw_149
          try clear hw_180
          try clear hw_201
          try clear hw_233
          try clear he136_0
          try clear hw_256
          obtain ⟨fsc_267, hgc_267, hOc_267⟩ := hW115.obj (i := 197) (by decide) (sh_197 ad K)
          obtain ⟨x_269, hk_268, -⟩ := hOc_267.int 12 rfl
          have hgix_269 := gI_of hgc_267 hk_268
          obtain ⟨x_272, hk_271, hlx_272, hhx_272⟩ := hOc_267.int 8 rfl
          have hgix_272 := gI_of hgc_267 hk_271
          refine lv_aload_n hx hb dX12_readNext_115 rfl (lv_at hl 0 rfl) ?_
          refine va_ldcS hx hb X.2.2.2.2.2.1 (sq_12_179 Z) dX12_readNext_116 ?_
          have hgi_274 := gI_of hgc_267 hk_268
          have hgi_275 := gI_of hgc_267 hk_271
          refine s_calli (q := (RX12, TX12, 40)) (As := [.ref (kS.1 13)]) (rest := []) X Z (s_X12_is l D cs ad kS K hKO hj G115 hW115 13 (by omega)) (cwV 1 X.2.2.2.2.1 gg_X12_readNext_X12_is rfl rfl rfl (by decide +kernel) ⟨Nat.le_of_ble_eq_true rfl, Nat.le_of_ble_eq_true rfl⟩) (by decide) hgc_267 rfl hP hA hS.2.1 hS rfl hl.1 rfl (Nat.le_of_ble_eq_true rfl) dX12_readNext_118 ⟨Nat.le_of_ble_eq_true rfl, Nat.le_of_ble_eq_true rfl⟩ (fun r_278 g_277 H locs hw_276 hP hS => ?_)
          obtain ⟨hw_276g, hw_276⟩ := hw_276
          rw [hw_276g] at hP
          refine lv_if_eq (tgt := 141) hx hb dX12_readNext_121 (by decide) (fun hc_279 => ?_) (fun hc_279 => ?_)
          · have hhc_279 := n_eq (rfl : r_278.toInt = r_278.toInt) (by decide : (0 : Int32).toInt = 0) hc_279
            have hgi_280 := gI_of hgc_267 hk_268
            have hgi_281 := gI_of hgc_267 hk_271
            exact HJ141 G115 _ _ ls (by omega) (by omega) (by omega) hW115 hfr115 hP hS (lv_sub hl [0] rfl)
          · have hhc_279 := n_ne (rfl : r_278.toInt = r_278.toInt) (by decide : (0 : Int32).toInt = 0) hc_279
            refine lv_aload_n hx hb dX12_readNext_124 rfl (lv_at hl 0 rfl) ?_
            have hk_282 := hOc_267.ref 14 rfl
            refine q_get X iX12_readNext_12 hP (by decide) hgc_267 rfl 14 (by decide) (List.mem_of_getElem? (i := 8) rfl) (v := .ref (ad 203)) hk_282 dX12_readNext_125 ?_
            refine lv_bipush (v := 6) hx hb dX12_readNext_128 (by decide) ?_
            obtain ⟨fc_283, hgc_283, hFc_283⟩ := hW115.arr (i := 203) (by decide) (sh_203 ad K)
            refine q_iald X hP (by decide) hgc_283 (by unfold vp_in; decide) dX12_readNext_130 ?_
            refine lv_topi (fun z_284 ez_284 => ?_)
            have hqz_284 : wq (6) z_284.toInt := ez_284 ▸ hFc_283 _
            have hz_284 : 0 ≤ z_284.toInt ∧ z_284.toInt ≤ 6 := by unfold wq at hqz_284; omega
            clear hqz_284
            have hgaz_284 : gA G115 203 ((6 : Int32).toNatClampNeg) = z_284.toInt := by rw [ez_284]; exact gA_of hgc_283 _
            rw [(by decide : (6 : Int32).toNatClampNeg = 6)] at hgaz_284
            refine lv_bipush (v := 6) hx hb dX12_readNext_131 (by decide) ?_
            refine lv_icmp_ne (tgt := 141) hx hb dX12_readNext_133 (by decide) (fun hc_285 => ?_) (fun hc_285 => ?_)
            · have hhc_285 := n_ne (rfl : z_284.toInt = z_284.toInt) (by decide : (6 : Int32).toInt = 6) hc_285
              have hgi_286 := gI_of hgc_267 hk_268
              have hgi_287 := gI_of hgc_267 hk_271
              exact HJ141 G115 _ _ ls (by omega) (by omega) (by omega) hW115 hfr115 hP hS (lv_sub hl [0] rfl)
            · have hhc_285 := n_eq (rfl : z_284.toInt = z_284.toInt) (by decide : (6 : Int32).toInt = 6) hc_285
              have hgi_288 := gI_of hgc_267 hk_268
              have hgi_289 := gI_of hgc_267 hk_271
              exact HJ136 G115 _ _ ls (by omega) hW115 hfr115 hP hS (lv_sub hl [0] rfl)
        refine lv_if_eq (tgt := 115) hx hb dX12_readNext_101 (by decide) (fun hc_290 => ?_) (fun hc_290 => ?_)
        · have hhc_290 := n_eq (rfl : r_36.toInt = r_36.toInt) (by decide : (0 : Int32).toInt = 0) hc_290
          have hgi_291 := gI_of hgc_25 hk_26
          have hgi_292 := gI_of hgc_25 hk_29
          exact HJ115 G95 _ _ ls (by omega) (by omega) (by omega) hW95 hfr95 hP hS (lv_sub hl [0] rfl)
        · have hhc_290 := n_ne (rfl : r_36.toInt = r_36.toInt) (by decide : (0 : Int32).toInt = 0) hc_290
          refine lv_aload_n hx hb dX12_readNext_104 rfl (lv_at hl 0 rfl) ?_
          have hk_293 := hOc_25.ref 14 rfl
          refine q_get X iX12_readNext_12 hP (by decide) hgc_25 rfl 14 (by decide) (List.mem_of_getElem? (i := 8) rfl) (v := .ref (ad 203)) hk_293 dX12_readNext_105 ?_
          refine lv_iconst (v := 5) hx hb dX12_readNext_108 (by decide) ?_
          obtain ⟨fc_294, hgc_294, hFc_294⟩ := hW95.arr (i := 203) (by decide) (sh_203 ad K)
          refine q_iald X hP (by decide) hgc_294 (by unfold vp_in; decide) dX12_readNext_109 ?_
          refine lv_topi (fun z_295 ez_295 => ?_)
          have hqz_295 : wq (5) z_295.toInt := ez_295 ▸ hFc_294 _
          have hz_295 : 0 ≤ z_295.toInt ∧ z_295.toInt ≤ 8 := by unfold wq at hqz_295; omega
          clear hqz_295
          have hgaz_295 : gA G95 203 ((5 : Int32).toNatClampNeg) = z_295.toInt := by rw [ez_295]; exact gA_of hgc_294 _
          rw [(by decide : (5 : Int32).toNatClampNeg = 5)] at hgaz_295
          refine lv_bipush (v := 8) hx hb dX12_readNext_110 (by decide) ?_
          refine lv_icmp_eq (tgt := 136) hx hb dX12_readNext_112 (by decide) (fun hc_296 => ?_) (fun hc_296 => ?_)
          · have hhc_296 := n_eq (rfl : z_295.toInt = z_295.toInt) (by decide : (8 : Int32).toInt = 8) hc_296
            have hgi_297 := gI_of hgc_25 hk_26
            have hgi_298 := gI_of hgc_25 hk_29
            exact HJ136 G95 _ _ ls (by omega) hW95 hfr95 hP hS (lv_sub hl [0] rfl)
          · have hhc_296 := n_ne (rfl : z_295.toInt = z_295.toInt) (by decide : (8 : Int32).toInt = 8) hc_296
            have hgi_299 := gI_of hgc_25 hk_26
            have hgi_300 := gI_of hgc_25 hk_29
            exact HJ115 G95 _ _ ls (by omega) (by omega) (by omega) hW95 hfr95 hP hS (lv_sub hl [0] rfl)
      have HJ90 : ∀ (G90 : Nat → va_E) (H : Heap) (locs : List Loc) (ls : Array Slot), gI g 197 8 ≤ gI G90 197 8 → WF (shp ad K) ad cs G90 → (∀ j, j ≠ 197 ∧ j ≠ 203 → G90 j = g j) → va_P D vwCl (wL ad G90 218) H → va_S (wA ad 218) s.heap H locs → lv_has ls 3 [(0, .ref (ad 197))] → W p l e ({ frames := 9, cells := 0, slots := 0, locals := 195 } : Room) s m ([.ref (ad 197)] : List Value).toArray below meth c H locs 0 0 (MQ below (qV D ad 218 (fun g2 => WF (shp ad K) ad cs g2 ∧ (∀ j, j ≠ 197 ∧ j ≠ 203 → g2 j = g j) ∧ (gI g 197 8 ≤ gI g2 197 8))) ([.ref (ad 197)] : List Value).toArray s 0 0 (wA ad 218)) (F0 m 90 ls []) := by
        intro G90 H locs ls he90_0 hW90 hfr90 hP hS hl
        try clear hw_8
        try clear he41_0
        try clear he41_1
        try clear he51_0
        try clear he51_1
        try clear hw_22
        try clear he95_0
        try clear he95_1
        try clear he95_2
        try clear hw_34
        try clear he141_0
        try clear he141_1
        try clear he141_2
        try clear hw_46
        try clear hhc_49
        try clear hwb4
        try clear hwb7
        try clear hwb9
        try clear hwb13
        try clear hgz
        try clear hkn1
        try clear hdf1_4
        try clear hdf1_7
        try clear hdf1_9
        try clear hdf1_13
        try clear h01q_51
        try clear h01q_52
        try clear h01q_53
        try clear h01q_54
        try clear hw_57
        try clear h203r_59
        try clear h203r_59_3
        try clear h203r_59_4
        try clear h203r_59_5
        try clear h203r_59_6
        try clear he291_0
        try clear hhc_71
        try clear hkn2
        try clear hdf2_7
        try clear hdf2_9
        try clear hdf2_13
        try clear hg8_2
        try clear h01q_72
        try clear h01q_73
        try clear h01q_74
        try clear hw_82
        try clear h203r_84
        try clear h203r_84_3
        try clear h203r_84_4
        try clear h203r_84_5
        try clear h203r_84_6
        try clear hhc_87
        try clear hkn3
        try clear hdf3_9
        try clear hdf3_13
        try clear hg8_3
        try clear h01q_88
        try clear h01q_89
        try clear hw_97
        try clear h203r_99
        try clear h203r_99_3
        try clear h203r_99_4
        try clear h203r_99_5
        try clear h203r_99_6
        try clear hhc_102
        try clear hkn4
        try clear hdf4_13
        try clear hg8_4
        try clear h01q_103
        try clear hw_111
        try clear h203a
        try clear h203a_6
        try clear hw_127
        try clear hw_149
        try clear hw_180
        try clear hw_201
        try clear hw_233
        try clear he136_0
        try clear hw_256
        try clear he115_0
        try clear he115_1
        try clear he115_2
        try clear hw_276
        try clear hhc_279
        try clear hhc_285
        try clear hhc_290
        try clear hhc_296
        obtain ⟨fsc_301, hgc_301, hOc_301⟩ := hW90.obj (i := 197) (by decide) (sh_197 ad K)
        obtain ⟨x_303, hk_302, -⟩ := hOc_301.int 12 rfl
        have hgix_303 := gI_of hgc_301 hk_302
        obtain ⟨x_306, hk_305, hlx_306, hhx_306⟩ := hOc_301.int 8 rfl
        have hgix_306 := gI_of hgc_301 hk_305
        refine lv_aload_n hx hb dX12_readNext_90 rfl (lv_at hl 0 rfl) ?_
        refine lv_iconst (v := 3) hx hb dX12_readNext_91 (by decide) ?_
        have hgi_308 := gI_of hgc_301 hk_302
        have hgi_309 := gI_of hgc_301 hk_305
        have hqk_310 : (3 : Int32).toInt = 3 := by decide
        refine s_callv (q := (RX12, TX12, 40)) (As := [.int 3]) (rest := []) X Z (s_X12_errs l D cs ad kS K hKO hj G90 hW90 3 (by omega)) (cwV 1 X.2.2.2.2.1 gg_X12_readNext_X12_errs rfl rfl rfl (by decide +kernel) ⟨Nat.le_of_ble_eq_true rfl, Nat.le_of_ble_eq_true rfl⟩) (by decide) hgc_301 rfl hP hA hS.2.1 hS rfl hl.1 rfl (Nat.le_of_ble_eq_true rfl) dX12_readNext_92 ⟨Nat.le_of_ble_eq_true rfl, Nat.le_of_ble_eq_true rfl⟩ (fun g_312 H locs hw_311 hP hS => ?_)
        obtain ⟨hw_311W, hw_311f, hw_311⟩ := hw_311
        have hfr_314 : ∀ j, j ≠ 197 ∧ j ≠ 203 → g_312 j = g j := fun j hj => (hw_311f j (by first | exact hj | exact hj.1 | exact hj.2 | exact hj.2.1 | exact hj.2.2 | omega)).trans (hfr90 j hj)
        obtain ⟨fsc_315, hgc_315, hOc_315⟩ := hw_311W.obj (i := 197) (by decide) (sh_197 ad K)
        obtain ⟨x_317, hk_316, -⟩ := hOc_315.int 12 rfl
        have hgix_317 := gI_of hgc_315 hk_316
        obtain ⟨x_320, hk_319, hlx_320, hhx_320⟩ := hOc_315.int 8 rfl
        have hgix_320 := gI_of hgc_315 hk_319
        exact HJ95 g_312 _ _ ls (by omega) (by omega) (by omega) hw_311W hfr_314 hP hS (lv_sub hl [0] rfl)
      have HJ71 : ∀ (G71 : Nat → va_E) (H : Heap) (locs : List Loc) (ls : Array Slot), gI g 197 8 ≤ gI G71 197 8 → (gI G71 197 12 ≠ 0 ∨ 1 ≤ isI kS G71 4 + isI kS G71 7 + isI kS G71 9 + isI kS G71 13) → (gI G71 197 12 ≠ 0 ∨ ((isI kS G71 4 = 0 ∨ gA G71 203 3 ≠ 14))) → WF (shp ad K) ad cs G71 → (∀ j, j ≠ 197 ∧ j ≠ 203 → G71 j = g j) → va_P D vwCl (wL ad G71 218) H → va_S (wA ad 218) s.heap H locs → lv_has ls 3 [(0, .ref (ad 197))] → W p l e ({ frames := 9, cells := 0, slots := 0, locals := 195 } : Room) s m ([.ref (ad 197)] : List Value).toArray below meth c H locs 0 0 (MQ below (qV D ad 218 (fun g2 => WF (shp ad K) ad cs g2 ∧ (∀ j, j ≠ 197 ∧ j ≠ 203 → g2 j = g j) ∧ (gI g 197 8 ≤ gI g2 197 8))) ([.ref (ad 197)] : List Value).toArray s 0 0 (wA ad 218)) (F0 m 71 ls []) := by
        intro G71 H locs ls he71_0 he71_1 he71_2 hW71 hfr71 hP hS hl
        try clear hw_8
        try clear he41_0
        try clear he41_1
        try clear he51_0
        try clear he51_1
        try clear hw_22
        try clear he95_0
        try clear he95_1
        try clear he95_2
        try clear hw_34
        try clear he141_0
        try clear he141_1
        try clear he141_2
        try clear hw_46
        try clear hhc_49
        try clear hwb4
        try clear hwb7
        try clear hwb9
        try clear hwb13
        try clear hgz
        try clear hkn1
        try clear hdf1_4
        try clear hdf1_7
        try clear hdf1_9
        try clear hdf1_13
        try clear h01q_51
        try clear h01q_52
        try clear h01q_53
        try clear h01q_54
        try clear hw_57
        try clear h203r_59
        try clear h203r_59_3
        try clear h203r_59_4
        try clear h203r_59_5
        try clear h203r_59_6
        try clear he291_0
        try clear hhc_71
        try clear hkn2
        try clear hdf2_7
        try clear hdf2_9
        try clear hdf2_13
        try clear hg8_2
        try clear h01q_72
        try clear h01q_73
        try clear h01q_74
        try clear hw_82
        try clear h203r_84
        try clear h203r_84_3
        try clear h203r_84_4
        try clear h203r_84_5
        try clear h203r_84_6
        try clear hhc_87
        try clear hkn3
        try clear hdf3_9
        try clear hdf3_13
        try clear hg8_3
        try clear h01q_88
        try clear h01q_89
        try clear hw_97
        try clear h203r_99
        try clear h203r_99_3
        try clear h203r_99_4
        try clear h203r_99_5
        try clear h203r_99_6
        try clear hhc_102
        try clear hkn4
        try clear hdf4_13
        try clear hg8_4
        try clear h01q_103
        try clear hw_111
        try clear h203a
        try clear h203a_6
        try clear hw_127
        try clear hw_149
        try clear hw_180
        try clear hw_201
        try clear hw_233
        try clear he136_0
        try clear hw_256
        try clear he115_0
        try clear he115_1
        try clear he115_2
        try clear hw_276
        try clear hhc_279
        try clear hhc_285
        try clear hhc_290
        try clear hhc_296
        try clear he90_0
        try clear hw_311
        obtain ⟨fsc_322, hgc_322, hOc_322⟩ := hW71.obj (i := 197) (by decide) (sh_197 ad K)
        obtain ⟨x_324, hk_323, -⟩ := hOc_322.int 12 rfl
        have hgix_324 := gI_of hgc_322 hk_323
        obtain ⟨x_327, hk_326, hlx_327, hhx_327⟩ := hOc_322.int 8 rfl
        have hgix_327 := gI_of hgc_322 hk_326
        refine lv_aload_n hx hb dX12_readNext_71 rfl (lv_at hl 0 rfl) ?_
        refine va_ldcS hx hb X.2.2.2.2.2.1 (sq_12_175 Z) dX12_readNext_72 ?_
        have hgi_329 := gI_of hgc_322 hk_323
        have hgi_330 := gI_of hgc_322 hk_326
        refine s_calli (q := (RX12, TX12, 40)) (As := [.ref (kS.1 7)]) (rest := []) X Z (s_X12_is l D cs ad kS K hKO hj G71 hW71 7 (by omega)) (cwV 1 X.2.2.2.2.1 gg_X12_readNext_X12_is rfl rfl rfl (by decide +kernel) ⟨Nat.le_of_ble_eq_true rfl, Nat.le_of_ble_eq_true rfl⟩) (by decide) hgc_322 rfl hP hA hS.2.1 hS rfl hl.1 rfl (Nat.le_of_ble_eq_true rfl) dX12_readNext_74 ⟨Nat.le_of_ble_eq_true rfl, Nat.le_of_ble_eq_true rfl⟩ (fun r_333 g_332 H locs hw_331 hP hS => ?_)
        obtain ⟨hw_331g, hw_331⟩ := hw_331
        rw [hw_331g] at hP
        refine lv_if_eq (tgt := 95) hx hb dX12_readNext_77 (by decide) (fun hc_334 => ?_) (fun hc_334 => ?_)
        · have hhc_334 := n_eq (rfl : r_333.toInt = r_333.toInt) (by decide : (0 : Int32).toInt = 0) hc_334
          have hgi_335 := gI_of hgc_322 hk_323
          have hgi_336 := gI_of hgc_322 hk_326
          exact HJ95 G71 _ _ ls (by omega) (by omega) (by omega) hW71 hfr71 hP hS (lv_sub hl [0] rfl)
        · have hhc_334 := n_ne (rfl : r_333.toInt = r_333.toInt) (by decide : (0 : Int32).toInt = 0) hc_334
          refine lv_aload_n hx hb dX12_readNext_80 rfl (lv_at hl 0 rfl) ?_
          have hk_337 := hOc_322.ref 14 rfl
          refine q_get X iX12_readNext_12 hP (by decide) hgc_322 rfl 14 (by decide) (List.mem_of_getElem? (i := 8) rfl) (v := .ref (ad 203)) hk_337 dX12_readNext_81 ?_
          refine lv_iconst (v := 4) hx hb dX12_readNext_84 (by decide) ?_
          obtain ⟨fc_338, hgc_338, hFc_338⟩ := hW71.arr (i := 203) (by decide) (sh_203 ad K)
          refine q_iald X hP (by decide) hgc_338 (by unfold vp_in; decide) dX12_readNext_85 ?_
          refine lv_topi (fun z_339 ez_339 => ?_)
          have hqz_339 : wq (4) z_339.toInt := ez_339 ▸ hFc_338 _
          have hz_339 : 0 ≤ z_339.toInt ∧ z_339.toInt ≤ 5 := by unfold wq at hqz_339; omega
          clear hqz_339
          have hgaz_339 : gA G71 203 ((4 : Int32).toNatClampNeg) = z_339.toInt := by rw [ez_339]; exact gA_of hgc_338 _
          rw [(by decide : (4 : Int32).toNatClampNeg = 4)] at hgaz_339
          refine lv_iconst (v := 5) hx hb dX12_readNext_86 (by decide) ?_
          refine lv_icmp_ne (tgt := 95) hx hb dX12_readNext_87 (by decide) (fun hc_340 => ?_) (fun hc_340 => ?_)
          · have hhc_340 := n_ne (rfl : z_339.toInt = z_339.toInt) (by decide : (5 : Int32).toInt = 5) hc_340
            have hgi_341 := gI_of hgc_322 hk_323
            have hgi_342 := gI_of hgc_322 hk_326
            exact HJ95 G71 _ _ ls (by omega) (by omega) (by omega) hW71 hfr71 hP hS (lv_sub hl [0] rfl)
          · have hhc_340 := n_eq (rfl : z_339.toInt = z_339.toInt) (by decide : (5 : Int32).toInt = 5) hc_340
            have hgi_343 := gI_of hgc_322 hk_323
            have hgi_344 := gI_of hgc_322 hk_326
            exact HJ90 G71 _ _ ls (by omega) hW71 hfr71 hP hS (lv_sub hl [0] rfl)
      refine lv_if_eq (tgt := 71) hx hb dX12_readNext_57 (by decide) (fun hc_345 => ?_) (fun hc_345 => ?_)
      · have hhc_345 := n_eq (rfl : r_24.toInt = r_24.toInt) (by decide : (0 : Int32).toInt = 0) hc_345
        have hgi_346 := gI_of hgc_13 hk_14
        have hgi_347 := gI_of hgc_13 hk_17
        exact HJ71 G51 _ _ ls (by omega) (by omega) (by omega) hW51 hfr51 hP hS (lv_sub hl [0] rfl)
      · have hhc_345 := n_ne (rfl : r_24.toInt = r_24.toInt) (by decide : (0 : Int32).toInt = 0) hc_345
        refine lv_aload_n hx hb dX12_readNext_60 rfl (lv_at hl 0 rfl) ?_
        have hk_348 := hOc_13.ref 14 rfl
        refine q_get X iX12_readNext_12 hP (by decide) hgc_13 rfl 14 (by decide) (List.mem_of_getElem? (i := 8) rfl) (v := .ref (ad 203)) hk_348 dX12_readNext_61 ?_
        refine lv_iconst (v := 3) hx hb dX12_readNext_64 (by decide) ?_
        obtain ⟨fc_349, hgc_349, hFc_349⟩ := hW51.arr (i := 203) (by decide) (sh_203 ad K)
        refine q_iald X hP (by decide) hgc_349 (by unfold vp_in; decide) dX12_readNext_65 ?_
        refine lv_topi (fun z_350 ez_350 => ?_)
        have hqz_350 : wq (3) z_350.toInt := ez_350 ▸ hFc_349 _
        have hz_350 : 0 ≤ z_350.toInt ∧ z_350.toInt ≤ 14 := by unfold wq at hqz_350; omega
        clear hqz_350
        have hgaz_350 : gA G51 203 ((3 : Int32).toNatClampNeg) = z_350.toInt := by rw [ez_350]; exact gA_of hgc_349 _
        rw [(by decide : (3 : Int32).toNatClampNeg = 3)] at hgaz_350
        refine lv_bipush (v := 14) hx hb dX12_readNext_66 (by decide) ?_
        refine lv_icmp_eq (tgt := 90) hx hb dX12_readNext_68 (by decide) (fun hc_351 => ?_) (fun hc_351 => ?_)
        · have hhc_351 := n_eq (rfl : z_350.toInt = z_350.toInt) (by decide : (14 : Int32).toInt = 14) hc_351
          have hgi_352 := gI_of hgc_13 hk_14
          have hgi_353 := gI_of hgc_13 hk_17
          exact HJ90 G51 _ _ ls (by omega) hW51 hfr51 hP hS (lv_sub hl [0] rfl)
        · have hhc_351 := n_ne (rfl : z_350.toInt = z_350.toInt) (by decide : (14 : Int32).toInt = 14) hc_351
          have hgi_354 := gI_of hgc_13 hk_14
          have hgi_355 := gI_of hgc_13 hk_17
          exact HJ71 G51 _ _ ls (by omega) (by omega) (by omega) hW51 hfr51 hP hS (lv_sub hl [0] rfl)
    refine lv_if_ne (tgt := 51) hx hb dX12_readNext_43 (by decide) (fun hc_356 => ?_) (fun hc_356 => ?_)
    · have hhc_356 := n_ne (rfl : v41_s0.toInt = v41_s0.toInt) (by decide : (0 : Int32).toInt = 0) hc_356
      have hgi_357 := gI_of hg41_0 hk_2
      have hgi_358 := gI_of hg41_0 hk_4
      exact HJ51 G41 _ _ ls (by omega) (by omega) hW41 hfr41 hP hS (lv_sub hl [1] rfl)
    · have hhc_356 := n_eq (rfl : v41_s0.toInt = v41_s0.toInt) (by decide : (0 : Int32).toInt = 0) hc_356
      refine lv_aload_n hx hb dX12_readNext_46 rfl (lv_at hl 1 rfl) ?_
      refine lv_iconst (v := 1) hx hb dX12_readNext_47 (by decide) ?_
      have hgi_359 := gI_of hg41_0 hk_2
      have hgi_360 := gI_of hg41_0 hk_4
      have hqk_361 : (1 : Int32).toInt = 1 := by decide
      refine s_callv (q := (RX12, TX12, 40)) (As := [.int 1]) (rest := []) X Z (s_X12_errs l D cs ad kS K hKO hj G41 hW41 1 (by omega)) (cwV 1 X.2.2.2.2.1 gg_X12_readNext_X12_errs rfl rfl rfl (by decide +kernel) ⟨Nat.le_of_ble_eq_true rfl, Nat.le_of_ble_eq_true rfl⟩) (by decide) hg41_0 rfl hP hA hS.2.1 hS rfl hl.1 rfl (Nat.le_of_ble_eq_true rfl) dX12_readNext_48 ⟨Nat.le_of_ble_eq_true rfl, Nat.le_of_ble_eq_true rfl⟩ (fun g_363 H locs hw_362 hP hS => ?_)
      obtain ⟨hw_362W, hw_362f, hw_362⟩ := hw_362
      have hfr_365 : ∀ j, j ≠ 197 ∧ j ≠ 203 → g_363 j = g j := fun j hj => (hw_362f j (by first | exact hj | exact hj.1 | exact hj.2 | exact hj.2.1 | exact hj.2.2 | omega)).trans (hfr41 j hj)
      obtain ⟨fsc_366, hgc_366, hOc_366⟩ := hw_362W.obj (i := 197) (by decide) (sh_197 ad K)
      obtain ⟨x_368, hk_367, -⟩ := hOc_366.int 12 rfl
      have hgix_368 := gI_of hgc_366 hk_367
      obtain ⟨x_371, hk_370, hlx_371, hhx_371⟩ := hOc_366.int 8 rfl
      have hgix_371 := gI_of hgc_366 hk_370
      exact HJ51 g_363 _ _ ls (by omega) (by omega) hw_362W hfr_365 hP hS (lv_sub hl [1] rfl)
  have HJ36 : ∀ (G36 : Nat → va_E) (H : Heap) (locs : List Loc) (ls : Array Slot), gI g 197 8 ≤ gI G36 197 8 → 1 ≤ isI kS G36 4 + isI kS G36 7 + isI kS G36 9 + isI kS G36 13 → WF (shp ad K) ad cs G36 → (∀ j, j ≠ 197 ∧ j ≠ 203 → G36 j = g j) → G36 197 = .inr (12, fsc_1) → va_P D vwCl (wL ad G36 218) H → va_S (wA ad 218) s.heap H locs → lv_has ls 3 [(0, .ref (ad 197))] → W p l e ({ frames := 9, cells := 0, slots := 0, locals := 195 } : Room) s m ([.ref (ad 197)] : List Value).toArray below meth c H locs 0 0 (MQ below (qV D ad 218 (fun g2 => WF (shp ad K) ad cs g2 ∧ (∀ j, j ≠ 197 ∧ j ≠ 203 → g2 j = g j) ∧ (gI g 197 8 ≤ gI g2 197 8))) ([.ref (ad 197)] : List Value).toArray s 0 0 (wA ad 218)) (F0 m 36 ls []) := by
    intro G36 H locs ls he36_0 he36_1 hW36 hfr36 hg36_0 hP hS hl
    try clear hw_8
    try clear he41_0
    try clear he41_1
    try clear he51_0
    try clear he51_1
    try clear hw_22
    try clear he95_0
    try clear he95_1
    try clear he95_2
    try clear hw_34
    try clear he141_0
    try clear he141_1
    try clear he141_2
    try clear hw_46
    try clear hhc_49
    try clear hwb4
    try clear hwb7
    try clear hwb9
    try clear hwb13
    try clear hgz
    try clear hkn1
    try clear hdf1_4
    try clear hdf1_7
    try clear hdf1_9
    try clear hdf1_13
    try clear h01q_51
    try clear h01q_52
    try clear h01q_53
    try clear h01q_54
    try clear hw_57
    try clear h203r_59
    try clear h203r_59_3
    try clear h203r_59_4
    try clear h203r_59_5
    try clear h203r_59_6
    try clear he291_0
    try clear hhc_71
    try clear hkn2
    try clear hdf2_7
    try clear hdf2_9
    try clear hdf2_13
    try clear hg8_2
    try clear h01q_72
    try clear h01q_73
    try clear h01q_74
    try clear hw_82
    try clear h203r_84
    try clear h203r_84_3
    try clear h203r_84_4
    try clear h203r_84_5
    try clear h203r_84_6
    try clear hhc_87
    try clear hkn3
    try clear hdf3_9
    try clear hdf3_13
    try clear hg8_3
    try clear h01q_88
    try clear h01q_89
    try clear hw_97
    try clear h203r_99
    try clear h203r_99_3
    try clear h203r_99_4
    try clear h203r_99_5
    try clear h203r_99_6
    try clear hhc_102
    try clear hkn4
    try clear hdf4_13
    try clear hg8_4
    try clear h01q_103
    try clear hw_111
    try clear h203a
    try clear h203a_6
    try clear hw_127
    try clear hw_149
    try clear hw_180
    try clear hw_201
    try clear hw_233
    try clear he136_0
    try clear hw_256
    try clear he115_0
    try clear he115_1
    try clear he115_2
    try clear hw_276
    try clear hhc_279
    try clear hhc_285
    try clear hhc_290
    try clear hhc_296
    try clear he90_0
    try clear hw_311
    try clear he71_0
    try clear he71_1
    try clear he71_2
    try clear hw_331
    try clear hhc_334
    try clear hhc_340
    try clear hhc_345
    try clear hhc_351
    try clear hhc_356
    try clear hw_362
    have hgi_373 := gI_of hg36_0 hk_2
    have hgi_374 := gI_of hg36_0 hk_4
    refine lv_iconst (v := 1) hx hb dX12_readNext_36 (by decide) ?_
    refine lv_goto (tgt := 41) hx hb dX12_readNext_37 (by decide) ?_
    have hgi_375 := gI_of hg36_0 hk_2
    have hgi_376 := gI_of hg36_0 hk_4
    have hiv41_s0 : (1 : Int32).toInt = 1 := by decide
    exact HJ41 1 G36 _ _ ls (by omega) (by omega) (by omega) hW36 hfr36 hg36_0 hP hS (lv_sub hl [0] rfl)
  refine lv_if_ne (tgt := 36) hx hb dX12_readNext_6 (by decide) (fun hc_377 => ?_) (fun hc_377 => ?_)
  · have hhc_377 := n_ne (rfl : r_10.toInt = r_10.toInt) (by decide : (0 : Int32).toInt = 0) hc_377
    have hgi_378 := gI_of hgc_1 hk_2
    have hgi_379 := gI_of hgc_1 hk_4
    have h01q_380 := isI_01 kS g 4
    have h01q_381 := isI_01 kS g 7
    have h01q_382 := isI_01 kS g 9
    have h01q_383 := isI_01 kS g 13
    exact HJ36 g _ _ ls (by omega) (by omega) hW hfr hgc_1 hP hS (lv_sub hl [0] rfl)
  · have hhc_377 := n_eq (rfl : r_10.toInt = r_10.toInt) (by decide : (0 : Int32).toInt = 0) hc_377
    refine lv_aload_n hx hb dX12_readNext_9 rfl (lv_at hl 0 rfl) ?_
    refine va_ldcS hx hb X.2.2.2.2.2.1 (sq_12_175 Z) dX12_readNext_10 ?_
    have hgi_384 := gI_of hgc_1 hk_2
    have hgi_385 := gI_of hgc_1 hk_4
    refine s_calli (q := (RX12, TX12, 40)) (As := [.ref (kS.1 7)]) (rest := []) X Z (s_X12_is l D cs ad kS K hKO hj g hW 7 (by omega)) (cwV 1 X.2.2.2.2.1 gg_X12_readNext_X12_is rfl rfl rfl (by decide +kernel) ⟨Nat.le_of_ble_eq_true rfl, Nat.le_of_ble_eq_true rfl⟩) (by decide) hgc_1 rfl hP hA hS.2.1 hS rfl hl.1 rfl (Nat.le_of_ble_eq_true rfl) dX12_readNext_12 ⟨Nat.le_of_ble_eq_true rfl, Nat.le_of_ble_eq_true rfl⟩ (fun r_388 g_387 H locs hw_386 hP hS => ?_)
    obtain ⟨hw_386g, hw_386⟩ := hw_386
    rw [hw_386g] at hP
    refine lv_if_ne (tgt := 36) hx hb dX12_readNext_15 (by decide) (fun hc_389 => ?_) (fun hc_389 => ?_)
    · have hhc_389 := n_ne (rfl : r_388.toInt = r_388.toInt) (by decide : (0 : Int32).toInt = 0) hc_389
      have hgi_390 := gI_of hgc_1 hk_2
      have hgi_391 := gI_of hgc_1 hk_4
      have h01q_392 := isI_01 kS g 4
      have h01q_393 := isI_01 kS g 7
      have h01q_394 := isI_01 kS g 9
      have h01q_395 := isI_01 kS g 13
      exact HJ36 g _ _ ls (by omega) (by omega) hW hfr hgc_1 hP hS (lv_sub hl [0] rfl)
    · have hhc_389 := n_eq (rfl : r_388.toInt = r_388.toInt) (by decide : (0 : Int32).toInt = 0) hc_389
      refine lv_aload_n hx hb dX12_readNext_18 rfl (lv_at hl 0 rfl) ?_
      refine va_ldcS hx hb X.2.2.2.2.2.1 (sq_12_177 Z) dX12_readNext_19 ?_
      have hgi_396 := gI_of hgc_1 hk_2
      have hgi_397 := gI_of hgc_1 hk_4
      refine s_calli (q := (RX12, TX12, 40)) (As := [.ref (kS.1 9)]) (rest := []) X Z (s_X12_is l D cs ad kS K hKO hj g hW 9 (by omega)) (cwV 1 X.2.2.2.2.1 gg_X12_readNext_X12_is rfl rfl rfl (by decide +kernel) ⟨Nat.le_of_ble_eq_true rfl, Nat.le_of_ble_eq_true rfl⟩) (by decide) hgc_1 rfl hP hA hS.2.1 hS rfl hl.1 rfl (Nat.le_of_ble_eq_true rfl) dX12_readNext_21 ⟨Nat.le_of_ble_eq_true rfl, Nat.le_of_ble_eq_true rfl⟩ (fun r_400 g_399 H locs hw_398 hP hS => ?_)
      obtain ⟨hw_398g, hw_398⟩ := hw_398
      rw [hw_398g] at hP
      refine lv_if_ne (tgt := 36) hx hb dX12_readNext_24 (by decide) (fun hc_401 => ?_) (fun hc_401 => ?_)
      · have hhc_401 := n_ne (rfl : r_400.toInt = r_400.toInt) (by decide : (0 : Int32).toInt = 0) hc_401
        have hgi_402 := gI_of hgc_1 hk_2
        have hgi_403 := gI_of hgc_1 hk_4
        have h01q_404 := isI_01 kS g 4
        have h01q_405 := isI_01 kS g 7
        have h01q_406 := isI_01 kS g 9
        have h01q_407 := isI_01 kS g 13
        exact HJ36 g _ _ ls (by omega) (by omega) hW hfr hgc_1 hP hS (lv_sub hl [0] rfl)
      · have hhc_401 := n_eq (rfl : r_400.toInt = r_400.toInt) (by decide : (0 : Int32).toInt = 0) hc_401
        refine lv_aload_n hx hb dX12_readNext_27 rfl (lv_at hl 0 rfl) ?_
        refine va_ldcS hx hb X.2.2.2.2.2.1 (sq_12_179 Z) dX12_readNext_28 ?_
        have hgi_408 := gI_of hgc_1 hk_2
        have hgi_409 := gI_of hgc_1 hk_4
        refine s_calli (q := (RX12, TX12, 40)) (As := [.ref (kS.1 13)]) (rest := []) X Z (s_X12_is l D cs ad kS K hKO hj g hW 13 (by omega)) (cwV 1 X.2.2.2.2.1 gg_X12_readNext_X12_is rfl rfl rfl (by decide +kernel) ⟨Nat.le_of_ble_eq_true rfl, Nat.le_of_ble_eq_true rfl⟩) (by decide) hgc_1 rfl hP hA hS.2.1 hS rfl hl.1 rfl (Nat.le_of_ble_eq_true rfl) dX12_readNext_30 ⟨Nat.le_of_ble_eq_true rfl, Nat.le_of_ble_eq_true rfl⟩ (fun r_412 g_411 H locs hw_410 hP hS => ?_)
        obtain ⟨hw_410g, hw_410⟩ := hw_410
        rw [hw_410g] at hP
        refine lv_if_eq (tgt := 40) hx hb dX12_readNext_33 (by decide) (fun hc_413 => ?_) (fun hc_413 => ?_)
        · have hhc_413 := n_eq (rfl : r_412.toInt = r_412.toInt) (by decide : (0 : Int32).toInt = 0) hc_413
          refine lv_iconst (v := 0) hx hb dX12_readNext_40 (by decide) ?_
          have hgi_414 := gI_of hgc_1 hk_2
          have hgi_415 := gI_of hgc_1 hk_4
          have hiv41_s0 : (0 : Int32).toInt = 0 := by decide
          exact HJ41 0 g _ _ ls (by omega) (by omega) (by omega) hW hfr hgc_1 hP hS (lv_sub hl [0] rfl)
        · have hhc_413 := n_ne (rfl : r_412.toInt = r_412.toInt) (by decide : (0 : Int32).toInt = 0) hc_413
          have hgi_416 := gI_of hgc_1 hk_2
          have hgi_417 := gI_of hgc_1 hk_4
          have h01q_418 := isI_01 kS g 4
          have h01q_419 := isI_01 kS g 7
          have h01q_420 := isI_01 kS g 9
          have h01q_421 := isI_01 kS g 13
          exact HJ36 g _ _ ls (by omega) (by omega) hW hfr hgc_1 hP hS (lv_sub hl [0] rfl)

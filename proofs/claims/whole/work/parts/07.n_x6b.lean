theorem dX6_act_127 : decode cX6_act 127 = .ok (.goto 13, 3) := by decide +kernel
theorem dX6_act_130 : decode cX6_act 130 = .ok (.iload 5, 2) := by decide +kernel
theorem dX6_act_132 : decode cX6_act 132 = .ok (.ifCond .gt 7, 3) := by decide +kernel
theorem dX6_act_135 : decode cX6_act 135 = .ok (.iconst 1, 1) := by decide +kernel
theorem dX6_act_136 : decode cX6_act 136 = .ok (.goto 4, 3) := by decide +kernel
theorem dX6_act_139 : decode cX6_act 139 = .ok (.iconst 0, 1) := by decide +kernel
theorem dX6_act_140 : decode cX6_act 140 = .ok (.istore 6, 2) := by decide +kernel
theorem dX6_act_142 : decode cX6_act 142 = .ok (.iconst 0, 1) := by decide +kernel
theorem dX6_act_143 : decode cX6_act 143 = .ok (.istore 7, 2) := by decide +kernel
theorem dX6_act_145 : decode cX6_act 145 = .ok (.iload 7, 2) := by decide +kernel
theorem dX6_act_147 : decode cX6_act 147 = .ok (.aload_n 0, 1) := by decide +kernel
theorem dX6_act_148 : decode cX6_act 148 = .ok (.getfield 16, 3) := by decide +kernel
theorem dX6_act_151 : decode cX6_act 151 = .ok (.iload_n 2, 1) := by decide +kernel
theorem dX6_act_152 : decode cX6_act 152 = .ok (.iaload, 1) := by decide +kernel
theorem dX6_act_153 : decode cX6_act 153 = .ok (.if_icmp .ge 163, 3) := by decide +kernel
theorem dX6_act_156 : decode cX6_act 156 = .ok (.aload_n 0, 1) := by decide +kernel
theorem dX6_act_157 : decode cX6_act 157 = .ok (.getfield 19, 3) := by decide +kernel
theorem dX6_act_160 : decode cX6_act 160 = .ok (.bipush 12, 2) := by decide +kernel
theorem dX6_act_162 : decode cX6_act 162 = .ok (.iload_n 2, 1) := by decide +kernel
theorem dX6_act_163 : decode cX6_act 163 = .ok (.imul, 1) := by decide +kernel
theorem dX6_act_164 : decode cX6_act 164 = .ok (.iload 7, 2) := by decide +kernel
theorem dX6_act_166 : decode cX6_act 166 = .ok (.iadd, 1) := by decide +kernel
theorem dX6_act_167 : decode cX6_act 167 = .ok (.laload, 1) := by decide +kernel
theorem dX6_act_168 : decode cX6_act 168 = .ok (.lstore 8, 2) := by decide +kernel
theorem dX6_act_170 : decode cX6_act 170 = .ok (.aload_n 0, 1) := by decide +kernel
theorem dX6_act_171 : decode cX6_act 171 = .ok (.getfield 19, 3) := by decide +kernel
theorem dX6_act_174 : decode cX6_act 174 = .ok (.bipush 12, 2) := by decide +kernel
theorem dX6_act_176 : decode cX6_act 176 = .ok (.iload_n 3, 1) := by decide +kernel
theorem dX6_act_177 : decode cX6_act 177 = .ok (.imul, 1) := by decide +kernel
theorem dX6_act_178 : decode cX6_act 178 = .ok (.iload 7, 2) := by decide +kernel
theorem dX6_act_180 : decode cX6_act 180 = .ok (.iadd, 1) := by decide +kernel
theorem dX6_act_181 : decode cX6_act 181 = .ok (.laload, 1) := by decide +kernel
theorem dX6_act_182 : decode cX6_act 182 = .ok (.lstore 10, 2) := by decide +kernel
theorem dX6_act_184 : decode cX6_act 184 = .ok (.iload_n 1, 1) := by decide +kernel
theorem dX6_act_185 : decode cX6_act 185 = .ok (.iconst 4, 1) := by decide +kernel
theorem dX6_act_186 : decode cX6_act 186 = .ok (.if_icmp .ne 21, 3) := by decide +kernel
theorem dX6_act_189 : decode cX6_act 189 = .ok (.lload 8, 2) := by decide +kernel
theorem dX6_act_191 : decode cX6_act 191 = .ok (.lload 10, 2) := by decide +kernel
theorem dX6_act_193 : decode cX6_act 193 = .ok (.lcmp, 1) := by decide +kernel
theorem dX6_act_194 : decode cX6_act 194 = .ok (.ifCond .le 8, 3) := by decide +kernel
theorem dX6_act_197 : decode cX6_act 197 = .ok (.lload 8, 2) := by decide +kernel
theorem dX6_act_199 : decode cX6_act 199 = .ok (.goto 43, 3) := by decide +kernel
theorem dX6_act_202 : decode cX6_act 202 = .ok (.lload 10, 2) := by decide +kernel
theorem dX6_act_204 : decode cX6_act 204 = .ok (.goto 38, 3) := by decide +kernel
theorem dX6_act_207 : decode cX6_act 207 = .ok (.iload_n 1, 1) := by decide +kernel
theorem dX6_act_208 : decode cX6_act 208 = .ok (.iconst 5, 1) := by decide +kernel
theorem dX6_act_209 : decode cX6_act 209 = .ok (.if_icmp .ne 21, 3) := by decide +kernel
theorem dX6_act_212 : decode cX6_act 212 = .ok (.lload 8, 2) := by decide +kernel
theorem dX6_act_214 : decode cX6_act 214 = .ok (.lload 10, 2) := by decide +kernel
theorem dX6_act_216 : decode cX6_act 216 = .ok (.lcmp, 1) := by decide +kernel
theorem dX6_act_217 : decode cX6_act 217 = .ok (.ifCond .ge 8, 3) := by decide +kernel
theorem dX6_act_220 : decode cX6_act 220 = .ok (.lload 8, 2) := by decide +kernel
theorem dX6_act_222 : decode cX6_act 222 = .ok (.goto 20, 3) := by decide +kernel
theorem dX6_act_225 : decode cX6_act 225 = .ok (.lload 10, 2) := by decide +kernel
theorem dX6_act_227 : decode cX6_act 227 = .ok (.goto 15, 3) := by decide +kernel
theorem dX6_act_230 : decode cX6_act 230 = .ok (.iload 6, 2) := by decide +kernel
theorem dX6_act_232 : decode cX6_act 232 = .ok (.ifCond .eq 8, 3) := by decide +kernel
theorem dX6_act_235 : decode cX6_act 235 = .ok (.lload 8, 2) := by decide +kernel
theorem dX6_act_237 : decode cX6_act 237 = .ok (.goto 5, 3) := by decide +kernel
theorem dX6_act_240 : decode cX6_act 240 = .ok (.lload 10, 2) := by decide +kernel
theorem dX6_act_242 : decode cX6_act 242 = .ok (.lstore 12, 2) := by decide +kernel
theorem dX6_act_244 : decode cX6_act 244 = .ok (.iload_n 1, 1) := by decide +kernel
theorem dX6_act_245 : decode cX6_act 245 = .ok (.iconst 2, 1) := by decide +kernel
theorem dX6_act_246 : decode cX6_act 246 = .ok (.if_icmp .ge 47, 3) := by decide +kernel
theorem dX6_act_249 : decode cX6_act 249 = .ok (.aload_n 0, 1) := by decide +kernel
theorem dX6_act_250 : decode cX6_act 250 = .ok (.invokevirtual 105, 3) := by decide +kernel
theorem dX6_act_253 : decode cX6_act 253 = .ok (.aload_n 0, 1) := by decide +kernel
theorem dX6_act_254 : decode cX6_act 254 = .ok (.lload 8, 2) := by decide +kernel
theorem dX6_act_256 : decode cX6_act 256 = .ok (.lconst 1, 1) := by decide +kernel
theorem dX6_act_257 : decode cX6_act 257 = .ok (.invokevirtual 108, 3) := by decide +kernel
theorem dX6_act_260 : decode cX6_act 260 = .ok (.aload_n 0, 1) := by decide +kernel
theorem dX6_act_261 : decode cX6_act 261 = .ok (.lload 10, 2) := by decide +kernel
theorem dX6_act_263 : decode cX6_act 263 = .ok (.iload_n 1, 1) := by decide +kernel
theorem dX6_act_264 : decode cX6_act 264 = .ok (.ifCond .ne 7, 3) := by decide +kernel
theorem dX6_act_267 : decode cX6_act 267 = .ok (.lconst 1, 1) := by decide +kernel
theorem dX6_act_268 : decode cX6_act 268 = .ok (.goto 6, 3) := by decide +kernel
theorem dX6_act_271 : decode cX6_act 271 = .ok (.ldc2_w 112, 3) := by decide +kernel
theorem dX6_act_274 : decode cX6_act 274 = .ok (.invokevirtual 108, 3) := by decide +kernel
theorem dX6_act_277 : decode cX6_act 277 = .ok (.aload_n 0, 1) := by decide +kernel
theorem dX6_act_278 : decode cX6_act 278 = .ok (.invokevirtual 114, 3) := by decide +kernel
theorem dX6_act_281 : decode cX6_act 281 = .ok (.ifCond .ne 6, 3) := by decide +kernel
theorem dX6_act_284 : decode cX6_act 284 = .ok (.bipush (-16), 2) := by decide +kernel
theorem dX6_act_286 : decode cX6_act 286 = .ok (.ireturn, 1) := by decide +kernel
theorem dX6_act_287 : decode cX6_act 287 = .ok (.aload_n 0, 1) := by decide +kernel
theorem dX6_act_288 : decode cX6_act 288 = .ok (.invokevirtual 118, 3) := by decide +kernel
theorem dX6_act_291 : decode cX6_act 291 = .ok (.lstore 12, 2) := by decide +kernel
theorem dX6_act_293 : decode cX6_act 293 = .ok (.aload_n 0, 1) := by decide +kernel
theorem dX6_act_294 : decode cX6_act 294 = .ok (.getfield 19, 3) := by decide +kernel
theorem dX6_act_297 : decode cX6_act 297 = .ok (.bipush 12, 2) := by decide +kernel
theorem dX6_act_299 : decode cX6_act 299 = .ok (.aload_n 0, 1) := by decide +kernel
theorem dX6_act_300 : decode cX6_act 300 = .ok (.getfield 45, 3) := by decide +kernel
theorem dX6_act_303 : decode cX6_act 303 = .ok (.imul, 1) := by decide +kernel
theorem dX6_act_304 : decode cX6_act 304 = .ok (.iload 7, 2) := by decide +kernel
theorem dX6_act_306 : decode cX6_act 306 = .ok (.iadd, 1) := by decide +kernel
theorem dX6_act_307 : decode cX6_act 307 = .ok (.lload 12, 2) := by decide +kernel
theorem dX6_act_309 : decode cX6_act 309 = .ok (.lastore, 1) := by decide +kernel
theorem dX6_act_310 : decode cX6_act 310 = .ok (.iinc 7 1, 3) := by decide +kernel
theorem dX6_act_313 : decode cX6_act 313 = .ok (.goto (-168), 3) := by decide +kernel
theorem dX6_act_316 : decode cX6_act 316 = .ok (.aload_n 0, 1) := by decide +kernel
theorem dX6_act_317 : decode cX6_act 317 = .ok (.invokevirtual 64, 3) := by decide +kernel
theorem dX6_act_320 : decode cX6_act 320 = .ok (.ireturn, 1) := by decide +kernel
set_option maxRecDepth 20000 in
theorem ggX6_times_X6_isNumber : GoodIn wsX6_times wsX6_isNumber := goodIn_r _ [10, 1, 11, 12, 9, 13, 47, 48, 49, 50, 51, 52, 53, 54, 55, 56, 57, 58, 59, 60, 61, 62, 63, 64, 65, 66, 67, 68, 69, 70] (by decide +kernel) (by decide +kernel)
set_option maxRecDepth 20000 in
theorem gX6_times_X6_isNumber : GoodIn wsX6_times (wsV RX6 68 RX6 yX6_isNumber wsX6_isNumber) := goodIn_app (goodIn_of _ (by decide +kernel)) ggX6_times_X6_isNumber
set_option maxRecDepth 20000 in
theorem ggX6_times_X6_isNothing : GoodIn wsX6_times wsX6_isNothing := goodIn_r _ [17, 2, 47, 48, 49, 50, 51, 52, 53, 54, 55, 56, 57, 58, 59, 60, 61, 62, 63, 64, 65, 66, 67, 68, 69, 70] (by decide +kernel) (by decide +kernel)
set_option maxRecDepth 20000 in
theorem gX6_times_X6_isNothing : GoodIn wsX6_times (wsV RX6 72 RX6 yX6_isNothing wsX6_isNothing) := goodIn_app (goodIn_of _ (by decide +kernel)) ggX6_times_X6_isNothing
set_option maxRecDepth 20000 in
theorem ggX6_times_X6_lay : GoodIn wsX6_times wsX6_lay := goodIn_r _ [21, 2, 1, 3, 4, 5, 47, 48, 49, 50, 51, 52, 53, 54, 55, 56, 57, 58, 59, 60, 61, 62, 63, 64, 65, 66, 67, 68, 69, 70] (by decide +kernel) (by decide +kernel)
set_option maxRecDepth 20000 in
theorem gX6_times_X6_lay : GoodIn wsX6_times (wsV RX6 60 RX6 yX6_lay wsX6_lay) := goodIn_app (goodIn_of _ (by decide +kernel)) ggX6_times_X6_lay
set_option maxRecDepth 20000 in
theorem ggX6_times_X6_zero : GoodIn wsX6_times wsX6_zero := goodIn_r _ [25, 26, 27, 47, 48, 49, 50, 51, 52, 53, 54, 55, 56, 57, 58, 59, 60, 61, 62, 63, 64, 65, 66, 67, 68, 69, 70] (by decide +kernel) (by decide +kernel)
set_option maxRecDepth 20000 in
theorem gX6_times_X6_zero : GoodIn wsX6_times (wsV RX6 105 RX6 yX6_zero wsX6_zero) := goodIn_app (goodIn_of _ (by decide +kernel)) ggX6_times_X6_zero
set_option maxRecDepth 20000 in
theorem ggX6_times_X6_add : GoodIn wsX6_times wsX6_add := goodIn_r _ [31, 26, 27, 32, 47, 48, 49, 50, 51, 52, 53, 54, 55, 56, 57, 58, 59, 60, 61, 62, 63, 64, 65, 66, 67, 68, 69, 70] (by decide +kernel) (by decide +kernel)
set_option maxRecDepth 20000 in
theorem gX6_times_X6_add : GoodIn wsX6_times (wsV RX6 108 RX6 yX6_add wsX6_add) := goodIn_app (goodIn_of _ (by decide +kernel)) ggX6_times_X6_add
set_option maxRecDepth 20000 in
theorem ggX6_times_X6_fits : GoodIn wsX6_times wsX6_fits := goodIn_r _ [36, 26, 37, 38, 11, 12, 9, 13, 47, 48, 49, 50, 51, 52, 53, 54, 55, 56, 57, 58, 59, 60, 61, 62, 63, 64, 65, 66, 67, 68, 69, 70] (by decide +kernel) (by decide +kernel)
set_option maxRecDepth 20000 in
theorem gX6_times_X6_fits : GoodIn wsX6_times (wsV RX6 114 RX6 yX6_fits wsX6_fits) := goodIn_app (goodIn_of _ (by decide +kernel)) ggX6_times_X6_fits
set_option maxRecDepth 20000 in
theorem ggX6_times_X6_number : GoodIn wsX6_times wsX6_number := goodIn_r _ [42, 26, 27, 47, 48, 49, 50, 51, 52, 53, 54, 55, 56, 57, 58, 59, 60, 61, 62, 63, 64, 65, 66, 67, 68, 69, 70] (by decide +kernel) (by decide +kernel)
set_option maxRecDepth 20000 in
theorem gX6_times_X6_number : GoodIn wsX6_times (wsV RX6 118 RX6 yX6_number wsX6_number) := goodIn_app (goodIn_of _ (by decide +kernel)) ggX6_times_X6_number
set_option maxRecDepth 20000 in
theorem ggX6_times_X6_keepScore : GoodIn wsX6_times wsX6_keepScore := goodIn_r _ [46, 1, 47, 48, 49, 50, 51, 52, 53, 54, 55, 56, 57, 58, 59, 60, 61, 62, 63, 64, 65, 66, 67, 68, 69, 70] (by decide +kernel) (by decide +kernel)
set_option maxRecDepth 20000 in
theorem gX6_times_X6_keepScore : GoodIn wsX6_times (wsV RX6 64 RX6 yX6_keepScore wsX6_keepScore) := goodIn_app (goodIn_of _ (by decide +kernel)) ggX6_times_X6_keepScore
theorem dX6_times_0 : decode cX6_times 0 = .ok (.aload_n 0, 1) := by decide +kernel
theorem dX6_times_1 : decode cX6_times 1 = .ok (.iload_n 1, 1) := by decide +kernel
theorem dX6_times_2 : decode cX6_times 2 = .ok (.invokevirtual 68, 3) := by decide +kernel
theorem dX6_times_5 : decode cX6_times 5 = .ok (.ifCond .ne 6, 3) := by decide +kernel
theorem dX6_times_8 : decode cX6_times 8 = .ok (.bipush (-2), 2) := by decide +kernel
theorem dX6_times_10 : decode cX6_times 10 = .ok (.ireturn, 1) := by decide +kernel
theorem dX6_times_11 : decode cX6_times 11 = .ok (.aload_n 0, 1) := by decide +kernel
theorem dX6_times_12 : decode cX6_times 12 = .ok (.getfield 45, 3) := by decide +kernel
theorem dX6_times_15 : decode cX6_times 15 = .ok (.bipush 60, 2) := by decide +kernel
theorem dX6_times_17 : decode cX6_times 17 = .ok (.if_icmp .ne 6, 3) := by decide +kernel
theorem dX6_times_20 : decode cX6_times 20 = .ok (.bipush (-4), 2) := by decide +kernel
theorem dX6_times_22 : decode cX6_times 22 = .ok (.ireturn, 1) := by decide +kernel
theorem dX6_times_23 : decode cX6_times 23 = .ok (.aload_n 0, 1) := by decide +kernel
theorem dX6_times_24 : decode cX6_times 24 = .ok (.iload_n 1, 1) := by decide +kernel
theorem dX6_times_25 : decode cX6_times 25 = .ok (.invokevirtual 72, 3) := by decide +kernel
theorem dX6_times_28 : decode cX6_times 28 = .ok (.ifCond .eq 6, 3) := by decide +kernel
theorem dX6_times_31 : decode cX6_times 31 = .ok (.bipush (-11), 2) := by decide +kernel
theorem dX6_times_33 : decode cX6_times 33 = .ok (.ireturn, 1) := by decide +kernel
theorem dX6_times_34 : decode cX6_times 34 = .ok (.iload_n 3, 1) := by decide +kernel
theorem dX6_times_35 : decode cX6_times 35 = .ok (.ifCond .ne 6, 3) := by decide +kernel
theorem dX6_times_38 : decode cX6_times 38 = .ok (.bipush (-15), 2) := by decide +kernel
theorem dX6_times_40 : decode cX6_times 40 = .ok (.ireturn, 1) := by decide +kernel
theorem dX6_times_41 : decode cX6_times 41 = .ok (.iload_n 3, 1) := by decide +kernel
theorem dX6_times_42 : decode cX6_times 42 = .ok (.ifCond .ge 9, 3) := by decide +kernel
theorem dX6_times_45 : decode cX6_times 45 = .ok (.iload_n 2, 1) := by decide +kernel
theorem dX6_times_46 : decode cX6_times 46 = .ok (.i2l, 1) := by decide +kernel
theorem dX6_times_47 : decode cX6_times 47 = .ok (.lneg, 1) := by decide +kernel
theorem dX6_times_48 : decode cX6_times 48 = .ok (.goto 5, 3) := by decide +kernel
theorem dX6_times_51 : decode cX6_times 51 = .ok (.iload_n 2, 1) := by decide +kernel
theorem dX6_times_52 : decode cX6_times 52 = .ok (.i2l, 1) := by decide +kernel
theorem dX6_times_53 : decode cX6_times 53 = .ok (.lstore 4, 2) := by decide +kernel
theorem dX6_times_55 : decode cX6_times 55 = .ok (.iload_n 3, 1) := by decide +kernel
theorem dX6_times_56 : decode cX6_times 56 = .ok (.ifCond .ge 9, 3) := by decide +kernel
theorem dX6_times_59 : decode cX6_times 59 = .ok (.iload_n 3, 1) := by decide +kernel
theorem dX6_times_60 : decode cX6_times 60 = .ok (.i2l, 1) := by decide +kernel
theorem dX6_times_61 : decode cX6_times 61 = .ok (.lneg, 1) := by decide +kernel
theorem dX6_times_62 : decode cX6_times 62 = .ok (.goto 5, 3) := by decide +kernel
theorem dX6_times_65 : decode cX6_times 65 = .ok (.iload_n 3, 1) := by decide +kernel
theorem dX6_times_66 : decode cX6_times 66 = .ok (.i2l, 1) := by decide +kernel
theorem dX6_times_67 : decode cX6_times 67 = .ok (.lstore 6, 2) := by decide +kernel
theorem dX6_times_69 : decode cX6_times 69 = .ok (.aload_n 0, 1) := by decide +kernel
theorem dX6_times_70 : decode cX6_times 70 = .ok (.aload_n 0, 1) := by decide +kernel
theorem dX6_times_71 : decode cX6_times 71 = .ok (.getfield 7, 3) := by decide +kernel
theorem dX6_times_74 : decode cX6_times 74 = .ok (.iload_n 1, 1) := by decide +kernel
theorem dX6_times_75 : decode cX6_times 75 = .ok (.iaload, 1) := by decide +kernel
theorem dX6_times_76 : decode cX6_times 76 = .ok (.aload_n 0, 1) := by decide +kernel
theorem dX6_times_77 : decode cX6_times 77 = .ok (.getfield 13, 3) := by decide +kernel
theorem dX6_times_80 : decode cX6_times 80 = .ok (.iload_n 1, 1) := by decide +kernel
theorem dX6_times_81 : decode cX6_times 81 = .ok (.iaload, 1) := by decide +kernel
theorem dX6_times_82 : decode cX6_times 82 = .ok (.aload_n 0, 1) := by decide +kernel
theorem dX6_times_83 : decode cX6_times 83 = .ok (.getfield 16, 3) := by decide +kernel
theorem dX6_times_86 : decode cX6_times 86 = .ok (.iload_n 1, 1) := by decide +kernel
theorem dX6_times_87 : decode cX6_times 87 = .ok (.iaload, 1) := by decide +kernel
theorem dX6_times_88 : decode cX6_times 88 = .ok (.invokevirtual 60, 3) := by decide +kernel
theorem dX6_times_91 : decode cX6_times 91 = .ok (.iconst 0, 1) := by decide +kernel
theorem dX6_times_92 : decode cX6_times 92 = .ok (.istore 8, 2) := by decide +kernel
theorem dX6_times_94 : decode cX6_times 94 = .ok (.iload 8, 2) := by decide +kernel
theorem dX6_times_96 : decode cX6_times 96 = .ok (.aload_n 0, 1) := by decide +kernel
theorem dX6_times_97 : decode cX6_times 97 = .ok (.getfield 16, 3) := by decide +kernel
theorem dX6_times_100 : decode cX6_times 100 = .ok (.iload_n 1, 1) := by decide +kernel
theorem dX6_times_101 : decode cX6_times 101 = .ok (.iaload, 1) := by decide +kernel
theorem dX6_times_102 : decode cX6_times 102 = .ok (.if_icmp .ge 135, 3) := by decide +kernel
theorem dX6_times_105 : decode cX6_times 105 = .ok (.aload_n 0, 1) := by decide +kernel
theorem dX6_times_106 : decode cX6_times 106 = .ok (.getfield 19, 3) := by decide +kernel
theorem dX6_times_109 : decode cX6_times 109 = .ok (.bipush 12, 2) := by decide +kernel
theorem dX6_times_111 : decode cX6_times 111 = .ok (.iload_n 1, 1) := by decide +kernel
theorem dX6_times_112 : decode cX6_times 112 = .ok (.imul, 1) := by decide +kernel
theorem dX6_times_113 : decode cX6_times 113 = .ok (.iload 8, 2) := by decide +kernel
theorem dX6_times_115 : decode cX6_times 115 = .ok (.iadd, 1) := by decide +kernel
theorem dX6_times_116 : decode cX6_times 116 = .ok (.laload, 1) := by decide +kernel
theorem dX6_times_117 : decode cX6_times 117 = .ok (.lstore 9, 2) := by decide +kernel
theorem dX6_times_119 : decode cX6_times 119 = .ok (.lload 9, 2) := by decide +kernel
theorem dX6_times_121 : decode cX6_times 121 = .ok (.lload 6, 2) := by decide +kernel
theorem dX6_times_123 : decode cX6_times 123 = .ok (.lrem, 1) := by decide +kernel
theorem dX6_times_124 : decode cX6_times 124 = .ok (.lstore 11, 2) := by decide +kernel
theorem dX6_times_126 : decode cX6_times 126 = .ok (.lload 9, 2) := by decide +kernel
theorem dX6_times_128 : decode cX6_times 128 = .ok (.lload 6, 2) := by decide +kernel
theorem dX6_times_130 : decode cX6_times 130 = .ok (.ldiv, 1) := by decide +kernel
theorem dX6_times_131 : decode cX6_times 131 = .ok (.lstore 13, 2) := by decide +kernel
theorem dX6_times_133 : decode cX6_times 133 = .ok (.lload 11, 2) := by decide +kernel
theorem dX6_times_135 : decode cX6_times 135 = .ok (.lconst 0, 1) := by decide +kernel
theorem dX6_times_136 : decode cX6_times 136 = .ok (.lcmp, 1) := by decide +kernel
theorem dX6_times_137 : decode cX6_times 137 = .ok (.ifCond .ge 16, 3) := by decide +kernel
theorem dX6_times_140 : decode cX6_times 140 = .ok (.lload 11, 2) := by decide +kernel
theorem dX6_times_142 : decode cX6_times 142 = .ok (.lload 6, 2) := by decide +kernel
theorem dX6_times_144 : decode cX6_times 144 = .ok (.ladd, 1) := by decide +kernel
theorem dX6_times_145 : decode cX6_times 145 = .ok (.lstore 11, 2) := by decide +kernel
theorem dX6_times_147 : decode cX6_times 147 = .ok (.lload 13, 2) := by decide +kernel
theorem dX6_times_149 : decode cX6_times 149 = .ok (.lconst 1, 1) := by decide +kernel
theorem dX6_times_150 : decode cX6_times 150 = .ok (.lsub, 1) := by decide +kernel
theorem dX6_times_151 : decode cX6_times 151 = .ok (.lstore 13, 2) := by decide +kernel
theorem dX6_times_153 : decode cX6_times 153 = .ok (.lload 11, 2) := by decide +kernel
theorem dX6_times_155 : decode cX6_times 155 = .ok (.lload 4, 2) := by decide +kernel
theorem dX6_times_157 : decode cX6_times 157 = .ok (.lmul, 1) := by decide +kernel
theorem dX6_times_158 : decode cX6_times 158 = .ok (.lstore 15, 2) := by decide +kernel
theorem dX6_times_160 : decode cX6_times 160 = .ok (.lload 15, 2) := by decide +kernel
theorem dX6_times_162 : decode cX6_times 162 = .ok (.lload 6, 2) := by decide +kernel
theorem dX6_times_164 : decode cX6_times 164 = .ok (.ldiv, 1) := by decide +kernel
theorem dX6_times_165 : decode cX6_times 165 = .ok (.lstore 17, 2) := by decide +kernel
theorem dX6_times_167 : decode cX6_times 167 = .ok (.lload 15, 2) := by decide +kernel
theorem dX6_times_169 : decode cX6_times 169 = .ok (.lload 6, 2) := by decide +kernel
theorem dX6_times_171 : decode cX6_times 171 = .ok (.lrem, 1) := by decide +kernel
theorem dX6_times_172 : decode cX6_times 172 = .ok (.lconst 0, 1) := by decide +kernel
theorem dX6_times_173 : decode cX6_times 173 = .ok (.lcmp, 1) := by decide +kernel
theorem dX6_times_174 : decode cX6_times 174 = .ok (.ifCond .ge 9, 3) := by decide +kernel
theorem dX6_times_177 : decode cX6_times 177 = .ok (.lload 17, 2) := by decide +kernel
theorem dX6_times_179 : decode cX6_times 179 = .ok (.lconst 1, 1) := by decide +kernel
theorem dX6_times_180 : decode cX6_times 180 = .ok (.lsub, 1) := by decide +kernel
theorem dX6_times_181 : decode cX6_times 181 = .ok (.lstore 17, 2) := by decide +kernel
theorem dX6_times_183 : decode cX6_times 183 = .ok (.aload_n 0, 1) := by decide +kernel
theorem dX6_times_184 : decode cX6_times 184 = .ok (.invokevirtual 105, 3) := by decide +kernel
theorem dX6_times_187 : decode cX6_times 187 = .ok (.aload_n 0, 1) := by decide +kernel
theorem dX6_times_188 : decode cX6_times 188 = .ok (.lload 13, 2) := by decide +kernel
theorem dX6_times_190 : decode cX6_times 190 = .ok (.lload 4, 2) := by decide +kernel
theorem dX6_times_192 : decode cX6_times 192 = .ok (.invokevirtual 108, 3) := by decide +kernel
theorem dX6_times_195 : decode cX6_times 195 = .ok (.aload_n 0, 1) := by decide +kernel
theorem dX6_times_196 : decode cX6_times 196 = .ok (.lload 17, 2) := by decide +kernel
theorem dX6_times_198 : decode cX6_times 198 = .ok (.lconst 1, 1) := by decide +kernel
theorem dX6_times_199 : decode cX6_times 199 = .ok (.invokevirtual 108, 3) := by decide +kernel
theorem dX6_times_202 : decode cX6_times 202 = .ok (.aload_n 0, 1) := by decide +kernel
theorem dX6_times_203 : decode cX6_times 203 = .ok (.invokevirtual 114, 3) := by decide +kernel
theorem dX6_times_206 : decode cX6_times 206 = .ok (.ifCond .ne 6, 3) := by decide +kernel
theorem dX6_times_209 : decode cX6_times 209 = .ok (.bipush (-16), 2) := by decide +kernel
theorem dX6_times_211 : decode cX6_times 211 = .ok (.ireturn, 1) := by decide +kernel
theorem dX6_times_212 : decode cX6_times 212 = .ok (.aload_n 0, 1) := by decide +kernel
theorem dX6_times_213 : decode cX6_times 213 = .ok (.getfield 19, 3) := by decide +kernel
theorem dX6_times_216 : decode cX6_times 216 = .ok (.bipush 12, 2) := by decide +kernel
theorem dX6_times_218 : decode cX6_times 218 = .ok (.aload_n 0, 1) := by decide +kernel
theorem dX6_times_219 : decode cX6_times 219 = .ok (.getfield 45, 3) := by decide +kernel
theorem dX6_times_222 : decode cX6_times 222 = .ok (.imul, 1) := by decide +kernel
theorem dX6_times_223 : decode cX6_times 223 = .ok (.iload 8, 2) := by decide +kernel
theorem dX6_times_225 : decode cX6_times 225 = .ok (.iadd, 1) := by decide +kernel
theorem dX6_times_226 : decode cX6_times 226 = .ok (.aload_n 0, 1) := by decide +kernel
theorem dX6_times_227 : decode cX6_times 227 = .ok (.invokevirtual 118, 3) := by decide +kernel
theorem dX6_times_230 : decode cX6_times 230 = .ok (.lastore, 1) := by decide +kernel
theorem dX6_times_231 : decode cX6_times 231 = .ok (.iinc 8 1, 3) := by decide +kernel
theorem dX6_times_234 : decode cX6_times 234 = .ok (.goto (-140), 3) := by decide +kernel
theorem dX6_times_237 : decode cX6_times 237 = .ok (.aload_n 0, 1) := by decide +kernel
theorem dX6_times_238 : decode cX6_times 238 = .ok (.invokevirtual 64, 3) := by decide +kernel
theorem dX6_times_241 : decode cX6_times 241 = .ok (.ireturn, 1) := by decide +kernel
set_option maxRecDepth 20000 in
theorem ggX6_order_X6_isNumber : GoodIn wsX6_order wsX6_isNumber := goodIn_r _ [7, 8, 9, 10, 6, 11, 30, 31, 32, 33, 34, 35, 36, 37, 38, 39, 40, 41, 42, 43, 44, 45, 46, 47, 48, 49, 50, 51, 52, 53] (by decide +kernel) (by decide +kernel)
set_option maxRecDepth 20000 in
theorem gX6_order_X6_isNumber : GoodIn wsX6_order (wsV RX6 68 RX6 yX6_isNumber wsX6_isNumber) := goodIn_app (goodIn_of _ (by decide +kernel)) ggX6_order_X6_isNumber
set_option maxRecDepth 20000 in
theorem ggX6_order_X6_refusal : GoodIn wsX6_order wsX6_refusal := goodIn_r _ [15, 16, 17, 18, 6, 19, 20, 21, 22, 23, 24, 25, 2, 30, 31, 32, 33, 34, 35, 36, 37, 38, 39, 40, 41, 42, 43, 44, 45, 46, 47, 48, 49, 50, 51, 52, 53] (by decide +kernel) (by decide +kernel)
set_option maxRecDepth 20000 in
theorem gX6_order_X6_refusal : GoodIn wsX6_order (wsV RX6 97 RX6 yX6_refusal wsX6_refusal) := goodIn_app (goodIn_of _ (by decide +kernel)) ggX6_order_X6_refusal
set_option maxRecDepth 20000 in
theorem ggX6_order_X6_compare : GoodIn wsX6_order wsX6_compare := goodIn_r _ [29] (by decide +kernel) (by decide +kernel)
set_option maxRecDepth 20000 in
theorem gX6_order_X6_compare : GoodIn wsX6_order (wsV RX6 101 RX6 yX6_compare wsX6_compare) := goodIn_app (goodIn_of _ (by decide +kernel)) ggX6_order_X6_compare
theorem dX6_order_0 : decode cX6_order 0 = .ok (.aload_n 0, 1) := by decide +kernel
theorem dX6_order_1 : decode cX6_order 1 = .ok (.iload_n 1, 1) := by decide +kernel
theorem dX6_order_2 : decode cX6_order 2 = .ok (.invokevirtual 68, 3) := by decide +kernel
theorem dX6_order_5 : decode cX6_order 5 = .ok (.ifCond .eq 11, 3) := by decide +kernel
theorem dX6_order_8 : decode cX6_order 8 = .ok (.aload_n 0, 1) := by decide +kernel
theorem dX6_order_9 : decode cX6_order 9 = .ok (.iload_n 2, 1) := by decide +kernel
theorem dX6_order_10 : decode cX6_order 10 = .ok (.invokevirtual 68, 3) := by decide +kernel
theorem dX6_order_13 : decode cX6_order 13 = .ok (.ifCond .ne 6, 3) := by decide +kernel
theorem dX6_order_16 : decode cX6_order 16 = .ok (.bipush (-2), 2) := by decide +kernel
theorem dX6_order_18 : decode cX6_order 18 = .ok (.ireturn, 1) := by decide +kernel
theorem dX6_order_19 : decode cX6_order 19 = .ok (.aload_n 0, 1) := by decide +kernel
theorem dX6_order_20 : decode cX6_order 20 = .ok (.iload_n 1, 1) := by decide +kernel
theorem dX6_order_21 : decode cX6_order 21 = .ok (.iload_n 2, 1) := by decide +kernel
theorem dX6_order_22 : decode cX6_order 22 = .ok (.invokevirtual 97, 3) := by decide +kernel
theorem dX6_order_25 : decode cX6_order 25 = .ok (.istore_n 3, 1) := by decide +kernel
theorem dX6_order_26 : decode cX6_order 26 = .ok (.iload_n 3, 1) := by decide +kernel
theorem dX6_order_27 : decode cX6_order 27 = .ok (.ifCond .ge 7, 3) := by decide +kernel
theorem dX6_order_30 : decode cX6_order 30 = .ok (.iload_n 3, 1) := by decide +kernel
theorem dX6_order_31 : decode cX6_order 31 = .ok (.goto 31, 3) := by decide +kernel
theorem dX6_order_34 : decode cX6_order 34 = .ok (.iconst 2, 1) := by decide +kernel
theorem dX6_order_35 : decode cX6_order 35 = .ok (.aload_n 0, 1) := by decide +kernel
theorem dX6_order_36 : decode cX6_order 36 = .ok (.aload_n 0, 1) := by decide +kernel
theorem dX6_order_37 : decode cX6_order 37 = .ok (.getfield 19, 3) := by decide +kernel
theorem dX6_order_40 : decode cX6_order 40 = .ok (.bipush 12, 2) := by decide +kernel
theorem dX6_order_42 : decode cX6_order 42 = .ok (.iload_n 1, 1) := by decide +kernel
theorem dX6_order_43 : decode cX6_order 43 = .ok (.imul, 1) := by decide +kernel
theorem dX6_order_44 : decode cX6_order 44 = .ok (.aload_n 0, 1) := by decide +kernel
theorem dX6_order_45 : decode cX6_order 45 = .ok (.getfield 19, 3) := by decide +kernel
theorem dX6_order_48 : decode cX6_order 48 = .ok (.bipush 12, 2) := by decide +kernel
theorem dX6_order_50 : decode cX6_order 50 = .ok (.iload_n 2, 1) := by decide +kernel
theorem dX6_order_51 : decode cX6_order 51 = .ok (.imul, 1) := by decide +kernel
theorem dX6_order_52 : decode cX6_order 52 = .ok (.aload_n 0, 1) := by decide +kernel
theorem dX6_order_53 : decode cX6_order 53 = .ok (.getfield 16, 3) := by decide +kernel
theorem dX6_order_56 : decode cX6_order 56 = .ok (.iload_n 1, 1) := by decide +kernel
theorem dX6_order_57 : decode cX6_order 57 = .ok (.iaload, 1) := by decide +kernel
theorem dX6_order_58 : decode cX6_order 58 = .ok (.invokevirtual 101, 3) := by decide +kernel
theorem dX6_order_61 : decode cX6_order 61 = .ok (.iadd, 1) := by decide +kernel
theorem dX6_order_62 : decode cX6_order 62 = .ok (.ireturn, 1) := by decide +kernel
set_option maxRecDepth 20000 in
theorem ggX6_put_X6_in : GoodIn wsX6_put wsX6_in := goodIn_r _ [7] (by decide +kernel) (by decide +kernel)
set_option maxRecDepth 20000 in
theorem gX6_put_X6_in : GoodIn wsX6_put (va_wsS RX6 48 yX6_in wsX6_in) := goodIn_app (goodIn_of _ (by decide +kernel)) ggX6_put_X6_in
theorem dX6_put_0 : decode cX6_put 0 = .ok (.iload_n 1, 1) := by decide +kernel
theorem dX6_put_1 : decode cX6_put 1 = .ok (.i2l, 1) := by decide +kernel
theorem dX6_put_2 : decode cX6_put 2 = .ok (.lconst 0, 1) := by decide +kernel
theorem dX6_put_3 : decode cX6_put 3 = .ok (.ldc2_w 122, 3) := by decide +kernel
theorem dX6_put_6 : decode cX6_put 6 = .ok (.invokestatic 48, 3) := by decide +kernel
theorem dX6_put_9 : decode cX6_put 9 = .ok (.ifCond .ne 6, 3) := by decide +kernel
theorem dX6_put_12 : decode cX6_put 12 = .ok (.bipush (-3), 2) := by decide +kernel
theorem dX6_put_14 : decode cX6_put 14 = .ok (.ireturn, 1) := by decide +kernel
theorem dX6_put_15 : decode cX6_put 15 = .ok (.aload_n 0, 1) := by decide +kernel
theorem dX6_put_16 : decode cX6_put 16 = .ok (.getfield 124, 3) := by decide +kernel
theorem dX6_put_19 : decode cX6_put 19 = .ok (.sipush 300, 3) := by decide +kernel
theorem dX6_put_22 : decode cX6_put 22 = .ok (.if_icmp .ne 6, 3) := by decide +kernel
theorem dX6_put_25 : decode cX6_put 25 = .ok (.bipush (-4), 2) := by decide +kernel
theorem dX6_put_27 : decode cX6_put 27 = .ok (.ireturn, 1) := by decide +kernel
theorem dX6_put_28 : decode cX6_put 28 = .ok (.aload_n 0, 1) := by decide +kernel
theorem dX6_put_29 : decode cX6_put 29 = .ok (.getfield 36, 3) := by decide +kernel
theorem dX6_put_32 : decode cX6_put 32 = .ok (.aload_n 0, 1) := by decide +kernel
theorem dX6_put_33 : decode cX6_put 33 = .ok (.getfield 124, 3) := by decide +kernel
theorem dX6_put_36 : decode cX6_put 36 = .ok (.iload_n 1, 1) := by decide +kernel
theorem dX6_put_37 : decode cX6_put 37 = .ok (.iastore, 1) := by decide +kernel
theorem dX6_put_38 : decode cX6_put 38 = .ok (.aload_n 0, 1) := by decide +kernel
theorem dX6_put_39 : decode cX6_put 39 = .ok (.dup, 1) := by decide +kernel
theorem dX6_put_40 : decode cX6_put 40 = .ok (.getfield 124, 3) := by decide +kernel
theorem dX6_put_43 : decode cX6_put 43 = .ok (.iconst 1, 1) := by decide +kernel
theorem dX6_put_44 : decode cX6_put 44 = .ok (.iadd, 1) := by decide +kernel
theorem dX6_put_45 : decode cX6_put 45 = .ok (.putfield 124, 3) := by decide +kernel
theorem dX6_put_48 : decode cX6_put 48 = .ok (.aload_n 0, 1) := by decide +kernel
theorem dX6_put_49 : decode cX6_put 49 = .ok (.getfield 124, 3) := by decide +kernel
theorem dX6_put_52 : decode cX6_put 52 = .ok (.ireturn, 1) := by decide +kernel
theorem dX6_here_0 : decode cX6_here 0 = .ok (.aload_n 0, 1) := by decide +kernel
theorem dX6_here_1 : decode cX6_here 1 = .ok (.getfield 127, 3) := by decide +kernel
theorem dX6_here_4 : decode cX6_here 4 = .ok (.aload_n 0, 1) := by decide +kernel
theorem dX6_here_5 : decode cX6_here 5 = .ok (.getfield 124, 3) := by decide +kernel
theorem dX6_here_8 : decode cX6_here 8 = .ok (.if_icmp .ge 15, 3) := by decide +kernel
theorem dX6_here_11 : decode cX6_here 11 = .ok (.aload_n 0, 1) := by decide +kernel
theorem dX6_here_12 : decode cX6_here 12 = .ok (.getfield 36, 3) := by decide +kernel
theorem dX6_here_15 : decode cX6_here 15 = .ok (.aload_n 0, 1) := by decide +kernel
theorem dX6_here_16 : decode cX6_here 16 = .ok (.getfield 127, 3) := by decide +kernel
theorem dX6_here_19 : decode cX6_here 19 = .ok (.iaload, 1) := by decide +kernel
theorem dX6_here_20 : decode cX6_here 20 = .ok (.goto 4, 3) := by decide +kernel
theorem dX6_here_23 : decode cX6_here 23 = .ok (.iconst (-1), 1) := by decide +kernel
theorem dX6_here_24 : decode cX6_here 24 = .ok (.ireturn, 1) := by decide +kernel
set_option maxRecDepth 20000 in
theorem ggX6_isFigure_X6_here : GoodIn wsX6_isFigure wsX6_here := goodIn_r _ [7, 8, 9, 10, 14, 15, 16, 17, 18, 19, 20, 21, 22, 23, 24, 25, 26, 27, 28, 29, 30, 31, 32, 33, 34, 35, 36, 37] (by decide +kernel) (by decide +kernel)
set_option maxRecDepth 20000 in
theorem gX6_isFigure_X6_here : GoodIn wsX6_isFigure (wsV RX6 130 RX6 yX6_here wsX6_here) := goodIn_app (goodIn_of _ (by decide +kernel)) ggX6_isFigure_X6_here
set_option maxRecDepth 20000 in
theorem ggX6_isFigure_X6_in : GoodIn wsX6_isFigure wsX6_in := goodIn_r _ [13] (by decide +kernel) (by decide +kernel)
set_option maxRecDepth 20000 in
theorem gX6_isFigure_X6_in : GoodIn wsX6_isFigure (va_wsS RX6 48 yX6_in wsX6_in) := goodIn_app (goodIn_of _ (by decide +kernel)) ggX6_isFigure_X6_in
theorem dX6_isFigure_0 : decode cX6_isFigure 0 = .ok (.aload_n 0, 1) := by decide +kernel
theorem dX6_isFigure_1 : decode cX6_isFigure 1 = .ok (.invokevirtual 130, 3) := by decide +kernel
theorem dX6_isFigure_4 : decode cX6_isFigure 4 = .ok (.i2l, 1) := by decide +kernel
theorem dX6_isFigure_5 : decode cX6_isFigure 5 = .ok (.ldc2_w 133, 3) := by decide +kernel
theorem dX6_isFigure_8 : decode cX6_isFigure 8 = .ok (.ldc2_w 135, 3) := by decide +kernel
theorem dX6_isFigure_11 : decode cX6_isFigure 11 = .ok (.invokestatic 48, 3) := by decide +kernel
theorem dX6_isFigure_14 : decode cX6_isFigure 14 = .ok (.ireturn, 1) := by decide +kernel
set_option maxRecDepth 20000 in
theorem ggX6_take_X6_here : GoodIn wsX6_take wsX6_here := goodIn_r _ [7, 2, 8, 9, 10, 11, 12, 13, 14, 15, 16, 17, 18, 19, 20, 21, 22, 23, 24, 25, 26, 27, 28, 29, 30, 31, 32, 33] (by decide +kernel) (by decide +kernel)
set_option maxRecDepth 20000 in
theorem gX6_take_X6_here : GoodIn wsX6_take (wsV RX6 130 RX6 yX6_here wsX6_here) := goodIn_app (goodIn_of _ (by decide +kernel)) ggX6_take_X6_here
theorem dX6_take_0 : decode cX6_take 0 = .ok (.aload_n 0, 1) := by decide +kernel
theorem dX6_take_1 : decode cX6_take 1 = .ok (.aload_n 0, 1) := by decide +kernel
theorem dX6_take_2 : decode cX6_take 2 = .ok (.getfield 137, 3) := by decide +kernel
theorem dX6_take_5 : decode cX6_take 5 = .ok (.ifCond .ne 11, 3) := by decide +kernel
theorem dX6_take_8 : decode cX6_take 8 = .ok (.aload_n 0, 1) := by decide +kernel
theorem dX6_take_9 : decode cX6_take 9 = .ok (.invokevirtual 130, 3) := by decide +kernel
theorem dX6_take_12 : decode cX6_take 12 = .ok (.iload_n 1, 1) := by decide +kernel
theorem dX6_take_13 : decode cX6_take 13 = .ok (.if_icmp .eq 7, 3) := by decide +kernel
theorem dX6_take_16 : decode cX6_take 16 = .ok (.iconst 1, 1) := by decide +kernel
theorem dX6_take_17 : decode cX6_take 17 = .ok (.goto 4, 3) := by decide +kernel
theorem dX6_take_20 : decode cX6_take 20 = .ok (.iconst 0, 1) := by decide +kernel
theorem dX6_take_21 : decode cX6_take 21 = .ok (.putfield 137, 3) := by decide +kernel
theorem dX6_take_24 : decode cX6_take 24 = .ok (.aload_n 0, 1) := by decide +kernel
theorem dX6_take_25 : decode cX6_take 25 = .ok (.dup, 1) := by decide +kernel
theorem dX6_take_26 : decode cX6_take 26 = .ok (.getfield 127, 3) := by decide +kernel
theorem dX6_take_29 : decode cX6_take 29 = .ok (.aload_n 0, 1) := by decide +kernel
theorem dX6_take_30 : decode cX6_take 30 = .ok (.getfield 137, 3) := by decide +kernel
theorem dX6_take_33 : decode cX6_take 33 = .ok (.ifCond .eq 7, 3) := by decide +kernel
theorem dX6_take_36 : decode cX6_take 36 = .ok (.iconst 0, 1) := by decide +kernel
theorem dX6_take_37 : decode cX6_take 37 = .ok (.goto 4, 3) := by decide +kernel
theorem dX6_take_40 : decode cX6_take 40 = .ok (.iconst 1, 1) := by decide +kernel
theorem dX6_take_41 : decode cX6_take 41 = .ok (.iadd, 1) := by decide +kernel
theorem dX6_take_42 : decode cX6_take 42 = .ok (.putfield 127, 3) := by decide +kernel
theorem dX6_take_45 : decode cX6_take 45 = .ok (.return_, 1) := by decide +kernel
set_option maxRecDepth 20000 in
theorem ggX6_word_X6_letter : GoodIn wsX6_word wsX6_letter := goodIn_r _ [5] (by decide +kernel) (by decide +kernel)
set_option maxRecDepth 20000 in
theorem gX6_word_X6_letter : GoodIn wsX6_word (va_wsS RX6 141 yX6_letter wsX6_letter) := goodIn_app (goodIn_of _ (by decide +kernel)) ggX6_word_X6_letter
set_option maxRecDepth 20000 in
theorem ggX6_word_X6_take : GoodIn wsX6_word wsX6_take := goodIn_r _ [9, 10, 11, 12, 13, 14, 4, 15, 16, 17, 18, 19, 20, 21, 22, 23, 24, 25, 26, 27, 28, 29, 30, 31, 32, 33, 34, 35, 36, 37, 38, 39, 40, 41] (by decide +kernel) (by decide +kernel)
set_option maxRecDepth 20000 in
theorem gX6_word_X6_take : GoodIn wsX6_word (wsV RX6 145 RX6 yX6_take wsX6_take) := goodIn_app (goodIn_of _ (by decide +kernel)) ggX6_word_X6_take
theorem dX6_word_0 : decode cX6_word 0 = .ok (.iload_n 1, 1) := by decide +kernel
theorem dX6_word_1 : decode cX6_word 1 = .ok (.ifCond .ne 7, 3) := by decide +kernel
theorem dX6_word_4 : decode cX6_word 4 = .ok (.iconst 5, 1) := by decide +kernel
theorem dX6_word_5 : decode cX6_word 5 = .ok (.goto 14, 3) := by decide +kernel
theorem dX6_word_8 : decode cX6_word 8 = .ok (.iload_n 1, 1) := by decide +kernel
theorem dX6_word_9 : decode cX6_word 9 = .ok (.iconst 1, 1) := by decide +kernel
theorem dX6_word_10 : decode cX6_word 10 = .ok (.if_icmp .ne 8, 3) := by decide +kernel
theorem dX6_word_13 : decode cX6_word 13 = .ok (.bipush 7, 2) := by decide +kernel
theorem dX6_word_15 : decode cX6_word 15 = .ok (.goto 4, 3) := by decide +kernel
theorem dX6_word_18 : decode cX6_word 18 = .ok (.iconst 4, 1) := by decide +kernel
theorem dX6_word_19 : decode cX6_word 19 = .ok (.istore_n 2, 1) := by decide +kernel
theorem dX6_word_20 : decode cX6_word 20 = .ok (.iload_n 1, 1) := by decide +kernel
theorem dX6_word_21 : decode cX6_word 21 = .ok (.ifCond .ne 40, 3) := by decide +kernel
theorem dX6_word_24 : decode cX6_word 24 = .ok (.bipush 104, 2) := by decide +kernel
theorem dX6_word_26 : decode cX6_word 26 = .ok (.iconst 0, 1) := by decide +kernel
theorem dX6_word_27 : decode cX6_word 27 = .ok (.invokestatic 141, 3) := by decide +kernel
theorem dX6_word_30 : decode cX6_word 30 = .ok (.bipush 97, 2) := by decide +kernel
theorem dX6_word_32 : decode cX6_word 32 = .ok (.iconst 1, 1) := by decide +kernel
theorem dX6_word_33 : decode cX6_word 33 = .ok (.invokestatic 141, 3) := by decide +kernel
theorem dX6_word_36 : decode cX6_word 36 = .ok (.lor, 1) := by decide +kernel
theorem dX6_word_37 : decode cX6_word 37 = .ok (.bipush 114, 2) := by decide +kernel
theorem dX6_word_39 : decode cX6_word 39 = .ok (.iconst 2, 1) := by decide +kernel
theorem dX6_word_40 : decode cX6_word 40 = .ok (.invokestatic 141, 3) := by decide +kernel
theorem dX6_word_43 : decode cX6_word 43 = .ok (.lor, 1) := by decide +kernel
theorem dX6_word_44 : decode cX6_word 44 = .ok (.bipush 100, 2) := by decide +kernel
theorem dX6_word_46 : decode cX6_word 46 = .ok (.iconst 3, 1) := by decide +kernel
theorem dX6_word_47 : decode cX6_word 47 = .ok (.invokestatic 141, 3) := by decide +kernel
theorem dX6_word_50 : decode cX6_word 50 = .ok (.lor, 1) := by decide +kernel
theorem dX6_word_51 : decode cX6_word 51 = .ok (.bipush 47, 2) := by decide +kernel
theorem dX6_word_53 : decode cX6_word 53 = .ok (.iconst 4, 1) := by decide +kernel
theorem dX6_word_54 : decode cX6_word 54 = .ok (.invokestatic 141, 3) := by decide +kernel
theorem dX6_word_57 : decode cX6_word 57 = .ok (.lor, 1) := by decide +kernel
theorem dX6_word_58 : decode cX6_word 58 = .ok (.goto 87, 3) := by decide +kernel
theorem dX6_word_61 : decode cX6_word 61 = .ok (.iload_n 1, 1) := by decide +kernel
theorem dX6_word_62 : decode cX6_word 62 = .ok (.iconst 1, 1) := by decide +kernel
theorem dX6_word_63 : decode cX6_word 63 = .ok (.if_icmp .ne 55, 3) := by decide +kernel
theorem dX6_word_66 : decode cX6_word 66 = .ok (.bipush 109, 2) := by decide +kernel
theorem dX6_word_68 : decode cX6_word 68 = .ok (.iconst 0, 1) := by decide +kernel
theorem dX6_word_69 : decode cX6_word 69 = .ok (.invokestatic 141, 3) := by decide +kernel
theorem dX6_word_72 : decode cX6_word 72 = .ok (.bipush 101, 2) := by decide +kernel
theorem dX6_word_74 : decode cX6_word 74 = .ok (.iconst 1, 1) := by decide +kernel
theorem dX6_word_75 : decode cX6_word 75 = .ok (.invokestatic 141, 3) := by decide +kernel
theorem dX6_word_78 : decode cX6_word 78 = .ok (.lor, 1) := by decide +kernel
theorem dX6_word_79 : decode cX6_word 79 = .ok (.bipush 100, 2) := by decide +kernel
theorem dX6_word_81 : decode cX6_word 81 = .ok (.iconst 2, 1) := by decide +kernel
theorem dX6_word_82 : decode cX6_word 82 = .ok (.invokestatic 141, 3) := by decide +kernel
theorem dX6_word_85 : decode cX6_word 85 = .ok (.lor, 1) := by decide +kernel
theorem dX6_word_86 : decode cX6_word 86 = .ok (.bipush 105, 2) := by decide +kernel
theorem dX6_word_88 : decode cX6_word 88 = .ok (.iconst 3, 1) := by decide +kernel
theorem dX6_word_89 : decode cX6_word 89 = .ok (.invokestatic 141, 3) := by decide +kernel
theorem dX6_word_92 : decode cX6_word 92 = .ok (.lor, 1) := by decide +kernel
theorem dX6_word_93 : decode cX6_word 93 = .ok (.bipush 117, 2) := by decide +kernel
theorem dX6_word_95 : decode cX6_word 95 = .ok (.iconst 4, 1) := by decide +kernel
theorem dX6_word_96 : decode cX6_word 96 = .ok (.invokestatic 141, 3) := by decide +kernel
theorem dX6_word_99 : decode cX6_word 99 = .ok (.lor, 1) := by decide +kernel
theorem dX6_word_100 : decode cX6_word 100 = .ok (.bipush 109, 2) := by decide +kernel
theorem dX6_word_102 : decode cX6_word 102 = .ok (.iconst 5, 1) := by decide +kernel
theorem dX6_word_103 : decode cX6_word 103 = .ok (.invokestatic 141, 3) := by decide +kernel
theorem dX6_word_106 : decode cX6_word 106 = .ok (.lor, 1) := by decide +kernel
theorem dX6_word_107 : decode cX6_word 107 = .ok (.bipush 47, 2) := by decide +kernel
theorem dX6_word_109 : decode cX6_word 109 = .ok (.bipush 6, 2) := by decide +kernel
theorem dX6_word_111 : decode cX6_word 111 = .ok (.invokestatic 141, 3) := by decide +kernel
theorem dX6_word_114 : decode cX6_word 114 = .ok (.lor, 1) := by decide +kernel
theorem dX6_word_115 : decode cX6_word 115 = .ok (.goto 30, 3) := by decide +kernel
theorem dX6_word_118 : decode cX6_word 118 = .ok (.bipush 115, 2) := by decide +kernel
theorem dX6_word_120 : decode cX6_word 120 = .ok (.iconst 0, 1) := by decide +kernel
theorem dX6_word_121 : decode cX6_word 121 = .ok (.invokestatic 141, 3) := by decide +kernel
theorem dX6_word_124 : decode cX6_word 124 = .ok (.bipush 111, 2) := by decide +kernel
theorem dX6_word_126 : decode cX6_word 126 = .ok (.iconst 1, 1) := by decide +kernel
theorem dX6_word_127 : decode cX6_word 127 = .ok (.invokestatic 141, 3) := by decide +kernel
theorem dX6_word_130 : decode cX6_word 130 = .ok (.lor, 1) := by decide +kernel
theorem dX6_word_131 : decode cX6_word 131 = .ok (.bipush 102, 2) := by decide +kernel
theorem dX6_word_133 : decode cX6_word 133 = .ok (.iconst 2, 1) := by decide +kernel
theorem dX6_word_134 : decode cX6_word 134 = .ok (.invokestatic 141, 3) := by decide +kernel
theorem dX6_word_137 : decode cX6_word 137 = .ok (.lor, 1) := by decide +kernel
theorem dX6_word_138 : decode cX6_word 138 = .ok (.bipush 116, 2) := by decide +kernel
theorem dX6_word_140 : decode cX6_word 140 = .ok (.iconst 3, 1) := by decide +kernel
theorem dX6_word_141 : decode cX6_word 141 = .ok (.invokestatic 141, 3) := by decide +kernel
theorem dX6_word_144 : decode cX6_word 144 = .ok (.lor, 1) := by decide +kernel
theorem dX6_word_145 : decode cX6_word 145 = .ok (.lstore_n 3, 1) := by decide +kernel
theorem dX6_word_146 : decode cX6_word 146 = .ok (.iconst 0, 1) := by decide +kernel
theorem dX6_word_147 : decode cX6_word 147 = .ok (.istore 5, 2) := by decide +kernel
theorem dX6_word_149 : decode cX6_word 149 = .ok (.iload 5, 2) := by decide +kernel
theorem dX6_word_151 : decode cX6_word 151 = .ok (.iload_n 2, 1) := by decide +kernel
theorem dX6_word_152 : decode cX6_word 152 = .ok (.if_icmp .ge 25, 3) := by decide +kernel
theorem dX6_word_155 : decode cX6_word 155 = .ok (.aload_n 0, 1) := by decide +kernel
theorem dX6_word_156 : decode cX6_word 156 = .ok (.lload_n 3, 1) := by decide +kernel
theorem dX6_word_157 : decode cX6_word 157 = .ok (.bipush 7, 2) := by decide +kernel
theorem dX6_word_159 : decode cX6_word 159 = .ok (.iload 5, 2) := by decide +kernel
theorem dX6_word_161 : decode cX6_word 161 = .ok (.imul, 1) := by decide +kernel
theorem dX6_word_162 : decode cX6_word 162 = .ok (.lshr, 1) := by decide +kernel
theorem dX6_word_163 : decode cX6_word 163 = .ok (.ldc2_w 122, 3) := by decide +kernel
theorem dX6_word_166 : decode cX6_word 166 = .ok (.land, 1) := by decide +kernel
theorem dX6_word_167 : decode cX6_word 167 = .ok (.l2i, 1) := by decide +kernel
theorem dX6_word_168 : decode cX6_word 168 = .ok (.invokevirtual 145, 3) := by decide +kernel
theorem dX6_word_171 : decode cX6_word 171 = .ok (.iinc 5 1, 3) := by decide +kernel
theorem dX6_word_174 : decode cX6_word 174 = .ok (.goto (-25), 3) := by decide +kernel
theorem dX6_word_177 : decode cX6_word 177 = .ok (.return_, 1) := by decide +kernel
theorem dX6_letter_0 : decode cX6_letter 0 = .ok (.iload_n 0, 1) := by decide +kernel
theorem dX6_letter_1 : decode cX6_letter 1 = .ok (.i2l, 1) := by decide +kernel
theorem dX6_letter_2 : decode cX6_letter 2 = .ok (.bipush 7, 2) := by decide +kernel
theorem dX6_letter_4 : decode cX6_letter 4 = .ok (.iload_n 1, 1) := by decide +kernel
theorem dX6_letter_5 : decode cX6_letter 5 = .ok (.imul, 1) := by decide +kernel
theorem dX6_letter_6 : decode cX6_letter 6 = .ok (.lshl, 1) := by decide +kernel
theorem dX6_letter_7 : decode cX6_letter 7 = .ok (.lreturn, 1) := by decide +kernel
set_option maxRecDepth 20000 in
theorem ggX6_figure_X6_here : GoodIn wsX6_figure wsX6_here := goodIn_r _ [10, 2, 11, 12, 22, 23, 24, 25, 26, 27, 28, 29, 30, 31, 32, 33, 34, 35, 36, 37, 38, 39, 40, 41, 42, 43, 44, 45] (by decide +kernel) (by decide +kernel)
set_option maxRecDepth 20000 in
theorem gX6_figure_X6_here : GoodIn wsX6_figure (wsV RX6 130 RX6 yX6_here wsX6_here) := goodIn_app (goodIn_of _ (by decide +kernel)) ggX6_figure_X6_here
set_option maxRecDepth 20000 in
theorem ggX6_figure_X6_isFigure : GoodIn wsX6_figure wsX6_isFigure := goodIn_r _ [16, 17, 18, 6, 7, 8, 9, 10, 2, 11, 12, 19, 20, 21, 22, 23, 24, 25, 26, 27, 28, 29, 30, 31, 32, 33, 34, 35, 36, 37, 38, 39, 40, 41, 42, 43, 44, 45] (by decide +kernel) (by decide +kernel)
set_option maxRecDepth 20000 in
theorem gX6_figure_X6_isFigure : GoodIn wsX6_figure (wsV RX6 149 RX6 yX6_isFigure wsX6_isFigure) := goodIn_app (goodIn_of _ (by decide +kernel)) ggX6_figure_X6_isFigure
theorem dX6_figure_0 : decode cX6_figure 0 = .ok (.aload_n 0, 1) := by decide +kernel
theorem dX6_figure_1 : decode cX6_figure 1 = .ok (.getfield 137, 3) := by decide +kernel
theorem dX6_figure_4 : decode cX6_figure 4 = .ok (.ifCond .eq 4, 3) := by decide +kernel
theorem dX6_figure_7 : decode cX6_figure 7 = .ok (.return_, 1) := by decide +kernel
theorem dX6_figure_8 : decode cX6_figure 8 = .ok (.aload_n 0, 1) := by decide +kernel
theorem dX6_figure_9 : decode cX6_figure 9 = .ok (.invokevirtual 130, 3) := by decide +kernel
theorem dX6_figure_12 : decode cX6_figure 12 = .ok (.bipush 45, 2) := by decide +kernel
theorem dX6_figure_14 : decode cX6_figure 14 = .ok (.if_icmp .ne 7, 3) := by decide +kernel
theorem dX6_figure_17 : decode cX6_figure 17 = .ok (.iconst 1, 1) := by decide +kernel
theorem dX6_figure_18 : decode cX6_figure 18 = .ok (.goto 4, 3) := by decide +kernel
theorem dX6_figure_21 : decode cX6_figure 21 = .ok (.iconst 0, 1) := by decide +kernel
theorem dX6_figure_22 : decode cX6_figure 22 = .ok (.istore_n 1, 1) := by decide +kernel
theorem dX6_figure_23 : decode cX6_figure 23 = .ok (.aload_n 0, 1) := by decide +kernel
theorem dX6_figure_24 : decode cX6_figure 24 = .ok (.dup, 1) := by decide +kernel
theorem dX6_figure_25 : decode cX6_figure 25 = .ok (.getfield 127, 3) := by decide +kernel
theorem dX6_figure_28 : decode cX6_figure 28 = .ok (.iload_n 1, 1) := by decide +kernel
theorem dX6_figure_29 : decode cX6_figure 29 = .ok (.ifCond .eq 7, 3) := by decide +kernel
theorem dX6_figure_32 : decode cX6_figure 32 = .ok (.iconst 1, 1) := by decide +kernel
theorem dX6_figure_33 : decode cX6_figure 33 = .ok (.goto 4, 3) := by decide +kernel
theorem dX6_figure_36 : decode cX6_figure 36 = .ok (.iconst 0, 1) := by decide +kernel
theorem dX6_figure_37 : decode cX6_figure 37 = .ok (.iadd, 1) := by decide +kernel
theorem dX6_figure_38 : decode cX6_figure 38 = .ok (.putfield 127, 3) := by decide +kernel
theorem dX6_figure_41 : decode cX6_figure 41 = .ok (.aload_n 0, 1) := by decide +kernel
theorem dX6_figure_42 : decode cX6_figure 42 = .ok (.invokevirtual 149, 3) := by decide +kernel
theorem dX6_figure_45 : decode cX6_figure 45 = .ok (.ifCond .eq 16, 3) := by decide +kernel
theorem dX6_figure_48 : decode cX6_figure 48 = .ok (.iload_n 1, 1) := by decide +kernel
theorem dX6_figure_49 : decode cX6_figure 49 = .ok (.ifCond .eq 18, 3) := by decide +kernel
theorem dX6_figure_52 : decode cX6_figure 52 = .ok (.aload_n 0, 1) := by decide +kernel
theorem dX6_figure_53 : decode cX6_figure 53 = .ok (.invokevirtual 130, 3) := by decide +kernel
theorem dX6_figure_56 : decode cX6_figure 56 = .ok (.bipush 48, 2) := by decide +kernel
theorem dX6_figure_58 : decode cX6_figure 58 = .ok (.if_icmp .ne 9, 3) := by decide +kernel
theorem dX6_figure_61 : decode cX6_figure 61 = .ok (.aload_n 0, 1) := by decide +kernel
theorem dX6_figure_62 : decode cX6_figure 62 = .ok (.iconst 1, 1) := by decide +kernel
theorem dX6_figure_63 : decode cX6_figure 63 = .ok (.putfield 137, 3) := by decide +kernel
theorem dX6_figure_66 : decode cX6_figure 66 = .ok (.return_, 1) := by decide +kernel
theorem dX6_figure_67 : decode cX6_figure 67 = .ok (.aload_n 0, 1) := by decide +kernel
theorem dX6_figure_68 : decode cX6_figure 68 = .ok (.invokevirtual 130, 3) := by decide +kernel
theorem dX6_figure_71 : decode cX6_figure 71 = .ok (.bipush 48, 2) := by decide +kernel
theorem dX6_figure_73 : decode cX6_figure 73 = .ok (.if_icmp .ne 7, 3) := by decide +kernel
theorem dX6_figure_76 : decode cX6_figure 76 = .ok (.iconst 1, 1) := by decide +kernel
theorem dX6_figure_77 : decode cX6_figure 77 = .ok (.goto 4, 3) := by decide +kernel
theorem dX6_figure_80 : decode cX6_figure 80 = .ok (.iconst 0, 1) := by decide +kernel
theorem dX6_figure_81 : decode cX6_figure 81 = .ok (.istore_n 2, 1) := by decide +kernel
theorem dX6_figure_82 : decode cX6_figure 82 = .ok (.aload_n 0, 1) := by decide +kernel
theorem dX6_figure_83 : decode cX6_figure 83 = .ok (.invokevirtual 130, 3) := by decide +kernel
theorem dX6_figure_86 : decode cX6_figure 86 = .ok (.bipush 48, 2) := by decide +kernel
theorem dX6_figure_88 : decode cX6_figure 88 = .ok (.isub, 1) := by decide +kernel
theorem dX6_figure_89 : decode cX6_figure 89 = .ok (.ineg, 1) := by decide +kernel
theorem dX6_figure_90 : decode cX6_figure 90 = .ok (.i2l, 1) := by decide +kernel
theorem dX6_figure_91 : decode cX6_figure 91 = .ok (.lstore_n 3, 1) := by decide +kernel
theorem dX6_figure_92 : decode cX6_figure 92 = .ok (.aload_n 0, 1) := by decide +kernel
theorem dX6_figure_93 : decode cX6_figure 93 = .ok (.dup, 1) := by decide +kernel
theorem dX6_figure_94 : decode cX6_figure 94 = .ok (.getfield 127, 3) := by decide +kernel
theorem dX6_figure_97 : decode cX6_figure 97 = .ok (.iconst 1, 1) := by decide +kernel
theorem dX6_figure_98 : decode cX6_figure 98 = .ok (.iadd, 1) := by decide +kernel
theorem dX6_figure_99 : decode cX6_figure 99 = .ok (.putfield 127, 3) := by decide +kernel
theorem dX6_figure_102 : decode cX6_figure 102 = .ok (.aload_n 0, 1) := by decide +kernel
theorem dX6_figure_103 : decode cX6_figure 103 = .ok (.invokevirtual 149, 3) := by decide +kernel
theorem dX6_figure_106 : decode cX6_figure 106 = .ok (.ifCond .eq 96, 3) := by decide +kernel
theorem dX6_figure_109 : decode cX6_figure 109 = .ok (.iload_n 2, 1) := by decide +kernel
theorem dX6_figure_110 : decode cX6_figure 110 = .ok (.ifCond .ne 92, 3) := by decide +kernel
theorem dX6_figure_113 : decode cX6_figure 113 = .ok (.aload_n 0, 1) := by decide +kernel
theorem dX6_figure_114 : decode cX6_figure 114 = .ok (.getfield 137, 3) := by decide +kernel
theorem dX6_figure_117 : decode cX6_figure 117 = .ok (.ifCond .ne 85, 3) := by decide +kernel
theorem dX6_figure_120 : decode cX6_figure 120 = .ok (.aload_n 0, 1) := by decide +kernel
theorem dX6_figure_121 : decode cX6_figure 121 = .ok (.invokevirtual 130, 3) := by decide +kernel
theorem dX6_figure_124 : decode cX6_figure 124 = .ok (.bipush 48, 2) := by decide +kernel
theorem dX6_figure_126 : decode cX6_figure 126 = .ok (.isub, 1) := by decide +kernel
theorem dX6_figure_127 : decode cX6_figure 127 = .ok (.istore 5, 2) := by decide +kernel
theorem dX6_figure_129 : decode cX6_figure 129 = .ok (.lload_n 3, 1) := by decide +kernel
theorem dX6_figure_130 : decode cX6_figure 130 = .ok (.ldc2_w 152, 3) := by decide +kernel
theorem dX6_figure_133 : decode cX6_figure 133 = .ok (.lcmp, 1) := by decide +kernel
theorem dX6_figure_134 : decode cX6_figure 134 = .ok (.ifCond .lt 27, 3) := by decide +kernel
theorem dX6_figure_137 : decode cX6_figure 137 = .ok (.lload_n 3, 1) := by decide +kernel
theorem dX6_figure_138 : decode cX6_figure 138 = .ok (.ldc2_w 152, 3) := by decide +kernel
theorem dX6_figure_141 : decode cX6_figure 141 = .ok (.lcmp, 1) := by decide +kernel
theorem dX6_figure_142 : decode cX6_figure 142 = .ok (.ifCond .ne 23, 3) := by decide +kernel
theorem dX6_figure_145 : decode cX6_figure 145 = .ok (.iload 5, 2) := by decide +kernel
theorem dX6_figure_147 : decode cX6_figure 147 = .ok (.iload_n 1, 1) := by decide +kernel
theorem dX6_figure_148 : decode cX6_figure 148 = .ok (.ifCond .eq 8, 3) := by decide +kernel
theorem dX6_figure_151 : decode cX6_figure 151 = .ok (.bipush 8, 2) := by decide +kernel
theorem dX6_figure_153 : decode cX6_figure 153 = .ok (.goto 5, 3) := by decide +kernel
theorem dX6_figure_156 : decode cX6_figure 156 = .ok (.bipush 7, 2) := by decide +kernel
theorem dX6_figure_158 : decode cX6_figure 158 = .ok (.if_icmp .le 7, 3) := by decide +kernel
theorem dX6_figure_161 : decode cX6_figure 161 = .ok (.iconst 1, 1) := by decide +kernel
theorem dX6_figure_162 : decode cX6_figure 162 = .ok (.goto 4, 3) := by decide +kernel
theorem dX6_figure_165 : decode cX6_figure 165 = .ok (.iconst 0, 1) := by decide +kernel
theorem dX6_figure_166 : decode cX6_figure 166 = .ok (.istore 6, 2) := by decide +kernel
theorem dX6_figure_168 : decode cX6_figure 168 = .ok (.aload_n 0, 1) := by decide +kernel
theorem dX6_figure_169 : decode cX6_figure 169 = .ok (.iload 6, 2) := by decide +kernel
theorem dX6_figure_171 : decode cX6_figure 171 = .ok (.putfield 137, 3) := by decide +kernel
theorem dX6_figure_174 : decode cX6_figure 174 = .ok (.iload 6, 2) := by decide +kernel
theorem dX6_figure_176 : decode cX6_figure 176 = .ok (.ifCond .ne 23, 3) := by decide +kernel
theorem dX6_figure_179 : decode cX6_figure 179 = .ok (.ldc2_w 154, 3) := by decide +kernel
theorem dX6_figure_182 : decode cX6_figure 182 = .ok (.lload_n 3, 1) := by decide +kernel
theorem dX6_figure_183 : decode cX6_figure 183 = .ok (.lmul, 1) := by decide +kernel
theorem dX6_figure_184 : decode cX6_figure 184 = .ok (.iload 5, 2) := by decide +kernel
theorem dX6_figure_186 : decode cX6_figure 186 = .ok (.i2l, 1) := by decide +kernel
theorem dX6_figure_187 : decode cX6_figure 187 = .ok (.lsub, 1) := by decide +kernel
theorem dX6_figure_188 : decode cX6_figure 188 = .ok (.lstore_n 3, 1) := by decide +kernel
theorem dX6_figure_189 : decode cX6_figure 189 = .ok (.aload_n 0, 1) := by decide +kernel
theorem dX6_figure_190 : decode cX6_figure 190 = .ok (.dup, 1) := by decide +kernel
theorem dX6_figure_191 : decode cX6_figure 191 = .ok (.getfield 127, 3) := by decide +kernel
theorem dX6_figure_194 : decode cX6_figure 194 = .ok (.iconst 1, 1) := by decide +kernel
theorem dX6_figure_195 : decode cX6_figure 195 = .ok (.iadd, 1) := by decide +kernel
theorem dX6_figure_196 : decode cX6_figure 196 = .ok (.putfield 127, 3) := by decide +kernel
theorem dX6_figure_199 : decode cX6_figure 199 = .ok (.goto (-97), 3) := by decide +kernel
theorem dX6_figure_202 : decode cX6_figure 202 = .ok (.aload_n 0, 1) := by decide +kernel
theorem dX6_figure_203 : decode cX6_figure 203 = .ok (.iload_n 1, 1) := by decide +kernel
theorem dX6_figure_204 : decode cX6_figure 204 = .ok (.ifCond .eq 7, 3) := by decide +kernel
theorem dX6_figure_207 : decode cX6_figure 207 = .ok (.lload_n 3, 1) := by decide +kernel
theorem dX6_figure_208 : decode cX6_figure 208 = .ok (.goto 5, 3) := by decide +kernel
theorem dX6_figure_211 : decode cX6_figure 211 = .ok (.lload_n 3, 1) := by decide +kernel
theorem dX6_figure_212 : decode cX6_figure 212 = .ok (.lneg, 1) := by decide +kernel
theorem dX6_figure_213 : decode cX6_figure 213 = .ok (.putfield 156, 3) := by decide +kernel
theorem dX6_figure_216 : decode cX6_figure 216 = .ok (.return_, 1) := by decide +kernel
theorem dX6_level_0 : decode cX6_level 0 = .ok (.aload_n 0, 1) := by decide +kernel
theorem dX6_level_1 : decode cX6_level 1 = .ok (.getfield 137, 3) := by decide +kernel
theorem dX6_level_4 : decode cX6_level 4 = .ok (.ifCond .ne 21, 3) := by decide +kernel
theorem dX6_level_7 : decode cX6_level 7 = .ok (.aload_n 0, 1) := by decide +kernel
theorem dX6_level_8 : decode cX6_level 8 = .ok (.getfield 19, 3) := by decide +kernel
theorem dX6_level_11 : decode cX6_level 11 = .ok (.bipush 12, 2) := by decide +kernel
theorem dX6_level_13 : decode cX6_level 13 = .ok (.aload_n 0, 1) := by decide +kernel
theorem dX6_level_14 : decode cX6_level 14 = .ok (.getfield 45, 3) := by decide +kernel
theorem dX6_level_17 : decode cX6_level 17 = .ok (.imul, 1) := by decide +kernel
theorem dX6_level_18 : decode cX6_level 18 = .ok (.iload_n 1, 1) := by decide +kernel
theorem dX6_level_19 : decode cX6_level 19 = .ok (.iadd, 1) := by decide +kernel
theorem dX6_level_20 : decode cX6_level 20 = .ok (.aload_n 0, 1) := by decide +kernel
theorem dX6_level_21 : decode cX6_level 21 = .ok (.getfield 156, 3) := by decide +kernel
theorem dX6_level_24 : decode cX6_level 24 = .ok (.lastore, 1) := by decide +kernel
theorem dX6_level_25 : decode cX6_level 25 = .ok (.return_, 1) := by decide +kernel
set_option maxRecDepth 20000 in
theorem ggX6_row_X6_here : GoodIn wsX6_row wsX6_here := goodIn_r _ [7, 2, 8, 9, 32, 33, 34, 35, 36, 37, 38, 39, 40, 41, 42, 43, 44, 45, 46, 47, 48, 49, 50, 51, 52, 53, 54, 55] (by decide +kernel) (by decide +kernel)
set_option maxRecDepth 20000 in
theorem gX6_row_X6_here : GoodIn wsX6_row (wsV RX6 130 RX6 yX6_here wsX6_here) := goodIn_app (goodIn_of _ (by decide +kernel)) ggX6_row_X6_here
set_option maxRecDepth 20000 in
theorem ggX6_row_X6_figure : GoodIn wsX6_row wsX6_figure := goodIn_r _ [13, 1, 2, 14, 15, 16, 3, 4, 5, 6, 7, 8, 9, 17, 18, 19, 20, 21, 22, 23, 24, 25, 32, 33, 34, 35, 36, 37, 38, 39, 40, 41, 42, 43, 44, 45, 46, 47, 48, 49, 50, 51, 52, 53, 54, 55] (by decide +kernel) (by decide +kernel)
set_option maxRecDepth 20000 in
theorem gX6_row_X6_figure : GoodIn wsX6_row (wsV RX6 159 RX6 yX6_figure wsX6_figure) := goodIn_app (goodIn_of _ (by decide +kernel)) ggX6_row_X6_figure
set_option maxRecDepth 20000 in
theorem ggX6_row_X6_level : GoodIn wsX6_row wsX6_level := goodIn_r _ [29, 1, 30, 31, 16, 32, 33, 34, 35, 36, 37, 38, 39, 40, 41, 42, 43, 44, 45, 46, 47, 48, 49, 50, 51, 52, 53, 54, 55] (by decide +kernel) (by decide +kernel)
set_option maxRecDepth 20000 in
theorem gX6_row_X6_level : GoodIn wsX6_row (wsV RX6 162 RX6 yX6_level wsX6_level) := goodIn_app (goodIn_of _ (by decide +kernel)) ggX6_row_X6_level
theorem dX6_row_0 : decode cX6_row 0 = .ok (.iconst 0, 1) := by decide +kernel
theorem dX6_row_1 : decode cX6_row 1 = .ok (.istore_n 2, 1) := by decide +kernel
theorem dX6_row_2 : decode cX6_row 2 = .ok (.aload_n 0, 1) := by decide +kernel
theorem dX6_row_3 : decode cX6_row 3 = .ok (.getfield 137, 3) := by decide +kernel
theorem dX6_row_6 : decode cX6_row 6 = .ok (.ifCond .ne 14, 3) := by decide +kernel
theorem dX6_row_9 : decode cX6_row 9 = .ok (.aload_n 0, 1) := by decide +kernel
theorem dX6_row_10 : decode cX6_row 10 = .ok (.invokevirtual 130, 3) := by decide +kernel
theorem dX6_row_13 : decode cX6_row 13 = .ok (.bipush 93, 2) := by decide +kernel
theorem dX6_row_15 : decode cX6_row 15 = .ok (.if_icmp .ne 5, 3) := by decide +kernel
theorem dX6_row_18 : decode cX6_row 18 = .ok (.iconst 0, 1) := by decide +kernel
theorem dX6_row_19 : decode cX6_row 19 = .ok (.ireturn, 1) := by decide +kernel
theorem dX6_row_20 : decode cX6_row 20 = .ok (.aload_n 0, 1) := by decide +kernel
theorem dX6_row_21 : decode cX6_row 21 = .ok (.invokevirtual 159, 3) := by decide +kernel
theorem dX6_row_24 : decode cX6_row 24 = .ok (.aload_n 0, 1) := by decide +kernel
theorem dX6_row_25 : decode cX6_row 25 = .ok (.iload_n 1, 1) := by decide +kernel
theorem dX6_row_26 : decode cX6_row 26 = .ok (.invokevirtual 162, 3) := by decide +kernel
theorem dX6_row_29 : decode cX6_row 29 = .ok (.iconst 1, 1) := by decide +kernel
theorem dX6_row_30 : decode cX6_row 30 = .ok (.istore_n 2, 1) := by decide +kernel
theorem dX6_row_31 : decode cX6_row 31 = .ok (.aload_n 0, 1) := by decide +kernel
theorem dX6_row_32 : decode cX6_row 32 = .ok (.getfield 137, 3) := by decide +kernel
theorem dX6_row_35 : decode cX6_row 35 = .ok (.ifCond .ne 45, 3) := by decide +kernel
theorem dX6_row_38 : decode cX6_row 38 = .ok (.aload_n 0, 1) := by decide +kernel
theorem dX6_row_39 : decode cX6_row 39 = .ok (.invokevirtual 130, 3) := by decide +kernel
theorem dX6_row_42 : decode cX6_row 42 = .ok (.bipush 47, 2) := by decide +kernel
theorem dX6_row_44 : decode cX6_row 44 = .ok (.if_icmp .ne 36, 3) := by decide +kernel
theorem dX6_row_47 : decode cX6_row 47 = .ok (.iload_n 2, 1) := by decide +kernel
theorem dX6_row_48 : decode cX6_row 48 = .ok (.bipush 6, 2) := by decide +kernel
theorem dX6_row_50 : decode cX6_row 50 = .ok (.if_icmp .ge 30, 3) := by decide +kernel

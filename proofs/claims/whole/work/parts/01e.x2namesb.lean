set_option maxRecDepth 20000 in
theorem ggX2_readText_X2_clear : GoodIn wsX2_readText wsX2_clear := goodIn_r _ [8] (by decide +kernel) (by decide +kernel)
set_option maxRecDepth 20000 in
theorem gX2_readText_X2_clear : GoodIn wsX2_readText (va_wsS RX2 41 yX2_clear wsX2_clear) := goodIn_app (goodIn_of _ (by decide +kernel)) ggX2_readText_X2_clear
set_option maxRecDepth 20000 in
theorem ggX2_readText_X2_in : GoodIn wsX2_readText wsX2_in := goodIn_r _ [11] (by decide +kernel) (by decide +kernel)
set_option maxRecDepth 20000 in
theorem gX2_readText_X2_in : GoodIn wsX2_readText (va_wsS RX2 47 yX2_in wsX2_in) := goodIn_app (goodIn_of _ (by decide +kernel)) ggX2_readText_X2_in
set_option maxRecDepth 20000 in
theorem ggX2_readText_X2_passOn : GoodIn wsX2_readText wsX2_passOn := goodIn_r _ [14, 15, 16, 7, 17, 18, 19, 20, 21, 22, 23, 24, 25, 26, 27, 28, 29, 30, 31, 32, 33, 34, 35, 36, 37, 38, 39, 40, 41, 42, 43, 44, 45, 46, 47, 48, 49, 50, 51, 52, 53, 54, 55, 56, 57] (by decide +kernel) (by decide +kernel)
set_option maxRecDepth 20000 in
theorem gX2_readText_X2_passOn : GoodIn wsX2_readText (va_wsS RX2 108 yX2_passOn wsX2_passOn) := goodIn_app (goodIn_of _ (by decide +kernel)) ggX2_readText_X2_passOn
set_option maxRecDepth 20000 in
theorem ggX2_readText_X2_those : GoodIn wsX2_readText wsX2_those := goodIn_r _ [60] (by decide +kernel) (by decide +kernel)
set_option maxRecDepth 20000 in
theorem gX2_readText_X2_those : GoodIn wsX2_readText (va_wsS RX2 111 yX2_those wsX2_those) := goodIn_app (goodIn_of _ (by decide +kernel)) ggX2_readText_X2_those
set_option maxRecDepth 20000 in
theorem ggX2_readText_X2_isMember : GoodIn wsX2_readText wsX2_isMember := goodIn_r _ [63, 64, 9, 10, 7, 11] (by decide +kernel) (by decide +kernel)
set_option maxRecDepth 20000 in
theorem gX2_readText_X2_isMember : GoodIn wsX2_readText (va_wsS RX2 114 yX2_isMember wsX2_isMember) := goodIn_app (goodIn_of _ (by decide +kernel)) ggX2_readText_X2_isMember
set_option maxRecDepth 20000 in
theorem ggX2_readText_X2_has : GoodIn wsX2_readText wsX2_has := goodIn_r _ [48] (by decide +kernel) (by decide +kernel)
set_option maxRecDepth 20000 in
theorem gX2_readText_X2_has : GoodIn wsX2_readText (va_wsS RX2 64 yX2_has wsX2_has) := goodIn_app (goodIn_of _ (by decide +kernel)) ggX2_readText_X2_has
set_option maxRecDepth 20000 in
theorem ggX2_readText_X2_joins : GoodIn wsX2_readText wsX2_joins := goodIn_r _ [67, 30, 31, 7, 32, 33, 34, 35, 36, 37, 38, 39] (by decide +kernel) (by decide +kernel)
set_option maxRecDepth 20000 in
theorem gX2_readText_X2_joins : GoodIn wsX2_readText (va_wsS RX2 118 yX2_joins wsX2_joins) := goodIn_app (goodIn_of _ (by decide +kernel)) ggX2_readText_X2_joins
set_option maxRecDepth 20000 in
theorem ggX2_readText_X2_leaves : GoodIn wsX2_readText wsX2_leaves := goodIn_r _ [70, 24, 25, 7, 26, 27, 28, 29, 49, 50, 51, 52, 53, 54, 43, 44, 45, 46, 47, 48, 30, 31, 32, 33, 34, 35, 36, 37, 38, 39] (by decide +kernel) (by decide +kernel)
set_option maxRecDepth 20000 in
theorem gX2_readText_X2_leaves : GoodIn wsX2_readText (va_wsS RX2 121 yX2_leaves wsX2_leaves) := goodIn_app (goodIn_of _ (by decide +kernel)) ggX2_readText_X2_leaves
theorem dX2_readText_0 : decode cX2_readText 0 = .ok (.aload_n 0, 1) := by decide +kernel
theorem dX2_readText_1 : decode cX2_readText 1 = .ok (.getfield 38, 3) := by decide +kernel
theorem dX2_readText_4 : decode cX2_readText 4 = .ok (.invokestatic 41, 3) := by decide +kernel
theorem dX2_readText_7 : decode cX2_readText 7 = .ok (.aload_n 0, 1) := by decide +kernel
theorem dX2_readText_8 : decode cX2_readText 8 = .ok (.getfield 102, 3) := by decide +kernel
theorem dX2_readText_11 : decode cX2_readText 11 = .ok (.ifCond .eq 14, 3) := by decide +kernel
theorem dX2_readText_14 : decode cX2_readText 14 = .ok (.aload_n 0, 1) := by decide +kernel
theorem dX2_readText_15 : decode cX2_readText 15 = .ok (.getfield 7, 3) := by decide +kernel
theorem dX2_readText_18 : decode cX2_readText 18 = .ok (.iconst 0, 1) := by decide +kernel
theorem dX2_readText_19 : decode cX2_readText 19 = .ok (.iaload, 1) := by decide +kernel
theorem dX2_readText_20 : decode cX2_readText 20 = .ok (.bipush 77, 2) := by decide +kernel
theorem dX2_readText_22 : decode cX2_readText 22 = .ok (.if_icmp .eq 5, 3) := by decide +kernel
theorem dX2_readText_25 : decode cX2_readText 25 = .ok (.iconst 0, 1) := by decide +kernel
theorem dX2_readText_26 : decode cX2_readText 26 = .ok (.ireturn, 1) := by decide +kernel
theorem dX2_readText_27 : decode cX2_readText 27 = .ok (.iconst 1, 1) := by decide +kernel
theorem dX2_readText_28 : decode cX2_readText 28 = .ok (.istore_n 1, 1) := by decide +kernel
theorem dX2_readText_29 : decode cX2_readText 29 = .ok (.iload_n 1, 1) := by decide +kernel
theorem dX2_readText_30 : decode cX2_readText 30 = .ok (.bipush 7, 2) := by decide +kernel
theorem dX2_readText_32 : decode cX2_readText 32 = .ok (.if_icmp .ge 94, 3) := by decide +kernel
theorem dX2_readText_35 : decode cX2_readText 35 = .ok (.iload_n 1, 1) := by decide +kernel
theorem dX2_readText_36 : decode cX2_readText 36 = .ok (.aload_n 0, 1) := by decide +kernel
theorem dX2_readText_37 : decode cX2_readText 37 = .ok (.getfield 102, 3) := by decide +kernel
theorem dX2_readText_40 : decode cX2_readText 40 = .ok (.if_icmp .ge 15, 3) := by decide +kernel
theorem dX2_readText_43 : decode cX2_readText 43 = .ok (.aload_n 0, 1) := by decide +kernel
theorem dX2_readText_44 : decode cX2_readText 44 = .ok (.getfield 7, 3) := by decide +kernel
theorem dX2_readText_47 : decode cX2_readText 47 = .ok (.iload_n 1, 1) := by decide +kernel
theorem dX2_readText_48 : decode cX2_readText 48 = .ok (.iaload, 1) := by decide +kernel
theorem dX2_readText_49 : decode cX2_readText 49 = .ok (.bipush 48, 2) := by decide +kernel
theorem dX2_readText_51 : decode cX2_readText 51 = .ok (.isub, 1) := by decide +kernel
theorem dX2_readText_52 : decode cX2_readText 52 = .ok (.goto 5, 3) := by decide +kernel
theorem dX2_readText_55 : decode cX2_readText 55 = .ok (.bipush (-9), 2) := by decide +kernel
theorem dX2_readText_57 : decode cX2_readText 57 = .ok (.istore_n 2, 1) := by decide +kernel
theorem dX2_readText_58 : decode cX2_readText 58 = .ok (.iload_n 2, 1) := by decide +kernel
theorem dX2_readText_59 : decode cX2_readText 59 = .ok (.i2l, 1) := by decide +kernel
theorem dX2_readText_60 : decode cX2_readText 60 = .ok (.iload_n 1, 1) := by decide +kernel
theorem dX2_readText_61 : decode cX2_readText 61 = .ok (.iconst 4, 1) := by decide +kernel
theorem dX2_readText_62 : decode cX2_readText 62 = .ok (.if_icmp .ge 7, 3) := by decide +kernel
theorem dX2_readText_65 : decode cX2_readText 65 = .ok (.lconst 1, 1) := by decide +kernel
theorem dX2_readText_66 : decode cX2_readText 66 = .ok (.goto 4, 3) := by decide +kernel
theorem dX2_readText_69 : decode cX2_readText 69 = .ok (.lconst 0, 1) := by decide +kernel
theorem dX2_readText_70 : decode cX2_readText 70 = .ok (.ldc2_w 106, 3) := by decide +kernel
theorem dX2_readText_73 : decode cX2_readText 73 = .ok (.invokestatic 47, 3) := by decide +kernel
theorem dX2_readText_76 : decode cX2_readText 76 = .ok (.ifCond .ne 5, 3) := by decide +kernel
theorem dX2_readText_79 : decode cX2_readText 79 = .ok (.iload_n 1, 1) := by decide +kernel
theorem dX2_readText_80 : decode cX2_readText 80 = .ok (.ireturn, 1) := by decide +kernel
theorem dX2_readText_81 : decode cX2_readText 81 = .ok (.iload_n 1, 1) := by decide +kernel
theorem dX2_readText_82 : decode cX2_readText 82 = .ok (.iconst 4, 1) := by decide +kernel
theorem dX2_readText_83 : decode cX2_readText 83 = .ok (.if_icmp .ge 18, 3) := by decide +kernel
theorem dX2_readText_86 : decode cX2_readText 86 = .ok (.aload_n 0, 1) := by decide +kernel
theorem dX2_readText_87 : decode cX2_readText 87 = .ok (.getfield 38, 3) := by decide +kernel
theorem dX2_readText_90 : decode cX2_readText 90 = .ok (.bipush 66, 2) := by decide +kernel
theorem dX2_readText_92 : decode cX2_readText 92 = .ok (.iload_n 1, 1) := by decide +kernel
theorem dX2_readText_93 : decode cX2_readText 93 = .ok (.iadd, 1) := by decide +kernel
theorem dX2_readText_94 : decode cX2_readText 94 = .ok (.iconst 1, 1) := by decide +kernel
theorem dX2_readText_95 : decode cX2_readText 95 = .ok (.isub, 1) := by decide +kernel
theorem dX2_readText_96 : decode cX2_readText 96 = .ok (.iload_n 2, 1) := by decide +kernel
theorem dX2_readText_97 : decode cX2_readText 97 = .ok (.iastore, 1) := by decide +kernel
theorem dX2_readText_98 : decode cX2_readText 98 = .ok (.goto 22, 3) := by decide +kernel
theorem dX2_readText_101 : decode cX2_readText 101 = .ok (.aload_n 0, 1) := by decide +kernel
theorem dX2_readText_102 : decode cX2_readText 102 = .ok (.getfield 38, 3) := by decide +kernel
theorem dX2_readText_105 : decode cX2_readText 105 = .ok (.bipush 69, 2) := by decide +kernel
theorem dX2_readText_107 : decode cX2_readText 107 = .ok (.bipush 10, 2) := by decide +kernel
theorem dX2_readText_109 : decode cX2_readText 109 = .ok (.aload_n 0, 1) := by decide +kernel
theorem dX2_readText_110 : decode cX2_readText 110 = .ok (.getfield 38, 3) := by decide +kernel
theorem dX2_readText_113 : decode cX2_readText 113 = .ok (.bipush 69, 2) := by decide +kernel
theorem dX2_readText_115 : decode cX2_readText 115 = .ok (.iaload, 1) := by decide +kernel
theorem dX2_readText_116 : decode cX2_readText 116 = .ok (.imul, 1) := by decide +kernel
theorem dX2_readText_117 : decode cX2_readText 117 = .ok (.iload_n 2, 1) := by decide +kernel
theorem dX2_readText_118 : decode cX2_readText 118 = .ok (.iadd, 1) := by decide +kernel
theorem dX2_readText_119 : decode cX2_readText 119 = .ok (.iastore, 1) := by decide +kernel
theorem dX2_readText_120 : decode cX2_readText 120 = .ok (.iinc 1 1, 3) := by decide +kernel
theorem dX2_readText_123 : decode cX2_readText 123 = .ok (.goto (-94), 3) := by decide +kernel
theorem dX2_readText_126 : decode cX2_readText 126 = .ok (.bipush 7, 2) := by decide +kernel
theorem dX2_readText_128 : decode cX2_readText 128 = .ok (.istore_n 1, 1) := by decide +kernel
theorem dX2_readText_129 : decode cX2_readText 129 = .ok (.iload_n 1, 1) := by decide +kernel
theorem dX2_readText_130 : decode cX2_readText 130 = .ok (.aload_n 0, 1) := by decide +kernel
theorem dX2_readText_131 : decode cX2_readText 131 = .ok (.getfield 102, 3) := by decide +kernel
theorem dX2_readText_134 : decode cX2_readText 134 = .ok (.if_icmp .ge 193, 3) := by decide +kernel
theorem dX2_readText_137 : decode cX2_readText 137 = .ok (.aload_n 0, 1) := by decide +kernel
theorem dX2_readText_138 : decode cX2_readText 138 = .ok (.getfield 7, 3) := by decide +kernel
theorem dX2_readText_141 : decode cX2_readText 141 = .ok (.iload_n 1, 1) := by decide +kernel
theorem dX2_readText_142 : decode cX2_readText 142 = .ok (.iaload, 1) := by decide +kernel
theorem dX2_readText_143 : decode cX2_readText 143 = .ok (.bipush 48, 2) := by decide +kernel
theorem dX2_readText_145 : decode cX2_readText 145 = .ok (.isub, 1) := by decide +kernel
theorem dX2_readText_146 : decode cX2_readText 146 = .ok (.istore_n 2, 1) := by decide +kernel
theorem dX2_readText_147 : decode cX2_readText 147 = .ok (.iconst 0, 1) := by decide +kernel
theorem dX2_readText_148 : decode cX2_readText 148 = .ok (.istore_n 3, 1) := by decide +kernel
theorem dX2_readText_149 : decode cX2_readText 149 = .ok (.iload_n 2, 1) := by decide +kernel
theorem dX2_readText_150 : decode cX2_readText 150 = .ok (.i2l, 1) := by decide +kernel
theorem dX2_readText_151 : decode cX2_readText 151 = .ok (.lconst 1, 1) := by decide +kernel
theorem dX2_readText_152 : decode cX2_readText 152 = .ok (.ldc2_w 106, 3) := by decide +kernel
theorem dX2_readText_155 : decode cX2_readText 155 = .ok (.invokestatic 47, 3) := by decide +kernel
theorem dX2_readText_158 : decode cX2_readText 158 = .ok (.ifCond .eq 18, 3) := by decide +kernel
theorem dX2_readText_161 : decode cX2_readText 161 = .ok (.aload_n 0, 1) := by decide +kernel
theorem dX2_readText_162 : decode cX2_readText 162 = .ok (.getfield 38, 3) := by decide +kernel
theorem dX2_readText_165 : decode cX2_readText 165 = .ok (.iload_n 2, 1) := by decide +kernel
theorem dX2_readText_166 : decode cX2_readText 166 = .ok (.invokestatic 108, 3) := by decide +kernel
theorem dX2_readText_169 : decode cX2_readText 169 = .ok (.istore_n 3, 1) := by decide +kernel
theorem dX2_readText_170 : decode cX2_readText 170 = .ok (.iinc 1 1, 3) := by decide +kernel
theorem dX2_readText_173 : decode cX2_readText 173 = .ok (.goto 151, 3) := by decide +kernel
theorem dX2_readText_176 : decode cX2_readText 176 = .ok (.aload_n 0, 1) := by decide +kernel
theorem dX2_readText_177 : decode cX2_readText 177 = .ok (.getfield 7, 3) := by decide +kernel
theorem dX2_readText_180 : decode cX2_readText 180 = .ok (.iload_n 1, 1) := by decide +kernel
theorem dX2_readText_181 : decode cX2_readText 181 = .ok (.iaload, 1) := by decide +kernel
theorem dX2_readText_182 : decode cX2_readText 182 = .ok (.bipush 106, 2) := by decide +kernel
theorem dX2_readText_184 : decode cX2_readText 184 = .ok (.if_icmp .ne 14, 3) := by decide +kernel
theorem dX2_readText_187 : decode cX2_readText 187 = .ok (.aload_n 0, 1) := by decide +kernel
theorem dX2_readText_188 : decode cX2_readText 188 = .ok (.getfield 38, 3) := by decide +kernel
theorem dX2_readText_191 : decode cX2_readText 191 = .ok (.iconst 0, 1) := by decide +kernel
theorem dX2_readText_192 : decode cX2_readText 192 = .ok (.invokestatic 111, 3) := by decide +kernel
theorem dX2_readText_195 : decode cX2_readText 195 = .ok (.goto 26, 3) := by decide +kernel
theorem dX2_readText_198 : decode cX2_readText 198 = .ok (.aload_n 0, 1) := by decide +kernel
theorem dX2_readText_199 : decode cX2_readText 199 = .ok (.getfield 7, 3) := by decide +kernel
theorem dX2_readText_202 : decode cX2_readText 202 = .ok (.iload_n 1, 1) := by decide +kernel
theorem dX2_readText_203 : decode cX2_readText 203 = .ok (.iaload, 1) := by decide +kernel
theorem dX2_readText_204 : decode cX2_readText 204 = .ok (.bipush 108, 2) := by decide +kernel
theorem dX2_readText_206 : decode cX2_readText 206 = .ok (.if_icmp .ne 14, 3) := by decide +kernel
theorem dX2_readText_209 : decode cX2_readText 209 = .ok (.aload_n 0, 1) := by decide +kernel
theorem dX2_readText_210 : decode cX2_readText 210 = .ok (.getfield 38, 3) := by decide +kernel
theorem dX2_readText_213 : decode cX2_readText 213 = .ok (.iconst 1, 1) := by decide +kernel
theorem dX2_readText_214 : decode cX2_readText 214 = .ok (.invokestatic 111, 3) := by decide +kernel
theorem dX2_readText_217 : decode cX2_readText 217 = .ok (.goto 4, 3) := by decide +kernel
theorem dX2_readText_220 : decode cX2_readText 220 = .ok (.iconst 0, 1) := by decide +kernel
theorem dX2_readText_221 : decode cX2_readText 221 = .ok (.istore 4, 2) := by decide +kernel
theorem dX2_readText_223 : decode cX2_readText 223 = .ok (.iload 4, 2) := by decide +kernel
theorem dX2_readText_225 : decode cX2_readText 225 = .ok (.ifCond .ne 5, 3) := by decide +kernel
theorem dX2_readText_228 : decode cX2_readText 228 = .ok (.iload_n 1, 1) := by decide +kernel
theorem dX2_readText_229 : decode cX2_readText 229 = .ok (.ireturn, 1) := by decide +kernel
theorem dX2_readText_230 : decode cX2_readText 230 = .ok (.aload_n 0, 1) := by decide +kernel
theorem dX2_readText_231 : decode cX2_readText 231 = .ok (.getfield 7, 3) := by decide +kernel
theorem dX2_readText_234 : decode cX2_readText 234 = .ok (.iload_n 1, 1) := by decide +kernel
theorem dX2_readText_235 : decode cX2_readText 235 = .ok (.iaload, 1) := by decide +kernel
theorem dX2_readText_236 : decode cX2_readText 236 = .ok (.bipush 106, 2) := by decide +kernel
theorem dX2_readText_238 : decode cX2_readText 238 = .ok (.if_icmp .ne 7, 3) := by decide +kernel
theorem dX2_readText_241 : decode cX2_readText 241 = .ok (.iconst 1, 1) := by decide +kernel
theorem dX2_readText_242 : decode cX2_readText 242 = .ok (.goto 4, 3) := by decide +kernel
theorem dX2_readText_245 : decode cX2_readText 245 = .ok (.iconst 0, 1) := by decide +kernel
theorem dX2_readText_246 : decode cX2_readText 246 = .ok (.istore 5, 2) := by decide +kernel
theorem dX2_readText_248 : decode cX2_readText 248 = .ok (.iinc 1 1, 3) := by decide +kernel
theorem dX2_readText_251 : decode cX2_readText 251 = .ok (.iload_n 1, 1) := by decide +kernel
theorem dX2_readText_252 : decode cX2_readText 252 = .ok (.aload_n 0, 1) := by decide +kernel
theorem dX2_readText_253 : decode cX2_readText 253 = .ok (.getfield 102, 3) := by decide +kernel
theorem dX2_readText_256 : decode cX2_readText 256 = .ok (.if_icmp .ge 15, 3) := by decide +kernel
theorem dX2_readText_259 : decode cX2_readText 259 = .ok (.aload_n 0, 1) := by decide +kernel
theorem dX2_readText_260 : decode cX2_readText 260 = .ok (.getfield 7, 3) := by decide +kernel
theorem dX2_readText_263 : decode cX2_readText 263 = .ok (.iload_n 1, 1) := by decide +kernel
theorem dX2_readText_264 : decode cX2_readText 264 = .ok (.iaload, 1) := by decide +kernel
theorem dX2_readText_265 : decode cX2_readText 265 = .ok (.bipush 48, 2) := by decide +kernel
theorem dX2_readText_267 : decode cX2_readText 267 = .ok (.isub, 1) := by decide +kernel
theorem dX2_readText_268 : decode cX2_readText 268 = .ok (.goto 5, 3) := by decide +kernel
theorem dX2_readText_271 : decode cX2_readText 271 = .ok (.bipush (-9), 2) := by decide +kernel
theorem dX2_readText_273 : decode cX2_readText 273 = .ok (.istore 6, 2) := by decide +kernel
theorem dX2_readText_275 : decode cX2_readText 275 = .ok (.iload 6, 2) := by decide +kernel
theorem dX2_readText_277 : decode cX2_readText 277 = .ok (.invokestatic 114, 3) := by decide +kernel
theorem dX2_readText_280 : decode cX2_readText 280 = .ok (.ifCond .eq 13, 3) := by decide +kernel
theorem dX2_readText_283 : decode cX2_readText 283 = .ok (.iload 4, 2) := by decide +kernel
theorem dX2_readText_285 : decode cX2_readText 285 = .ok (.iload 6, 2) := by decide +kernel
theorem dX2_readText_287 : decode cX2_readText 287 = .ok (.invokestatic 64, 3) := by decide +kernel
theorem dX2_readText_290 : decode cX2_readText 290 = .ok (.ifCond .ne 5, 3) := by decide +kernel
theorem dX2_readText_293 : decode cX2_readText 293 = .ok (.iload_n 1, 1) := by decide +kernel
theorem dX2_readText_294 : decode cX2_readText 294 = .ok (.ireturn, 1) := by decide +kernel
theorem dX2_readText_295 : decode cX2_readText 295 = .ok (.iinc 1 1, 3) := by decide +kernel
theorem dX2_readText_298 : decode cX2_readText 298 = .ok (.iload 5, 2) := by decide +kernel
theorem dX2_readText_300 : decode cX2_readText 300 = .ok (.ifCond .eq 15, 3) := by decide +kernel
theorem dX2_readText_303 : decode cX2_readText 303 = .ok (.aload_n 0, 1) := by decide +kernel
theorem dX2_readText_304 : decode cX2_readText 304 = .ok (.getfield 38, 3) := by decide +kernel
theorem dX2_readText_307 : decode cX2_readText 307 = .ok (.iload 6, 2) := by decide +kernel
theorem dX2_readText_309 : decode cX2_readText 309 = .ok (.invokestatic 118, 3) := by decide +kernel
theorem dX2_readText_312 : decode cX2_readText 312 = .ok (.goto 12, 3) := by decide +kernel
theorem dX2_readText_315 : decode cX2_readText 315 = .ok (.aload_n 0, 1) := by decide +kernel
theorem dX2_readText_316 : decode cX2_readText 316 = .ok (.getfield 38, 3) := by decide +kernel
theorem dX2_readText_319 : decode cX2_readText 319 = .ok (.iload 6, 2) := by decide +kernel
theorem dX2_readText_321 : decode cX2_readText 321 = .ok (.invokestatic 121, 3) := by decide +kernel
theorem dX2_readText_324 : decode cX2_readText 324 = .ok (.goto (-195), 3) := by decide +kernel
theorem dX2_readText_327 : decode cX2_readText 327 = .ok (.bipush (-9), 2) := by decide +kernel
theorem dX2_readText_329 : decode cX2_readText 329 = .ok (.ireturn, 1) := by decide +kernel
set_option maxRecDepth 20000 in
theorem ggX2_fault_X2_readText : GoodIn wsX2_fault wsX2_readText := goodIn_r _ [5, 6, 7, 8, 9, 10, 11, 4, 12, 13, 14, 15, 16, 17, 18, 19, 20, 21, 22, 23, 24, 25, 26, 27, 28, 29, 30, 31, 32, 33, 34, 35, 36, 37, 38, 39, 40, 41, 42, 43, 44, 45, 46, 47, 48, 49, 50, 51, 52, 53, 54, 55, 56, 57, 58, 59, 60, 61, 62, 63, 64, 65, 66, 67, 68, 69, 70, 71, 72, 73, 74, 75, 76, 77, 78, 79, 80, 81, 82, 83, 84, 85, 86, 87, 88, 89] (by decide +kernel) (by decide +kernel)
set_option maxRecDepth 20000 in
theorem gX2_fault_X2_readText : GoodIn wsX2_fault (wsV RX2 124 RX2 yX2_readText wsX2_readText) := goodIn_app (goodIn_of _ (by decide +kernel)) ggX2_fault_X2_readText
theorem dX2_fault_0 : decode cX2_fault 0 = .ok (.aload_n 0, 1) := by decide +kernel
theorem dX2_fault_1 : decode cX2_fault 1 = .ok (.invokevirtual 124, 3) := by decide +kernel
theorem dX2_fault_4 : decode cX2_fault 4 = .ok (.ireturn, 1) := by decide +kernel
set_option maxRecDepth 20000 in
theorem ggX2_meeting_X2_readText : GoodIn wsX2_meeting wsX2_readText := goodIn_r _ [9, 1, 10, 11, 12, 13, 14, 8, 15, 16, 17, 18, 19, 20, 21, 22, 23, 24, 25, 26, 27, 28, 29, 30, 31, 32, 33, 34, 35, 36, 37, 38, 39, 40, 41, 42, 43, 44, 45, 46, 47, 48, 49, 50, 51, 52, 53, 54, 55, 56, 57, 58, 59, 60, 61, 62, 63, 64, 65, 66, 67, 68, 69, 70, 71, 72, 73, 74, 75, 76, 77, 81, 82, 83, 84, 85, 86, 87, 88, 89, 90, 91, 92, 93, 94, 95] (by decide +kernel) (by decide +kernel)
set_option maxRecDepth 20000 in
theorem gX2_meeting_X2_readText : GoodIn wsX2_meeting (wsV RX2 124 RX2 yX2_readText wsX2_readText) := goodIn_app (goodIn_of _ (by decide +kernel)) ggX2_meeting_X2_readText
set_option maxRecDepth 20000 in
theorem ggX2_meeting_X2_copy : GoodIn wsX2_meeting wsX2_copy := goodIn_r _ [80] (by decide +kernel) (by decide +kernel)
set_option maxRecDepth 20000 in
theorem gX2_meeting_X2_copy : GoodIn wsX2_meeting (va_wsS RX2 128 yX2_copy wsX2_copy) := goodIn_app (goodIn_of _ (by decide +kernel)) ggX2_meeting_X2_copy
theorem dX2_meeting_0 : decode cX2_meeting 0 = .ok (.aload_n 0, 1) := by decide +kernel
theorem dX2_meeting_1 : decode cX2_meeting 1 = .ok (.invokevirtual 124, 3) := by decide +kernel
theorem dX2_meeting_4 : decode cX2_meeting 4 = .ok (.bipush (-9), 2) := by decide +kernel
theorem dX2_meeting_6 : decode cX2_meeting 6 = .ok (.if_icmp .eq 6, 3) := by decide +kernel
theorem dX2_meeting_9 : decode cX2_meeting 9 = .ok (.bipush (-3), 2) := by decide +kernel
theorem dX2_meeting_11 : decode cX2_meeting 11 = .ok (.ireturn, 1) := by decide +kernel
theorem dX2_meeting_12 : decode cX2_meeting 12 = .ok (.aload_n 0, 1) := by decide +kernel
theorem dX2_meeting_13 : decode cX2_meeting 13 = .ok (.getfield 38, 3) := by decide +kernel
theorem dX2_meeting_16 : decode cX2_meeting 16 = .ok (.aload_n 0, 1) := by decide +kernel
theorem dX2_meeting_17 : decode cX2_meeting 17 = .ok (.getfield 13, 3) := by decide +kernel
theorem dX2_meeting_20 : decode cX2_meeting 20 = .ok (.invokestatic 128, 3) := by decide +kernel
theorem dX2_meeting_23 : decode cX2_meeting 23 = .ok (.aload_n 0, 1) := by decide +kernel
theorem dX2_meeting_24 : decode cX2_meeting 24 = .ok (.iconst 0, 1) := by decide +kernel
theorem dX2_meeting_25 : decode cX2_meeting 25 = .ok (.putfield 132, 3) := by decide +kernel
theorem dX2_meeting_28 : decode cX2_meeting 28 = .ok (.aload_n 0, 1) := by decide +kernel
theorem dX2_meeting_29 : decode cX2_meeting 29 = .ok (.getfield 25, 3) := by decide +kernel
theorem dX2_meeting_32 : decode cX2_meeting 32 = .ok (.iconst 0, 1) := by decide +kernel
theorem dX2_meeting_33 : decode cX2_meeting 33 = .ok (.iconst 0, 1) := by decide +kernel
theorem dX2_meeting_34 : decode cX2_meeting 34 = .ok (.bastore, 1) := by decide +kernel
theorem dX2_meeting_35 : decode cX2_meeting 35 = .ok (.aload_n 0, 1) := by decide +kernel
theorem dX2_meeting_36 : decode cX2_meeting 36 = .ok (.getfield 25, 3) := by decide +kernel
theorem dX2_meeting_39 : decode cX2_meeting 39 = .ok (.iconst 1, 1) := by decide +kernel
theorem dX2_meeting_40 : decode cX2_meeting 40 = .ok (.iconst 0, 1) := by decide +kernel
theorem dX2_meeting_41 : decode cX2_meeting 41 = .ok (.bastore, 1) := by decide +kernel
theorem dX2_meeting_42 : decode cX2_meeting 42 = .ok (.aload_n 0, 1) := by decide +kernel
theorem dX2_meeting_43 : decode cX2_meeting 43 = .ok (.getfield 13, 3) := by decide +kernel
theorem dX2_meeting_46 : decode cX2_meeting 46 = .ok (.bipush 70, 2) := by decide +kernel
theorem dX2_meeting_48 : decode cX2_meeting 48 = .ok (.iaload, 1) := by decide +kernel
theorem dX2_meeting_49 : decode cX2_meeting 49 = .ok (.ireturn, 1) := by decide +kernel
set_option maxRecDepth 20000 in
theorem ggX2_rest_X2_copy : GoodIn wsX2_rest wsX2_copy := goodIn_r _ [6] (by decide +kernel) (by decide +kernel)
set_option maxRecDepth 20000 in
theorem gX2_rest_X2_copy : GoodIn wsX2_rest (va_wsS RX2 128 yX2_copy wsX2_copy) := goodIn_app (goodIn_of _ (by decide +kernel)) ggX2_rest_X2_copy
set_option maxRecDepth 20000 in
theorem ggX2_rest_X2_those : GoodIn wsX2_rest wsX2_those := goodIn_r _ [9] (by decide +kernel) (by decide +kernel)
set_option maxRecDepth 20000 in
theorem gX2_rest_X2_those : GoodIn wsX2_rest (va_wsS RX2 111 yX2_those wsX2_those) := goodIn_app (goodIn_of _ (by decide +kernel)) ggX2_rest_X2_those
set_option maxRecDepth 20000 in
theorem ggX2_rest_X2_tick : GoodIn wsX2_rest wsX2_tick := goodIn_r _ [12, 13, 14, 5, 15, 16, 17, 18, 19, 20, 21, 22, 23, 24, 25, 26, 27, 28, 29, 30, 31, 32, 33, 34, 35, 36, 37, 38, 39, 40, 41, 42, 43, 44, 45, 46, 47, 48, 49] (by decide +kernel) (by decide +kernel)
set_option maxRecDepth 20000 in
theorem gX2_rest_X2_tick : GoodIn wsX2_rest (va_wsS RX2 97 yX2_tick wsX2_tick) := goodIn_app (goodIn_of _ (by decide +kernel)) ggX2_rest_X2_tick
theorem dX2_rest_0 : decode cX2_rest 0 = .ok (.aload_n 0, 1) := by decide +kernel
theorem dX2_rest_1 : decode cX2_rest 1 = .ok (.getfield 13, 3) := by decide +kernel
theorem dX2_rest_4 : decode cX2_rest 4 = .ok (.aload_n 0, 1) := by decide +kernel
theorem dX2_rest_5 : decode cX2_rest 5 = .ok (.getfield 16, 3) := by decide +kernel
theorem dX2_rest_8 : decode cX2_rest 8 = .ok (.invokestatic 128, 3) := by decide +kernel
theorem dX2_rest_11 : decode cX2_rest 11 = .ok (.iconst 0, 1) := by decide +kernel
theorem dX2_rest_12 : decode cX2_rest 12 = .ok (.istore_n 1, 1) := by decide +kernel
theorem dX2_rest_13 : decode cX2_rest 13 = .ok (.iload_n 1, 1) := by decide +kernel
theorem dX2_rest_14 : decode cX2_rest 14 = .ok (.bipush 100, 2) := by decide +kernel
theorem dX2_rest_16 : decode cX2_rest 16 = .ok (.if_icmp .ge 106, 3) := by decide +kernel
theorem dX2_rest_19 : decode cX2_rest 19 = .ok (.aload_n 0, 1) := by decide +kernel
theorem dX2_rest_20 : decode cX2_rest 20 = .ok (.getfield 16, 3) := by decide +kernel
theorem dX2_rest_23 : decode cX2_rest 23 = .ok (.iconst 1, 1) := by decide +kernel
theorem dX2_rest_24 : decode cX2_rest 24 = .ok (.invokestatic 111, 3) := by decide +kernel
theorem dX2_rest_27 : decode cX2_rest 27 = .ok (.istore_n 2, 1) := by decide +kernel
theorem dX2_rest_28 : decode cX2_rest 28 = .ok (.aload_n 0, 1) := by decide +kernel
theorem dX2_rest_29 : decode cX2_rest 29 = .ok (.getfield 16, 3) := by decide +kernel
theorem dX2_rest_32 : decode cX2_rest 32 = .ok (.iconst 2, 1) := by decide +kernel
theorem dX2_rest_33 : decode cX2_rest 33 = .ok (.invokestatic 111, 3) := by decide +kernel
theorem dX2_rest_36 : decode cX2_rest 36 = .ok (.ifCond .ne 7, 3) := by decide +kernel
theorem dX2_rest_39 : decode cX2_rest 39 = .ok (.iconst 1, 1) := by decide +kernel
theorem dX2_rest_40 : decode cX2_rest 40 = .ok (.goto 4, 3) := by decide +kernel
theorem dX2_rest_43 : decode cX2_rest 43 = .ok (.iconst 0, 1) := by decide +kernel
theorem dX2_rest_44 : decode cX2_rest 44 = .ok (.istore_n 3, 1) := by decide +kernel
theorem dX2_rest_45 : decode cX2_rest 45 = .ok (.iconst 0, 1) := by decide +kernel
theorem dX2_rest_46 : decode cX2_rest 46 = .ok (.istore 4, 2) := by decide +kernel
theorem dX2_rest_48 : decode cX2_rest 48 = .ok (.iload 4, 2) := by decide +kernel
theorem dX2_rest_50 : decode cX2_rest 50 = .ok (.bipush 6, 2) := by decide +kernel
theorem dX2_rest_52 : decode cX2_rest 52 = .ok (.if_icmp .ge 51, 3) := by decide +kernel
theorem dX2_rest_55 : decode cX2_rest 55 = .ok (.iload_n 3, 1) := by decide +kernel
theorem dX2_rest_56 : decode cX2_rest 56 = .ok (.ifCond .eq 39, 3) := by decide +kernel
theorem dX2_rest_59 : decode cX2_rest 59 = .ok (.aload_n 0, 1) := by decide +kernel
theorem dX2_rest_60 : decode cX2_rest 60 = .ok (.getfield 16, 3) := by decide +kernel
theorem dX2_rest_63 : decode cX2_rest 63 = .ok (.iload 4, 2) := by decide +kernel
theorem dX2_rest_65 : decode cX2_rest 65 = .ok (.iaload, 1) := by decide +kernel
theorem dX2_rest_66 : decode cX2_rest 66 = .ok (.iconst 1, 1) := by decide +kernel
theorem dX2_rest_67 : decode cX2_rest 67 = .ok (.if_icmp .ne 24, 3) := by decide +kernel
theorem dX2_rest_70 : decode cX2_rest 70 = .ok (.aload_n 0, 1) := by decide +kernel
theorem dX2_rest_71 : decode cX2_rest 71 = .ok (.getfield 16, 3) := by decide +kernel
theorem dX2_rest_74 : decode cX2_rest 74 = .ok (.bipush 6, 2) := by decide +kernel
theorem dX2_rest_76 : decode cX2_rest 76 = .ok (.iload 4, 2) := by decide +kernel
theorem dX2_rest_78 : decode cX2_rest 78 = .ok (.iadd, 1) := by decide +kernel
theorem dX2_rest_79 : decode cX2_rest 79 = .ok (.iaload, 1) := by decide +kernel
theorem dX2_rest_80 : decode cX2_rest 80 = .ok (.iload_n 2, 1) := by decide +kernel
theorem dX2_rest_81 : decode cX2_rest 81 = .ok (.iconst 1, 1) := by decide +kernel
theorem dX2_rest_82 : decode cX2_rest 82 = .ok (.iload 4, 2) := by decide +kernel
theorem dX2_rest_84 : decode cX2_rest 84 = .ok (.ishl, 1) := by decide +kernel
theorem dX2_rest_85 : decode cX2_rest 85 = .ok (.iconst (-1), 1) := by decide +kernel
theorem dX2_rest_86 : decode cX2_rest 86 = .ok (.ixor, 1) := by decide +kernel
theorem dX2_rest_87 : decode cX2_rest 87 = .ok (.iand, 1) := by decide +kernel
theorem dX2_rest_88 : decode cX2_rest 88 = .ok (.if_icmp .ne 7, 3) := by decide +kernel
theorem dX2_rest_91 : decode cX2_rest 91 = .ok (.iconst 1, 1) := by decide +kernel
theorem dX2_rest_92 : decode cX2_rest 92 = .ok (.goto 4, 3) := by decide +kernel
theorem dX2_rest_95 : decode cX2_rest 95 = .ok (.iconst 0, 1) := by decide +kernel
theorem dX2_rest_96 : decode cX2_rest 96 = .ok (.istore_n 3, 1) := by decide +kernel
theorem dX2_rest_97 : decode cX2_rest 97 = .ok (.iinc 4 1, 3) := by decide +kernel
theorem dX2_rest_100 : decode cX2_rest 100 = .ok (.goto (-52), 3) := by decide +kernel
theorem dX2_rest_103 : decode cX2_rest 103 = .ok (.iload_n 3, 1) := by decide +kernel
theorem dX2_rest_104 : decode cX2_rest 104 = .ok (.ifCond .eq 5, 3) := by decide +kernel
theorem dX2_rest_107 : decode cX2_rest 107 = .ok (.iload_n 1, 1) := by decide +kernel
theorem dX2_rest_108 : decode cX2_rest 108 = .ok (.ireturn, 1) := by decide +kernel
theorem dX2_rest_109 : decode cX2_rest 109 = .ok (.aload_n 0, 1) := by decide +kernel
theorem dX2_rest_110 : decode cX2_rest 110 = .ok (.getfield 16, 3) := by decide +kernel
theorem dX2_rest_113 : decode cX2_rest 113 = .ok (.invokestatic 97, 3) := by decide +kernel
theorem dX2_rest_116 : decode cX2_rest 116 = .ok (.iinc 1 1, 3) := by decide +kernel
theorem dX2_rest_119 : decode cX2_rest 119 = .ok (.goto (-106), 3) := by decide +kernel
theorem dX2_rest_122 : decode cX2_rest 122 = .ok (.bipush (-9), 2) := by decide +kernel
theorem dX2_rest_124 : decode cX2_rest 124 = .ok (.ireturn, 1) := by decide +kernel
set_option maxRecDepth 20000 in
theorem ggX2_about_X2_those : GoodIn wsX2_about wsX2_those := goodIn_r _ [8] (by decide +kernel) (by decide +kernel)
set_option maxRecDepth 20000 in
theorem gX2_about_X2_those : GoodIn wsX2_about (va_wsS RX2 111 yX2_those wsX2_those) := goodIn_app (goodIn_of _ (by decide +kernel)) ggX2_about_X2_those
set_option maxRecDepth 20000 in
theorem ggX2_about_X2_rest : GoodIn wsX2_about wsX2_rest := goodIn_r _ [12, 1, 13, 14, 15, 7, 16, 5, 6, 8, 17, 18, 19, 20, 21, 22, 23, 24, 25, 26, 27, 28, 29, 30, 31, 32, 33, 34, 35, 36, 37, 38, 39, 40, 41, 42, 43, 44, 45, 46, 47, 48, 49, 50, 51, 52, 53, 54, 55, 56, 57, 58, 59, 60, 61, 62, 63, 64, 65, 66, 67, 68, 69, 70, 71] (by decide +kernel) (by decide +kernel)
set_option maxRecDepth 20000 in
theorem gX2_about_X2_rest : GoodIn wsX2_about (wsV RX2 135 RX2 yX2_rest wsX2_rest) := goodIn_app (goodIn_of _ (by decide +kernel)) ggX2_about_X2_rest
theorem dX2_about_0 : decode cX2_about 0 = .ok (.iload_n 1, 1) := by decide +kernel
theorem dX2_about_1 : decode cX2_about 1 = .ok (.tableswitch 161 0 12 #[67, 75, 83, 91, 99, 107, 115, 123, 132, 141, 146, 151, 156], 67) := by decide +kernel
theorem dX2_about_68 : decode cX2_about 68 = .ok (.aload_n 0, 1) := by decide +kernel
theorem dX2_about_69 : decode cX2_about 69 = .ok (.getfield 13, 3) := by decide +kernel
theorem dX2_about_72 : decode cX2_about 72 = .ok (.bipush 66, 2) := by decide +kernel
theorem dX2_about_74 : decode cX2_about 74 = .ok (.iaload, 1) := by decide +kernel
theorem dX2_about_75 : decode cX2_about 75 = .ok (.ireturn, 1) := by decide +kernel
theorem dX2_about_76 : decode cX2_about 76 = .ok (.aload_n 0, 1) := by decide +kernel
theorem dX2_about_77 : decode cX2_about 77 = .ok (.getfield 13, 3) := by decide +kernel
theorem dX2_about_80 : decode cX2_about 80 = .ok (.bipush 67, 2) := by decide +kernel
theorem dX2_about_82 : decode cX2_about 82 = .ok (.iaload, 1) := by decide +kernel
theorem dX2_about_83 : decode cX2_about 83 = .ok (.ireturn, 1) := by decide +kernel
theorem dX2_about_84 : decode cX2_about 84 = .ok (.aload_n 0, 1) := by decide +kernel
theorem dX2_about_85 : decode cX2_about 85 = .ok (.getfield 13, 3) := by decide +kernel
theorem dX2_about_88 : decode cX2_about 88 = .ok (.bipush 68, 2) := by decide +kernel
theorem dX2_about_90 : decode cX2_about 90 = .ok (.iaload, 1) := by decide +kernel
theorem dX2_about_91 : decode cX2_about 91 = .ok (.ireturn, 1) := by decide +kernel
theorem dX2_about_92 : decode cX2_about 92 = .ok (.aload_n 0, 1) := by decide +kernel
theorem dX2_about_93 : decode cX2_about 93 = .ok (.getfield 13, 3) := by decide +kernel
theorem dX2_about_96 : decode cX2_about 96 = .ok (.bipush 70, 2) := by decide +kernel
theorem dX2_about_98 : decode cX2_about 98 = .ok (.iaload, 1) := by decide +kernel
theorem dX2_about_99 : decode cX2_about 99 = .ok (.ireturn, 1) := by decide +kernel
theorem dX2_about_100 : decode cX2_about 100 = .ok (.aload_n 0, 1) := by decide +kernel
theorem dX2_about_101 : decode cX2_about 101 = .ok (.getfield 13, 3) := by decide +kernel
theorem dX2_about_104 : decode cX2_about 104 = .ok (.bipush 69, 2) := by decide +kernel
theorem dX2_about_106 : decode cX2_about 106 = .ok (.iaload, 1) := by decide +kernel
theorem dX2_about_107 : decode cX2_about 107 = .ok (.ireturn, 1) := by decide +kernel
theorem dX2_about_108 : decode cX2_about 108 = .ok (.aload_n 0, 1) := by decide +kernel
theorem dX2_about_109 : decode cX2_about 109 = .ok (.getfield 13, 3) := by decide +kernel
theorem dX2_about_112 : decode cX2_about 112 = .ok (.bipush 71, 2) := by decide +kernel
theorem dX2_about_114 : decode cX2_about 114 = .ok (.iaload, 1) := by decide +kernel
theorem dX2_about_115 : decode cX2_about 115 = .ok (.ireturn, 1) := by decide +kernel
theorem dX2_about_116 : decode cX2_about 116 = .ok (.aload_n 0, 1) := by decide +kernel
theorem dX2_about_117 : decode cX2_about 117 = .ok (.getfield 13, 3) := by decide +kernel
theorem dX2_about_120 : decode cX2_about 120 = .ok (.bipush 72, 2) := by decide +kernel
theorem dX2_about_122 : decode cX2_about 122 = .ok (.iaload, 1) := by decide +kernel
theorem dX2_about_123 : decode cX2_about 123 = .ok (.ireturn, 1) := by decide +kernel
theorem dX2_about_124 : decode cX2_about 124 = .ok (.aload_n 0, 1) := by decide +kernel
theorem dX2_about_125 : decode cX2_about 125 = .ok (.getfield 13, 3) := by decide +kernel
theorem dX2_about_128 : decode cX2_about 128 = .ok (.iconst 1, 1) := by decide +kernel
theorem dX2_about_129 : decode cX2_about 129 = .ok (.invokestatic 111, 3) := by decide +kernel
theorem dX2_about_132 : decode cX2_about 132 = .ok (.ireturn, 1) := by decide +kernel
theorem dX2_about_133 : decode cX2_about 133 = .ok (.aload_n 0, 1) := by decide +kernel
theorem dX2_about_134 : decode cX2_about 134 = .ok (.getfield 13, 3) := by decide +kernel
theorem dX2_about_137 : decode cX2_about 137 = .ok (.iconst 2, 1) := by decide +kernel
theorem dX2_about_138 : decode cX2_about 138 = .ok (.invokestatic 111, 3) := by decide +kernel
theorem dX2_about_141 : decode cX2_about 141 = .ok (.ireturn, 1) := by decide +kernel
theorem dX2_about_142 : decode cX2_about 142 = .ok (.aload_n 0, 1) := by decide +kernel
theorem dX2_about_143 : decode cX2_about 143 = .ok (.invokevirtual 135, 3) := by decide +kernel
theorem dX2_about_146 : decode cX2_about 146 = .ok (.ireturn, 1) := by decide +kernel
theorem dX2_about_147 : decode cX2_about 147 = .ok (.aload_n 0, 1) := by decide +kernel
theorem dX2_about_148 : decode cX2_about 148 = .ok (.getfield 132, 3) := by decide +kernel
theorem dX2_about_151 : decode cX2_about 151 = .ok (.ireturn, 1) := by decide +kernel
theorem dX2_about_152 : decode cX2_about 152 = .ok (.aload_n 0, 1) := by decide +kernel
theorem dX2_about_153 : decode cX2_about 153 = .ok (.getfield 138, 3) := by decide +kernel
theorem dX2_about_156 : decode cX2_about 156 = .ok (.ireturn, 1) := by decide +kernel
theorem dX2_about_157 : decode cX2_about 157 = .ok (.aload_n 0, 1) := by decide +kernel
theorem dX2_about_158 : decode cX2_about 158 = .ok (.getfield 102, 3) := by decide +kernel
theorem dX2_about_161 : decode cX2_about 161 = .ok (.ireturn, 1) := by decide +kernel
theorem dX2_about_162 : decode cX2_about 162 = .ok (.bipush (-2), 2) := by decide +kernel
theorem dX2_about_164 : decode cX2_about 164 = .ok (.ireturn, 1) := by decide +kernel
set_option maxRecDepth 20000 in
theorem ggX2_member_X2_isMember : GoodIn wsX2_member wsX2_isMember := goodIn_r _ [5, 6, 7, 8, 4, 9] (by decide +kernel) (by decide +kernel)
set_option maxRecDepth 20000 in
theorem gX2_member_X2_isMember : GoodIn wsX2_member (va_wsS RX2 114 yX2_isMember wsX2_isMember) := goodIn_app (goodIn_of _ (by decide +kernel)) ggX2_member_X2_isMember
set_option maxRecDepth 20000 in
theorem ggX2_member_X2_countOf : GoodIn wsX2_member wsX2_countOf := goodIn_r _ [12, 13, 14, 4, 15] (by decide +kernel) (by decide +kernel)
set_option maxRecDepth 20000 in
theorem gX2_member_X2_countOf : GoodIn wsX2_member (va_wsS RX2 76 yX2_countOf wsX2_countOf) := goodIn_app (goodIn_of _ (by decide +kernel)) ggX2_member_X2_countOf
theorem dX2_member_0 : decode cX2_member 0 = .ok (.iload_n 1, 1) := by decide +kernel
theorem dX2_member_1 : decode cX2_member 1 = .ok (.invokestatic 114, 3) := by decide +kernel
theorem dX2_member_4 : decode cX2_member 4 = .ok (.ifCond .ne 5, 3) := by decide +kernel
theorem dX2_member_7 : decode cX2_member 7 = .ok (.iconst (-1), 1) := by decide +kernel
theorem dX2_member_8 : decode cX2_member 8 = .ok (.ireturn, 1) := by decide +kernel
theorem dX2_member_9 : decode cX2_member 9 = .ok (.iload_n 2, 1) := by decide +kernel
theorem dX2_member_10 : decode cX2_member 10 = .ok (.tableswitch 94 0 5 #[38, 45, 55, 64, 74, 84], 38) := by decide +kernel
theorem dX2_member_48 : decode cX2_member 48 = .ok (.aload_n 0, 1) := by decide +kernel
theorem dX2_member_49 : decode cX2_member 49 = .ok (.getfield 13, 3) := by decide +kernel
theorem dX2_member_52 : decode cX2_member 52 = .ok (.iload_n 1, 1) := by decide +kernel
theorem dX2_member_53 : decode cX2_member 53 = .ok (.iaload, 1) := by decide +kernel
theorem dX2_member_54 : decode cX2_member 54 = .ok (.ireturn, 1) := by decide +kernel
theorem dX2_member_55 : decode cX2_member 55 = .ok (.aload_n 0, 1) := by decide +kernel
theorem dX2_member_56 : decode cX2_member 56 = .ok (.getfield 13, 3) := by decide +kernel
theorem dX2_member_59 : decode cX2_member 59 = .ok (.bipush 6, 2) := by decide +kernel
theorem dX2_member_61 : decode cX2_member 61 = .ok (.iload_n 1, 1) := by decide +kernel
theorem dX2_member_62 : decode cX2_member 62 = .ok (.iadd, 1) := by decide +kernel
theorem dX2_member_63 : decode cX2_member 63 = .ok (.iaload, 1) := by decide +kernel
theorem dX2_member_64 : decode cX2_member 64 = .ok (.ireturn, 1) := by decide +kernel
theorem dX2_member_65 : decode cX2_member 65 = .ok (.aload_n 0, 1) := by decide +kernel
theorem dX2_member_66 : decode cX2_member 66 = .ok (.getfield 13, 3) := by decide +kernel
theorem dX2_member_69 : decode cX2_member 69 = .ok (.iload_n 1, 1) := by decide +kernel
theorem dX2_member_70 : decode cX2_member 70 = .ok (.invokestatic 76, 3) := by decide +kernel
theorem dX2_member_73 : decode cX2_member 73 = .ok (.ireturn, 1) := by decide +kernel
theorem dX2_member_74 : decode cX2_member 74 = .ok (.aload_n 0, 1) := by decide +kernel
theorem dX2_member_75 : decode cX2_member 75 = .ok (.getfield 13, 3) := by decide +kernel
theorem dX2_member_78 : decode cX2_member 78 = .ok (.bipush 48, 2) := by decide +kernel
theorem dX2_member_80 : decode cX2_member 80 = .ok (.iload_n 1, 1) := by decide +kernel
theorem dX2_member_81 : decode cX2_member 81 = .ok (.iadd, 1) := by decide +kernel
theorem dX2_member_82 : decode cX2_member 82 = .ok (.iaload, 1) := by decide +kernel
theorem dX2_member_83 : decode cX2_member 83 = .ok (.ireturn, 1) := by decide +kernel
theorem dX2_member_84 : decode cX2_member 84 = .ok (.aload_n 0, 1) := by decide +kernel
theorem dX2_member_85 : decode cX2_member 85 = .ok (.getfield 13, 3) := by decide +kernel
theorem dX2_member_88 : decode cX2_member 88 = .ok (.bipush 54, 2) := by decide +kernel
theorem dX2_member_90 : decode cX2_member 90 = .ok (.iload_n 1, 1) := by decide +kernel
theorem dX2_member_91 : decode cX2_member 91 = .ok (.iadd, 1) := by decide +kernel
theorem dX2_member_92 : decode cX2_member 92 = .ok (.iaload, 1) := by decide +kernel
theorem dX2_member_93 : decode cX2_member 93 = .ok (.ireturn, 1) := by decide +kernel
theorem dX2_member_94 : decode cX2_member 94 = .ok (.aload_n 0, 1) := by decide +kernel
theorem dX2_member_95 : decode cX2_member 95 = .ok (.getfield 13, 3) := by decide +kernel
theorem dX2_member_98 : decode cX2_member 98 = .ok (.bipush 60, 2) := by decide +kernel
theorem dX2_member_100 : decode cX2_member 100 = .ok (.iload_n 1, 1) := by decide +kernel
theorem dX2_member_101 : decode cX2_member 101 = .ok (.iadd, 1) := by decide +kernel
theorem dX2_member_102 : decode cX2_member 102 = .ok (.iaload, 1) := by decide +kernel
theorem dX2_member_103 : decode cX2_member 103 = .ok (.ireturn, 1) := by decide +kernel
theorem dX2_member_104 : decode cX2_member 104 = .ok (.bipush (-2), 2) := by decide +kernel
theorem dX2_member_106 : decode cX2_member 106 = .ok (.ireturn, 1) := by decide +kernel
set_option maxRecDepth 20000 in
theorem ggX2_heard_X2_isMember : GoodIn wsX2_heard wsX2_isMember := goodIn_r _ [5, 6, 7, 8, 4, 9] (by decide +kernel) (by decide +kernel)
set_option maxRecDepth 20000 in
theorem gX2_heard_X2_isMember : GoodIn wsX2_heard (va_wsS RX2 114 yX2_isMember wsX2_isMember) := goodIn_app (goodIn_of _ (by decide +kernel)) ggX2_heard_X2_isMember
set_option maxRecDepth 20000 in
theorem ggX2_heard_X2_has : GoodIn wsX2_heard wsX2_has := goodIn_r _ [12] (by decide +kernel) (by decide +kernel)
set_option maxRecDepth 20000 in
theorem gX2_heard_X2_has : GoodIn wsX2_heard (va_wsS RX2 64 yX2_has wsX2_has) := goodIn_app (goodIn_of _ (by decide +kernel)) ggX2_heard_X2_has
theorem dX2_heard_0 : decode cX2_heard 0 = .ok (.iload_n 1, 1) := by decide +kernel
theorem dX2_heard_1 : decode cX2_heard 1 = .ok (.invokestatic 114, 3) := by decide +kernel
theorem dX2_heard_4 : decode cX2_heard 4 = .ok (.ifCond .eq 10, 3) := by decide +kernel
theorem dX2_heard_7 : decode cX2_heard 7 = .ok (.iload_n 2, 1) := by decide +kernel
theorem dX2_heard_8 : decode cX2_heard 8 = .ok (.invokestatic 114, 3) := by decide +kernel
theorem dX2_heard_11 : decode cX2_heard 11 = .ok (.ifCond .ne 5, 3) := by decide +kernel
theorem dX2_heard_14 : decode cX2_heard 14 = .ok (.iconst (-1), 1) := by decide +kernel
theorem dX2_heard_15 : decode cX2_heard 15 = .ok (.ireturn, 1) := by decide +kernel
theorem dX2_heard_16 : decode cX2_heard 16 = .ok (.aload_n 0, 1) := by decide +kernel
theorem dX2_heard_17 : decode cX2_heard 17 = .ok (.getfield 13, 3) := by decide +kernel
theorem dX2_heard_20 : decode cX2_heard 20 = .ok (.bipush 6, 2) := by decide +kernel
theorem dX2_heard_22 : decode cX2_heard 22 = .ok (.iload_n 1, 1) := by decide +kernel
theorem dX2_heard_23 : decode cX2_heard 23 = .ok (.iadd, 1) := by decide +kernel
theorem dX2_heard_24 : decode cX2_heard 24 = .ok (.iaload, 1) := by decide +kernel
theorem dX2_heard_25 : decode cX2_heard 25 = .ok (.iload_n 2, 1) := by decide +kernel
theorem dX2_heard_26 : decode cX2_heard 26 = .ok (.invokestatic 64, 3) := by decide +kernel
theorem dX2_heard_29 : decode cX2_heard 29 = .ok (.ifCond .eq 20, 3) := by decide +kernel
theorem dX2_heard_32 : decode cX2_heard 32 = .ok (.aload_n 0, 1) := by decide +kernel
theorem dX2_heard_33 : decode cX2_heard 33 = .ok (.getfield 13, 3) := by decide +kernel
theorem dX2_heard_36 : decode cX2_heard 36 = .ok (.bipush 12, 2) := by decide +kernel
theorem dX2_heard_38 : decode cX2_heard 38 = .ok (.bipush 6, 2) := by decide +kernel
theorem dX2_heard_40 : decode cX2_heard 40 = .ok (.iload_n 1, 1) := by decide +kernel
theorem dX2_heard_41 : decode cX2_heard 41 = .ok (.imul, 1) := by decide +kernel
theorem dX2_heard_42 : decode cX2_heard 42 = .ok (.iadd, 1) := by decide +kernel
theorem dX2_heard_43 : decode cX2_heard 43 = .ok (.iload_n 2, 1) := by decide +kernel
theorem dX2_heard_44 : decode cX2_heard 44 = .ok (.iadd, 1) := by decide +kernel
theorem dX2_heard_45 : decode cX2_heard 45 = .ok (.iaload, 1) := by decide +kernel
theorem dX2_heard_46 : decode cX2_heard 46 = .ok (.goto 5, 3) := by decide +kernel
theorem dX2_heard_49 : decode cX2_heard 49 = .ok (.bipush (-9), 2) := by decide +kernel
theorem dX2_heard_51 : decode cX2_heard 51 = .ok (.ireturn, 1) := by decide +kernel
set_option maxRecDepth 20000 in
theorem ggX2_way_X2_isMember : GoodIn wsX2_way wsX2_isMember := goodIn_r _ [5, 6, 7, 8, 4, 9] (by decide +kernel) (by decide +kernel)
set_option maxRecDepth 20000 in
theorem gX2_way_X2_isMember : GoodIn wsX2_way (va_wsS RX2 114 yX2_isMember wsX2_isMember) := goodIn_app (goodIn_of _ (by decide +kernel)) ggX2_way_X2_isMember
set_option maxRecDepth 20000 in
theorem ggX2_way_X2_has : GoodIn wsX2_way wsX2_has := goodIn_r _ [12] (by decide +kernel) (by decide +kernel)
set_option maxRecDepth 20000 in
theorem gX2_way_X2_has : GoodIn wsX2_way (va_wsS RX2 64 yX2_has wsX2_has) := goodIn_app (goodIn_of _ (by decide +kernel)) ggX2_way_X2_has
theorem dX2_way_0 : decode cX2_way 0 = .ok (.iload_n 1, 1) := by decide +kernel
theorem dX2_way_1 : decode cX2_way 1 = .ok (.invokestatic 114, 3) := by decide +kernel
theorem dX2_way_4 : decode cX2_way 4 = .ok (.ifCond .eq 10, 3) := by decide +kernel
theorem dX2_way_7 : decode cX2_way 7 = .ok (.iload_n 2, 1) := by decide +kernel
theorem dX2_way_8 : decode cX2_way 8 = .ok (.invokestatic 114, 3) := by decide +kernel
theorem dX2_way_11 : decode cX2_way 11 = .ok (.ifCond .ne 5, 3) := by decide +kernel
theorem dX2_way_14 : decode cX2_way 14 = .ok (.iconst (-1), 1) := by decide +kernel
theorem dX2_way_15 : decode cX2_way 15 = .ok (.ireturn, 1) := by decide +kernel
theorem dX2_way_16 : decode cX2_way 16 = .ok (.iload_n 1, 1) := by decide +kernel
theorem dX2_way_17 : decode cX2_way 17 = .ok (.iload_n 2, 1) := by decide +kernel
theorem dX2_way_18 : decode cX2_way 18 = .ok (.if_icmp .ne 8, 3) := by decide +kernel
theorem dX2_way_21 : decode cX2_way 21 = .ok (.bipush (-2), 2) := by decide +kernel
theorem dX2_way_23 : decode cX2_way 23 = .ok (.goto 24, 3) := by decide +kernel
theorem dX2_way_26 : decode cX2_way 26 = .ok (.aload_n 0, 1) := by decide +kernel
theorem dX2_way_27 : decode cX2_way 27 = .ok (.getfield 13, 3) := by decide +kernel
theorem dX2_way_30 : decode cX2_way 30 = .ok (.bipush 73, 2) := by decide +kernel
theorem dX2_way_32 : decode cX2_way 32 = .ok (.iload_n 1, 1) := by decide +kernel
theorem dX2_way_33 : decode cX2_way 33 = .ok (.iadd, 1) := by decide +kernel
theorem dX2_way_34 : decode cX2_way 34 = .ok (.iaload, 1) := by decide +kernel
theorem dX2_way_35 : decode cX2_way 35 = .ok (.iload_n 2, 1) := by decide +kernel
theorem dX2_way_36 : decode cX2_way 36 = .ok (.invokestatic 64, 3) := by decide +kernel
theorem dX2_way_39 : decode cX2_way 39 = .ok (.ifCond .eq 7, 3) := by decide +kernel
theorem dX2_way_42 : decode cX2_way 42 = .ok (.iconst 0, 1) := by decide +kernel
theorem dX2_way_43 : decode cX2_way 43 = .ok (.goto 4, 3) := by decide +kernel
theorem dX2_way_46 : decode cX2_way 46 = .ok (.iconst 1, 1) := by decide +kernel
theorem dX2_way_47 : decode cX2_way 47 = .ok (.ireturn, 1) := by decide +kernel
theorem dX2_note_0 : decode cX2_note 0 = .ok (.iconst 0, 1) := by decide +kernel
theorem dX2_note_1 : decode cX2_note 1 = .ok (.istore_n 1, 1) := by decide +kernel
theorem dX2_note_2 : decode cX2_note 2 = .ok (.iload_n 1, 1) := by decide +kernel
theorem dX2_note_3 : decode cX2_note 3 = .ok (.bipush 79, 2) := by decide +kernel
theorem dX2_note_5 : decode cX2_note 5 = .ok (.if_icmp .ge 29, 3) := by decide +kernel
theorem dX2_note_8 : decode cX2_note 8 = .ok (.aload_n 0, 1) := by decide +kernel
theorem dX2_note_9 : decode cX2_note 9 = .ok (.getfield 19, 3) := by decide +kernel
theorem dX2_note_12 : decode cX2_note 12 = .ok (.bipush 79, 2) := by decide +kernel
theorem dX2_note_14 : decode cX2_note 14 = .ok (.aload_n 0, 1) := by decide +kernel
theorem dX2_note_15 : decode cX2_note 15 = .ok (.getfield 141, 3) := by decide +kernel
theorem dX2_note_18 : decode cX2_note 18 = .ok (.imul, 1) := by decide +kernel
theorem dX2_note_19 : decode cX2_note 19 = .ok (.iload_n 1, 1) := by decide +kernel
theorem dX2_note_20 : decode cX2_note 20 = .ok (.iadd, 1) := by decide +kernel
theorem dX2_note_21 : decode cX2_note 21 = .ok (.aload_n 0, 1) := by decide +kernel
theorem dX2_note_22 : decode cX2_note 22 = .ok (.getfield 13, 3) := by decide +kernel
theorem dX2_note_25 : decode cX2_note 25 = .ok (.iload_n 1, 1) := by decide +kernel
theorem dX2_note_26 : decode cX2_note 26 = .ok (.iaload, 1) := by decide +kernel
theorem dX2_note_27 : decode cX2_note 27 = .ok (.iastore, 1) := by decide +kernel
theorem dX2_note_28 : decode cX2_note 28 = .ok (.iinc 1 1, 3) := by decide +kernel
theorem dX2_note_31 : decode cX2_note 31 = .ok (.goto (-29), 3) := by decide +kernel
theorem dX2_note_34 : decode cX2_note 34 = .ok (.aload_n 0, 1) := by decide +kernel
theorem dX2_note_35 : decode cX2_note 35 = .ok (.aload_n 0, 1) := by decide +kernel
theorem dX2_note_36 : decode cX2_note 36 = .ok (.getfield 141, 3) := by decide +kernel
theorem dX2_note_39 : decode cX2_note 39 = .ok (.iconst 1, 1) := by decide +kernel
theorem dX2_note_40 : decode cX2_note 40 = .ok (.iadd, 1) := by decide +kernel
theorem dX2_note_41 : decode cX2_note 41 = .ok (.bipush 14, 2) := by decide +kernel
theorem dX2_note_43 : decode cX2_note 43 = .ok (.irem, 1) := by decide +kernel
theorem dX2_note_44 : decode cX2_note 44 = .ok (.putfield 141, 3) := by decide +kernel
theorem dX2_note_47 : decode cX2_note 47 = .ok (.aload_n 0, 1) := by decide +kernel
theorem dX2_note_48 : decode cX2_note 48 = .ok (.aload_n 0, 1) := by decide +kernel
theorem dX2_note_49 : decode cX2_note 49 = .ok (.getfield 132, 3) := by decide +kernel
theorem dX2_note_52 : decode cX2_note 52 = .ok (.bipush 14, 2) := by decide +kernel
theorem dX2_note_54 : decode cX2_note 54 = .ok (.if_icmp .ge 12, 3) := by decide +kernel
theorem dX2_note_57 : decode cX2_note 57 = .ok (.aload_n 0, 1) := by decide +kernel
theorem dX2_note_58 : decode cX2_note 58 = .ok (.getfield 132, 3) := by decide +kernel
theorem dX2_note_61 : decode cX2_note 61 = .ok (.iconst 1, 1) := by decide +kernel
theorem dX2_note_62 : decode cX2_note 62 = .ok (.iadd, 1) := by decide +kernel
theorem dX2_note_63 : decode cX2_note 63 = .ok (.goto 5, 3) := by decide +kernel
theorem dX2_note_66 : decode cX2_note 66 = .ok (.bipush 14, 2) := by decide +kernel
theorem dX2_note_68 : decode cX2_note 68 = .ok (.putfield 132, 3) := by decide +kernel
theorem dX2_note_71 : decode cX2_note 71 = .ok (.return_, 1) := by decide +kernel
set_option maxRecDepth 20000 in
theorem ggX2_join_X2_isMember : GoodIn wsX2_join wsX2_isMember := goodIn_r _ [5, 6, 7, 8, 4, 9] (by decide +kernel) (by decide +kernel)
set_option maxRecDepth 20000 in
theorem gX2_join_X2_isMember : GoodIn wsX2_join (va_wsS RX2 114 yX2_isMember wsX2_isMember) := goodIn_app (goodIn_of _ (by decide +kernel)) ggX2_join_X2_isMember
set_option maxRecDepth 20000 in
theorem ggX2_join_X2_note : GoodIn wsX2_join wsX2_note := goodIn_r _ [13, 14, 15, 1, 16, 30, 31, 32, 33, 34, 35, 36, 37, 38, 39, 40, 41, 42, 43, 44] (by decide +kernel) (by decide +kernel)
set_option maxRecDepth 20000 in
theorem gX2_join_X2_note : GoodIn wsX2_join (wsV RX2 144 RX2 yX2_note wsX2_note) := goodIn_app (goodIn_of _ (by decide +kernel)) ggX2_join_X2_note
set_option maxRecDepth 20000 in
theorem ggX2_join_X2_joins : GoodIn wsX2_join wsX2_joins := goodIn_r _ [19, 20, 21, 4, 22, 23, 24, 25, 26, 27, 28, 29] (by decide +kernel) (by decide +kernel)
set_option maxRecDepth 20000 in
theorem gX2_join_X2_joins : GoodIn wsX2_join (va_wsS RX2 118 yX2_joins wsX2_joins) := goodIn_app (goodIn_of _ (by decide +kernel)) ggX2_join_X2_joins
theorem dX2_join_0 : decode cX2_join 0 = .ok (.iload_n 1, 1) := by decide +kernel
theorem dX2_join_1 : decode cX2_join 1 = .ok (.invokestatic 114, 3) := by decide +kernel
theorem dX2_join_4 : decode cX2_join 4 = .ok (.ifCond .ne 5, 3) := by decide +kernel
theorem dX2_join_7 : decode cX2_join 7 = .ok (.iconst (-1), 1) := by decide +kernel
theorem dX2_join_8 : decode cX2_join 8 = .ok (.ireturn, 1) := by decide +kernel
theorem dX2_join_9 : decode cX2_join 9 = .ok (.aload_n 0, 1) := by decide +kernel
theorem dX2_join_10 : decode cX2_join 10 = .ok (.getfield 13, 3) := by decide +kernel
theorem dX2_join_13 : decode cX2_join 13 = .ok (.iload_n 1, 1) := by decide +kernel
theorem dX2_join_14 : decode cX2_join 14 = .ok (.iaload, 1) := by decide +kernel
theorem dX2_join_15 : decode cX2_join 15 = .ok (.ifCond .eq 6, 3) := by decide +kernel
theorem dX2_join_18 : decode cX2_join 18 = .ok (.bipush (-3), 2) := by decide +kernel
theorem dX2_join_20 : decode cX2_join 20 = .ok (.ireturn, 1) := by decide +kernel
theorem dX2_join_21 : decode cX2_join 21 = .ok (.aload_n 0, 1) := by decide +kernel
theorem dX2_join_22 : decode cX2_join 22 = .ok (.invokevirtual 144, 3) := by decide +kernel
theorem dX2_join_25 : decode cX2_join 25 = .ok (.aload_n 0, 1) := by decide +kernel
theorem dX2_join_26 : decode cX2_join 26 = .ok (.getfield 13, 3) := by decide +kernel
theorem dX2_join_29 : decode cX2_join 29 = .ok (.iload_n 1, 1) := by decide +kernel
theorem dX2_join_30 : decode cX2_join 30 = .ok (.invokestatic 118, 3) := by decide +kernel
theorem dX2_join_33 : decode cX2_join 33 = .ok (.aload_n 0, 1) := by decide +kernel
theorem dX2_join_34 : decode cX2_join 34 = .ok (.getfield 13, 3) := by decide +kernel
theorem dX2_join_37 : decode cX2_join 37 = .ok (.bipush 54, 2) := by decide +kernel
theorem dX2_join_39 : decode cX2_join 39 = .ok (.iload_n 1, 1) := by decide +kernel
theorem dX2_join_40 : decode cX2_join 40 = .ok (.iadd, 1) := by decide +kernel
theorem dX2_join_41 : decode cX2_join 41 = .ok (.iaload, 1) := by decide +kernel
theorem dX2_join_42 : decode cX2_join 42 = .ok (.ireturn, 1) := by decide +kernel
set_option maxRecDepth 20000 in
theorem ggX2_leave_X2_isMember : GoodIn wsX2_leave wsX2_isMember := goodIn_r _ [5, 6, 7, 8, 4, 9] (by decide +kernel) (by decide +kernel)
set_option maxRecDepth 20000 in
theorem gX2_leave_X2_isMember : GoodIn wsX2_leave (va_wsS RX2 114 yX2_isMember wsX2_isMember) := goodIn_app (goodIn_of _ (by decide +kernel)) ggX2_leave_X2_isMember
set_option maxRecDepth 20000 in
theorem ggX2_leave_X2_note : GoodIn wsX2_leave wsX2_note := goodIn_r _ [13, 14, 15, 1, 16, 48, 49, 50, 51, 52, 53, 54, 55, 56, 57, 58, 59, 60, 61, 62] (by decide +kernel) (by decide +kernel)
set_option maxRecDepth 20000 in
theorem gX2_leave_X2_note : GoodIn wsX2_leave (wsV RX2 144 RX2 yX2_note wsX2_note) := goodIn_app (goodIn_of _ (by decide +kernel)) ggX2_leave_X2_note
set_option maxRecDepth 20000 in
theorem ggX2_leave_X2_leaves : GoodIn wsX2_leave wsX2_leaves := goodIn_r _ [19, 20, 21, 4, 22, 23, 24, 25, 26, 27, 28, 29, 30, 31, 32, 33, 34, 35, 36, 37, 38, 39, 40, 41, 42, 43, 44, 45, 46, 47] (by decide +kernel) (by decide +kernel)
set_option maxRecDepth 20000 in
theorem gX2_leave_X2_leaves : GoodIn wsX2_leave (va_wsS RX2 121 yX2_leaves wsX2_leaves) := goodIn_app (goodIn_of _ (by decide +kernel)) ggX2_leave_X2_leaves
theorem dX2_leave_0 : decode cX2_leave 0 = .ok (.iload_n 1, 1) := by decide +kernel
theorem dX2_leave_1 : decode cX2_leave 1 = .ok (.invokestatic 114, 3) := by decide +kernel
theorem dX2_leave_4 : decode cX2_leave 4 = .ok (.ifCond .ne 5, 3) := by decide +kernel
theorem dX2_leave_7 : decode cX2_leave 7 = .ok (.iconst (-1), 1) := by decide +kernel
theorem dX2_leave_8 : decode cX2_leave 8 = .ok (.ireturn, 1) := by decide +kernel
theorem dX2_leave_9 : decode cX2_leave 9 = .ok (.aload_n 0, 1) := by decide +kernel
theorem dX2_leave_10 : decode cX2_leave 10 = .ok (.getfield 13, 3) := by decide +kernel
theorem dX2_leave_13 : decode cX2_leave 13 = .ok (.iload_n 1, 1) := by decide +kernel
theorem dX2_leave_14 : decode cX2_leave 14 = .ok (.iaload, 1) := by decide +kernel
theorem dX2_leave_15 : decode cX2_leave 15 = .ok (.iconst 1, 1) := by decide +kernel
theorem dX2_leave_16 : decode cX2_leave 16 = .ok (.if_icmp .eq 6, 3) := by decide +kernel
theorem dX2_leave_19 : decode cX2_leave 19 = .ok (.bipush (-3), 2) := by decide +kernel
theorem dX2_leave_21 : decode cX2_leave 21 = .ok (.ireturn, 1) := by decide +kernel
theorem dX2_leave_22 : decode cX2_leave 22 = .ok (.aload_n 0, 1) := by decide +kernel
theorem dX2_leave_23 : decode cX2_leave 23 = .ok (.invokevirtual 144, 3) := by decide +kernel
theorem dX2_leave_26 : decode cX2_leave 26 = .ok (.aload_n 0, 1) := by decide +kernel
theorem dX2_leave_27 : decode cX2_leave 27 = .ok (.getfield 13, 3) := by decide +kernel
theorem dX2_leave_30 : decode cX2_leave 30 = .ok (.iload_n 1, 1) := by decide +kernel
theorem dX2_leave_31 : decode cX2_leave 31 = .ok (.invokestatic 121, 3) := by decide +kernel
theorem dX2_leave_34 : decode cX2_leave 34 = .ok (.aload_n 0, 1) := by decide +kernel
theorem dX2_leave_35 : decode cX2_leave 35 = .ok (.getfield 13, 3) := by decide +kernel
theorem dX2_leave_38 : decode cX2_leave 38 = .ok (.bipush 54, 2) := by decide +kernel
theorem dX2_leave_40 : decode cX2_leave 40 = .ok (.iload_n 1, 1) := by decide +kernel
theorem dX2_leave_41 : decode cX2_leave 41 = .ok (.iadd, 1) := by decide +kernel
theorem dX2_leave_42 : decode cX2_leave 42 = .ok (.iaload, 1) := by decide +kernel
theorem dX2_leave_43 : decode cX2_leave 43 = .ok (.ireturn, 1) := by decide +kernel
set_option maxRecDepth 20000 in
theorem ggX2_pass_X2_in : GoodIn wsX2_pass wsX2_in := goodIn_r _ [6] (by decide +kernel) (by decide +kernel)
set_option maxRecDepth 20000 in
theorem gX2_pass_X2_in : GoodIn wsX2_pass (va_wsS RX2 47 yX2_in wsX2_in) := goodIn_app (goodIn_of _ (by decide +kernel)) ggX2_pass_X2_in
set_option maxRecDepth 20000 in
theorem ggX2_pass_X2_note : GoodIn wsX2_pass wsX2_note := goodIn_r _ [10, 11, 12, 2, 13, 60, 61, 62, 63, 64, 65, 66, 67, 68, 69, 70, 71, 72, 73, 74] (by decide +kernel) (by decide +kernel)
set_option maxRecDepth 20000 in
theorem gX2_pass_X2_note : GoodIn wsX2_pass (wsV RX2 144 RX2 yX2_note wsX2_note) := goodIn_app (goodIn_of _ (by decide +kernel)) ggX2_pass_X2_note
set_option maxRecDepth 20000 in
theorem ggX2_pass_X2_passOn : GoodIn wsX2_pass wsX2_passOn := goodIn_r _ [16, 17, 18, 5, 19, 20, 21, 22, 23, 24, 25, 26, 27, 28, 29, 30, 31, 32, 33, 34, 35, 36, 37, 38, 39, 40, 41, 42, 43, 44, 45, 46, 47, 48, 49, 50, 51, 52, 53, 54, 55, 56, 57, 58, 59] (by decide +kernel) (by decide +kernel)
set_option maxRecDepth 20000 in
theorem gX2_pass_X2_passOn : GoodIn wsX2_pass (va_wsS RX2 108 yX2_passOn wsX2_passOn) := goodIn_app (goodIn_of _ (by decide +kernel)) ggX2_pass_X2_passOn
theorem dX2_pass_0 : decode cX2_pass 0 = .ok (.iload_n 1, 1) := by decide +kernel
theorem dX2_pass_1 : decode cX2_pass 1 = .ok (.i2l, 1) := by decide +kernel
theorem dX2_pass_2 : decode cX2_pass 2 = .ok (.lconst 1, 1) := by decide +kernel
theorem dX2_pass_3 : decode cX2_pass 3 = .ok (.ldc2_w 147, 3) := by decide +kernel
theorem dX2_pass_6 : decode cX2_pass 6 = .ok (.invokestatic 47, 3) := by decide +kernel
theorem dX2_pass_9 : decode cX2_pass 9 = .ok (.ifCond .ne 6, 3) := by decide +kernel
theorem dX2_pass_12 : decode cX2_pass 12 = .ok (.bipush (-2), 2) := by decide +kernel
theorem dX2_pass_14 : decode cX2_pass 14 = .ok (.ireturn, 1) := by decide +kernel
theorem dX2_pass_15 : decode cX2_pass 15 = .ok (.aload_n 0, 1) := by decide +kernel
theorem dX2_pass_16 : decode cX2_pass 16 = .ok (.invokevirtual 144, 3) := by decide +kernel
theorem dX2_pass_19 : decode cX2_pass 19 = .ok (.aload_n 0, 1) := by decide +kernel
theorem dX2_pass_20 : decode cX2_pass 20 = .ok (.getfield 13, 3) := by decide +kernel
theorem dX2_pass_23 : decode cX2_pass 23 = .ok (.iload_n 1, 1) := by decide +kernel
theorem dX2_pass_24 : decode cX2_pass 24 = .ok (.invokestatic 108, 3) := by decide +kernel
theorem dX2_pass_27 : decode cX2_pass 27 = .ok (.ireturn, 1) := by decide +kernel
set_option maxRecDepth 20000 in
theorem ggX2_turn_X2_isMember : GoodIn wsX2_turn wsX2_isMember := goodIn_r _ [5, 6, 7, 8, 4, 9] (by decide +kernel) (by decide +kernel)
set_option maxRecDepth 20000 in
theorem gX2_turn_X2_isMember : GoodIn wsX2_turn (va_wsS RX2 114 yX2_isMember wsX2_isMember) := goodIn_app (goodIn_of _ (by decide +kernel)) ggX2_turn_X2_isMember
set_option maxRecDepth 20000 in
theorem ggX2_turn_X2_note : GoodIn wsX2_turn wsX2_note := goodIn_r _ [13, 14, 15, 1, 16, 20, 21, 22, 23, 24, 25, 26, 27, 28, 29, 30, 31, 32, 33, 34] (by decide +kernel) (by decide +kernel)
set_option maxRecDepth 20000 in
theorem gX2_turn_X2_note : GoodIn wsX2_turn (wsV RX2 144 RX2 yX2_note wsX2_note) := goodIn_app (goodIn_of _ (by decide +kernel)) ggX2_turn_X2_note
set_option maxRecDepth 20000 in
theorem ggX2_turn_X2_has : GoodIn wsX2_turn wsX2_has := goodIn_r _ [19] (by decide +kernel) (by decide +kernel)
set_option maxRecDepth 20000 in
theorem gX2_turn_X2_has : GoodIn wsX2_turn (va_wsS RX2 64 yX2_has wsX2_has) := goodIn_app (goodIn_of _ (by decide +kernel)) ggX2_turn_X2_has
theorem dX2_turn_0 : decode cX2_turn 0 = .ok (.iload_n 1, 1) := by decide +kernel
theorem dX2_turn_1 : decode cX2_turn 1 = .ok (.invokestatic 114, 3) := by decide +kernel
theorem dX2_turn_4 : decode cX2_turn 4 = .ok (.ifCond .eq 10, 3) := by decide +kernel
theorem dX2_turn_7 : decode cX2_turn 7 = .ok (.iload_n 2, 1) := by decide +kernel
theorem dX2_turn_8 : decode cX2_turn 8 = .ok (.invokestatic 114, 3) := by decide +kernel
theorem dX2_turn_11 : decode cX2_turn 11 = .ok (.ifCond .ne 5, 3) := by decide +kernel
theorem dX2_turn_14 : decode cX2_turn 14 = .ok (.iconst (-1), 1) := by decide +kernel
theorem dX2_turn_15 : decode cX2_turn 15 = .ok (.ireturn, 1) := by decide +kernel
theorem dX2_turn_16 : decode cX2_turn 16 = .ok (.iload_n 1, 1) := by decide +kernel
theorem dX2_turn_17 : decode cX2_turn 17 = .ok (.iload_n 2, 1) := by decide +kernel
theorem dX2_turn_18 : decode cX2_turn 18 = .ok (.if_icmp .ne 6, 3) := by decide +kernel
theorem dX2_turn_21 : decode cX2_turn 21 = .ok (.bipush (-2), 2) := by decide +kernel
theorem dX2_turn_23 : decode cX2_turn 23 = .ok (.ireturn, 1) := by decide +kernel
theorem dX2_turn_24 : decode cX2_turn 24 = .ok (.aload_n 0, 1) := by decide +kernel
theorem dX2_turn_25 : decode cX2_turn 25 = .ok (.invokevirtual 144, 3) := by decide +kernel
theorem dX2_turn_28 : decode cX2_turn 28 = .ok (.aload_n 0, 1) := by decide +kernel
theorem dX2_turn_29 : decode cX2_turn 29 = .ok (.getfield 13, 3) := by decide +kernel
theorem dX2_turn_32 : decode cX2_turn 32 = .ok (.bipush 73, 2) := by decide +kernel
theorem dX2_turn_34 : decode cX2_turn 34 = .ok (.iload_n 1, 1) := by decide +kernel
theorem dX2_turn_35 : decode cX2_turn 35 = .ok (.iadd, 1) := by decide +kernel
theorem dX2_turn_36 : decode cX2_turn 36 = .ok (.dup2, 1) := by decide +kernel
theorem dX2_turn_37 : decode cX2_turn 37 = .ok (.iaload, 1) := by decide +kernel
theorem dX2_turn_38 : decode cX2_turn 38 = .ok (.iconst 1, 1) := by decide +kernel
theorem dX2_turn_39 : decode cX2_turn 39 = .ok (.iload_n 2, 1) := by decide +kernel
theorem dX2_turn_40 : decode cX2_turn 40 = .ok (.ishl, 1) := by decide +kernel
theorem dX2_turn_41 : decode cX2_turn 41 = .ok (.ixor, 1) := by decide +kernel
theorem dX2_turn_42 : decode cX2_turn 42 = .ok (.iastore, 1) := by decide +kernel
theorem dX2_turn_43 : decode cX2_turn 43 = .ok (.aload_n 0, 1) := by decide +kernel
theorem dX2_turn_44 : decode cX2_turn 44 = .ok (.getfield 13, 3) := by decide +kernel
theorem dX2_turn_47 : decode cX2_turn 47 = .ok (.bipush 73, 2) := by decide +kernel
theorem dX2_turn_49 : decode cX2_turn 49 = .ok (.iload_n 1, 1) := by decide +kernel
theorem dX2_turn_50 : decode cX2_turn 50 = .ok (.iadd, 1) := by decide +kernel
theorem dX2_turn_51 : decode cX2_turn 51 = .ok (.iaload, 1) := by decide +kernel
theorem dX2_turn_52 : decode cX2_turn 52 = .ok (.iload_n 2, 1) := by decide +kernel
theorem dX2_turn_53 : decode cX2_turn 53 = .ok (.invokestatic 64, 3) := by decide +kernel
theorem dX2_turn_56 : decode cX2_turn 56 = .ok (.ifCond .eq 7, 3) := by decide +kernel
theorem dX2_turn_59 : decode cX2_turn 59 = .ok (.iconst 0, 1) := by decide +kernel
theorem dX2_turn_60 : decode cX2_turn 60 = .ok (.goto 4, 3) := by decide +kernel
theorem dX2_turn_63 : decode cX2_turn 63 = .ok (.iconst 1, 1) := by decide +kernel
theorem dX2_turn_64 : decode cX2_turn 64 = .ok (.ireturn, 1) := by decide +kernel
set_option maxRecDepth 20000 in
theorem ggX2_set_X2_in : GoodIn wsX2_set wsX2_in := goodIn_r _ [7] (by decide +kernel) (by decide +kernel)
set_option maxRecDepth 20000 in
theorem gX2_set_X2_in : GoodIn wsX2_set (va_wsS RX2 47 yX2_in wsX2_in) := goodIn_app (goodIn_of _ (by decide +kernel)) ggX2_set_X2_in
set_option maxRecDepth 20000 in
theorem ggX2_set_X2_note : GoodIn wsX2_set wsX2_note := goodIn_r _ [11, 12, 13, 3, 14, 15, 16, 17, 18, 19, 20, 21, 22, 23, 24, 25, 26, 27, 28, 29] (by decide +kernel) (by decide +kernel)
set_option maxRecDepth 20000 in
theorem gX2_set_X2_note : GoodIn wsX2_set (wsV RX2 144 RX2 yX2_note wsX2_note) := goodIn_app (goodIn_of _ (by decide +kernel)) ggX2_set_X2_note
theorem dX2_set_0 : decode cX2_set 0 = .ok (.iload_n 1, 1) := by decide +kernel
theorem dX2_set_1 : decode cX2_set 1 = .ok (.i2l, 1) := by decide +kernel
theorem dX2_set_2 : decode cX2_set 2 = .ok (.lconst 0, 1) := by decide +kernel
theorem dX2_set_3 : decode cX2_set 3 = .ok (.ldc2_w 149, 3) := by decide +kernel
theorem dX2_set_6 : decode cX2_set 6 = .ok (.invokestatic 47, 3) := by decide +kernel
theorem dX2_set_9 : decode cX2_set 9 = .ok (.ifCond .eq 15, 3) := by decide +kernel
theorem dX2_set_12 : decode cX2_set 12 = .ok (.iload_n 2, 1) := by decide +kernel
theorem dX2_set_13 : decode cX2_set 13 = .ok (.i2l, 1) := by decide +kernel
theorem dX2_set_14 : decode cX2_set 14 = .ok (.lconst 1, 1) := by decide +kernel
theorem dX2_set_15 : decode cX2_set 15 = .ok (.ldc2_w 106, 3) := by decide +kernel
theorem dX2_set_18 : decode cX2_set 18 = .ok (.invokestatic 47, 3) := by decide +kernel
theorem dX2_set_21 : decode cX2_set 21 = .ok (.ifCond .ne 6, 3) := by decide +kernel
theorem dX2_set_24 : decode cX2_set 24 = .ok (.bipush (-2), 2) := by decide +kernel
theorem dX2_set_26 : decode cX2_set 26 = .ok (.ireturn, 1) := by decide +kernel
theorem dX2_set_27 : decode cX2_set 27 = .ok (.aload_n 0, 1) := by decide +kernel
theorem dX2_set_28 : decode cX2_set 28 = .ok (.invokevirtual 144, 3) := by decide +kernel
theorem dX2_set_31 : decode cX2_set 31 = .ok (.aload_n 0, 1) := by decide +kernel
theorem dX2_set_32 : decode cX2_set 32 = .ok (.getfield 13, 3) := by decide +kernel
theorem dX2_set_35 : decode cX2_set 35 = .ok (.bipush 66, 2) := by decide +kernel
theorem dX2_set_37 : decode cX2_set 37 = .ok (.iload_n 1, 1) := by decide +kernel
theorem dX2_set_38 : decode cX2_set 38 = .ok (.iadd, 1) := by decide +kernel
theorem dX2_set_39 : decode cX2_set 39 = .ok (.iaload, 1) := by decide +kernel
theorem dX2_set_40 : decode cX2_set 40 = .ok (.istore_n 3, 1) := by decide +kernel
theorem dX2_set_41 : decode cX2_set 41 = .ok (.aload_n 0, 1) := by decide +kernel
theorem dX2_set_42 : decode cX2_set 42 = .ok (.getfield 13, 3) := by decide +kernel
theorem dX2_set_45 : decode cX2_set 45 = .ok (.bipush 66, 2) := by decide +kernel
theorem dX2_set_47 : decode cX2_set 47 = .ok (.iload_n 1, 1) := by decide +kernel
theorem dX2_set_48 : decode cX2_set 48 = .ok (.iadd, 1) := by decide +kernel
theorem dX2_set_49 : decode cX2_set 49 = .ok (.iload_n 2, 1) := by decide +kernel
theorem dX2_set_50 : decode cX2_set 50 = .ok (.iastore, 1) := by decide +kernel
theorem dX2_set_51 : decode cX2_set 51 = .ok (.iload_n 3, 1) := by decide +kernel
theorem dX2_set_52 : decode cX2_set 52 = .ok (.ireturn, 1) := by decide +kernel
theorem dX2_undo_0 : decode cX2_undo 0 = .ok (.aload_n 0, 1) := by decide +kernel
theorem dX2_undo_1 : decode cX2_undo 1 = .ok (.getfield 132, 3) := by decide +kernel
theorem dX2_undo_4 : decode cX2_undo 4 = .ok (.ifCond .ne 6, 3) := by decide +kernel
theorem dX2_undo_7 : decode cX2_undo 7 = .ok (.bipush (-3), 2) := by decide +kernel
theorem dX2_undo_9 : decode cX2_undo 9 = .ok (.ireturn, 1) := by decide +kernel
theorem dX2_undo_10 : decode cX2_undo 10 = .ok (.aload_n 0, 1) := by decide +kernel
theorem dX2_undo_11 : decode cX2_undo 11 = .ok (.dup, 1) := by decide +kernel
theorem dX2_undo_12 : decode cX2_undo 12 = .ok (.getfield 132, 3) := by decide +kernel
theorem dX2_undo_15 : decode cX2_undo 15 = .ok (.iconst 1, 1) := by decide +kernel
theorem dX2_undo_16 : decode cX2_undo 16 = .ok (.isub, 1) := by decide +kernel
theorem dX2_undo_17 : decode cX2_undo 17 = .ok (.putfield 132, 3) := by decide +kernel
theorem dX2_undo_20 : decode cX2_undo 20 = .ok (.aload_n 0, 1) := by decide +kernel
theorem dX2_undo_21 : decode cX2_undo 21 = .ok (.aload_n 0, 1) := by decide +kernel
theorem dX2_undo_22 : decode cX2_undo 22 = .ok (.getfield 141, 3) := by decide +kernel
theorem dX2_undo_25 : decode cX2_undo 25 = .ok (.bipush 14, 2) := by decide +kernel
theorem dX2_undo_27 : decode cX2_undo 27 = .ok (.iadd, 1) := by decide +kernel
theorem dX2_undo_28 : decode cX2_undo 28 = .ok (.iconst 1, 1) := by decide +kernel
theorem dX2_undo_29 : decode cX2_undo 29 = .ok (.isub, 1) := by decide +kernel
theorem dX2_undo_30 : decode cX2_undo 30 = .ok (.bipush 14, 2) := by decide +kernel
theorem dX2_undo_32 : decode cX2_undo 32 = .ok (.irem, 1) := by decide +kernel
theorem dX2_undo_33 : decode cX2_undo 33 = .ok (.putfield 141, 3) := by decide +kernel
theorem dX2_undo_36 : decode cX2_undo 36 = .ok (.iconst 0, 1) := by decide +kernel
theorem dX2_undo_37 : decode cX2_undo 37 = .ok (.istore_n 1, 1) := by decide +kernel
theorem dX2_undo_38 : decode cX2_undo 38 = .ok (.iload_n 1, 1) := by decide +kernel
theorem dX2_undo_39 : decode cX2_undo 39 = .ok (.bipush 79, 2) := by decide +kernel
theorem dX2_undo_41 : decode cX2_undo 41 = .ok (.if_icmp .ge 29, 3) := by decide +kernel
theorem dX2_undo_44 : decode cX2_undo 44 = .ok (.aload_n 0, 1) := by decide +kernel
theorem dX2_undo_45 : decode cX2_undo 45 = .ok (.getfield 13, 3) := by decide +kernel
theorem dX2_undo_48 : decode cX2_undo 48 = .ok (.iload_n 1, 1) := by decide +kernel
theorem dX2_undo_49 : decode cX2_undo 49 = .ok (.aload_n 0, 1) := by decide +kernel
theorem dX2_undo_50 : decode cX2_undo 50 = .ok (.getfield 19, 3) := by decide +kernel
theorem dX2_undo_53 : decode cX2_undo 53 = .ok (.bipush 79, 2) := by decide +kernel
theorem dX2_undo_55 : decode cX2_undo 55 = .ok (.aload_n 0, 1) := by decide +kernel
theorem dX2_undo_56 : decode cX2_undo 56 = .ok (.getfield 141, 3) := by decide +kernel
theorem dX2_undo_59 : decode cX2_undo 59 = .ok (.imul, 1) := by decide +kernel
theorem dX2_undo_60 : decode cX2_undo 60 = .ok (.iload_n 1, 1) := by decide +kernel
theorem dX2_undo_61 : decode cX2_undo 61 = .ok (.iadd, 1) := by decide +kernel
theorem dX2_undo_62 : decode cX2_undo 62 = .ok (.iaload, 1) := by decide +kernel
theorem dX2_undo_63 : decode cX2_undo 63 = .ok (.iastore, 1) := by decide +kernel
theorem dX2_undo_64 : decode cX2_undo 64 = .ok (.iinc 1 1, 3) := by decide +kernel
theorem dX2_undo_67 : decode cX2_undo 67 = .ok (.goto (-29), 3) := by decide +kernel
theorem dX2_undo_70 : decode cX2_undo 70 = .ok (.aload_n 0, 1) := by decide +kernel
theorem dX2_undo_71 : decode cX2_undo 71 = .ok (.getfield 132, 3) := by decide +kernel
theorem dX2_undo_74 : decode cX2_undo 74 = .ok (.ireturn, 1) := by decide +kernel

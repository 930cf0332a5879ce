set_option maxRecDepth 20000 in
theorem ggL_thing_X8_thing : GoodIn wsL_thing wsX8_thing := goodIn_r _ [7, 8, 9, 10, 11, 12, 13, 14, 15, 16, 17, 18, 19, 20, 6, 21, 22, 23, 24, 25, 26, 27, 28, 29, 30, 31, 32, 33, 34, 35, 36, 37, 38, 39, 40, 41, 42, 43, 44, 45, 46, 47, 48, 49, 83, 84, 85, 86, 87, 88, 89, 90, 91, 92, 93, 94, 95, 96, 97, 98, 99, 100, 101, 102, 103, 104, 105] (by decide +kernel) (by decide +kernel)
set_option maxRecDepth 20000 in
theorem gL_thing_X8_thing : GoodIn wsL_thing (wsV RL 63 RX8 yX8_thing wsX8_thing) := goodIn_app (goodIn_of _ (by decide +kernel)) ggL_thing_X8_thing
set_option maxRecDepth 20000 in
theorem ggL_thing_X8_score : GoodIn wsL_thing wsX8_score := goodIn_r _ [53, 8, 9, 10, 18, 54, 33, 6, 34, 35, 55, 28, 29, 30, 31, 32, 56, 37, 38, 25, 39, 40, 41, 42, 43, 44, 45, 46, 47, 48, 49, 83, 84, 85, 86, 87, 88, 89, 90, 91, 92, 93, 94, 95, 96, 97, 98, 99, 100, 101, 102, 103, 104, 105] (by decide +kernel) (by decide +kernel)
set_option maxRecDepth 20000 in
theorem gL_thing_X8_score : GoodIn wsL_thing (wsV RL 49 RX8 yX8_score wsX8_score) := goodIn_app (goodIn_of _ (by decide +kernel)) ggL_thing_X8_score
set_option maxRecDepth 20000 in
theorem ggL_thing_L_isNone : GoodIn wsL_thing wsL_isNone := goodIn_r _ [60] (by decide +kernel) (by decide +kernel)
set_option maxRecDepth 20000 in
theorem gL_thing_L_isNone : GoodIn wsL_thing (va_wsS RL 40 yL_isNone wsL_isNone) := goodIn_app (goodIn_of _ (by decide +kernel)) ggL_thing_L_isNone
set_option maxRecDepth 20000 in
theorem ggL_thing_X8_weight : GoodIn wsL_thing wsX8_weight := goodIn_r _ [64, 8, 18, 55, 28, 29, 30, 31, 32, 33, 6, 34, 35, 83, 84, 85, 86, 87, 88, 89, 90, 91, 92, 93, 94, 103, 104, 105] (by decide +kernel) (by decide +kernel)
set_option maxRecDepth 20000 in
theorem gL_thing_X8_weight : GoodIn wsL_thing (wsV RL 46 RX8 yX8_weight wsX8_weight) := goodIn_app (goodIn_of _ (by decide +kernel)) ggL_thing_X8_weight
set_option maxRecDepth 20000 in
theorem ggL_thing_X8_count : GoodIn wsL_thing wsX8_count := goodIn_r _ [68, 8, 69, 70, 71, 72, 73, 74, 75, 76, 77, 78, 79, 80, 81, 82, 83, 84, 85, 86, 87, 88, 89, 90, 91, 92, 93, 94, 106, 107, 108, 109, 110, 111, 112, 113, 114, 115, 116, 117, 118, 119, 120] (by decide +kernel) (by decide +kernel)
set_option maxRecDepth 20000 in
theorem gL_thing_X8_count : GoodIn wsL_thing (wsV RL 52 RX8 yX8_count wsX8_count) := goodIn_app (goodIn_of _ (by decide +kernel)) ggL_thing_X8_count
theorem dL_thing_0 : decode cL_thing 0 = .ok (.aload_n 0, 1) := by decide +kernel
theorem dL_thing_1 : decode cL_thing 1 = .ok (.iconst 0, 1) := by decide +kernel
theorem dL_thing_2 : decode cL_thing 2 = .ok (.invokevirtual 63, 3) := by decide +kernel
theorem dL_thing_5 : decode cL_thing 5 = .ok (.istore_n 1, 1) := by decide +kernel
theorem dL_thing_6 : decode cL_thing 6 = .ok (.iload_n 1, 1) := by decide +kernel
theorem dL_thing_7 : decode cL_thing 7 = .ok (.bipush (-5), 2) := by decide +kernel
theorem dL_thing_9 : decode cL_thing 9 = .ok (.if_icmp .ne 42, 3) := by decide +kernel
theorem dL_thing_12 : decode cL_thing 12 = .ok (.aload_n 0, 1) := by decide +kernel
theorem dL_thing_13 : decode cL_thing 13 = .ok (.iconst 0, 1) := by decide +kernel
theorem dL_thing_14 : decode cL_thing 14 = .ok (.invokevirtual 49, 3) := by decide +kernel
theorem dL_thing_17 : decode cL_thing 17 = .ok (.invokestatic 40, 3) := by decide +kernel
theorem dL_thing_20 : decode cL_thing 20 = .ok (.ifCond .eq 29, 3) := by decide +kernel
theorem dL_thing_23 : decode cL_thing 23 = .ok (.aload_n 0, 1) := by decide +kernel
theorem dL_thing_24 : decode cL_thing 24 = .ok (.bipush 7, 2) := by decide +kernel
theorem dL_thing_26 : decode cL_thing 26 = .ok (.invokevirtual 63, 3) := by decide +kernel
theorem dL_thing_29 : decode cL_thing 29 = .ok (.bipush (-5), 2) := by decide +kernel
theorem dL_thing_31 : decode cL_thing 31 = .ok (.if_icmp .ne 18, 3) := by decide +kernel
theorem dL_thing_34 : decode cL_thing 34 = .ok (.aload_n 0, 1) := by decide +kernel
theorem dL_thing_35 : decode cL_thing 35 = .ok (.bipush 8, 2) := by decide +kernel
theorem dL_thing_37 : decode cL_thing 37 = .ok (.invokevirtual 63, 3) := by decide +kernel
theorem dL_thing_40 : decode cL_thing 40 = .ok (.bipush (-2), 2) := by decide +kernel
theorem dL_thing_42 : decode cL_thing 42 = .ok (.if_icmp .ne 7, 3) := by decide +kernel
theorem dL_thing_45 : decode cL_thing 45 = .ok (.iconst 1, 1) := by decide +kernel
theorem dL_thing_46 : decode cL_thing 46 = .ok (.goto 4, 3) := by decide +kernel
theorem dL_thing_49 : decode cL_thing 49 = .ok (.iconst 0, 1) := by decide +kernel
theorem dL_thing_50 : decode cL_thing 50 = .ok (.ireturn, 1) := by decide +kernel
theorem dL_thing_51 : decode cL_thing 51 = .ok (.aload_n 0, 1) := by decide +kernel
theorem dL_thing_52 : decode cL_thing 52 = .ok (.iconst 1, 1) := by decide +kernel
theorem dL_thing_53 : decode cL_thing 53 = .ok (.invokevirtual 63, 3) := by decide +kernel
theorem dL_thing_56 : decode cL_thing 56 = .ok (.istore_n 2, 1) := by decide +kernel
theorem dL_thing_57 : decode cL_thing 57 = .ok (.aload_n 0, 1) := by decide +kernel
theorem dL_thing_58 : decode cL_thing 58 = .ok (.iconst 2, 1) := by decide +kernel
theorem dL_thing_59 : decode cL_thing 59 = .ok (.invokevirtual 63, 3) := by decide +kernel
theorem dL_thing_62 : decode cL_thing 62 = .ok (.istore_n 3, 1) := by decide +kernel
theorem dL_thing_63 : decode cL_thing 63 = .ok (.aload_n 0, 1) := by decide +kernel
theorem dL_thing_64 : decode cL_thing 64 = .ok (.iconst 3, 1) := by decide +kernel
theorem dL_thing_65 : decode cL_thing 65 = .ok (.invokevirtual 63, 3) := by decide +kernel
theorem dL_thing_68 : decode cL_thing 68 = .ok (.istore 4, 2) := by decide +kernel
theorem dL_thing_70 : decode cL_thing 70 = .ok (.iload_n 2, 1) := by decide +kernel
theorem dL_thing_71 : decode cL_thing 71 = .ok (.iload_n 3, 1) := by decide +kernel
theorem dL_thing_72 : decode cL_thing 72 = .ok (.iadd, 1) := by decide +kernel
theorem dL_thing_73 : decode cL_thing 73 = .ok (.iload 4, 2) := by decide +kernel
theorem dL_thing_75 : decode cL_thing 75 = .ok (.iadd, 1) := by decide +kernel
theorem dL_thing_76 : decode cL_thing 76 = .ok (.i2f, 1) := by decide +kernel
theorem dL_thing_77 : decode cL_thing 77 = .ok (.fstore 5, 2) := by decide +kernel
theorem dL_thing_79 : decode cL_thing 79 = .ok (.iload_n 2, 1) := by decide +kernel
theorem dL_thing_80 : decode cL_thing 80 = .ok (.i2f, 1) := by decide +kernel
theorem dL_thing_81 : decode cL_thing 81 = .ok (.fload 5, 2) := by decide +kernel
theorem dL_thing_83 : decode cL_thing 83 = .ok (.fdiv, 1) := by decide +kernel
theorem dL_thing_84 : decode cL_thing 84 = .ok (.fstore 6, 2) := by decide +kernel
theorem dL_thing_86 : decode cL_thing 86 = .ok (.iload_n 3, 1) := by decide +kernel
theorem dL_thing_87 : decode cL_thing 87 = .ok (.i2f, 1) := by decide +kernel
theorem dL_thing_88 : decode cL_thing 88 = .ok (.fload 5, 2) := by decide +kernel
theorem dL_thing_90 : decode cL_thing 90 = .ok (.fdiv, 1) := by decide +kernel
theorem dL_thing_91 : decode cL_thing 91 = .ok (.fstore 7, 2) := by decide +kernel
theorem dL_thing_93 : decode cL_thing 93 = .ok (.iload 4, 2) := by decide +kernel
theorem dL_thing_95 : decode cL_thing 95 = .ok (.i2f, 1) := by decide +kernel
theorem dL_thing_96 : decode cL_thing 96 = .ok (.fload 5, 2) := by decide +kernel
theorem dL_thing_98 : decode cL_thing 98 = .ok (.fdiv, 1) := by decide +kernel
theorem dL_thing_99 : decode cL_thing 99 = .ok (.fstore 8, 2) := by decide +kernel
theorem dL_thing_101 : decode cL_thing 101 = .ok (.fload 6, 2) := by decide +kernel
theorem dL_thing_103 : decode cL_thing 103 = .ok (.fload 7, 2) := by decide +kernel
theorem dL_thing_105 : decode cL_thing 105 = .ok (.fcmp .g, 1) := by decide +kernel
theorem dL_thing_106 : decode cL_thing 106 = .ok (.ifCond .ge 8, 3) := by decide +kernel
theorem dL_thing_109 : decode cL_thing 109 = .ok (.fload 6, 2) := by decide +kernel
theorem dL_thing_111 : decode cL_thing 111 = .ok (.goto 5, 3) := by decide +kernel
theorem dL_thing_114 : decode cL_thing 114 = .ok (.fload 7, 2) := by decide +kernel
theorem dL_thing_116 : decode cL_thing 116 = .ok (.fstore 9, 2) := by decide +kernel
theorem dL_thing_118 : decode cL_thing 118 = .ok (.fload 8, 2) := by decide +kernel
theorem dL_thing_120 : decode cL_thing 120 = .ok (.fload 9, 2) := by decide +kernel
theorem dL_thing_122 : decode cL_thing 122 = .ok (.fcmp .g, 1) := by decide +kernel
theorem dL_thing_123 : decode cL_thing 123 = .ok (.ifCond .ge 8, 3) := by decide +kernel
theorem dL_thing_126 : decode cL_thing 126 = .ok (.fload 8, 2) := by decide +kernel
theorem dL_thing_128 : decode cL_thing 128 = .ok (.goto 5, 3) := by decide +kernel
theorem dL_thing_131 : decode cL_thing 131 = .ok (.fload 9, 2) := by decide +kernel
theorem dL_thing_133 : decode cL_thing 133 = .ok (.fstore 9, 2) := by decide +kernel
theorem dL_thing_135 : decode cL_thing 135 = .ok (.fconst 1, 1) := by decide +kernel
theorem dL_thing_136 : decode cL_thing 136 = .ok (.iload_n 1, 1) := by decide +kernel
theorem dL_thing_137 : decode cL_thing 137 = .ok (.i2f, 1) := by decide +kernel
theorem dL_thing_138 : decode cL_thing 138 = .ok (.fdiv, 1) := by decide +kernel
theorem dL_thing_139 : decode cL_thing 139 = .ok (.aload_n 0, 1) := by decide +kernel
theorem dL_thing_140 : decode cL_thing 140 = .ok (.iconst 0, 1) := by decide +kernel
theorem dL_thing_141 : decode cL_thing 141 = .ok (.invokevirtual 46, 3) := by decide +kernel
theorem dL_thing_144 : decode cL_thing 144 = .ok (.fmul, 1) := by decide +kernel
theorem dL_thing_145 : decode cL_thing 145 = .ok (.fstore 10, 2) := by decide +kernel
theorem dL_thing_147 : decode cL_thing 147 = .ok (.fconst 1, 1) := by decide +kernel
theorem dL_thing_148 : decode cL_thing 148 = .ok (.fload 6, 2) := by decide +kernel
theorem dL_thing_150 : decode cL_thing 150 = .ok (.fsub, 1) := by decide +kernel
theorem dL_thing_151 : decode cL_thing 151 = .ok (.ldc 65, 2) := by decide +kernel
theorem dL_thing_153 : decode cL_thing 153 = .ok (.fmul, 1) := by decide +kernel
theorem dL_thing_154 : decode cL_thing 154 = .ok (.fstore 11, 2) := by decide +kernel
theorem dL_thing_156 : decode cL_thing 156 = .ok (.fload 11, 2) := by decide +kernel
theorem dL_thing_158 : decode cL_thing 158 = .ok (.aload_n 0, 1) := by decide +kernel
theorem dL_thing_159 : decode cL_thing 159 = .ok (.iconst 1, 1) := by decide +kernel
theorem dL_thing_160 : decode cL_thing 160 = .ok (.invokevirtual 46, 3) := by decide +kernel
theorem dL_thing_163 : decode cL_thing 163 = .ok (.fmul, 1) := by decide +kernel
theorem dL_thing_164 : decode cL_thing 164 = .ok (.fstore 11, 2) := by decide +kernel
theorem dL_thing_166 : decode cL_thing 166 = .ok (.fload 6, 2) := by decide +kernel
theorem dL_thing_168 : decode cL_thing 168 = .ok (.fconst 1, 1) := by decide +kernel
theorem dL_thing_169 : decode cL_thing 169 = .ok (.fload 8, 2) := by decide +kernel
theorem dL_thing_171 : decode cL_thing 171 = .ok (.fsub, 1) := by decide +kernel
theorem dL_thing_172 : decode cL_thing 172 = .ok (.fmul, 1) := by decide +kernel
theorem dL_thing_173 : decode cL_thing 173 = .ok (.fstore 12, 2) := by decide +kernel
theorem dL_thing_175 : decode cL_thing 175 = .ok (.fload 12, 2) := by decide +kernel
theorem dL_thing_177 : decode cL_thing 177 = .ok (.aload_n 0, 1) := by decide +kernel
theorem dL_thing_178 : decode cL_thing 178 = .ok (.iconst 2, 1) := by decide +kernel
theorem dL_thing_179 : decode cL_thing 179 = .ok (.invokevirtual 46, 3) := by decide +kernel
theorem dL_thing_182 : decode cL_thing 182 = .ok (.fmul, 1) := by decide +kernel
theorem dL_thing_183 : decode cL_thing 183 = .ok (.fstore 12, 2) := by decide +kernel
theorem dL_thing_185 : decode cL_thing 185 = .ok (.ldc 66, 2) := by decide +kernel
theorem dL_thing_187 : decode cL_thing 187 = .ok (.fload 9, 2) := by decide +kernel
theorem dL_thing_189 : decode cL_thing 189 = .ok (.fmul, 1) := by decide +kernel
theorem dL_thing_190 : decode cL_thing 190 = .ok (.fstore 13, 2) := by decide +kernel
theorem dL_thing_192 : decode cL_thing 192 = .ok (.fload 13, 2) := by decide +kernel
theorem dL_thing_194 : decode cL_thing 194 = .ok (.aload_n 0, 1) := by decide +kernel
theorem dL_thing_195 : decode cL_thing 195 = .ok (.iconst 3, 1) := by decide +kernel
theorem dL_thing_196 : decode cL_thing 196 = .ok (.invokevirtual 46, 3) := by decide +kernel
theorem dL_thing_199 : decode cL_thing 199 = .ok (.fmul, 1) := by decide +kernel
theorem dL_thing_200 : decode cL_thing 200 = .ok (.fstore 13, 2) := by decide +kernel
theorem dL_thing_202 : decode cL_thing 202 = .ok (.aload_n 0, 1) := by decide +kernel
theorem dL_thing_203 : decode cL_thing 203 = .ok (.iconst 0, 1) := by decide +kernel
theorem dL_thing_204 : decode cL_thing 204 = .ok (.invokevirtual 49, 3) := by decide +kernel
theorem dL_thing_207 : decode cL_thing 207 = .ok (.fload 10, 2) := by decide +kernel
theorem dL_thing_209 : decode cL_thing 209 = .ok (.fcmp .l, 1) := by decide +kernel
theorem dL_thing_210 : decode cL_thing 210 = .ok (.ifCond .ne 36, 3) := by decide +kernel
theorem dL_thing_213 : decode cL_thing 213 = .ok (.aload_n 0, 1) := by decide +kernel
theorem dL_thing_214 : decode cL_thing 214 = .ok (.iconst 1, 1) := by decide +kernel
theorem dL_thing_215 : decode cL_thing 215 = .ok (.invokevirtual 49, 3) := by decide +kernel
theorem dL_thing_218 : decode cL_thing 218 = .ok (.fload 11, 2) := by decide +kernel
theorem dL_thing_220 : decode cL_thing 220 = .ok (.fcmp .l, 1) := by decide +kernel
theorem dL_thing_221 : decode cL_thing 221 = .ok (.ifCond .ne 25, 3) := by decide +kernel
theorem dL_thing_224 : decode cL_thing 224 = .ok (.aload_n 0, 1) := by decide +kernel
theorem dL_thing_225 : decode cL_thing 225 = .ok (.iconst 2, 1) := by decide +kernel
theorem dL_thing_226 : decode cL_thing 226 = .ok (.invokevirtual 49, 3) := by decide +kernel
theorem dL_thing_229 : decode cL_thing 229 = .ok (.fload 12, 2) := by decide +kernel
theorem dL_thing_231 : decode cL_thing 231 = .ok (.fcmp .l, 1) := by decide +kernel
theorem dL_thing_232 : decode cL_thing 232 = .ok (.ifCond .ne 14, 3) := by decide +kernel
theorem dL_thing_235 : decode cL_thing 235 = .ok (.aload_n 0, 1) := by decide +kernel
theorem dL_thing_236 : decode cL_thing 236 = .ok (.iconst 3, 1) := by decide +kernel
theorem dL_thing_237 : decode cL_thing 237 = .ok (.invokevirtual 49, 3) := by decide +kernel
theorem dL_thing_240 : decode cL_thing 240 = .ok (.fload 13, 2) := by decide +kernel
theorem dL_thing_242 : decode cL_thing 242 = .ok (.fcmp .l, 1) := by decide +kernel
theorem dL_thing_243 : decode cL_thing 243 = .ok (.ifCond .eq 5, 3) := by decide +kernel
theorem dL_thing_246 : decode cL_thing 246 = .ok (.iconst 0, 1) := by decide +kernel
theorem dL_thing_247 : decode cL_thing 247 = .ok (.ireturn, 1) := by decide +kernel
theorem dL_thing_248 : decode cL_thing 248 = .ok (.iconst 0, 1) := by decide +kernel
theorem dL_thing_249 : decode cL_thing 249 = .ok (.istore 14, 2) := by decide +kernel
theorem dL_thing_251 : decode cL_thing 251 = .ok (.iconst 1, 1) := by decide +kernel
theorem dL_thing_252 : decode cL_thing 252 = .ok (.istore 15, 2) := by decide +kernel
theorem dL_thing_254 : decode cL_thing 254 = .ok (.iload 15, 2) := by decide +kernel
theorem dL_thing_256 : decode cL_thing 256 = .ok (.iconst 4, 1) := by decide +kernel
theorem dL_thing_257 : decode cL_thing 257 = .ok (.if_icmp .ge 34, 3) := by decide +kernel
theorem dL_thing_260 : decode cL_thing 260 = .ok (.aload_n 0, 1) := by decide +kernel
theorem dL_thing_261 : decode cL_thing 261 = .ok (.iload 15, 2) := by decide +kernel
theorem dL_thing_263 : decode cL_thing 263 = .ok (.invokevirtual 49, 3) := by decide +kernel
theorem dL_thing_266 : decode cL_thing 266 = .ok (.aload_n 0, 1) := by decide +kernel
theorem dL_thing_267 : decode cL_thing 267 = .ok (.iload 14, 2) := by decide +kernel
theorem dL_thing_269 : decode cL_thing 269 = .ok (.invokevirtual 49, 3) := by decide +kernel
theorem dL_thing_272 : decode cL_thing 272 = .ok (.fcmp .l, 1) := by decide +kernel
theorem dL_thing_273 : decode cL_thing 273 = .ok (.ifCond .le 8, 3) := by decide +kernel
theorem dL_thing_276 : decode cL_thing 276 = .ok (.iload 15, 2) := by decide +kernel
theorem dL_thing_278 : decode cL_thing 278 = .ok (.goto 5, 3) := by decide +kernel
theorem dL_thing_281 : decode cL_thing 281 = .ok (.iload 14, 2) := by decide +kernel
theorem dL_thing_283 : decode cL_thing 283 = .ok (.istore 14, 2) := by decide +kernel
theorem dL_thing_285 : decode cL_thing 285 = .ok (.iinc 15 1, 3) := by decide +kernel
theorem dL_thing_288 : decode cL_thing 288 = .ok (.goto (-34), 3) := by decide +kernel
theorem dL_thing_291 : decode cL_thing 291 = .ok (.aload_n 0, 1) := by decide +kernel
theorem dL_thing_292 : decode cL_thing 292 = .ok (.bipush 7, 2) := by decide +kernel
theorem dL_thing_294 : decode cL_thing 294 = .ok (.invokevirtual 63, 3) := by decide +kernel
theorem dL_thing_297 : decode cL_thing 297 = .ok (.iload 14, 2) := by decide +kernel
theorem dL_thing_299 : decode cL_thing 299 = .ok (.if_icmp .ne 59, 3) := by decide +kernel
theorem dL_thing_302 : decode cL_thing 302 = .ok (.iload_n 1, 1) := by decide +kernel
theorem dL_thing_303 : decode cL_thing 303 = .ok (.iconst 1, 1) := by decide +kernel
theorem dL_thing_304 : decode cL_thing 304 = .ok (.if_icmp .lt 54, 3) := by decide +kernel
theorem dL_thing_307 : decode cL_thing 307 = .ok (.iload_n 2, 1) := by decide +kernel
theorem dL_thing_308 : decode cL_thing 308 = .ok (.iload_n 1, 1) := by decide +kernel
theorem dL_thing_309 : decode cL_thing 309 = .ok (.if_icmp .gt 49, 3) := by decide +kernel
theorem dL_thing_312 : decode cL_thing 312 = .ok (.iload_n 3, 1) := by decide +kernel
theorem dL_thing_313 : decode cL_thing 313 = .ok (.iload_n 1, 1) := by decide +kernel
theorem dL_thing_314 : decode cL_thing 314 = .ok (.if_icmp .gt 44, 3) := by decide +kernel
theorem dL_thing_317 : decode cL_thing 317 = .ok (.iload 4, 2) := by decide +kernel
theorem dL_thing_319 : decode cL_thing 319 = .ok (.iload_n 1, 1) := by decide +kernel
theorem dL_thing_320 : decode cL_thing 320 = .ok (.if_icmp .gt 38, 3) := by decide +kernel
theorem dL_thing_323 : decode cL_thing 323 = .ok (.iload_n 2, 1) := by decide +kernel
theorem dL_thing_324 : decode cL_thing 324 = .ok (.iload_n 3, 1) := by decide +kernel
theorem dL_thing_325 : decode cL_thing 325 = .ok (.iadd, 1) := by decide +kernel
theorem dL_thing_326 : decode cL_thing 326 = .ok (.iload 4, 2) := by decide +kernel
theorem dL_thing_328 : decode cL_thing 328 = .ok (.iadd, 1) := by decide +kernel
theorem dL_thing_329 : decode cL_thing 329 = .ok (.iload_n 1, 1) := by decide +kernel
theorem dL_thing_330 : decode cL_thing 330 = .ok (.if_icmp .lt 28, 3) := by decide +kernel
theorem dL_thing_333 : decode cL_thing 333 = .ok (.aload_n 0, 1) := by decide +kernel
theorem dL_thing_334 : decode cL_thing 334 = .ok (.iconst 4, 1) := by decide +kernel
theorem dL_thing_335 : decode cL_thing 335 = .ok (.invokevirtual 63, 3) := by decide +kernel
theorem dL_thing_338 : decode cL_thing 338 = .ok (.iload_n 1, 1) := by decide +kernel
theorem dL_thing_339 : decode cL_thing 339 = .ok (.iadd, 1) := by decide +kernel
theorem dL_thing_340 : decode cL_thing 340 = .ok (.aload_n 0, 1) := by decide +kernel
theorem dL_thing_341 : decode cL_thing 341 = .ok (.iconst 5, 1) := by decide +kernel
theorem dL_thing_342 : decode cL_thing 342 = .ok (.invokevirtual 63, 3) := by decide +kernel
theorem dL_thing_345 : decode cL_thing 345 = .ok (.iadd, 1) := by decide +kernel
theorem dL_thing_346 : decode cL_thing 346 = .ok (.aload_n 0, 1) := by decide +kernel
theorem dL_thing_347 : decode cL_thing 347 = .ok (.iconst 0, 1) := by decide +kernel
theorem dL_thing_348 : decode cL_thing 348 = .ok (.invokevirtual 52, 3) := by decide +kernel
theorem dL_thing_351 : decode cL_thing 351 = .ok (.if_icmp .gt 7, 3) := by decide +kernel
theorem dL_thing_354 : decode cL_thing 354 = .ok (.iconst 1, 1) := by decide +kernel
theorem dL_thing_355 : decode cL_thing 355 = .ok (.goto 4, 3) := by decide +kernel
theorem dL_thing_358 : decode cL_thing 358 = .ok (.iconst 0, 1) := by decide +kernel
theorem dL_thing_359 : decode cL_thing 359 = .ok (.ireturn, 1) := by decide +kernel

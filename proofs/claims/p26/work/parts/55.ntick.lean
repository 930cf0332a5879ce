set_option maxRecDepth 20000 in
theorem ggL_tick_X8_door : GoodIn wsL_tick wsX8_door := goodIn_r _ [6, 7, 8, 9, 10, 11, 12, 13, 14, 15, 16, 5, 17, 270, 271, 272, 273, 274, 275, 276, 277, 278, 279, 280, 281, 282, 283, 284, 285, 286, 287] (by decide +kernel) (by decide +kernel)
set_option maxRecDepth 20000 in
theorem gL_tick_X8_door : GoodIn wsL_tick (wsV RL 22 RX8 yX8_door wsX8_door) := goodIn_app (goodIn_of _ (by decide +kernel)) ggL_tick_X8_door
set_option maxRecDepth 20000 in
theorem ggL_tick_X8_place : GoodIn wsL_tick wsX8_place := goodIn_r _ [21, 7, 8, 14, 270, 271, 272, 273, 274, 275, 276, 277, 278, 279, 280, 281, 282, 283, 284, 285, 286, 287] (by decide +kernel) (by decide +kernel)
set_option maxRecDepth 20000 in
theorem gL_tick_X8_place : GoodIn wsL_tick (wsV RL 28 RX8 yX8_place wsX8_place) := goodIn_app (goodIn_of _ (by decide +kernel)) ggL_tick_X8_place
set_option maxRecDepth 20000 in
theorem ggL_tick_X8_thing : GoodIn wsL_tick wsX8_thing := goodIn_r _ [25, 7, 26, 27, 28, 29, 30, 31, 32, 33, 34, 35, 15, 16, 5, 17, 36, 37, 38, 39, 40, 41, 42, 43, 44, 45, 46, 47, 48, 49, 50, 51, 52, 53, 54, 55, 56, 57, 58, 59, 60, 61, 62, 63, 270, 271, 272, 273, 274, 275, 276, 277, 278, 279, 280, 281, 288, 289, 290, 291, 292, 293, 294, 295, 296, 297, 298] (by decide +kernel) (by decide +kernel)
set_option maxRecDepth 20000 in
theorem gL_tick_X8_thing : GoodIn wsL_tick (wsV RL 63 RX8 yX8_thing wsX8_thing) := goodIn_app (goodIn_of _ (by decide +kernel)) ggL_tick_X8_thing
set_option maxRecDepth 20000 in
theorem ggL_tick_X8_placeIn : GoodIn wsL_tick wsX8_placeIn := goodIn_r _ [67, 68, 7, 8, 14, 69, 47, 5, 48, 49, 70, 71, 72, 73, 74, 75, 76, 77, 78, 79, 80, 81, 82, 83, 44, 84, 85, 46, 86, 87, 88, 89, 39, 90, 91, 92, 61, 58, 59, 60, 93, 94, 95, 96, 97, 98, 99, 100, 101, 102, 103, 104, 105, 106, 107, 108, 109, 110, 111, 112, 113, 114, 115, 116, 117, 118, 119, 120, 121, 122, 123, 124, 125, 126, 127, 128, 129, 130, 131, 132, 133, 134, 135, 136, 137, 138, 139, 140, 141, 142, 143, 144, 145, 146, 147, 148, 149, 150, 151, 152, 153, 154, 155, 156, 157, 158, 37, 38, 40, 41, 42, 43, 45, 50, 51, 52, 53, 54, 55, 56, 57, 62, 63, 159, 160, 161, 162, 163, 164, 165, 166, 167, 168, 16, 17, 169, 170, 171, 172, 173, 174, 175, 176, 177, 178, 179, 180, 181, 182, 183, 184, 185, 186, 187, 188, 189, 190, 191, 192, 193, 194, 195, 196, 197, 198, 199, 200, 201, 202, 203, 204, 205, 206, 207, 208, 209, 210, 211, 212, 213, 214, 270, 271, 272, 273, 274, 275, 276, 277, 278, 279, 280, 281, 282, 283, 284, 285, 286, 287, 296, 297, 298, 288, 289, 290, 291, 292, 293, 294, 295, 299, 300, 301, 302, 303, 304, 305, 306, 307, 308] (by decide +kernel) (by decide +kernel)
set_option maxRecDepth 20000 in
theorem gL_tick_X8_placeIn : GoodIn wsL_tick (wsV RL 67 RX8 yX8_placeIn wsX8_placeIn) := goodIn_app (goodIn_of _ (by decide +kernel)) ggL_tick_X8_placeIn
set_option maxRecDepth 20000 in
theorem ggL_tick_X8_count : GoodIn wsL_tick wsX8_count := goodIn_r _ [218, 7, 219, 220, 221, 222, 223, 224, 225, 226, 227, 228, 229, 230, 231, 232, 270, 271, 272, 273, 274, 275, 276, 277, 278, 279, 280, 281, 301, 302, 303, 304, 305, 306, 307, 308, 309, 310, 311, 312, 313, 314, 315] (by decide +kernel) (by decide +kernel)
set_option maxRecDepth 20000 in
theorem gL_tick_X8_count : GoodIn wsL_tick (wsV RL 52 RX8 yX8_count wsX8_count) := goodIn_app (goodIn_of _ (by decide +kernel)) ggL_tick_X8_count
set_option maxRecDepth 20000 in
theorem ggL_tick_X8_number : GoodIn wsL_tick wsX8_number := goodIn_r _ [236, 7, 35, 237, 144, 145, 44, 146, 86, 270, 271, 272, 273, 274, 275, 276, 277, 278, 279, 280, 281, 296, 297, 298] (by decide +kernel) (by decide +kernel)
set_option maxRecDepth 20000 in
theorem gL_tick_X8_number : GoodIn wsL_tick (wsV RL 33 RX8 yX8_number wsX8_number) := goodIn_app (goodIn_of _ (by decide +kernel)) ggL_tick_X8_number
set_option maxRecDepth 20000 in
theorem ggL_tick_X8_speed : GoodIn wsL_tick wsX8_speed := goodIn_r _ [241, 7, 35, 242, 197, 198, 73, 199, 77, 156, 75, 143, 144, 145, 44, 146, 86, 243, 179, 180, 181, 85, 47, 5, 48, 49, 270, 271, 272, 273, 274, 275, 276, 277, 278, 279, 280, 281, 282, 283, 284, 285, 286, 287, 296, 297, 298] (by decide +kernel) (by decide +kernel)
set_option maxRecDepth 20000 in
theorem gL_tick_X8_speed : GoodIn wsL_tick (wsV RL 36 RX8 yX8_speed wsX8_speed) := goodIn_app (goodIn_of _ (by decide +kernel)) ggL_tick_X8_speed
set_option maxRecDepth 20000 in
theorem ggL_tick_X8_pass : GoodIn wsL_tick wsX8_pass := goodIn_r _ [247, 7, 219, 248, 229, 8, 9, 249, 250, 251, 252, 253, 254, 255, 256, 257, 258, 259, 260, 71, 72, 73, 74, 75, 76, 77, 78, 79, 80, 81, 82, 83, 44, 84, 85, 46, 86, 87, 88, 89, 39, 90, 91, 92, 61, 58, 59, 60, 93, 94, 95, 96, 97, 98, 99, 100, 101, 102, 103, 104, 105, 106, 107, 108, 109, 110, 111, 112, 113, 114, 115, 116, 117, 118, 119, 120, 121, 122, 123, 124, 125, 126, 127, 128, 129, 130, 131, 132, 133, 134, 135, 136, 137, 138, 139, 140, 141, 142, 143, 144, 145, 146, 147, 148, 149, 150, 151, 152, 153, 154, 155, 156, 157, 158, 37, 38, 40, 41, 42, 43, 45, 47, 5, 48, 49, 50, 51, 52, 53, 54, 55, 56, 57, 62, 63, 159, 160, 161, 162, 163, 164, 165, 166, 167, 168, 16, 17, 169, 170, 171, 172, 173, 174, 175, 176, 177, 178, 179, 180, 181, 182, 183, 184, 185, 186, 187, 188, 189, 190, 191, 192, 193, 194, 195, 196, 197, 198, 199, 200, 201, 202, 203, 204, 205, 206, 207, 208, 209, 210, 211, 212, 213, 214, 270, 271, 272, 273, 274, 275, 276, 277, 278, 279, 280, 281, 282, 283, 284, 285, 286, 287, 309, 310, 296, 297, 298, 288, 289, 290, 291, 292, 293, 294, 295, 299, 300, 301, 302, 303, 304, 305, 306, 307, 308] (by decide +kernel) (by decide +kernel)
set_option maxRecDepth 20000 in
theorem gL_tick_X8_pass : GoodIn wsL_tick (wsV RL 71 RX8 yX8_pass wsX8_pass) := goodIn_app (goodIn_of _ (by decide +kernel)) ggL_tick_X8_pass
set_option maxRecDepth 20000 in
theorem ggL_tick_X8_judged : GoodIn wsL_tick wsX8_judged := goodIn_r _ [264, 7, 265, 266, 267, 268, 109, 269, 112, 111, 270, 271, 272, 273, 274, 275, 276, 277, 278, 279, 280, 281, 299, 300] (by decide +kernel) (by decide +kernel)
set_option maxRecDepth 20000 in
theorem gL_tick_X8_judged : GoodIn wsL_tick (wsV RL 55 RX8 yX8_judged wsX8_judged) := goodIn_app (goodIn_of _ (by decide +kernel)) ggL_tick_X8_judged
theorem dL_tick_0 : decode cL_tick 0 = .ok (.aload_n 0, 1) := by decide +kernel
theorem dL_tick_1 : decode cL_tick 1 = .ok (.iconst 0, 1) := by decide +kernel
theorem dL_tick_2 : decode cL_tick 2 = .ok (.invokevirtual 22, 3) := by decide +kernel
theorem dL_tick_5 : decode cL_tick 5 = .ok (.istore_n 2, 1) := by decide +kernel
theorem dL_tick_6 : decode cL_tick 6 = .ok (.aload_n 0, 1) := by decide +kernel
theorem dL_tick_7 : decode cL_tick 7 = .ok (.invokevirtual 28, 3) := by decide +kernel
theorem dL_tick_10 : decode cL_tick 10 = .ok (.fstore_n 3, 1) := by decide +kernel
theorem dL_tick_11 : decode cL_tick 11 = .ok (.aload_n 0, 1) := by decide +kernel
theorem dL_tick_12 : decode cL_tick 12 = .ok (.iconst 1, 1) := by decide +kernel
theorem dL_tick_13 : decode cL_tick 13 = .ok (.invokevirtual 22, 3) := by decide +kernel
theorem dL_tick_16 : decode cL_tick 16 = .ok (.istore 4, 2) := by decide +kernel
theorem dL_tick_18 : decode cL_tick 18 = .ok (.aload_n 0, 1) := by decide +kernel
theorem dL_tick_19 : decode cL_tick 19 = .ok (.iconst 3, 1) := by decide +kernel
theorem dL_tick_20 : decode cL_tick 20 = .ok (.invokevirtual 22, 3) := by decide +kernel
theorem dL_tick_23 : decode cL_tick 23 = .ok (.istore 5, 2) := by decide +kernel
theorem dL_tick_25 : decode cL_tick 25 = .ok (.aload_n 0, 1) := by decide +kernel
theorem dL_tick_26 : decode cL_tick 26 = .ok (.iconst 4, 1) := by decide +kernel
theorem dL_tick_27 : decode cL_tick 27 = .ok (.invokevirtual 22, 3) := by decide +kernel
theorem dL_tick_30 : decode cL_tick 30 = .ok (.istore 6, 2) := by decide +kernel
theorem dL_tick_32 : decode cL_tick 32 = .ok (.aload_n 0, 1) := by decide +kernel
theorem dL_tick_33 : decode cL_tick 33 = .ok (.iconst 2, 1) := by decide +kernel
theorem dL_tick_34 : decode cL_tick 34 = .ok (.invokevirtual 22, 3) := by decide +kernel
theorem dL_tick_37 : decode cL_tick 37 = .ok (.istore 7, 2) := by decide +kernel
theorem dL_tick_39 : decode cL_tick 39 = .ok (.aload_n 0, 1) := by decide +kernel
theorem dL_tick_40 : decode cL_tick 40 = .ok (.iconst 0, 1) := by decide +kernel
theorem dL_tick_41 : decode cL_tick 41 = .ok (.invokevirtual 63, 3) := by decide +kernel
theorem dL_tick_44 : decode cL_tick 44 = .ok (.istore 8, 2) := by decide +kernel
theorem dL_tick_46 : decode cL_tick 46 = .ok (.iload 8, 2) := by decide +kernel
theorem dL_tick_48 : decode cL_tick 48 = .ok (.ifCond .ge 7, 3) := by decide +kernel
theorem dL_tick_51 : decode cL_tick 51 = .ok (.iconst 0, 1) := by decide +kernel
theorem dL_tick_52 : decode cL_tick 52 = .ok (.goto 8, 3) := by decide +kernel
theorem dL_tick_55 : decode cL_tick 55 = .ok (.aload_n 0, 1) := by decide +kernel
theorem dL_tick_56 : decode cL_tick 56 = .ok (.iconst 5, 1) := by decide +kernel
theorem dL_tick_57 : decode cL_tick 57 = .ok (.invokevirtual 63, 3) := by decide +kernel
theorem dL_tick_60 : decode cL_tick 60 = .ok (.istore 9, 2) := by decide +kernel
theorem dL_tick_62 : decode cL_tick 62 = .ok (.iload 8, 2) := by decide +kernel
theorem dL_tick_64 : decode cL_tick 64 = .ok (.ifCond .ge 7, 3) := by decide +kernel
theorem dL_tick_67 : decode cL_tick 67 = .ok (.iconst 0, 1) := by decide +kernel
theorem dL_tick_68 : decode cL_tick 68 = .ok (.goto 9, 3) := by decide +kernel
theorem dL_tick_71 : decode cL_tick 71 = .ok (.aload_n 0, 1) := by decide +kernel
theorem dL_tick_72 : decode cL_tick 72 = .ok (.bipush 6, 2) := by decide +kernel
theorem dL_tick_74 : decode cL_tick 74 = .ok (.invokevirtual 63, 3) := by decide +kernel
theorem dL_tick_77 : decode cL_tick 77 = .ok (.istore 10, 2) := by decide +kernel
theorem dL_tick_79 : decode cL_tick 79 = .ok (.iload 8, 2) := by decide +kernel
theorem dL_tick_81 : decode cL_tick 81 = .ok (.ifCond .ge 7, 3) := by decide +kernel
theorem dL_tick_84 : decode cL_tick 84 = .ok (.iconst 0, 1) := by decide +kernel
theorem dL_tick_85 : decode cL_tick 85 = .ok (.goto 9, 3) := by decide +kernel
theorem dL_tick_88 : decode cL_tick 88 = .ok (.aload_n 0, 1) := by decide +kernel
theorem dL_tick_89 : decode cL_tick 89 = .ok (.bipush 7, 2) := by decide +kernel
theorem dL_tick_91 : decode cL_tick 91 = .ok (.invokevirtual 63, 3) := by decide +kernel
theorem dL_tick_94 : decode cL_tick 94 = .ok (.istore 11, 2) := by decide +kernel
theorem dL_tick_96 : decode cL_tick 96 = .ok (.aload_n 0, 1) := by decide +kernel
theorem dL_tick_97 : decode cL_tick 97 = .ok (.iload_n 1, 1) := by decide +kernel
theorem dL_tick_98 : decode cL_tick 98 = .ok (.iconst 1, 1) := by decide +kernel
theorem dL_tick_99 : decode cL_tick 99 = .ok (.invokevirtual 67, 3) := by decide +kernel
theorem dL_tick_102 : decode cL_tick 102 = .ok (.fstore 12, 2) := by decide +kernel
theorem dL_tick_104 : decode cL_tick 104 = .ok (.aload_n 0, 1) := by decide +kernel
theorem dL_tick_105 : decode cL_tick 105 = .ok (.iload 11, 2) := by decide +kernel
theorem dL_tick_107 : decode cL_tick 107 = .ok (.iconst 1, 1) := by decide +kernel
theorem dL_tick_108 : decode cL_tick 108 = .ok (.iadd, 1) := by decide +kernel
theorem dL_tick_109 : decode cL_tick 109 = .ok (.invokevirtual 52, 3) := by decide +kernel
theorem dL_tick_112 : decode cL_tick 112 = .ok (.istore 13, 2) := by decide +kernel
theorem dL_tick_114 : decode cL_tick 114 = .ok (.iload 8, 2) := by decide +kernel
theorem dL_tick_116 : decode cL_tick 116 = .ok (.ifCond .le 23, 3) := by decide +kernel
theorem dL_tick_119 : decode cL_tick 119 = .ok (.iload_n 1, 1) := by decide +kernel
theorem dL_tick_120 : decode cL_tick 120 = .ok (.ifCond .ne 19, 3) := by decide +kernel
theorem dL_tick_123 : decode cL_tick 123 = .ok (.iload 9, 2) := by decide +kernel
theorem dL_tick_125 : decode cL_tick 125 = .ok (.iconst 1, 1) := by decide +kernel
theorem dL_tick_126 : decode cL_tick 126 = .ok (.iadd, 1) := by decide +kernel
theorem dL_tick_127 : decode cL_tick 127 = .ok (.aload_n 0, 1) := by decide +kernel
theorem dL_tick_128 : decode cL_tick 128 = .ok (.iconst 4, 1) := by decide +kernel
theorem dL_tick_129 : decode cL_tick 129 = .ok (.invokevirtual 33, 3) := by decide +kernel
theorem dL_tick_132 : decode cL_tick 132 = .ok (.if_icmp .lt 7, 3) := by decide +kernel
theorem dL_tick_135 : decode cL_tick 135 = .ok (.iconst 1, 1) := by decide +kernel
theorem dL_tick_136 : decode cL_tick 136 = .ok (.goto 4, 3) := by decide +kernel
theorem dL_tick_139 : decode cL_tick 139 = .ok (.iconst 0, 1) := by decide +kernel
theorem dL_tick_140 : decode cL_tick 140 = .ok (.istore 14, 2) := by decide +kernel
theorem dL_tick_142 : decode cL_tick 142 = .ok (.iload 4, 2) := by decide +kernel
theorem dL_tick_144 : decode cL_tick 144 = .ok (.iload 14, 2) := by decide +kernel
theorem dL_tick_146 : decode cL_tick 146 = .ok (.ifCond .eq 23, 3) := by decide +kernel
theorem dL_tick_149 : decode cL_tick 149 = .ok (.iload 11, 2) := by decide +kernel
theorem dL_tick_151 : decode cL_tick 151 = .ok (.ifCond .ne 18, 3) := by decide +kernel
theorem dL_tick_154 : decode cL_tick 154 = .ok (.iload 10, 2) := by decide +kernel
theorem dL_tick_156 : decode cL_tick 156 = .ok (.iconst 1, 1) := by decide +kernel
theorem dL_tick_157 : decode cL_tick 157 = .ok (.if_icmp .ne 12, 3) := by decide +kernel
theorem dL_tick_160 : decode cL_tick 160 = .ok (.iload 4, 2) := by decide +kernel
theorem dL_tick_162 : decode cL_tick 162 = .ok (.ifCond .le 7, 3) := by decide +kernel
theorem dL_tick_165 : decode cL_tick 165 = .ok (.iconst 1, 1) := by decide +kernel
theorem dL_tick_166 : decode cL_tick 166 = .ok (.goto 4, 3) := by decide +kernel
theorem dL_tick_169 : decode cL_tick 169 = .ok (.iconst 0, 1) := by decide +kernel
theorem dL_tick_170 : decode cL_tick 170 = .ok (.isub, 1) := by decide +kernel
theorem dL_tick_171 : decode cL_tick 171 = .ok (.istore 4, 2) := by decide +kernel
theorem dL_tick_173 : decode cL_tick 173 = .ok (.iload_n 2, 1) := by decide +kernel
theorem dL_tick_174 : decode cL_tick 174 = .ok (.istore 15, 2) := by decide +kernel
theorem dL_tick_176 : decode cL_tick 176 = .ok (.fload_n 3, 1) := by decide +kernel
theorem dL_tick_177 : decode cL_tick 177 = .ok (.fstore 16, 2) := by decide +kernel
theorem dL_tick_179 : decode cL_tick 179 = .ok (.iload_n 2, 1) := by decide +kernel
theorem dL_tick_180 : decode cL_tick 180 = .ok (.iconst 1, 1) := by decide +kernel
theorem dL_tick_181 : decode cL_tick 181 = .ok (.if_icmp .ne 47, 3) := by decide +kernel
theorem dL_tick_184 : decode cL_tick 184 = .ok (.fload_n 3, 1) := by decide +kernel
theorem dL_tick_185 : decode cL_tick 185 = .ok (.aload_n 0, 1) := by decide +kernel
theorem dL_tick_186 : decode cL_tick 186 = .ok (.iconst 0, 1) := by decide +kernel
theorem dL_tick_187 : decode cL_tick 187 = .ok (.invokevirtual 36, 3) := by decide +kernel
theorem dL_tick_190 : decode cL_tick 190 = .ok (.fadd, 1) := by decide +kernel
theorem dL_tick_191 : decode cL_tick 191 = .ok (.fstore 16, 2) := by decide +kernel
theorem dL_tick_193 : decode cL_tick 193 = .ok (.fload 16, 2) := by decide +kernel
theorem dL_tick_195 : decode cL_tick 195 = .ok (.ldc 32, 2) := by decide +kernel
theorem dL_tick_197 : decode cL_tick 197 = .ok (.fcmp .l, 1) := by decide +kernel
theorem dL_tick_198 : decode cL_tick 198 = .ok (.ifCond .lt 7, 3) := by decide +kernel
theorem dL_tick_201 : decode cL_tick 201 = .ok (.iconst 2, 1) := by decide +kernel
theorem dL_tick_202 : decode cL_tick 202 = .ok (.goto 4, 3) := by decide +kernel
theorem dL_tick_205 : decode cL_tick 205 = .ok (.iconst 1, 1) := by decide +kernel
theorem dL_tick_206 : decode cL_tick 206 = .ok (.istore 15, 2) := by decide +kernel
theorem dL_tick_208 : decode cL_tick 208 = .ok (.fload 16, 2) := by decide +kernel
theorem dL_tick_210 : decode cL_tick 210 = .ok (.ldc 32, 2) := by decide +kernel
theorem dL_tick_212 : decode cL_tick 212 = .ok (.fcmp .l, 1) := by decide +kernel
theorem dL_tick_213 : decode cL_tick 213 = .ok (.ifCond .lt 8, 3) := by decide +kernel
theorem dL_tick_216 : decode cL_tick 216 = .ok (.ldc 32, 2) := by decide +kernel
theorem dL_tick_218 : decode cL_tick 218 = .ok (.goto 5, 3) := by decide +kernel
theorem dL_tick_221 : decode cL_tick 221 = .ok (.fload 16, 2) := by decide +kernel
theorem dL_tick_223 : decode cL_tick 223 = .ok (.fstore 16, 2) := by decide +kernel
theorem dL_tick_225 : decode cL_tick 225 = .ok (.goto 160, 3) := by decide +kernel
theorem dL_tick_228 : decode cL_tick 228 = .ok (.iload_n 2, 1) := by decide +kernel
theorem dL_tick_229 : decode cL_tick 229 = .ok (.iconst 2, 1) := by decide +kernel
theorem dL_tick_230 : decode cL_tick 230 = .ok (.if_icmp .ne 34, 3) := by decide +kernel
theorem dL_tick_233 : decode cL_tick 233 = .ok (.iload_n 1, 1) := by decide +kernel
theorem dL_tick_234 : decode cL_tick 234 = .ok (.ifCond .ne 24, 3) := by decide +kernel
theorem dL_tick_237 : decode cL_tick 237 = .ok (.iload 5, 2) := by decide +kernel
theorem dL_tick_239 : decode cL_tick 239 = .ok (.iconst 1, 1) := by decide +kernel
theorem dL_tick_240 : decode cL_tick 240 = .ok (.iadd, 1) := by decide +kernel
theorem dL_tick_241 : decode cL_tick 241 = .ok (.aload_n 0, 1) := by decide +kernel
theorem dL_tick_242 : decode cL_tick 242 = .ok (.iconst 0, 1) := by decide +kernel
theorem dL_tick_243 : decode cL_tick 243 = .ok (.invokevirtual 33, 3) := by decide +kernel
theorem dL_tick_246 : decode cL_tick 246 = .ok (.if_icmp .lt 12, 3) := by decide +kernel
theorem dL_tick_249 : decode cL_tick 249 = .ok (.iload 7, 2) := by decide +kernel
theorem dL_tick_251 : decode cL_tick 251 = .ok (.ifCond .ne 7, 3) := by decide +kernel
theorem dL_tick_254 : decode cL_tick 254 = .ok (.iconst 3, 1) := by decide +kernel
theorem dL_tick_255 : decode cL_tick 255 = .ok (.goto 4, 3) := by decide +kernel
theorem dL_tick_258 : decode cL_tick 258 = .ok (.iconst 2, 1) := by decide +kernel
theorem dL_tick_259 : decode cL_tick 259 = .ok (.istore 15, 2) := by decide +kernel
theorem dL_tick_261 : decode cL_tick 261 = .ok (.goto 124, 3) := by decide +kernel
theorem dL_tick_264 : decode cL_tick 264 = .ok (.iload_n 2, 1) := by decide +kernel
theorem dL_tick_265 : decode cL_tick 265 = .ok (.iconst 3, 1) := by decide +kernel
theorem dL_tick_266 : decode cL_tick 266 = .ok (.if_icmp .ne 45, 3) := by decide +kernel
theorem dL_tick_269 : decode cL_tick 269 = .ok (.iload_n 1, 1) := by decide +kernel
theorem dL_tick_270 : decode cL_tick 270 = .ok (.ifCond .eq 41, 3) := by decide +kernel
theorem dL_tick_273 : decode cL_tick 273 = .ok (.iload 6, 2) := by decide +kernel
theorem dL_tick_275 : decode cL_tick 275 = .ok (.iconst 1, 1) := by decide +kernel
theorem dL_tick_276 : decode cL_tick 276 = .ok (.iadd, 1) := by decide +kernel
theorem dL_tick_277 : decode cL_tick 277 = .ok (.aload_n 0, 1) := by decide +kernel
theorem dL_tick_278 : decode cL_tick 278 = .ok (.iconst 1, 1) := by decide +kernel
theorem dL_tick_279 : decode cL_tick 279 = .ok (.invokevirtual 33, 3) := by decide +kernel
theorem dL_tick_282 : decode cL_tick 282 = .ok (.if_icmp .le 7, 3) := by decide +kernel
theorem dL_tick_285 : decode cL_tick 285 = .ok (.iconst 1, 1) := by decide +kernel
theorem dL_tick_286 : decode cL_tick 286 = .ok (.goto 4, 3) := by decide +kernel
theorem dL_tick_289 : decode cL_tick 289 = .ok (.iconst 3, 1) := by decide +kernel
theorem dL_tick_290 : decode cL_tick 290 = .ok (.istore 15, 2) := by decide +kernel
theorem dL_tick_292 : decode cL_tick 292 = .ok (.iload 4, 2) := by decide +kernel
theorem dL_tick_294 : decode cL_tick 294 = .ok (.iload 15, 2) := by decide +kernel
theorem dL_tick_296 : decode cL_tick 296 = .ok (.iconst 1, 1) := by decide +kernel
theorem dL_tick_297 : decode cL_tick 297 = .ok (.if_icmp .ne 7, 3) := by decide +kernel
theorem dL_tick_300 : decode cL_tick 300 = .ok (.iconst 1, 1) := by decide +kernel
theorem dL_tick_301 : decode cL_tick 301 = .ok (.goto 4, 3) := by decide +kernel
theorem dL_tick_304 : decode cL_tick 304 = .ok (.iconst 0, 1) := by decide +kernel
theorem dL_tick_305 : decode cL_tick 305 = .ok (.iadd, 1) := by decide +kernel
theorem dL_tick_306 : decode cL_tick 306 = .ok (.istore 4, 2) := by decide +kernel
theorem dL_tick_308 : decode cL_tick 308 = .ok (.goto 77, 3) := by decide +kernel
theorem dL_tick_311 : decode cL_tick 311 = .ok (.iload_n 2, 1) := by decide +kernel
theorem dL_tick_312 : decode cL_tick 312 = .ok (.iconst 3, 1) := by decide +kernel
theorem dL_tick_313 : decode cL_tick 313 = .ok (.if_icmp .ne 72, 3) := by decide +kernel
theorem dL_tick_316 : decode cL_tick 316 = .ok (.fload_n 3, 1) := by decide +kernel
theorem dL_tick_317 : decode cL_tick 317 = .ok (.iload 4, 2) := by decide +kernel
theorem dL_tick_319 : decode cL_tick 319 = .ok (.aload_n 0, 1) := by decide +kernel
theorem dL_tick_320 : decode cL_tick 320 = .ok (.iconst 2, 1) := by decide +kernel
theorem dL_tick_321 : decode cL_tick 321 = .ok (.invokevirtual 33, 3) := by decide +kernel
theorem dL_tick_324 : decode cL_tick 324 = .ok (.if_icmp .le 11, 3) := by decide +kernel
theorem dL_tick_327 : decode cL_tick 327 = .ok (.aload_n 0, 1) := by decide +kernel
theorem dL_tick_328 : decode cL_tick 328 = .ok (.iconst 2, 1) := by decide +kernel
theorem dL_tick_329 : decode cL_tick 329 = .ok (.invokevirtual 36, 3) := by decide +kernel
theorem dL_tick_332 : decode cL_tick 332 = .ok (.goto 8, 3) := by decide +kernel
theorem dL_tick_335 : decode cL_tick 335 = .ok (.aload_n 0, 1) := by decide +kernel
theorem dL_tick_336 : decode cL_tick 336 = .ok (.iconst 1, 1) := by decide +kernel
theorem dL_tick_337 : decode cL_tick 337 = .ok (.invokevirtual 36, 3) := by decide +kernel
theorem dL_tick_340 : decode cL_tick 340 = .ok (.fsub, 1) := by decide +kernel
theorem dL_tick_341 : decode cL_tick 341 = .ok (.fstore 16, 2) := by decide +kernel
theorem dL_tick_343 : decode cL_tick 343 = .ok (.fload 16, 2) := by decide +kernel
theorem dL_tick_345 : decode cL_tick 345 = .ok (.fconst 0, 1) := by decide +kernel
theorem dL_tick_346 : decode cL_tick 346 = .ok (.fcmp .g, 1) := by decide +kernel
theorem dL_tick_347 : decode cL_tick 347 = .ok (.ifCond .gt 7, 3) := by decide +kernel
theorem dL_tick_350 : decode cL_tick 350 = .ok (.iconst 0, 1) := by decide +kernel
theorem dL_tick_351 : decode cL_tick 351 = .ok (.goto 4, 3) := by decide +kernel
theorem dL_tick_354 : decode cL_tick 354 = .ok (.iconst 3, 1) := by decide +kernel
theorem dL_tick_355 : decode cL_tick 355 = .ok (.istore 15, 2) := by decide +kernel
theorem dL_tick_357 : decode cL_tick 357 = .ok (.fload 16, 2) := by decide +kernel
theorem dL_tick_359 : decode cL_tick 359 = .ok (.fconst 0, 1) := by decide +kernel
theorem dL_tick_360 : decode cL_tick 360 = .ok (.fcmp .g, 1) := by decide +kernel
theorem dL_tick_361 : decode cL_tick 361 = .ok (.ifCond .gt 7, 3) := by decide +kernel
theorem dL_tick_364 : decode cL_tick 364 = .ok (.fconst 0, 1) := by decide +kernel
theorem dL_tick_365 : decode cL_tick 365 = .ok (.goto 5, 3) := by decide +kernel
theorem dL_tick_368 : decode cL_tick 368 = .ok (.fload 16, 2) := by decide +kernel
theorem dL_tick_370 : decode cL_tick 370 = .ok (.fstore 16, 2) := by decide +kernel
theorem dL_tick_372 : decode cL_tick 372 = .ok (.iload 15, 2) := by decide +kernel
theorem dL_tick_374 : decode cL_tick 374 = .ok (.ifCond .ne 7, 3) := by decide +kernel
theorem dL_tick_377 : decode cL_tick 377 = .ok (.iconst 0, 1) := by decide +kernel
theorem dL_tick_378 : decode cL_tick 378 = .ok (.goto 5, 3) := by decide +kernel
theorem dL_tick_381 : decode cL_tick 381 = .ok (.iload 4, 2) := by decide +kernel
theorem dL_tick_383 : decode cL_tick 383 = .ok (.istore 4, 2) := by decide +kernel
theorem dL_tick_385 : decode cL_tick 385 = .ok (.iload_n 2, 1) := by decide +kernel
theorem dL_tick_386 : decode cL_tick 386 = .ok (.iconst 3, 1) := by decide +kernel
theorem dL_tick_387 : decode cL_tick 387 = .ok (.if_icmp .ne 13, 3) := by decide +kernel
theorem dL_tick_390 : decode cL_tick 390 = .ok (.iload 15, 2) := by decide +kernel
theorem dL_tick_392 : decode cL_tick 392 = .ok (.iconst 1, 1) := by decide +kernel
theorem dL_tick_393 : decode cL_tick 393 = .ok (.if_icmp .ne 7, 3) := by decide +kernel
theorem dL_tick_396 : decode cL_tick 396 = .ok (.iconst 1, 1) := by decide +kernel
theorem dL_tick_397 : decode cL_tick 397 = .ok (.goto 4, 3) := by decide +kernel
theorem dL_tick_400 : decode cL_tick 400 = .ok (.iconst 0, 1) := by decide +kernel
theorem dL_tick_401 : decode cL_tick 401 = .ok (.istore 17, 2) := by decide +kernel
theorem dL_tick_403 : decode cL_tick 403 = .ok (.iload 17, 2) := by decide +kernel
theorem dL_tick_405 : decode cL_tick 405 = .ok (.ifCond .eq 23, 3) := by decide +kernel
theorem dL_tick_408 : decode cL_tick 408 = .ok (.iload 4, 2) := by decide +kernel
theorem dL_tick_410 : decode cL_tick 410 = .ok (.aload_n 0, 1) := by decide +kernel
theorem dL_tick_411 : decode cL_tick 411 = .ok (.iconst 2, 1) := by decide +kernel
theorem dL_tick_412 : decode cL_tick 412 = .ok (.invokevirtual 33, 3) := by decide +kernel
theorem dL_tick_415 : decode cL_tick 415 = .ok (.aload_n 0, 1) := by decide +kernel
theorem dL_tick_416 : decode cL_tick 416 = .ok (.iconst 3, 1) := by decide +kernel
theorem dL_tick_417 : decode cL_tick 417 = .ok (.invokevirtual 33, 3) := by decide +kernel
theorem dL_tick_420 : decode cL_tick 420 = .ok (.iadd, 1) := by decide +kernel
theorem dL_tick_421 : decode cL_tick 421 = .ok (.if_icmp .le 7, 3) := by decide +kernel
theorem dL_tick_424 : decode cL_tick 424 = .ok (.iconst 1, 1) := by decide +kernel
theorem dL_tick_425 : decode cL_tick 425 = .ok (.goto 4, 3) := by decide +kernel
theorem dL_tick_428 : decode cL_tick 428 = .ok (.iconst 0, 1) := by decide +kernel
theorem dL_tick_429 : decode cL_tick 429 = .ok (.istore 18, 2) := by decide +kernel
theorem dL_tick_431 : decode cL_tick 431 = .ok (.aload_n 0, 1) := by decide +kernel
theorem dL_tick_432 : decode cL_tick 432 = .ok (.iload_n 1, 1) := by decide +kernel
theorem dL_tick_433 : decode cL_tick 433 = .ok (.iconst 1, 1) := by decide +kernel
theorem dL_tick_434 : decode cL_tick 434 = .ok (.invokevirtual 71, 3) := by decide +kernel
theorem dL_tick_437 : decode cL_tick 437 = .ok (.iload 15, 2) := by decide +kernel
theorem dL_tick_439 : decode cL_tick 439 = .ok (.if_icmp .ne 50, 3) := by decide +kernel
theorem dL_tick_442 : decode cL_tick 442 = .ok (.aload_n 0, 1) := by decide +kernel
theorem dL_tick_443 : decode cL_tick 443 = .ok (.invokevirtual 28, 3) := by decide +kernel
theorem dL_tick_446 : decode cL_tick 446 = .ok (.fload 16, 2) := by decide +kernel
theorem dL_tick_448 : decode cL_tick 448 = .ok (.fcmp .l, 1) := by decide +kernel
theorem dL_tick_449 : decode cL_tick 449 = .ok (.ifCond .ne 40, 3) := by decide +kernel
theorem dL_tick_452 : decode cL_tick 452 = .ok (.fload 12, 2) := by decide +kernel
theorem dL_tick_454 : decode cL_tick 454 = .ok (.fload 16, 2) := by decide +kernel
theorem dL_tick_456 : decode cL_tick 456 = .ok (.fcmp .l, 1) := by decide +kernel
theorem dL_tick_457 : decode cL_tick 457 = .ok (.ifCond .ne 32, 3) := by decide +kernel
theorem dL_tick_460 : decode cL_tick 460 = .ok (.aload_n 0, 1) := by decide +kernel
theorem dL_tick_461 : decode cL_tick 461 = .ok (.iconst 1, 1) := by decide +kernel
theorem dL_tick_462 : decode cL_tick 462 = .ok (.invokevirtual 22, 3) := by decide +kernel
theorem dL_tick_465 : decode cL_tick 465 = .ok (.iload 4, 2) := by decide +kernel
theorem dL_tick_467 : decode cL_tick 467 = .ok (.if_icmp .ne 22, 3) := by decide +kernel
theorem dL_tick_470 : decode cL_tick 470 = .ok (.aload_n 0, 1) := by decide +kernel
theorem dL_tick_471 : decode cL_tick 471 = .ok (.iconst 2, 1) := by decide +kernel
theorem dL_tick_472 : decode cL_tick 472 = .ok (.invokevirtual 22, 3) := by decide +kernel
theorem dL_tick_475 : decode cL_tick 475 = .ok (.iload 18, 2) := by decide +kernel
theorem dL_tick_477 : decode cL_tick 477 = .ok (.ifCond .eq 7, 3) := by decide +kernel
theorem dL_tick_480 : decode cL_tick 480 = .ok (.iconst 1, 1) := by decide +kernel
theorem dL_tick_481 : decode cL_tick 481 = .ok (.goto 5, 3) := by decide +kernel
theorem dL_tick_484 : decode cL_tick 484 = .ok (.iload 7, 2) := by decide +kernel
theorem dL_tick_486 : decode cL_tick 486 = .ok (.if_icmp .eq 5, 3) := by decide +kernel
theorem dL_tick_489 : decode cL_tick 489 = .ok (.iconst 0, 1) := by decide +kernel
theorem dL_tick_490 : decode cL_tick 490 = .ok (.ireturn, 1) := by decide +kernel
theorem dL_tick_491 : decode cL_tick 491 = .ok (.iload 14, 2) := by decide +kernel
theorem dL_tick_493 : decode cL_tick 493 = .ok (.ifCond .eq 61, 3) := by decide +kernel
theorem dL_tick_496 : decode cL_tick 496 = .ok (.aload_n 0, 1) := by decide +kernel
theorem dL_tick_497 : decode cL_tick 497 = .ok (.iconst 0, 1) := by decide +kernel
theorem dL_tick_498 : decode cL_tick 498 = .ok (.invokevirtual 63, 3) := by decide +kernel
theorem dL_tick_501 : decode cL_tick 501 = .ok (.bipush (-5), 2) := by decide +kernel
theorem dL_tick_503 : decode cL_tick 503 = .ok (.if_icmp .ne 49, 3) := by decide +kernel
theorem dL_tick_506 : decode cL_tick 506 = .ok (.aload_n 0, 1) := by decide +kernel
theorem dL_tick_507 : decode cL_tick 507 = .ok (.iconst 0, 1) := by decide +kernel
theorem dL_tick_508 : decode cL_tick 508 = .ok (.iconst 0, 1) := by decide +kernel
theorem dL_tick_509 : decode cL_tick 509 = .ok (.invokevirtual 55, 3) := by decide +kernel
theorem dL_tick_512 : decode cL_tick 512 = .ok (.iload 11, 2) := by decide +kernel
theorem dL_tick_514 : decode cL_tick 514 = .ok (.if_icmp .ne 38, 3) := by decide +kernel
theorem dL_tick_517 : decode cL_tick 517 = .ok (.aload_n 0, 1) := by decide +kernel
theorem dL_tick_518 : decode cL_tick 518 = .ok (.iload 11, 2) := by decide +kernel
theorem dL_tick_520 : decode cL_tick 520 = .ok (.iconst 1, 1) := by decide +kernel
theorem dL_tick_521 : decode cL_tick 521 = .ok (.iadd, 1) := by decide +kernel
theorem dL_tick_522 : decode cL_tick 522 = .ok (.invokevirtual 52, 3) := by decide +kernel
theorem dL_tick_525 : decode cL_tick 525 = .ok (.iload 13, 2) := by decide +kernel
theorem dL_tick_527 : decode cL_tick 527 = .ok (.iconst 1, 1) := by decide +kernel
theorem dL_tick_528 : decode cL_tick 528 = .ok (.iadd, 1) := by decide +kernel
theorem dL_tick_529 : decode cL_tick 529 = .ok (.if_icmp .ne 23, 3) := by decide +kernel
theorem dL_tick_532 : decode cL_tick 532 = .ok (.aload_n 0, 1) := by decide +kernel
theorem dL_tick_533 : decode cL_tick 533 = .ok (.iconst 0, 1) := by decide +kernel
theorem dL_tick_534 : decode cL_tick 534 = .ok (.iconst 4, 1) := by decide +kernel
theorem dL_tick_535 : decode cL_tick 535 = .ok (.invokevirtual 55, 3) := by decide +kernel
theorem dL_tick_538 : decode cL_tick 538 = .ok (.aload_n 0, 1) := by decide +kernel
theorem dL_tick_539 : decode cL_tick 539 = .ok (.iconst 0, 1) := by decide +kernel
theorem dL_tick_540 : decode cL_tick 540 = .ok (.invokevirtual 52, 3) := by decide +kernel
theorem dL_tick_543 : decode cL_tick 543 = .ok (.iconst 1, 1) := by decide +kernel
theorem dL_tick_544 : decode cL_tick 544 = .ok (.isub, 1) := by decide +kernel
theorem dL_tick_545 : decode cL_tick 545 = .ok (.if_icmp .ne 7, 3) := by decide +kernel
theorem dL_tick_548 : decode cL_tick 548 = .ok (.iconst 1, 1) := by decide +kernel
theorem dL_tick_549 : decode cL_tick 549 = .ok (.goto 4, 3) := by decide +kernel
theorem dL_tick_552 : decode cL_tick 552 = .ok (.iconst 0, 1) := by decide +kernel
theorem dL_tick_553 : decode cL_tick 553 = .ok (.ireturn, 1) := by decide +kernel
theorem dL_tick_554 : decode cL_tick 554 = .ok (.iload_n 1, 1) := by decide +kernel
theorem dL_tick_555 : decode cL_tick 555 = .ok (.ifCond .eq 44, 3) := by decide +kernel
theorem dL_tick_558 : decode cL_tick 558 = .ok (.aload_n 0, 1) := by decide +kernel
theorem dL_tick_559 : decode cL_tick 559 = .ok (.iconst 0, 1) := by decide +kernel
theorem dL_tick_560 : decode cL_tick 560 = .ok (.invokevirtual 63, 3) := by decide +kernel
theorem dL_tick_563 : decode cL_tick 563 = .ok (.iload 8, 2) := by decide +kernel
theorem dL_tick_565 : decode cL_tick 565 = .ok (.ifCond .ge 7, 3) := by decide +kernel
theorem dL_tick_568 : decode cL_tick 568 = .ok (.iconst 1, 1) := by decide +kernel
theorem dL_tick_569 : decode cL_tick 569 = .ok (.goto 7, 3) := by decide +kernel
theorem dL_tick_572 : decode cL_tick 572 = .ok (.iload 8, 2) := by decide +kernel
theorem dL_tick_574 : decode cL_tick 574 = .ok (.iconst 1, 1) := by decide +kernel
theorem dL_tick_575 : decode cL_tick 575 = .ok (.iadd, 1) := by decide +kernel
theorem dL_tick_576 : decode cL_tick 576 = .ok (.if_icmp .ne 27, 3) := by decide +kernel
theorem dL_tick_579 : decode cL_tick 579 = .ok (.aload_n 0, 1) := by decide +kernel
theorem dL_tick_580 : decode cL_tick 580 = .ok (.bipush 6, 2) := by decide +kernel
theorem dL_tick_582 : decode cL_tick 582 = .ok (.invokevirtual 63, 3) := by decide +kernel
theorem dL_tick_585 : decode cL_tick 585 = .ok (.iload 17, 2) := by decide +kernel
theorem dL_tick_587 : decode cL_tick 587 = .ok (.ifCond .eq 7, 3) := by decide +kernel
theorem dL_tick_590 : decode cL_tick 590 = .ok (.iconst 1, 1) := by decide +kernel
theorem dL_tick_591 : decode cL_tick 591 = .ok (.goto 5, 3) := by decide +kernel
theorem dL_tick_594 : decode cL_tick 594 = .ok (.iload 10, 2) := by decide +kernel
theorem dL_tick_596 : decode cL_tick 596 = .ok (.if_icmp .ne 7, 3) := by decide +kernel
theorem dL_tick_599 : decode cL_tick 599 = .ok (.iconst 1, 1) := by decide +kernel
theorem dL_tick_600 : decode cL_tick 600 = .ok (.goto 4, 3) := by decide +kernel
theorem dL_tick_603 : decode cL_tick 603 = .ok (.iconst 0, 1) := by decide +kernel
theorem dL_tick_604 : decode cL_tick 604 = .ok (.ireturn, 1) := by decide +kernel
set_option maxRecDepth 20000 in
theorem ggL_shuts_X8_shutsIn : GoodIn wsL_shuts wsX8_shutsIn := goodIn_r _ [5, 6, 7, 8, 9, 10, 11, 12, 13, 14, 15, 16, 17, 18, 19, 20, 21, 22, 23, 24, 25, 26, 27, 28, 29, 30, 31, 32, 33, 34, 35, 36, 37, 38, 39, 40, 41, 42, 43, 44, 45, 46, 47, 48, 49, 50, 51, 52, 53, 54, 55, 56, 57, 58, 59, 60, 61, 62, 63, 64, 65, 66, 67, 68, 69, 70, 71, 72, 73, 74, 75, 76, 77, 78, 79, 80, 81, 82, 83, 84, 85, 86, 87, 88, 89, 90, 91, 92, 93, 94, 95, 96, 97, 98, 99, 100, 101, 102, 103, 104, 105, 106, 107, 108, 109, 4, 110, 111, 112, 113, 114, 115, 116, 117, 118, 119, 120, 121, 122, 123, 124, 125, 126, 127, 128, 129, 130, 131, 132, 133, 134, 135, 136, 137, 138, 139, 140, 141, 142, 143, 144, 145, 146, 147, 148, 149, 150, 151, 152, 153, 154, 155, 156, 157, 158, 159, 160, 161, 162, 163, 164, 165, 166, 167, 168, 169, 170, 171, 172, 173, 174, 175, 176, 177, 178, 179, 235, 236, 237, 238, 239, 240, 241, 242, 243, 244, 245, 246, 247, 248, 249, 250, 251, 252, 253, 254, 255, 256, 257, 258, 259, 260, 261, 262, 263, 264, 265, 266, 267, 268, 269, 270, 271, 272, 273] (by decide +kernel) (by decide +kernel)
set_option maxRecDepth 20000 in
theorem gL_shuts_X8_shutsIn : GoodIn wsL_shuts (wsV RL 74 RX8 yX8_shutsIn wsX8_shutsIn) := goodIn_app (goodIn_of _ (by decide +kernel)) ggL_shuts_X8_shutsIn
set_option maxRecDepth 20000 in
theorem ggL_shuts_X8_door : GoodIn wsL_shuts wsX8_door := goodIn_r _ [183, 7, 8, 9, 184, 185, 186, 187, 188, 189, 132, 4, 133, 235, 236, 237, 238, 239, 240, 241, 242, 243, 244, 245, 246, 247, 248, 249, 250, 251, 252] (by decide +kernel) (by decide +kernel)
set_option maxRecDepth 20000 in
theorem gL_shuts_X8_door : GoodIn wsL_shuts (wsV RL 22 RX8 yX8_door wsX8_door) := goodIn_app (goodIn_of _ (by decide +kernel)) ggL_shuts_X8_door
set_option maxRecDepth 20000 in
theorem ggL_shuts_X8_count : GoodIn wsL_shuts wsX8_count := goodIn_r _ [193, 7, 194, 195, 196, 197, 198, 199, 200, 201, 202, 203, 204, 205, 206, 207, 235, 236, 237, 238, 239, 240, 241, 242, 243, 244, 245, 246, 266, 267, 268, 269, 270, 271, 272, 273, 274, 275, 276, 277, 278, 279, 280] (by decide +kernel) (by decide +kernel)
set_option maxRecDepth 20000 in
theorem gL_shuts_X8_count : GoodIn wsL_shuts (wsV RL 52 RX8 yX8_count wsX8_count) := goodIn_app (goodIn_of _ (by decide +kernel)) ggL_shuts_X8_count
set_option maxRecDepth 20000 in
theorem ggL_shuts_X8_placeIn : GoodIn wsL_shuts wsX8_placeIn := goodIn_r _ [211, 6, 7, 8, 188, 212, 109, 4, 110, 111, 10, 11, 12, 13, 14, 15, 16, 17, 18, 19, 20, 21, 22, 23, 24, 25, 26, 27, 28, 29, 30, 31, 32, 33, 34, 35, 36, 37, 38, 39, 40, 41, 42, 43, 44, 45, 46, 47, 48, 49, 50, 51, 52, 53, 54, 55, 56, 57, 58, 59, 60, 61, 62, 63, 64, 65, 66, 67, 68, 69, 70, 71, 72, 213, 214, 215, 216, 217, 74, 75, 76, 77, 78, 79, 80, 81, 82, 83, 84, 85, 86, 87, 88, 89, 90, 91, 92, 93, 94, 95, 96, 97, 98, 99, 100, 101, 102, 103, 104, 105, 106, 107, 108, 112, 113, 114, 115, 116, 117, 118, 119, 120, 121, 122, 123, 124, 125, 126, 127, 128, 129, 130, 131, 132, 133, 134, 135, 136, 137, 138, 139, 140, 141, 142, 143, 144, 145, 146, 147, 148, 149, 150, 151, 152, 153, 154, 155, 156, 157, 158, 159, 160, 161, 162, 163, 164, 165, 166, 167, 168, 169, 170, 171, 172, 173, 174, 175, 176, 177, 178, 179, 235, 236, 237, 238, 239, 240, 241, 242, 243, 244, 245, 246, 247, 248, 249, 250, 251, 252, 253, 254, 255, 256, 257, 258, 259, 260, 261, 262, 263, 264, 265, 266, 267, 268, 269, 270, 271, 272, 273] (by decide +kernel) (by decide +kernel)
set_option maxRecDepth 20000 in
theorem gL_shuts_X8_placeIn : GoodIn wsL_shuts (wsV RL 67 RX8 yX8_placeIn wsX8_placeIn) := goodIn_app (goodIn_of _ (by decide +kernel)) ggL_shuts_X8_placeIn
set_option maxRecDepth 20000 in
theorem ggL_shuts_X8_pass : GoodIn wsL_shuts wsX8_pass := goodIn_r _ [221, 7, 194, 222, 204, 8, 9, 223, 224, 225, 226, 227, 228, 229, 230, 231, 232, 233, 234, 11, 12, 13, 14, 15, 16, 17, 18, 19, 20, 21, 22, 23, 24, 25, 26, 27, 28, 29, 30, 31, 32, 33, 34, 35, 36, 37, 38, 39, 40, 41, 42, 43, 44, 45, 46, 47, 48, 49, 50, 51, 52, 53, 54, 55, 56, 57, 58, 59, 60, 61, 62, 63, 64, 65, 66, 67, 68, 69, 70, 71, 72, 213, 214, 215, 216, 217, 74, 75, 76, 77, 78, 79, 80, 81, 82, 83, 84, 85, 86, 87, 88, 89, 90, 91, 92, 93, 94, 95, 96, 97, 98, 99, 100, 101, 102, 103, 104, 105, 106, 107, 108, 109, 4, 110, 111, 112, 113, 114, 115, 116, 117, 118, 119, 120, 121, 122, 123, 124, 125, 126, 127, 128, 129, 130, 131, 132, 133, 134, 135, 136, 137, 138, 139, 140, 141, 142, 143, 144, 145, 146, 147, 148, 149, 150, 151, 152, 153, 154, 155, 156, 157, 158, 159, 160, 161, 162, 163, 164, 165, 166, 167, 168, 169, 170, 171, 172, 173, 174, 175, 176, 177, 178, 179, 235, 236, 237, 238, 239, 240, 241, 242, 243, 244, 245, 246, 247, 248, 249, 250, 251, 252, 274, 275, 253, 254, 255, 256, 257, 258, 259, 260, 261, 262, 263, 264, 265, 266, 267, 268, 269, 270, 271, 272, 273] (by decide +kernel) (by decide +kernel)
set_option maxRecDepth 20000 in
theorem gL_shuts_X8_pass : GoodIn wsL_shuts (wsV RL 71 RX8 yX8_pass wsX8_pass) := goodIn_app (goodIn_of _ (by decide +kernel)) ggL_shuts_X8_pass
theorem dL_shuts_0 : decode cL_shuts 0 = .ok (.aload_n 0, 1) := by decide +kernel
theorem dL_shuts_1 : decode cL_shuts 1 = .ok (.invokevirtual 74, 3) := by decide +kernel
theorem dL_shuts_4 : decode cL_shuts 4 = .ok (.istore_n 1, 1) := by decide +kernel
theorem dL_shuts_5 : decode cL_shuts 5 = .ok (.iload_n 1, 1) := by decide +kernel
theorem dL_shuts_6 : decode cL_shuts 6 = .ok (.iconst 1, 1) := by decide +kernel
theorem dL_shuts_7 : decode cL_shuts 7 = .ok (.if_icmp .lt 9, 3) := by decide +kernel
theorem dL_shuts_10 : decode cL_shuts 10 = .ok (.iload_n 1, 1) := by decide +kernel
theorem dL_shuts_11 : decode cL_shuts 11 = .ok (.bipush 99, 2) := by decide +kernel
theorem dL_shuts_13 : decode cL_shuts 13 = .ok (.if_icmp .le 41, 3) := by decide +kernel
theorem dL_shuts_16 : decode cL_shuts 16 = .ok (.aload_n 0, 1) := by decide +kernel
theorem dL_shuts_17 : decode cL_shuts 17 = .ok (.iconst 0, 1) := by decide +kernel
theorem dL_shuts_18 : decode cL_shuts 18 = .ok (.invokevirtual 22, 3) := by decide +kernel
theorem dL_shuts_21 : decode cL_shuts 21 = .ok (.ifCond .ne 15, 3) := by decide +kernel
theorem dL_shuts_24 : decode cL_shuts 24 = .ok (.iload_n 1, 1) := by decide +kernel
theorem dL_shuts_25 : decode cL_shuts 25 = .ok (.ifCond .ne 7, 3) := by decide +kernel
theorem dL_shuts_28 : decode cL_shuts 28 = .ok (.iconst 1, 1) := by decide +kernel
theorem dL_shuts_29 : decode cL_shuts 29 = .ok (.goto 24, 3) := by decide +kernel
theorem dL_shuts_32 : decode cL_shuts 32 = .ok (.iconst 0, 1) := by decide +kernel
theorem dL_shuts_33 : decode cL_shuts 33 = .ok (.goto 20, 3) := by decide +kernel
theorem dL_shuts_36 : decode cL_shuts 36 = .ok (.iload_n 1, 1) := by decide +kernel
theorem dL_shuts_37 : decode cL_shuts 37 = .ok (.bipush (-5), 2) := by decide +kernel
theorem dL_shuts_39 : decode cL_shuts 39 = .ok (.if_icmp .eq 9, 3) := by decide +kernel
theorem dL_shuts_42 : decode cL_shuts 42 = .ok (.iload_n 1, 1) := by decide +kernel
theorem dL_shuts_43 : decode cL_shuts 43 = .ok (.bipush 99, 2) := by decide +kernel
theorem dL_shuts_45 : decode cL_shuts 45 = .ok (.if_icmp .le 7, 3) := by decide +kernel
theorem dL_shuts_48 : decode cL_shuts 48 = .ok (.iconst 1, 1) := by decide +kernel
theorem dL_shuts_49 : decode cL_shuts 49 = .ok (.goto 4, 3) := by decide +kernel
theorem dL_shuts_52 : decode cL_shuts 52 = .ok (.iconst 0, 1) := by decide +kernel
theorem dL_shuts_53 : decode cL_shuts 53 = .ok (.ireturn, 1) := by decide +kernel
theorem dL_shuts_54 : decode cL_shuts 54 = .ok (.aload_n 0, 1) := by decide +kernel
theorem dL_shuts_55 : decode cL_shuts 55 = .ok (.iconst 5, 1) := by decide +kernel
theorem dL_shuts_56 : decode cL_shuts 56 = .ok (.invokevirtual 52, 3) := by decide +kernel
theorem dL_shuts_59 : decode cL_shuts 59 = .ok (.istore_n 2, 1) := by decide +kernel
theorem dL_shuts_60 : decode cL_shuts 60 = .ok (.iload_n 1, 1) := by decide +kernel
theorem dL_shuts_61 : decode cL_shuts 61 = .ok (.iconst 1, 1) := by decide +kernel
theorem dL_shuts_62 : decode cL_shuts 62 = .ok (.if_icmp .eq 16, 3) := by decide +kernel
theorem dL_shuts_65 : decode cL_shuts 65 = .ok (.aload_n 0, 1) := by decide +kernel
theorem dL_shuts_66 : decode cL_shuts 66 = .ok (.iconst 0, 1) := by decide +kernel
theorem dL_shuts_67 : decode cL_shuts 67 = .ok (.iload_n 1, 1) := by decide +kernel
theorem dL_shuts_68 : decode cL_shuts 68 = .ok (.iconst 1, 1) := by decide +kernel
theorem dL_shuts_69 : decode cL_shuts 69 = .ok (.isub, 1) := by decide +kernel
theorem dL_shuts_70 : decode cL_shuts 70 = .ok (.invokevirtual 67, 3) := by decide +kernel
theorem dL_shuts_73 : decode cL_shuts 73 = .ok (.fconst 0, 1) := by decide +kernel
theorem dL_shuts_74 : decode cL_shuts 74 = .ok (.fcmp .l, 1) := by decide +kernel
theorem dL_shuts_75 : decode cL_shuts 75 = .ok (.ifCond .le 7, 3) := by decide +kernel
theorem dL_shuts_78 : decode cL_shuts 78 = .ok (.iconst 1, 1) := by decide +kernel
theorem dL_shuts_79 : decode cL_shuts 79 = .ok (.goto 4, 3) := by decide +kernel
theorem dL_shuts_82 : decode cL_shuts 82 = .ok (.iconst 0, 1) := by decide +kernel
theorem dL_shuts_83 : decode cL_shuts 83 = .ok (.istore_n 3, 1) := by decide +kernel
theorem dL_shuts_84 : decode cL_shuts 84 = .ok (.iload_n 3, 1) := by decide +kernel
theorem dL_shuts_85 : decode cL_shuts 85 = .ok (.ifCond .eq 27, 3) := by decide +kernel
theorem dL_shuts_88 : decode cL_shuts 88 = .ok (.aload_n 0, 1) := by decide +kernel
theorem dL_shuts_89 : decode cL_shuts 89 = .ok (.iconst 0, 1) := by decide +kernel
theorem dL_shuts_90 : decode cL_shuts 90 = .ok (.iload_n 1, 1) := by decide +kernel
theorem dL_shuts_91 : decode cL_shuts 91 = .ok (.invokevirtual 71, 3) := by decide +kernel
theorem dL_shuts_94 : decode cL_shuts 94 = .ok (.ifCond .ne 18, 3) := by decide +kernel
theorem dL_shuts_97 : decode cL_shuts 97 = .ok (.aload_n 0, 1) := by decide +kernel
theorem dL_shuts_98 : decode cL_shuts 98 = .ok (.iconst 5, 1) := by decide +kernel
theorem dL_shuts_99 : decode cL_shuts 99 = .ok (.invokevirtual 52, 3) := by decide +kernel
theorem dL_shuts_102 : decode cL_shuts 102 = .ok (.iload_n 2, 1) := by decide +kernel
theorem dL_shuts_103 : decode cL_shuts 103 = .ok (.iconst 1, 1) := by decide +kernel
theorem dL_shuts_104 : decode cL_shuts 104 = .ok (.iadd, 1) := by decide +kernel
theorem dL_shuts_105 : decode cL_shuts 105 = .ok (.if_icmp .ne 7, 3) := by decide +kernel
theorem dL_shuts_108 : decode cL_shuts 108 = .ok (.iconst 1, 1) := by decide +kernel
theorem dL_shuts_109 : decode cL_shuts 109 = .ok (.goto 4, 3) := by decide +kernel
theorem dL_shuts_112 : decode cL_shuts 112 = .ok (.iconst 0, 1) := by decide +kernel
theorem dL_shuts_113 : decode cL_shuts 113 = .ok (.ireturn, 1) := by decide +kernel

set_option maxRecDepth 20000 in
theorem ggL_errors_L_bits : GoodIn wsL_errors wsL_bits := goodIn_r _ [7, 8, 9, 10, 11, 12, 13, 14, 15] (by decide +kernel) (by decide +kernel)
set_option maxRecDepth 20000 in
theorem gL_errors_L_bits : GoodIn wsL_errors (va_wsS RL 84 yL_bits wsL_bits) := goodIn_app (goodIn_of _ (by decide +kernel)) ggL_errors_L_bits
set_option maxRecDepth 20000 in
theorem ggL_errors_X8_setSpeed : GoodIn wsL_errors wsX8_setSpeed := goodIn_r _ [20, 21, 22, 23, 24, 25, 26, 27, 19, 28, 29, 30, 31, 32, 33, 34, 35, 36, 37, 38, 39, 40, 41, 42, 43, 44, 45, 46, 47, 48, 49, 50, 51, 52, 53, 54, 55, 56, 57, 58, 59, 60, 61, 62, 63, 64, 65, 66, 67, 68, 69, 70, 71, 72, 73, 74, 75, 76, 77, 78, 79, 80, 81, 82, 83, 84, 85, 86, 87, 88, 89, 90, 91, 92, 93, 94, 95, 96, 97, 98, 99, 100, 101, 102, 103, 104, 105, 106, 107, 108, 109, 110, 111, 112, 113, 114, 115, 116, 351, 352, 353, 354, 355, 356, 357, 358, 359, 360, 361, 362, 363, 364, 365, 366, 367, 368, 369, 370, 371, 372, 373, 374, 375, 376, 377, 378, 379, 380, 381, 382, 383, 384, 385, 386, 387, 388, 389, 390, 391] (by decide +kernel) (by decide +kernel)
set_option maxRecDepth 20000 in
theorem gL_errors_X8_setSpeed : GoodIn wsL_errors (wsV RL 87 RX8 yX8_setSpeed wsX8_setSpeed) := goodIn_app (goodIn_of _ (by decide +kernel)) ggL_errors_X8_setSpeed
set_option maxRecDepth 20000 in
theorem ggL_errors_X8_setWeight : GoodIn wsL_errors wsX8_setWeight := goodIn_r _ [120, 121, 23, 24, 25, 26, 27, 19, 28, 29, 30, 31, 122, 123, 124, 35, 125, 67, 38, 39, 40, 41, 42, 43, 44, 45, 46, 47, 48, 49, 50, 51, 52, 53, 54, 55, 56, 57, 58, 59, 60, 61, 62, 63, 64, 65, 66, 37, 68, 69, 70, 71, 72, 73, 74, 75, 76, 77, 78, 79, 80, 81, 82, 83, 84, 85, 86, 87, 88, 89, 90, 91, 92, 93, 94, 95, 96, 97, 98, 99, 100, 101, 102, 103, 104, 105, 106, 107, 108, 109, 110, 111, 112, 126, 127, 128, 129, 351, 352, 353, 354, 355, 356, 357, 358, 359, 360, 361, 362, 363, 364, 365, 366, 367, 368, 369, 370, 371, 372, 373, 374, 375, 376, 377, 378, 379, 380, 381, 382, 383, 384, 385, 386, 387, 388, 389, 390, 391] (by decide +kernel) (by decide +kernel)
set_option maxRecDepth 20000 in
theorem gL_errors_X8_setWeight : GoodIn wsL_errors (wsV RL 90 RX8 yX8_setWeight wsX8_setWeight) := goodIn_app (goodIn_of _ (by decide +kernel)) ggL_errors_X8_setWeight
set_option maxRecDepth 20000 in
theorem ggL_errors_X8_setNumber : GoodIn wsL_errors wsX8_setNumber := goodIn_r _ [133, 134, 135, 23, 24, 25, 136, 137, 138, 35, 139, 68, 41, 42, 43, 44, 45, 46, 47, 48, 49, 50, 51, 52, 53, 54, 55, 56, 57, 58, 59, 60, 61, 62, 63, 64, 65, 66, 37, 67, 69, 70, 71, 72, 73, 74, 75, 76, 77, 78, 79, 80, 81, 82, 83, 84, 85, 86, 87, 88, 89, 90, 91, 92, 93, 94, 95, 96, 97, 98, 99, 100, 101, 102, 103, 104, 105, 106, 107, 108, 109, 110, 111, 112, 140, 141, 142, 143, 351, 352, 353, 354, 355, 356, 357, 358, 359, 360, 361, 362, 363, 364, 365, 366, 367, 368, 369, 370, 371, 372, 373, 374, 375, 376, 377, 378, 379, 380, 381, 382, 383, 384, 385, 386, 387, 388, 389, 390, 391] (by decide +kernel) (by decide +kernel)
set_option maxRecDepth 20000 in
theorem gL_errors_X8_setNumber : GoodIn wsL_errors (wsV RL 93 RX8 yX8_setNumber wsX8_setNumber) := goodIn_app (goodIn_of _ (by decide +kernel)) ggL_errors_X8_setNumber
set_option maxRecDepth 20000 in
theorem ggL_errors_X8_pass : GoodIn wsL_errors wsX8_pass := goodIn_r _ [147, 23, 148, 149, 25, 150, 151, 41, 42, 43, 44, 45, 46, 47, 48, 49, 50, 51, 52, 53, 54, 55, 56, 57, 58, 59, 60, 61, 62, 63, 64, 65, 35, 66, 37, 67, 68, 69, 70, 71, 72, 73, 74, 75, 76, 77, 78, 79, 80, 81, 82, 83, 84, 85, 86, 87, 88, 89, 90, 91, 92, 93, 94, 95, 96, 97, 98, 99, 100, 101, 102, 103, 104, 105, 106, 107, 108, 109, 110, 111, 112, 152, 153, 154, 155, 156, 157, 158, 159, 160, 161, 162, 163, 164, 165, 166, 167, 168, 169, 137, 138, 139, 170, 171, 172, 173, 174, 175, 176, 177, 178, 179, 180, 181, 182, 183, 184, 185, 123, 124, 125, 38, 19, 39, 40, 186, 187, 188, 189, 190, 191, 192, 193, 194, 195, 196, 197, 198, 199, 200, 201, 202, 203, 204, 205, 206, 207, 208, 209, 210, 211, 212, 213, 214, 215, 216, 217, 33, 34, 36, 218, 219, 220, 221, 222, 223, 224, 225, 226, 227, 228, 229, 230, 231, 232, 233, 234, 235, 236, 237, 238, 239, 240, 241, 242, 243, 244, 245, 246, 247, 248, 249, 250, 351, 352, 353, 354, 355, 356, 357, 358, 359, 360, 361, 362, 376, 377, 378, 379, 380, 381, 366, 367, 363, 364, 365, 368, 369, 370, 371, 372, 373, 374, 375, 382, 383, 384, 385, 386, 387, 388, 389, 390, 391] (by decide +kernel) (by decide +kernel)
set_option maxRecDepth 20000 in
theorem gL_errors_X8_pass : GoodIn wsL_errors (wsV RL 71 RX8 yX8_pass wsX8_pass) := goodIn_app (goodIn_of _ (by decide +kernel)) ggL_errors_X8_pass
set_option maxRecDepth 20000 in
theorem ggL_errors_X8_placeIn : GoodIn wsL_errors wsX8_placeIn := goodIn_r _ [254, 255, 23, 150, 256, 257, 38, 19, 39, 40, 258, 53, 54, 55, 56, 57, 58, 59, 60, 61, 62, 63, 64, 65, 35, 66, 37, 67, 68, 69, 70, 71, 72, 73, 74, 75, 76, 77, 78, 79, 80, 81, 82, 83, 84, 85, 86, 87, 88, 89, 90, 91, 92, 93, 94, 95, 96, 97, 98, 99, 100, 101, 102, 103, 104, 105, 106, 107, 108, 109, 110, 111, 112, 152, 153, 154, 155, 156, 157, 158, 159, 160, 161, 162, 163, 164, 165, 166, 167, 168, 169, 137, 138, 139, 170, 171, 172, 173, 174, 175, 176, 177, 178, 179, 180, 181, 182, 183, 184, 185, 123, 124, 125, 186, 187, 188, 189, 190, 191, 192, 193, 194, 195, 196, 197, 198, 199, 200, 201, 202, 203, 204, 205, 206, 207, 208, 209, 210, 211, 212, 213, 214, 215, 216, 217, 33, 34, 36, 218, 219, 220, 221, 222, 223, 224, 225, 226, 227, 228, 229, 230, 231, 232, 233, 234, 235, 236, 237, 238, 239, 240, 241, 242, 243, 244, 245, 246, 247, 248, 249, 250, 351, 352, 353, 354, 355, 356, 357, 358, 359, 360, 361, 362, 376, 377, 378, 379, 380, 381, 363, 364, 365, 368, 369, 370, 371, 372, 373, 374, 375, 382, 383, 384, 385, 386, 387, 388, 389, 390, 391] (by decide +kernel) (by decide +kernel)
set_option maxRecDepth 20000 in
theorem gL_errors_X8_placeIn : GoodIn wsL_errors (wsV RL 67 RX8 yX8_placeIn wsX8_placeIn) := goodIn_app (goodIn_of _ (by decide +kernel)) ggL_errors_X8_placeIn
set_option maxRecDepth 20000 in
theorem ggL_errors_L_isNone : GoodIn wsL_errors wsL_isNone := goodIn_r _ [261] (by decide +kernel) (by decide +kernel)
set_option maxRecDepth 20000 in
theorem gL_errors_L_isNone : GoodIn wsL_errors (va_wsS RL 40 yL_isNone wsL_isNone) := goodIn_app (goodIn_of _ (by decide +kernel)) ggL_errors_L_isNone
set_option maxRecDepth 20000 in
theorem ggL_errors_X8_place : GoodIn wsL_errors wsX8_place := goodIn_r _ [265, 23, 150, 256, 351, 352, 353, 354, 355, 356, 357, 358, 359, 360, 361, 362, 376, 377, 378, 379, 380, 381] (by decide +kernel) (by decide +kernel)
set_option maxRecDepth 20000 in
theorem gL_errors_X8_place : GoodIn wsL_errors (wsV RL 28 RX8 yX8_place wsX8_place) := goodIn_app (goodIn_of _ (by decide +kernel)) ggL_errors_X8_place
set_option maxRecDepth 20000 in
theorem ggL_errors_X8_count : GoodIn wsL_errors wsX8_count := goodIn_r _ [269, 23, 148, 270, 271, 272, 273, 274, 275, 276, 277, 278, 25, 279, 280, 281, 351, 352, 353, 354, 355, 356, 357, 358, 359, 360, 361, 362, 384, 385, 386, 387, 388, 389, 390, 391, 366, 367, 392, 393, 394, 395, 396] (by decide +kernel) (by decide +kernel)
set_option maxRecDepth 20000 in
theorem gL_errors_X8_count : GoodIn wsL_errors (wsV RL 52 RX8 yX8_count wsX8_count) := goodIn_app (goodIn_of _ (by decide +kernel)) ggL_errors_X8_count
set_option maxRecDepth 20000 in
theorem ggL_errors_X8_clearText : GoodIn wsL_errors wsX8_clearText := goodIn_r _ [285, 280, 281, 351, 352, 353, 354, 355, 356, 392, 393, 394, 395, 396] (by decide +kernel) (by decide +kernel)
set_option maxRecDepth 20000 in
theorem gL_errors_X8_clearText : GoodIn wsL_errors (wsV RL 105 RX8 yX8_clearText wsX8_clearText) := goodIn_app (goodIn_of _ (by decide +kernel)) ggL_errors_X8_clearText
set_option maxRecDepth 20000 in
theorem ggL_errors_X8_readBeams : GoodIn wsL_errors wsX8_readBeams := goodIn_r _ [289, 280, 23, 148, 149, 25, 290, 291, 292, 293, 294, 295, 296, 297, 298, 299, 300, 301, 302, 303, 304, 305, 306, 307, 308, 309, 310, 311, 312, 313, 314, 315, 316, 317, 318, 319, 320, 321, 322, 323, 324, 325, 326, 327, 328, 329, 41, 42, 43, 44, 45, 46, 47, 48, 49, 50, 51, 52, 53, 54, 55, 56, 57, 58, 59, 60, 61, 62, 63, 64, 65, 35, 66, 37, 67, 68, 69, 70, 71, 72, 73, 74, 75, 76, 77, 78, 79, 80, 81, 82, 83, 84, 85, 86, 87, 88, 89, 90, 91, 92, 93, 94, 95, 96, 97, 98, 99, 100, 101, 102, 103, 104, 105, 106, 107, 108, 109, 110, 111, 112, 330, 331, 332, 333, 334, 152, 153, 154, 155, 156, 157, 158, 159, 160, 161, 162, 163, 164, 165, 166, 167, 168, 169, 137, 138, 139, 170, 171, 172, 173, 174, 175, 176, 177, 178, 179, 180, 181, 182, 183, 184, 185, 123, 124, 125, 38, 19, 39, 40, 186, 187, 188, 189, 190, 191, 192, 193, 194, 195, 196, 197, 198, 199, 200, 201, 202, 203, 204, 205, 206, 207, 208, 209, 210, 211, 212, 213, 214, 215, 216, 217, 33, 34, 36, 218, 219, 220, 221, 222, 223, 224, 225, 226, 227, 228, 229, 230, 231, 232, 233, 234, 235, 236, 237, 238, 239, 240, 241, 242, 243, 244, 245, 246, 247, 248, 249, 250, 351, 352, 353, 354, 355, 356, 357, 358, 359, 360, 361, 362, 392, 393, 394, 395, 396, 366, 367, 363, 364, 365, 368, 369, 370, 371, 372, 373, 374, 375, 376, 377, 378, 379, 380, 381, 382, 383, 384, 385, 386, 387, 388, 389, 390, 391] (by decide +kernel) (by decide +kernel)
set_option maxRecDepth 20000 in
theorem gL_errors_X8_readBeams : GoodIn wsL_errors (wsV RL 112 RX8 yX8_readBeams wsX8_readBeams) := goodIn_app (goodIn_of _ (by decide +kernel)) ggL_errors_X8_readBeams
set_option maxRecDepth 20000 in
theorem ggL_errors_X8_type : GoodIn wsL_errors wsX8_type := goodIn_r _ [338, 280, 281, 339, 340, 341, 294, 342, 297, 298, 351, 352, 353, 354, 355, 356, 392, 393, 394, 395, 396] (by decide +kernel) (by decide +kernel)
set_option maxRecDepth 20000 in
theorem gL_errors_X8_type : GoodIn wsL_errors (wsV RL 108 RX8 yX8_type wsX8_type) := goodIn_app (goodIn_of _ (by decide +kernel)) ggL_errors_X8_type
set_option maxRecDepth 20000 in
theorem ggL_errors_X8_undo : GoodIn wsL_errors wsX8_undo := goodIn_r _ [346, 25, 23, 279, 347, 348, 349, 44, 350, 46, 47, 52, 53, 54, 55, 56, 57, 58, 59, 60, 61, 62, 63, 64, 65, 35, 66, 37, 67, 68, 69, 70, 71, 72, 73, 74, 75, 76, 77, 78, 79, 80, 81, 82, 83, 84, 85, 86, 87, 88, 89, 90, 91, 92, 93, 94, 95, 96, 97, 98, 99, 100, 101, 102, 103, 104, 105, 106, 107, 108, 109, 110, 111, 112, 351, 352, 353, 354, 355, 356, 366, 367, 357, 358, 359, 360, 361, 362, 363, 364, 365, 368, 369, 370, 371, 372, 373, 374, 375, 376, 377, 378, 379, 380, 381, 382, 383, 384, 385, 386, 387, 388, 389, 390, 391] (by decide +kernel) (by decide +kernel)
set_option maxRecDepth 20000 in
theorem gL_errors_X8_undo : GoodIn wsL_errors (wsV RL 122 RX8 yX8_undo wsX8_undo) := goodIn_app (goodIn_of _ (by decide +kernel)) ggL_errors_X8_undo
theorem dL_errors_0 : decode cL_errors 0 = .ok (.aload_n 0, 1) := by decide +kernel
theorem dL_errors_1 : decode cL_errors 1 = .ok (.iconst 3, 1) := by decide +kernel
theorem dL_errors_2 : decode cL_errors 2 = .ok (.iconst 1, 1) := by decide +kernel
theorem dL_errors_3 : decode cL_errors 3 = .ok (.invokestatic 84, 3) := by decide +kernel
theorem dL_errors_6 : decode cL_errors 6 = .ok (.invokevirtual 87, 3) := by decide +kernel
theorem dL_errors_9 : decode cL_errors 9 = .ok (.iconst (-1), 1) := by decide +kernel
theorem dL_errors_10 : decode cL_errors 10 = .ok (.if_icmp .ne 184, 3) := by decide +kernel
theorem dL_errors_13 : decode cL_errors 13 = .ok (.aload_n 0, 1) := by decide +kernel
theorem dL_errors_14 : decode cL_errors 14 = .ok (.iconst 0, 1) := by decide +kernel
theorem dL_errors_15 : decode cL_errors 15 = .ok (.ldc 119, 2) := by decide +kernel
theorem dL_errors_17 : decode cL_errors 17 = .ok (.invokevirtual 87, 3) := by decide +kernel
theorem dL_errors_20 : decode cL_errors 20 = .ok (.bipush (-2), 2) := by decide +kernel
theorem dL_errors_22 : decode cL_errors 22 = .ok (.if_icmp .ne 172, 3) := by decide +kernel
theorem dL_errors_25 : decode cL_errors 25 = .ok (.aload_n 0, 1) := by decide +kernel
theorem dL_errors_26 : decode cL_errors 26 = .ok (.iconst 4, 1) := by decide +kernel
theorem dL_errors_27 : decode cL_errors 27 = .ok (.iconst 0, 1) := by decide +kernel
theorem dL_errors_28 : decode cL_errors 28 = .ok (.invokevirtual 90, 3) := by decide +kernel
theorem dL_errors_31 : decode cL_errors 31 = .ok (.iconst (-1), 1) := by decide +kernel
theorem dL_errors_32 : decode cL_errors 32 = .ok (.if_icmp .ne 162, 3) := by decide +kernel
theorem dL_errors_35 : decode cL_errors 35 = .ok (.aload_n 0, 1) := by decide +kernel
theorem dL_errors_36 : decode cL_errors 36 = .ok (.iconst 0, 1) := by decide +kernel
theorem dL_errors_37 : decode cL_errors 37 = .ok (.ldc 120, 2) := by decide +kernel
theorem dL_errors_39 : decode cL_errors 39 = .ok (.invokevirtual 90, 3) := by decide +kernel
theorem dL_errors_42 : decode cL_errors 42 = .ok (.bipush (-2), 2) := by decide +kernel
theorem dL_errors_44 : decode cL_errors 44 = .ok (.if_icmp .ne 150, 3) := by decide +kernel
theorem dL_errors_47 : decode cL_errors 47 = .ok (.aload_n 0, 1) := by decide +kernel
theorem dL_errors_48 : decode cL_errors 48 = .ok (.iconst 0, 1) := by decide +kernel
theorem dL_errors_49 : decode cL_errors 49 = .ok (.ldc 121, 2) := by decide +kernel
theorem dL_errors_51 : decode cL_errors 51 = .ok (.invokevirtual 90, 3) := by decide +kernel
theorem dL_errors_54 : decode cL_errors 54 = .ok (.bipush (-2), 2) := by decide +kernel
theorem dL_errors_56 : decode cL_errors 56 = .ok (.if_icmp .ne 138, 3) := by decide +kernel
theorem dL_errors_59 : decode cL_errors 59 = .ok (.aload_n 0, 1) := by decide +kernel
theorem dL_errors_60 : decode cL_errors 60 = .ok (.iconst 5, 1) := by decide +kernel
theorem dL_errors_61 : decode cL_errors 61 = .ok (.iconst 1, 1) := by decide +kernel
theorem dL_errors_62 : decode cL_errors 62 = .ok (.invokevirtual 93, 3) := by decide +kernel
theorem dL_errors_65 : decode cL_errors 65 = .ok (.iconst (-1), 1) := by decide +kernel
theorem dL_errors_66 : decode cL_errors 66 = .ok (.if_icmp .ne 128, 3) := by decide +kernel
theorem dL_errors_69 : decode cL_errors 69 = .ok (.aload_n 0, 1) := by decide +kernel
theorem dL_errors_70 : decode cL_errors 70 = .ok (.iconst 0, 1) := by decide +kernel
theorem dL_errors_71 : decode cL_errors 71 = .ok (.iconst 0, 1) := by decide +kernel
theorem dL_errors_72 : decode cL_errors 72 = .ok (.invokevirtual 93, 3) := by decide +kernel
theorem dL_errors_75 : decode cL_errors 75 = .ok (.bipush (-2), 2) := by decide +kernel
theorem dL_errors_77 : decode cL_errors 77 = .ok (.if_icmp .ne 117, 3) := by decide +kernel
theorem dL_errors_80 : decode cL_errors 80 = .ok (.aload_n 0, 1) := by decide +kernel
theorem dL_errors_81 : decode cL_errors 81 = .ok (.iconst 4, 1) := by decide +kernel
theorem dL_errors_82 : decode cL_errors 82 = .ok (.bipush 11, 2) := by decide +kernel
theorem dL_errors_84 : decode cL_errors 84 = .ok (.invokevirtual 93, 3) := by decide +kernel
theorem dL_errors_87 : decode cL_errors 87 = .ok (.bipush (-2), 2) := by decide +kernel
theorem dL_errors_89 : decode cL_errors 89 = .ok (.if_icmp .ne 105, 3) := by decide +kernel
theorem dL_errors_92 : decode cL_errors 92 = .ok (.aload_n 0, 1) := by decide +kernel
theorem dL_errors_93 : decode cL_errors 93 = .ok (.iconst 1, 1) := by decide +kernel
theorem dL_errors_94 : decode cL_errors 94 = .ok (.bipush 6, 2) := by decide +kernel
theorem dL_errors_96 : decode cL_errors 96 = .ok (.invokevirtual 93, 3) := by decide +kernel
theorem dL_errors_99 : decode cL_errors 99 = .ok (.bipush (-2), 2) := by decide +kernel
theorem dL_errors_101 : decode cL_errors 101 = .ok (.if_icmp .ne 93, 3) := by decide +kernel
theorem dL_errors_104 : decode cL_errors 104 = .ok (.aload_n 0, 1) := by decide +kernel
theorem dL_errors_105 : decode cL_errors 105 = .ok (.bipush 8, 2) := by decide +kernel
theorem dL_errors_107 : decode cL_errors 107 = .ok (.iconst 1, 1) := by decide +kernel
theorem dL_errors_108 : decode cL_errors 108 = .ok (.invokevirtual 71, 3) := by decide +kernel
theorem dL_errors_111 : decode cL_errors 111 = .ok (.bipush (-2), 2) := by decide +kernel
theorem dL_errors_113 : decode cL_errors 113 = .ok (.if_icmp .ne 81, 3) := by decide +kernel
theorem dL_errors_116 : decode cL_errors 116 = .ok (.aload_n 0, 1) := by decide +kernel
theorem dL_errors_117 : decode cL_errors 117 = .ok (.iconst 0, 1) := by decide +kernel
theorem dL_errors_118 : decode cL_errors 118 = .ok (.iconst 0, 1) := by decide +kernel
theorem dL_errors_119 : decode cL_errors 119 = .ok (.invokevirtual 71, 3) := by decide +kernel
theorem dL_errors_122 : decode cL_errors 122 = .ok (.bipush (-2), 2) := by decide +kernel
theorem dL_errors_124 : decode cL_errors 124 = .ok (.if_icmp .ne 70, 3) := by decide +kernel
theorem dL_errors_127 : decode cL_errors 127 = .ok (.aload_n 0, 1) := by decide +kernel
theorem dL_errors_128 : decode cL_errors 128 = .ok (.iconst 0, 1) := by decide +kernel
theorem dL_errors_129 : decode cL_errors 129 = .ok (.bipush 100, 2) := by decide +kernel
theorem dL_errors_131 : decode cL_errors 131 = .ok (.invokevirtual 71, 3) := by decide +kernel
theorem dL_errors_134 : decode cL_errors 134 = .ok (.bipush (-2), 2) := by decide +kernel
theorem dL_errors_136 : decode cL_errors 136 = .ok (.if_icmp .ne 58, 3) := by decide +kernel
theorem dL_errors_139 : decode cL_errors 139 = .ok (.aload_n 0, 1) := by decide +kernel
theorem dL_errors_140 : decode cL_errors 140 = .ok (.bipush 8, 2) := by decide +kernel
theorem dL_errors_142 : decode cL_errors 142 = .ok (.iconst 1, 1) := by decide +kernel
theorem dL_errors_143 : decode cL_errors 143 = .ok (.invokevirtual 67, 3) := by decide +kernel
theorem dL_errors_146 : decode cL_errors 146 = .ok (.invokestatic 40, 3) := by decide +kernel
theorem dL_errors_149 : decode cL_errors 149 = .ok (.ifCond .eq 45, 3) := by decide +kernel
theorem dL_errors_152 : decode cL_errors 152 = .ok (.aload_n 0, 1) := by decide +kernel
theorem dL_errors_153 : decode cL_errors 153 = .ok (.iconst 0, 1) := by decide +kernel
theorem dL_errors_154 : decode cL_errors 154 = .ok (.bipush 100, 2) := by decide +kernel
theorem dL_errors_156 : decode cL_errors 156 = .ok (.invokevirtual 67, 3) := by decide +kernel
theorem dL_errors_159 : decode cL_errors 159 = .ok (.invokestatic 40, 3) := by decide +kernel
theorem dL_errors_162 : decode cL_errors 162 = .ok (.ifCond .eq 32, 3) := by decide +kernel
theorem dL_errors_165 : decode cL_errors 165 = .ok (.aload_n 0, 1) := by decide +kernel
theorem dL_errors_166 : decode cL_errors 166 = .ok (.iconst 0, 1) := by decide +kernel
theorem dL_errors_167 : decode cL_errors 167 = .ok (.iconst 0, 1) := by decide +kernel
theorem dL_errors_168 : decode cL_errors 168 = .ok (.invokevirtual 67, 3) := by decide +kernel
theorem dL_errors_171 : decode cL_errors 171 = .ok (.aload_n 0, 1) := by decide +kernel
theorem dL_errors_172 : decode cL_errors 172 = .ok (.invokevirtual 28, 3) := by decide +kernel
theorem dL_errors_175 : decode cL_errors 175 = .ok (.fcmp .l, 1) := by decide +kernel
theorem dL_errors_176 : decode cL_errors 176 = .ok (.ifCond .ne 18, 3) := by decide +kernel
theorem dL_errors_179 : decode cL_errors 179 = .ok (.aload_n 0, 1) := by decide +kernel
theorem dL_errors_180 : decode cL_errors 180 = .ok (.bipush 11, 2) := by decide +kernel
theorem dL_errors_182 : decode cL_errors 182 = .ok (.invokevirtual 52, 3) := by decide +kernel
theorem dL_errors_185 : decode cL_errors 185 = .ok (.bipush (-2), 2) := by decide +kernel
theorem dL_errors_187 : decode cL_errors 187 = .ok (.if_icmp .ne 7, 3) := by decide +kernel
theorem dL_errors_190 : decode cL_errors 190 = .ok (.iconst 1, 1) := by decide +kernel
theorem dL_errors_191 : decode cL_errors 191 = .ok (.goto 4, 3) := by decide +kernel
theorem dL_errors_194 : decode cL_errors 194 = .ok (.iconst 0, 1) := by decide +kernel
theorem dL_errors_195 : decode cL_errors 195 = .ok (.istore_n 1, 1) := by decide +kernel
theorem dL_errors_196 : decode cL_errors 196 = .ok (.aload_n 0, 1) := by decide +kernel
theorem dL_errors_197 : decode cL_errors 197 = .ok (.invokevirtual 105, 3) := by decide +kernel
theorem dL_errors_200 : decode cL_errors 200 = .ok (.pop, 1) := by decide +kernel
theorem dL_errors_201 : decode cL_errors 201 = .ok (.iload_n 1, 1) := by decide +kernel
theorem dL_errors_202 : decode cL_errors 202 = .ok (.ifCond .eq 16, 3) := by decide +kernel
theorem dL_errors_205 : decode cL_errors 205 = .ok (.aload_n 0, 1) := by decide +kernel
theorem dL_errors_206 : decode cL_errors 206 = .ok (.invokevirtual 112, 3) := by decide +kernel
theorem dL_errors_209 : decode cL_errors 209 = .ok (.bipush (-100), 2) := by decide +kernel
theorem dL_errors_211 : decode cL_errors 211 = .ok (.if_icmp .ne 7, 3) := by decide +kernel
theorem dL_errors_214 : decode cL_errors 214 = .ok (.iconst 1, 1) := by decide +kernel
theorem dL_errors_215 : decode cL_errors 215 = .ok (.goto 4, 3) := by decide +kernel
theorem dL_errors_218 : decode cL_errors 218 = .ok (.iconst 0, 1) := by decide +kernel
theorem dL_errors_219 : decode cL_errors 219 = .ok (.istore_n 1, 1) := by decide +kernel
theorem dL_errors_220 : decode cL_errors 220 = .ok (.aload_n 0, 1) := by decide +kernel
theorem dL_errors_221 : decode cL_errors 221 = .ok (.bipush 55, 2) := by decide +kernel
theorem dL_errors_223 : decode cL_errors 223 = .ok (.invokevirtual 108, 3) := by decide +kernel
theorem dL_errors_226 : decode cL_errors 226 = .ok (.pop, 1) := by decide +kernel
theorem dL_errors_227 : decode cL_errors 227 = .ok (.aload_n 0, 1) := by decide +kernel
theorem dL_errors_228 : decode cL_errors 228 = .ok (.bipush 42, 2) := by decide +kernel
theorem dL_errors_230 : decode cL_errors 230 = .ok (.invokevirtual 108, 3) := by decide +kernel
theorem dL_errors_233 : decode cL_errors 233 = .ok (.pop, 1) := by decide +kernel
theorem dL_errors_234 : decode cL_errors 234 = .ok (.aload_n 0, 1) := by decide +kernel
theorem dL_errors_235 : decode cL_errors 235 = .ok (.bipush 48, 2) := by decide +kernel
theorem dL_errors_237 : decode cL_errors 237 = .ok (.invokevirtual 108, 3) := by decide +kernel
theorem dL_errors_240 : decode cL_errors 240 = .ok (.pop, 1) := by decide +kernel
theorem dL_errors_241 : decode cL_errors 241 = .ok (.iload_n 1, 1) := by decide +kernel
theorem dL_errors_242 : decode cL_errors 242 = .ok (.ifCond .eq 24, 3) := by decide +kernel
theorem dL_errors_245 : decode cL_errors 245 = .ok (.aload_n 0, 1) := by decide +kernel
theorem dL_errors_246 : decode cL_errors 246 = .ok (.invokevirtual 112, 3) := by decide +kernel
theorem dL_errors_249 : decode cL_errors 249 = .ok (.bipush (-102), 2) := by decide +kernel
theorem dL_errors_251 : decode cL_errors 251 = .ok (.if_icmp .ne 15, 3) := by decide +kernel
theorem dL_errors_254 : decode cL_errors 254 = .ok (.aload_n 0, 1) := by decide +kernel
theorem dL_errors_255 : decode cL_errors 255 = .ok (.invokevirtual 105, 3) := by decide +kernel
theorem dL_errors_258 : decode cL_errors 258 = .ok (.iconst 3, 1) := by decide +kernel
theorem dL_errors_259 : decode cL_errors 259 = .ok (.if_icmp .ne 7, 3) := by decide +kernel
theorem dL_errors_262 : decode cL_errors 262 = .ok (.iconst 1, 1) := by decide +kernel
theorem dL_errors_263 : decode cL_errors 263 = .ok (.goto 4, 3) := by decide +kernel
theorem dL_errors_266 : decode cL_errors 266 = .ok (.iconst 0, 1) := by decide +kernel
theorem dL_errors_267 : decode cL_errors 267 = .ok (.istore_n 1, 1) := by decide +kernel
theorem dL_errors_268 : decode cL_errors 268 = .ok (.aload_n 0, 1) := by decide +kernel
theorem dL_errors_269 : decode cL_errors 269 = .ok (.bipush 55, 2) := by decide +kernel
theorem dL_errors_271 : decode cL_errors 271 = .ok (.invokevirtual 108, 3) := by decide +kernel
theorem dL_errors_274 : decode cL_errors 274 = .ok (.pop, 1) := by decide +kernel
theorem dL_errors_275 : decode cL_errors 275 = .ok (.aload_n 0, 1) := by decide +kernel
theorem dL_errors_276 : decode cL_errors 276 = .ok (.bipush 56, 2) := by decide +kernel
theorem dL_errors_278 : decode cL_errors 278 = .ok (.invokevirtual 108, 3) := by decide +kernel
theorem dL_errors_281 : decode cL_errors 281 = .ok (.pop, 1) := by decide +kernel
theorem dL_errors_282 : decode cL_errors 282 = .ok (.iload_n 1, 1) := by decide +kernel
theorem dL_errors_283 : decode cL_errors 283 = .ok (.ifCond .eq 26, 3) := by decide +kernel
theorem dL_errors_286 : decode cL_errors 286 = .ok (.aload_n 0, 1) := by decide +kernel
theorem dL_errors_287 : decode cL_errors 287 = .ok (.invokevirtual 112, 3) := by decide +kernel
theorem dL_errors_290 : decode cL_errors 290 = .ok (.bipush (-101), 2) := by decide +kernel
theorem dL_errors_292 : decode cL_errors 292 = .ok (.if_icmp .ne 17, 3) := by decide +kernel
theorem dL_errors_295 : decode cL_errors 295 = .ok (.aload_n 0, 1) := by decide +kernel
theorem dL_errors_296 : decode cL_errors 296 = .ok (.bipush 10, 2) := by decide +kernel
theorem dL_errors_298 : decode cL_errors 298 = .ok (.invokevirtual 52, 3) := by decide +kernel
theorem dL_errors_301 : decode cL_errors 301 = .ok (.iconst 2, 1) := by decide +kernel
theorem dL_errors_302 : decode cL_errors 302 = .ok (.if_icmp .ne 7, 3) := by decide +kernel
theorem dL_errors_305 : decode cL_errors 305 = .ok (.iconst 1, 1) := by decide +kernel
theorem dL_errors_306 : decode cL_errors 306 = .ok (.goto 4, 3) := by decide +kernel
theorem dL_errors_309 : decode cL_errors 309 = .ok (.iconst 0, 1) := by decide +kernel
theorem dL_errors_310 : decode cL_errors 310 = .ok (.istore_n 1, 1) := by decide +kernel
theorem dL_errors_311 : decode cL_errors 311 = .ok (.aload_n 0, 1) := by decide +kernel
theorem dL_errors_312 : decode cL_errors 312 = .ok (.bipush 9, 2) := by decide +kernel
theorem dL_errors_314 : decode cL_errors 314 = .ok (.invokevirtual 52, 3) := by decide +kernel
theorem dL_errors_317 : decode cL_errors 317 = .ok (.istore_n 2, 1) := by decide +kernel
theorem dL_errors_318 : decode cL_errors 318 = .ok (.iload_n 1, 1) := by decide +kernel
theorem dL_errors_319 : decode cL_errors 319 = .ok (.ifCond .eq 26, 3) := by decide +kernel
theorem dL_errors_322 : decode cL_errors 322 = .ok (.aload_n 0, 1) := by decide +kernel
theorem dL_errors_323 : decode cL_errors 323 = .ok (.invokevirtual 122, 3) := by decide +kernel
theorem dL_errors_326 : decode cL_errors 326 = .ok (.iload_n 2, 1) := by decide +kernel
theorem dL_errors_327 : decode cL_errors 327 = .ok (.ifCond .le 9, 3) := by decide +kernel
theorem dL_errors_330 : decode cL_errors 330 = .ok (.iload_n 2, 1) := by decide +kernel
theorem dL_errors_331 : decode cL_errors 331 = .ok (.iconst 1, 1) := by decide +kernel
theorem dL_errors_332 : decode cL_errors 332 = .ok (.isub, 1) := by decide +kernel
theorem dL_errors_333 : decode cL_errors 333 = .ok (.goto 5, 3) := by decide +kernel
theorem dL_errors_336 : decode cL_errors 336 = .ok (.bipush (-5), 2) := by decide +kernel
theorem dL_errors_338 : decode cL_errors 338 = .ok (.if_icmp .ne 7, 3) := by decide +kernel
theorem dL_errors_341 : decode cL_errors 341 = .ok (.iconst 1, 1) := by decide +kernel
theorem dL_errors_342 : decode cL_errors 342 = .ok (.goto 4, 3) := by decide +kernel
theorem dL_errors_345 : decode cL_errors 345 = .ok (.iconst 0, 1) := by decide +kernel
theorem dL_errors_346 : decode cL_errors 346 = .ok (.ireturn, 1) := by decide +kernel

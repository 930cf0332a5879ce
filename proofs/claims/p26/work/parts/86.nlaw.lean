/-! names of the law (printed) -/
theorem inlX0 : ∀ w ∈ wsX00, w ∈ wsL_law := fun _ h => List.mem_append_left _ (List.mem_append_left _ (List.mem_append_left _ (List.mem_append_left _ (List.mem_append_left _ (List.mem_append_left _ (List.mem_append_right _ h))))))
theorem inlX1 : ∀ w ∈ wsX10, w ∈ wsL_law := fun _ h => List.mem_append_left _ (List.mem_append_left _ (List.mem_append_left _ (List.mem_append_right _ h)))
theorem inlX2 : ∀ w ∈ wsX20, w ∈ wsL_law := fun _ h => List.mem_append_left _ (List.mem_append_left _ (List.mem_append_left _ (List.mem_append_left _ (List.mem_append_left _ (List.mem_append_left _ (List.mem_append_left _ (List.mem_append_right _ h)))))))
theorem inlX3 : ∀ w ∈ wsX30, w ∈ wsL_law := fun _ h => List.mem_append_left _ (List.mem_append_left _ (List.mem_append_right _ h))
theorem inlX4 : ∀ w ∈ wsX40, w ∈ wsL_law := fun _ h => List.mem_append_left _ (List.mem_append_left _ (List.mem_append_left _ (List.mem_append_left _ (List.mem_append_left _ (List.mem_append_right _ h)))))
theorem inlX5 : ∀ w ∈ wsX50, w ∈ wsL_law := fun _ h => List.mem_append_left _ (List.mem_append_left _ (List.mem_append_left _ (List.mem_append_left _ (List.mem_append_left _ (List.mem_append_left _ (List.mem_append_left _ (List.mem_append_left _ (List.mem_append_right _ h))))))))
theorem inlX6 : ∀ w ∈ wsX60, w ∈ wsL_law := fun _ h => List.mem_append_left _ (List.mem_append_right _ h)
theorem inlX7 : ∀ w ∈ wsX70, w ∈ wsL_law := fun _ h => List.mem_append_left _ (List.mem_append_left _ (List.mem_append_left _ (List.mem_append_left _ (List.mem_append_right _ h))))
theorem inlX8 : ∀ w ∈ wsX80, w ∈ wsL_law := fun _ h => List.mem_append_left _ (List.mem_append_left _ (List.mem_append_left _ (List.mem_append_left _ (List.mem_append_left _ (List.mem_append_left _ (List.mem_append_left _ (List.mem_append_left _ (List.mem_append_left _ (List.mem_append_right _ h)))))))))
set_option maxRecDepth 20000 in
theorem ggL_law_X8_init : GoodIn wsL_law wsX8_init := goodIn_r _ [5, 6, 7, 8, 9, 10, 11, 12, 13, 14, 15, 16, 17, 18, 19, 20, 21, 22, 23, 24, 25, 26, 27, 28, 29, 30, 31, 32, 33, 34, 35, 36, 37, 38, 39, 40, 41, 42, 43, 44, 45, 46, 47, 48, 49, 50, 51, 52, 53, 54, 55, 56, 57, 58, 59, 60, 61, 62, 63, 64, 65, 66, 67, 68, 69, 70, 71, 72, 73, 74, 75, 76, 77, 78, 79, 80, 81, 82, 516, 517, 518, 519, 520, 521, 510, 511, 512, 513, 514, 515, 522, 523, 524, 525, 526, 527, 528, 529, 530, 531, 532, 533, 534, 535, 536, 537, 538, 539, 540, 541, 542, 543, 544, 545, 546, 547, 548, 549, 550, 551, 552, 553, 554, 555] (by decide +kernel) (by decide +kernel)
set_option maxRecDepth 20000 in
theorem gL_law_X8_init : GoodIn wsL_law (wsX8_init) := ggL_law_X8_init
set_option maxRecDepth 20000 in
theorem ggL_law_L_cell : GoodIn wsL_law wsL_cell := goodIn_r _ [86, 87] (by decide +kernel) (by decide +kernel)
set_option maxRecDepth 20000 in
theorem gL_law_L_cell : GoodIn wsL_law (va_wsS RL 126 yL_cell wsL_cell) := goodIn_app (goodIn_of _ (by decide +kernel)) ggL_law_L_cell
set_option maxRecDepth 20000 in
theorem ggL_law_L_acts : GoodIn wsL_law wsL_acts := goodIn_r _ [90, 91, 92, 85, 93, 94, 95, 96, 97, 2, 98, 12, 99, 100, 101, 102, 11, 103, 37, 104, 29, 105, 106, 107, 28, 108, 55, 109, 110, 111, 112, 52, 113, 114, 115, 116, 117, 118, 119, 120, 121, 122, 123, 124, 125, 126, 127, 128, 129, 130, 131, 132, 133, 134, 135, 136, 137, 138, 139, 140, 18, 141, 142, 143, 144, 145, 146, 147, 148, 149, 17, 150, 151, 75, 152, 153, 154, 155, 156, 157, 158, 159, 33, 41, 45, 160, 161, 162, 163, 164, 53, 165, 166, 167, 32, 168, 169, 170, 171, 172, 173, 174, 175, 176, 177, 178, 179, 36, 180, 181, 62, 182, 183, 184, 185, 186, 187, 188, 40, 189, 66, 190, 191, 192, 193, 44, 194, 195, 196, 197, 198, 199, 200, 201, 202, 203, 204, 205, 206, 207, 208, 209, 210, 211, 212, 213, 214, 215, 216, 217, 218, 219, 220, 221, 222, 223, 224, 225, 226, 227, 228, 229, 230, 231, 232, 233, 234, 235, 236, 237, 238, 239, 240, 241, 242, 243, 244, 245, 246, 247, 248, 249, 250, 251, 252, 253, 254, 255, 256, 257, 258, 259, 260, 261, 262, 263, 264, 265, 266, 267, 268, 269, 270, 271, 13, 272, 273, 274, 275, 276, 277, 278, 279, 280, 281, 282, 283, 284, 285, 286, 287, 288, 289, 290, 291, 292, 293, 294, 295, 296, 297, 298, 299, 300, 301, 302, 303, 304, 305, 306, 307, 308, 309, 310, 311, 312, 313, 314, 315, 316, 317, 318, 319, 320, 321, 322, 323, 324, 325, 326, 327, 328, 329, 330, 331, 332, 333, 334, 335, 336, 337, 338, 339, 340, 341, 342, 343, 344, 345, 346, 347, 348, 349, 350, 351, 352, 353, 354, 355, 356, 357, 358, 359, 360, 361, 362, 363, 364, 365, 366, 367, 368, 369, 370, 371, 372, 373, 374, 375, 22, 376, 377, 378, 379, 380, 381, 382, 383, 384, 385, 386, 387, 388, 389, 390, 391, 392, 393, 394, 395, 396, 397, 398, 399, 400, 401, 402, 21, 403, 404, 80, 405, 406, 407, 408, 409, 410, 411, 412, 413, 414, 415, 416, 417, 418, 419, 420, 421, 422, 423, 424, 425, 426, 427, 428, 429, 430, 431, 81, 82, 432, 433, 434, 435, 436, 437, 438, 439, 440, 441, 442, 443, 444, 445, 446, 447, 448, 449, 450, 451, 452, 453, 454, 455, 456, 457, 458, 459, 460, 461, 462, 463, 464, 465, 466, 467, 468, 469, 470, 471, 472, 473, 474, 475, 476, 477, 478, 479, 510, 511, 512, 513, 514, 515, 516, 517, 518, 519, 520, 521, 540, 541, 542, 543, 544, 545, 529, 530, 531, 522, 523, 532, 533, 534, 535, 536, 537, 538, 539, 546, 547, 548, 549, 550, 551, 552, 553, 554, 555, 524, 525, 526, 527, 528] (by decide +kernel) (by decide +kernel)
set_option maxRecDepth 20000 in
theorem gL_law_L_acts : GoodIn wsL_law (va_wsS RL 130 yL_acts wsL_acts) := goodIn_app (goodIn_of _ (by decide +kernel)) ggL_law_L_acts
set_option maxRecDepth 20000 in
theorem ggL_law_L_told : GoodIn wsL_law wsL_told := goodIn_r _ [482, 456, 239, 240, 241, 2, 242, 12, 243, 244, 245, 246, 247, 248, 249, 250, 251, 252, 449, 450, 451, 452, 224, 225, 226, 227, 99, 228, 106, 107, 28, 108, 55, 95, 96, 97, 98, 100, 101, 102, 11, 103, 37, 104, 29, 105, 109, 110, 111, 112, 52, 113, 114, 115, 483, 484, 85, 485, 207, 208, 209, 210, 211, 212, 213, 214, 53, 486, 487, 488, 489, 461, 462, 381, 490, 302, 303, 32, 304, 305, 306, 307, 308, 172, 173, 174, 171, 309, 310, 361, 362, 363, 364, 365, 366, 367, 368, 369, 370, 371, 372, 373, 374, 18, 375, 22, 376, 471, 472, 473, 474, 475, 476, 477, 478, 40, 479, 190, 66, 491, 492, 493, 494, 495, 457, 458, 459, 460, 463, 464, 465, 466, 467, 468, 469, 470, 297, 298, 299, 300, 301, 510, 511, 512, 513, 514, 515, 516, 517, 518, 519, 520, 521, 540, 541, 542, 543, 544, 545, 529, 530, 531, 532, 533, 534, 535, 536, 537, 538, 539, 548, 549, 550, 551, 552, 553, 554, 555, 522, 523, 524, 525, 526, 527, 528, 546, 547] (by decide +kernel) (by decide +kernel)
set_option maxRecDepth 20000 in
theorem gL_law_L_told : GoodIn wsL_law (va_wsS RL 134 yL_told wsL_told) := goodIn_app (goodIn_of _ (by decide +kernel)) ggL_law_L_told
set_option maxRecDepth 20000 in
theorem ggL_law_L_errors : GoodIn wsL_law wsL_errors := goodIn_r _ [498, 499, 500, 501, 124, 125, 85, 126, 127, 128, 129, 130, 131, 132, 133, 134, 135, 136, 137, 2, 138, 139, 140, 12, 99, 18, 141, 142, 143, 144, 145, 146, 109, 110, 111, 28, 112, 52, 113, 114, 115, 147, 148, 149, 17, 150, 151, 75, 152, 153, 154, 155, 156, 157, 158, 11, 159, 29, 33, 37, 41, 45, 160, 161, 162, 163, 164, 53, 55, 165, 166, 167, 32, 168, 169, 170, 171, 172, 173, 174, 175, 176, 177, 178, 179, 36, 180, 181, 62, 182, 183, 184, 185, 186, 187, 188, 40, 189, 66, 190, 191, 192, 193, 44, 194, 195, 196, 197, 198, 199, 200, 201, 202, 203, 204, 205, 206, 215, 216, 217, 218, 219, 211, 212, 213, 214, 220, 221, 222, 223, 229, 230, 231, 232, 233, 234, 228, 106, 107, 108, 235, 236, 237, 238, 387, 388, 389, 390, 365, 391, 243, 244, 382, 383, 384, 385, 386, 274, 275, 276, 277, 278, 279, 280, 281, 282, 283, 284, 285, 105, 286, 287, 288, 289, 290, 291, 292, 293, 294, 104, 295, 296, 297, 298, 299, 300, 301, 302, 303, 304, 305, 306, 307, 308, 309, 310, 311, 312, 313, 314, 315, 316, 317, 318, 319, 320, 251, 252, 321, 322, 323, 324, 325, 326, 327, 328, 329, 330, 331, 332, 333, 334, 335, 336, 337, 338, 339, 340, 341, 342, 343, 344, 345, 101, 102, 103, 346, 347, 348, 349, 350, 351, 352, 353, 354, 355, 356, 357, 358, 359, 360, 377, 378, 379, 380, 13, 249, 381, 272, 483, 484, 485, 449, 450, 451, 452, 361, 362, 363, 364, 366, 367, 368, 369, 370, 371, 372, 373, 374, 375, 22, 376, 392, 393, 394, 395, 405, 406, 407, 408, 409, 410, 411, 412, 21, 413, 414, 404, 80, 415, 416, 417, 418, 419, 420, 421, 422, 423, 424, 425, 426, 427, 428, 429, 430, 431, 81, 82, 432, 433, 434, 435, 436, 437, 438, 439, 440, 441, 442, 443, 444, 445, 446, 447, 448, 396, 397, 398, 399, 400, 401, 402, 403, 502, 503, 504, 505, 506, 507, 508, 509, 510, 511, 512, 513, 514, 515, 516, 517, 518, 519, 520, 521, 529, 530, 531, 522, 523, 532, 533, 534, 535, 536, 537, 538, 539, 540, 541, 542, 543, 544, 545, 546, 547, 548, 549, 550, 551, 552, 553, 554, 555, 524, 525, 526, 527, 528] (by decide +kernel) (by decide +kernel)
set_option maxRecDepth 20000 in
theorem gL_law_L_errors : GoodIn wsL_law (va_wsS RL 137 yL_errors wsL_errors) := goodIn_app (goodIn_of _ (by decide +kernel)) ggL_law_L_errors
theorem dL_law_0 : decode cL_law 0 = .ok (.new 23, 3) := by decide +kernel
theorem dL_law_3 : decode cL_law 3 = .ok (.dup, 1) := by decide +kernel
theorem dL_law_4 : decode cL_law 4 = .ok (.invokespecial 125, 3) := by decide +kernel
theorem dL_law_7 : decode cL_law 7 = .ok (.astore_n 1, 1) := by decide +kernel
theorem dL_law_8 : decode cL_law 8 = .ok (.iconst 0, 1) := by decide +kernel
theorem dL_law_9 : decode cL_law 9 = .ok (.istore_n 2, 1) := by decide +kernel
theorem dL_law_10 : decode cL_law 10 = .ok (.iload_n 2, 1) := by decide +kernel
theorem dL_law_11 : decode cL_law 11 = .ok (.bipush 60, 2) := by decide +kernel
theorem dL_law_13 : decode cL_law 13 = .ok (.if_icmp .ge 41, 3) := by decide +kernel
theorem dL_law_16 : decode cL_law 16 = .ok (.aload_n 1, 1) := by decide +kernel
theorem dL_law_17 : decode cL_law 17 = .ok (.aload_n 0, 1) := by decide +kernel
theorem dL_law_18 : decode cL_law 18 = .ok (.iconst 2, 1) := by decide +kernel
theorem dL_law_19 : decode cL_law 19 = .ok (.iload_n 2, 1) := by decide +kernel
theorem dL_law_20 : decode cL_law 20 = .ok (.imul, 1) := by decide +kernel
theorem dL_law_21 : decode cL_law 21 = .ok (.invokestatic 126, 3) := by decide +kernel
theorem dL_law_24 : decode cL_law 24 = .ok (.aload_n 0, 1) := by decide +kernel
theorem dL_law_25 : decode cL_law 25 = .ok (.iconst 2, 1) := by decide +kernel
theorem dL_law_26 : decode cL_law 26 = .ok (.iload_n 2, 1) := by decide +kernel
theorem dL_law_27 : decode cL_law 27 = .ok (.imul, 1) := by decide +kernel
theorem dL_law_28 : decode cL_law 28 = .ok (.iconst 1, 1) := by decide +kernel
theorem dL_law_29 : decode cL_law 29 = .ok (.iadd, 1) := by decide +kernel
theorem dL_law_30 : decode cL_law 30 = .ok (.invokestatic 126, 3) := by decide +kernel
theorem dL_law_33 : decode cL_law 33 = .ok (.invokestatic 130, 3) := by decide +kernel
theorem dL_law_36 : decode cL_law 36 = .ok (.ifCond .eq 10, 3) := by decide +kernel
theorem dL_law_39 : decode cL_law 39 = .ok (.aload_n 1, 1) := by decide +kernel
theorem dL_law_40 : decode cL_law 40 = .ok (.invokestatic 134, 3) := by decide +kernel
theorem dL_law_43 : decode cL_law 43 = .ok (.ifCond .ne 5, 3) := by decide +kernel
theorem dL_law_46 : decode cL_law 46 = .ok (.iconst 0, 1) := by decide +kernel
theorem dL_law_47 : decode cL_law 47 = .ok (.ireturn, 1) := by decide +kernel
theorem dL_law_48 : decode cL_law 48 = .ok (.iinc 2 1, 3) := by decide +kernel
theorem dL_law_51 : decode cL_law 51 = .ok (.goto (-41), 3) := by decide +kernel
theorem dL_law_54 : decode cL_law 54 = .ok (.aload_n 1, 1) := by decide +kernel
theorem dL_law_55 : decode cL_law 55 = .ok (.invokestatic 137, 3) := by decide +kernel
theorem dL_law_58 : decode cL_law 58 = .ok (.ireturn, 1) := by decide +kernel

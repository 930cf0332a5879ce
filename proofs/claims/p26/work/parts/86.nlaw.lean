/-! names of the law (printed) -/
theorem inlX0 : ∀ w ∈ wsX00, w ∈ wsL_law := fun _ h => List.mem_append_left _ (List.mem_append_left _ (List.mem_append_left _ (List.mem_append_left _ (List.mem_append_left _ (List.mem_append_left _ (List.mem_append_right _ h))))))
theorem inlX1 : ∀ w ∈ wsX10, w ∈ wsL_law := fun _ h => List.mem_append_left _ (List.mem_append_left _ (List.mem_append_left _ (List.mem_append_right _ h)))
theorem inlX2 : ∀ w ∈ wsX20, w ∈ wsL_law := fun _ h => List.mem_append_left _ (List.mem_append_left _ (List.mem_append_left _ (List.mem_append_left _ (List.mem_append_left _ (List.mem_append_left _ (List.mem_append_left _ (List.mem_append_right _ h)))))))
theorem inlX3 : ∀ w ∈ wsX30, w ∈ wsL_law := fun _ h => List.mem_append_left _ (List.mem_append_left _ (List.mem_append_right _ h))
theorem inlX4 : ∀ w ∈ wsX40, w ∈ wsL_law := fun _ h => List.mem_append_left _ (List.mem_append_left _ (List.mem_append_left _ (List.mem_append_left _ (List.mem_append_left _ (List.mem_append_right _ h)))))
theorem inlX5 : ∀ w ∈ wsX50, w ∈ wsL_law := fun _ h => List.mem_append_left _ (List.mem_append_left _ (List.mem_append_left _ (List.mem_append_left _ (List.mem_append_left _ (List.mem_append_left _ (List.mem_append_left _ (List.mem_append_left _ (List.mem_append_right _ h))))))))
theorem inlX6 : ∀ w ∈ wsX60, w ∈ wsL_law := fun _ h => List.mem_append_left _ (List.mem_append_right _ h)
theorem inlX7 : ∀ w ∈ wsX70, w ∈ wsL_law := fun _ h => List.mem_append_left _ (List.mem_append_left _ (List.mem_append_left _ (List.mem_append_left _ (List.mem_append_right _ h))))
theorem inlX8 : ∀ w ∈ wsX80, w ∈ wsL_law := fun _ h => List.mem_append_left _ (List.mem_append_left _ (List.mem_append_left _ (List.mem_append_left _ (List.mem_append_left _ (List.mem_append_left _ (List.mem_append_left _ (List.mem_append_left _ (List.mem_append_left _ (List.mem_append_right _ h)))))))))
set_option maxRecDepth 20000 in
theorem ggL_law_X8_init : GoodIn wsL_law wsX8_init := goodIn_r _ [5, 6, 7, 8, 9, 10, 11, 12, 13, 14, 15, 16, 17, 18, 19, 20, 21, 22, 23, 24, 25, 26, 27, 28, 29, 30, 31, 32, 33, 34, 35, 36, 37, 38, 39, 40, 41, 42, 43, 44, 45, 46, 47, 48, 49, 50, 51, 52, 53, 54, 55, 56, 57, 58, 59, 60, 61, 62, 63, 64, 65, 66, 67, 68, 69, 70, 71, 72, 73, 74, 75, 76, 77, 78, 79, 80, 81, 82, 516, 517, 518, 519, 520, 521, 510, 511, 512, 513, 514, 515, 522, 523, 524, 525, 526, 527, 528, 529, 530, 531, 532, 533, 534, 535, 536, 537, 538, 539, 540, 541, 542, 543, 544, 545, 546, 547, 548, 549, 550, 551, 552, 553, 554, 555] (by decide +kernel) (by decide +kernel)
set_option maxRecDepth 20000 in
theorem gL_law_X8_init : GoodIn wsL_law (wsX8_init) := ggL_law_X8_init
set_option maxRecDepth 20000 in
theorem ggL_law_L_cell : GoodIn wsL_law wsL_cell := goodIn_r _ [86, 87] (by decide +kernel) (by decide +kernel)
set_option maxRecDepth 20000 in
theorem gL_law_L_cell : GoodIn wsL_law (va_wsS RL 126 yL_cell wsL_cell) := goodIn_app (goodIn_of _ (by decide +kernel)) ggL_law_L_cell
set_option maxRecDepth 20000 in
theorem ggL_law_L_acts_0 : ∀ w ∈ (wsL_acts.drop (40 * 0)).take 40, w ∈ wsL_law := chunk_pn [90, 93, 98, 103, 108, 112, 114, 118] [91, 92, 85, 94, 95, 96, 97, 2, 12, 99, 100, 101, 102, 11, 37, 104, 29, 105, 106, 107, 28, 55, 109, 110, 111, 52, 113, 115, 116, 117, 119, 120] rfl (by decide +kernel)
set_option maxRecDepth 20000 in
theorem ggL_law_L_acts_1 : ∀ w ∈ (wsL_acts.drop (40 * 1)).take 40, w ∈ wsL_law := chunk_pn [126, 138, 143, 150, 155] [121, 122, 123, 124, 125, 127, 128, 129, 130, 131, 132, 133, 134, 135, 136, 137, 139, 140, 18, 141, 142, 144, 145, 146, 147, 148, 149, 17, 151, 75, 152, 153, 154, 156, 157] rfl (by decide +kernel)
set_option maxRecDepth 20000 in
theorem ggL_law_L_acts_2 : ∀ w ∈ (wsL_acts.drop (40 * 2)).take 40, w ∈ wsL_law := chunk_pn [159, 164, 168, 180, 189] [158, 33, 41, 45, 160, 161, 162, 163, 53, 165, 166, 167, 32, 169, 170, 171, 172, 173, 174, 175, 176, 177, 178, 179, 36, 181, 62, 182, 183, 184, 185, 186, 187, 188, 40] rfl (by decide +kernel)
set_option maxRecDepth 20000 in
theorem ggL_law_L_acts_3 : ∀ w ∈ (wsL_acts.drop (40 * 3)).take 40, w ∈ wsL_law := chunk_pn [194, 206, 210, 214, 218, 223, 227] [66, 190, 191, 192, 193, 44, 195, 196, 197, 198, 199, 200, 201, 202, 203, 204, 205, 207, 208, 209, 211, 212, 213, 215, 216, 217, 219, 220, 221, 222, 224, 225, 226] rfl (by decide +kernel)
set_option maxRecDepth 20000 in
theorem ggL_law_L_acts_4 : ∀ w ∈ (wsL_acts.drop (40 * 4)).take 40, w ∈ wsL_law := chunk_pn [232, 238, 242, 252, 256, 260, 264, 267] [228, 229, 230, 231, 233, 234, 235, 236, 237, 239, 240, 241, 243, 244, 245, 246, 247, 248, 249, 250, 251, 253, 254, 255, 257, 258, 259, 261, 262, 263, 265, 266] rfl (by decide +kernel)
set_option maxRecDepth 20000 in
theorem ggL_law_L_acts_5 : ∀ w ∈ (wsL_acts.drop (40 * 5)).take 40, w ∈ wsL_law := chunk_pn [271, 276, 281, 285, 289, 293, 299, 304] [268, 269, 270, 13, 272, 273, 274, 275, 277, 278, 279, 280, 282, 283, 284, 286, 287, 288, 290, 291, 292, 294, 295, 296, 297, 298, 300, 301, 302, 303, 305, 306] rfl (by decide +kernel)
set_option maxRecDepth 20000 in
theorem ggL_law_L_acts_6 : ∀ w ∈ (wsL_acts.drop (40 * 6)).take 40, w ∈ wsL_law := chunk_pn [308, 314, 320, 324, 328, 334, 339, 343] [307, 309, 310, 311, 312, 313, 315, 316, 317, 318, 319, 321, 322, 323, 325, 326, 327, 329, 330, 331, 332, 333, 335, 336, 337, 338, 340, 341, 342, 344, 345, 346] rfl (by decide +kernel)
set_option maxRecDepth 20000 in
theorem ggL_law_L_acts_7 : ∀ w ∈ (wsL_acts.drop (40 * 7)).take 40, w ∈ wsL_law := chunk_pn [349, 353, 357, 364, 380, 385] [347, 348, 350, 351, 352, 354, 355, 356, 358, 359, 360, 361, 362, 363, 365, 366, 367, 368, 369, 370, 371, 372, 373, 374, 375, 22, 376, 377, 378, 379, 381, 382, 383, 384] rfl (by decide +kernel)
set_option maxRecDepth 20000 in
theorem ggL_law_L_acts_8 : ∀ w ∈ (wsL_acts.drop (40 * 8)).take 40, w ∈ wsL_law := chunk_pn [390, 395, 399, 403, 408, 413, 417, 420, 423] [386, 387, 388, 389, 391, 392, 393, 394, 396, 397, 398, 400, 401, 402, 21, 404, 80, 405, 406, 407, 409, 410, 411, 412, 414, 415, 416, 418, 419, 421, 422] rfl (by decide +kernel)
set_option maxRecDepth 20000 in
theorem ggL_law_L_acts_9 : ∀ w ∈ (wsL_acts.drop (40 * 9)).take 40, w ∈ wsL_law := chunk_pn [427, 431, 435, 439, 443, 447, 452, 455, 460] [424, 425, 426, 428, 429, 430, 81, 82, 432, 433, 434, 436, 437, 438, 440, 441, 442, 444, 445, 446, 448, 449, 450, 451, 453, 454, 456, 457, 458, 459, 461] rfl (by decide +kernel)
set_option maxRecDepth 20000 in
theorem ggL_law_L_acts_10 : ∀ w ∈ (wsL_acts.drop (40 * 10)).take 40, w ∈ wsL_law := chunk_pn [474, 479] [462, 463, 464, 465, 466, 467, 468, 469, 470, 471, 472, 473, 475, 476, 477, 478, 510, 511, 512, 513, 514, 515, 516, 517, 518, 519, 520, 521, 540, 541, 542, 543, 544, 545, 529, 530, 531, 522] rfl (by decide +kernel)
set_option maxRecDepth 20000 in
theorem ggL_law_L_acts_11 : ∀ w ∈ (wsL_acts.drop (40 * 11)).take 40, w ∈ wsL_law := chunk_pn [] [523, 532, 533, 534, 535, 536, 537, 538, 539, 546, 547, 548, 549, 550, 551, 552, 553, 554, 555, 524, 525, 526, 527, 528] rfl (by decide +kernel)
set_option maxRecDepth 20000 in
theorem ggL_law_L_acts : GoodIn wsL_law wsL_acts := chunk_in 40 (by decide) 12 (by decide +kernel) (fun k hk => by
  rcases (show k = 0 ∨ k = 1 ∨ k = 2 ∨ k = 3 ∨ k = 4 ∨ k = 5 ∨ k = 6 ∨ k = 7 ∨ k = 8 ∨ k = 9 ∨ k = 10 ∨ k = 11 by omega) with rfl | rfl | rfl | rfl | rfl | rfl | rfl | rfl | rfl | rfl | rfl | rfl
  · exact ggL_law_L_acts_0
  · exact ggL_law_L_acts_1
  · exact ggL_law_L_acts_2
  · exact ggL_law_L_acts_3
  · exact ggL_law_L_acts_4
  · exact ggL_law_L_acts_5
  · exact ggL_law_L_acts_6
  · exact ggL_law_L_acts_7
  · exact ggL_law_L_acts_8
  · exact ggL_law_L_acts_9
  · exact ggL_law_L_acts_10
  · exact ggL_law_L_acts_11) (by decide +kernel)
set_option maxRecDepth 20000 in
theorem gL_law_L_acts : GoodIn wsL_law (va_wsS RL 130 yL_acts wsL_acts) := goodIn_app (goodIn_of _ (by decide +kernel)) ggL_law_L_acts
set_option maxRecDepth 20000 in
theorem ggL_law_L_told_0 : ∀ w ∈ (wsL_told.drop (40 * 0)).take 40, w ∈ wsL_law := chunk_pn [482, 242, 252, 452, 227, 108, 98] [456, 239, 240, 241, 2, 12, 243, 244, 245, 246, 247, 248, 249, 250, 251, 449, 450, 451, 224, 225, 226, 99, 228, 106, 107, 28, 55, 95, 96, 97, 100, 101, 102] rfl (by decide +kernel)
set_option maxRecDepth 20000 in
theorem ggL_law_L_told_1 : ∀ w ∈ (wsL_told.drop (40 * 1)).take 40, w ∈ wsL_law := chunk_pn [103, 112, 114, 485, 210, 214, 489, 304] [11, 37, 104, 29, 105, 109, 110, 111, 52, 113, 115, 483, 484, 85, 207, 208, 209, 211, 212, 213, 53, 486, 487, 488, 461, 462, 381, 490, 302, 303, 32, 305] rfl (by decide +kernel)
set_option maxRecDepth 20000 in
theorem ggL_law_L_told_2 : ∀ w ∈ (wsL_told.drop (40 * 2)).take 40, w ∈ wsL_law := chunk_pn [308, 364, 474, 479] [306, 307, 172, 173, 174, 171, 309, 310, 361, 362, 363, 365, 366, 367, 368, 369, 370, 371, 372, 373, 374, 18, 375, 22, 376, 471, 472, 473, 475, 476, 477, 478, 40, 190, 66, 491] rfl (by decide +kernel)
set_option maxRecDepth 20000 in
theorem ggL_law_L_told_3 : ∀ w ∈ (wsL_told.drop (40 * 3)).take 40, w ∈ wsL_law := chunk_pn [493, 460, 299] [492, 494, 495, 457, 458, 459, 463, 464, 465, 466, 467, 468, 469, 470, 297, 298, 300, 301, 510, 511, 512, 513, 514, 515, 516, 517, 518, 519, 520, 521, 540, 541, 542, 543, 544, 545, 529] rfl (by decide +kernel)
set_option maxRecDepth 20000 in
theorem ggL_law_L_told_4 : ∀ w ∈ (wsL_told.drop (40 * 4)).take 40, w ∈ wsL_law := chunk_pn [] [530, 531, 532, 533, 534, 535, 536, 537, 538, 539, 548, 549, 550, 551, 552, 553, 554, 555, 522, 523, 524, 525, 526, 527, 528, 546, 547] rfl (by decide +kernel)
set_option maxRecDepth 20000 in
theorem ggL_law_L_told : GoodIn wsL_law wsL_told := chunk_in 40 (by decide) 5 (by decide +kernel) (fun k hk => by
  rcases (show k = 0 ∨ k = 1 ∨ k = 2 ∨ k = 3 ∨ k = 4 by omega) with rfl | rfl | rfl | rfl | rfl
  · exact ggL_law_L_told_0
  · exact ggL_law_L_told_1
  · exact ggL_law_L_told_2
  · exact ggL_law_L_told_3
  · exact ggL_law_L_told_4) (by decide +kernel)
set_option maxRecDepth 20000 in
theorem gL_law_L_told : GoodIn wsL_law (va_wsS RL 134 yL_told wsL_told) := goodIn_app (goodIn_of _ (by decide +kernel)) ggL_law_L_told
set_option maxRecDepth 20000 in
theorem ggL_law_L_errors_0 : ∀ w ∈ (wsL_errors.drop (40 * 0)).take 40, w ∈ wsL_law := chunk_pn [498, 126, 138, 143, 112, 114] [499, 500, 501, 124, 125, 85, 127, 128, 129, 130, 131, 132, 133, 134, 135, 136, 137, 2, 139, 140, 12, 99, 18, 141, 142, 144, 145, 146, 109, 110, 111, 28, 52, 113] rfl (by decide +kernel)
set_option maxRecDepth 20000 in
theorem ggL_law_L_errors_1 : ∀ w ∈ (wsL_errors.drop (40 * 1)).take 40, w ∈ wsL_law := chunk_pn [150, 155, 159, 164, 168] [115, 147, 148, 149, 17, 151, 75, 152, 153, 154, 156, 157, 158, 11, 29, 33, 37, 41, 45, 160, 161, 162, 163, 53, 55, 165, 166, 167, 32, 169, 170, 171, 172, 173, 174] rfl (by decide +kernel)
set_option maxRecDepth 20000 in
theorem ggL_law_L_errors_2 : ∀ w ∈ (wsL_errors.drop (40 * 2)).take 40, w ∈ wsL_law := chunk_pn [180, 189, 194, 206] [175, 176, 177, 178, 179, 36, 181, 62, 182, 183, 184, 185, 186, 187, 188, 40, 66, 190, 191, 192, 193, 44, 195, 196, 197, 198, 199, 200, 201, 202, 203, 204, 205, 215, 216, 217] rfl (by decide +kernel)
set_option maxRecDepth 20000 in
theorem ggL_law_L_errors_3 : ∀ w ∈ (wsL_errors.drop (40 * 3)).take 40, w ∈ wsL_law := chunk_pn [218, 214, 223, 232, 108, 238, 390, 385, 276] [219, 211, 212, 213, 220, 221, 222, 229, 230, 231, 233, 234, 228, 106, 107, 235, 236, 237, 387, 388, 389, 365, 391, 243, 244, 382, 383, 384, 386, 274, 275] rfl (by decide +kernel)
set_option maxRecDepth 20000 in
theorem ggL_law_L_errors_4 : ∀ w ∈ (wsL_errors.drop (40 * 4)).take 40, w ∈ wsL_law := chunk_pn [281, 285, 289, 293, 299, 304, 308, 314] [277, 278, 279, 280, 282, 283, 284, 105, 286, 287, 288, 290, 291, 292, 294, 104, 295, 296, 297, 298, 300, 301, 302, 303, 305, 306, 307, 309, 310, 311, 312, 313] rfl (by decide +kernel)
set_option maxRecDepth 20000 in
theorem ggL_law_L_errors_5 : ∀ w ∈ (wsL_errors.drop (40 * 5)).take 40, w ∈ wsL_law := chunk_pn [320, 252, 324, 328, 334, 339, 343, 103, 349] [315, 316, 317, 318, 319, 251, 321, 322, 323, 325, 326, 327, 329, 330, 331, 332, 333, 335, 336, 337, 338, 340, 341, 342, 344, 345, 101, 102, 346, 347, 348] rfl (by decide +kernel)
set_option maxRecDepth 20000 in
theorem ggL_law_L_errors_6 : ∀ w ∈ (wsL_errors.drop (40 * 6)).take 40, w ∈ wsL_law := chunk_pn [353, 357, 380, 485, 452, 364] [350, 351, 352, 354, 355, 356, 358, 359, 360, 377, 378, 379, 13, 249, 381, 272, 483, 484, 449, 450, 451, 361, 362, 363, 366, 367, 368, 369, 370, 371, 372, 373, 374, 375] rfl (by decide +kernel)
set_option maxRecDepth 20000 in
theorem ggL_law_L_errors_7 : ∀ w ∈ (wsL_errors.drop (40 * 7)).take 40, w ∈ wsL_law := chunk_pn [395, 408, 413, 417, 420, 423, 427, 431] [22, 376, 392, 393, 394, 405, 406, 407, 409, 410, 411, 412, 21, 414, 404, 80, 415, 416, 418, 419, 421, 422, 424, 425, 426, 428, 429, 430, 81, 82, 432, 433] rfl (by decide +kernel)
set_option maxRecDepth 20000 in
theorem ggL_law_L_errors_8 : ∀ w ∈ (wsL_errors.drop (40 * 8)).take 40, w ∈ wsL_law := chunk_pn [435, 439, 443, 447, 399, 403, 505, 509] [434, 436, 437, 438, 440, 441, 442, 444, 445, 446, 448, 396, 397, 398, 400, 401, 402, 502, 503, 504, 506, 507, 508, 510, 511, 512, 513, 514, 515, 516, 517, 518] rfl (by decide +kernel)
set_option maxRecDepth 20000 in
theorem ggL_law_L_errors_9 : ∀ w ∈ (wsL_errors.drop (40 * 9)).take 40, w ∈ wsL_law := chunk_pn [] [519, 520, 521, 529, 530, 531, 522, 523, 532, 533, 534, 535, 536, 537, 538, 539, 540, 541, 542, 543, 544, 545, 546, 547, 548, 549, 550, 551, 552, 553, 554, 555, 524, 525, 526, 527, 528] rfl (by decide +kernel)
set_option maxRecDepth 20000 in
theorem ggL_law_L_errors : GoodIn wsL_law wsL_errors := chunk_in 40 (by decide) 10 (by decide +kernel) (fun k hk => by
  rcases (show k = 0 ∨ k = 1 ∨ k = 2 ∨ k = 3 ∨ k = 4 ∨ k = 5 ∨ k = 6 ∨ k = 7 ∨ k = 8 ∨ k = 9 by omega) with rfl | rfl | rfl | rfl | rfl | rfl | rfl | rfl | rfl | rfl
  · exact ggL_law_L_errors_0
  · exact ggL_law_L_errors_1
  · exact ggL_law_L_errors_2
  · exact ggL_law_L_errors_3
  · exact ggL_law_L_errors_4
  · exact ggL_law_L_errors_5
  · exact ggL_law_L_errors_6
  · exact ggL_law_L_errors_7
  · exact ggL_law_L_errors_8
  · exact ggL_law_L_errors_9) (by decide +kernel)
set_option maxRecDepth 20000 in
theorem gL_law_L_errors : GoodIn wsL_law (va_wsS RL 137 yL_errors wsL_errors) := goodIn_app (goodIn_of _ (by decide +kernel)) ggL_law_L_errors
theorem dL_law_0 : decode cL_law 0 = .ok (.new 23, 3) := by decide +kernel
theorem dL_law_3 : decode cL_law 3 = .ok (.dup, 1) := by decide +kernel
theorem dL_law_4 : decode cL_law 4 = .ok (.invokespecial 125, 3) := by decide +kernel
theorem dL_law_7 : decode cL_law 7 = .ok (.astore_n 1, 1) := by decide +kernel
theorem dL_law_8 : decode cL_law 8 = .ok (.iconst 0, 1) := by decide +kernel
theorem dL_law_9 : decode cL_law 9 = .ok (.istore_n 2, 1) := by decide +kernel
theorem dL_law_10 : decode cL_law 10 = .ok (.iload_n 2, 1) := by decide +kernel
theorem dL_law_11 : decode cL_law 11 = .ok (.bipush 60, 2) := by decide +kernel
theorem dL_law_13 : decode cL_law 13 = .ok (.if_icmp .ge 41, 3) := by decide +kernel
theorem dL_law_16 : decode cL_law 16 = .ok (.aload_n 1, 1) := by decide +kernel
theorem dL_law_17 : decode cL_law 17 = .ok (.aload_n 0, 1) := by decide +kernel
theorem dL_law_18 : decode cL_law 18 = .ok (.iconst 2, 1) := by decide +kernel
theorem dL_law_19 : decode cL_law 19 = .ok (.iload_n 2, 1) := by decide +kernel
theorem dL_law_20 : decode cL_law 20 = .ok (.imul, 1) := by decide +kernel
theorem dL_law_21 : decode cL_law 21 = .ok (.invokestatic 126, 3) := by decide +kernel
theorem dL_law_24 : decode cL_law 24 = .ok (.aload_n 0, 1) := by decide +kernel
theorem dL_law_25 : decode cL_law 25 = .ok (.iconst 2, 1) := by decide +kernel
theorem dL_law_26 : decode cL_law 26 = .ok (.iload_n 2, 1) := by decide +kernel
theorem dL_law_27 : decode cL_law 27 = .ok (.imul, 1) := by decide +kernel
theorem dL_law_28 : decode cL_law 28 = .ok (.iconst 1, 1) := by decide +kernel
theorem dL_law_29 : decode cL_law 29 = .ok (.iadd, 1) := by decide +kernel
theorem dL_law_30 : decode cL_law 30 = .ok (.invokestatic 126, 3) := by decide +kernel
theorem dL_law_33 : decode cL_law 33 = .ok (.invokestatic 130, 3) := by decide +kernel
theorem dL_law_36 : decode cL_law 36 = .ok (.ifCond .eq 10, 3) := by decide +kernel
theorem dL_law_39 : decode cL_law 39 = .ok (.aload_n 1, 1) := by decide +kernel
theorem dL_law_40 : decode cL_law 40 = .ok (.invokestatic 134, 3) := by decide +kernel
theorem dL_law_43 : decode cL_law 43 = .ok (.ifCond .ne 5, 3) := by decide +kernel
theorem dL_law_46 : decode cL_law 46 = .ok (.iconst 0, 1) := by decide +kernel
theorem dL_law_47 : decode cL_law 47 = .ok (.ireturn, 1) := by decide +kernel
theorem dL_law_48 : decode cL_law 48 = .ok (.iinc 2 1, 3) := by decide +kernel
theorem dL_law_51 : decode cL_law 51 = .ok (.goto (-41), 3) := by decide +kernel
theorem dL_law_54 : decode cL_law 54 = .ok (.aload_n 1, 1) := by decide +kernel
theorem dL_law_55 : decode cL_law 55 = .ok (.invokestatic 137, 3) := by decide +kernel
theorem dL_law_58 : decode cL_law 58 = .ok (.ireturn, 1) := by decide +kernel

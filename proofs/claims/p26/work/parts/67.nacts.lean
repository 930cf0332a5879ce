set_option maxRecDepth 20000 in
theorem ggL_acts_L_low : GoodIn wsL_acts wsL_low := goodIn_r _ [4, 5] (by decide +kernel) (by decide +kernel)
set_option maxRecDepth 20000 in
theorem gL_acts_L_low : GoodIn wsL_acts (va_wsS RL 78 yL_low wsL_low) := goodIn_app (goodIn_of _ (by decide +kernel)) ggL_acts_L_low
set_option maxRecDepth 20000 in
theorem ggL_acts_X8_speed : GoodIn wsL_acts wsX8_speed := goodIn_r _ [10, 11, 12, 13, 14, 15, 16, 17, 18, 19, 20, 21, 22, 23, 24, 25, 26, 27, 28, 29, 30, 31, 32, 9, 33, 34, 418, 419, 420, 421, 422, 423, 424, 425, 426, 427, 428, 429, 430, 431, 432, 433, 434, 435, 436, 437, 438] (by decide +kernel) (by decide +kernel)
set_option maxRecDepth 20000 in
theorem gL_acts_X8_speed : GoodIn wsL_acts (wsV RL 36 RX8 yX8_speed wsX8_speed) := goodIn_app (goodIn_of _ (by decide +kernel)) ggL_acts_X8_speed
set_option maxRecDepth 20000 in
theorem ggL_acts_L_value : GoodIn wsL_acts wsL_value := goodIn_r _ [37, 38, 39, 40, 41, 42] (by decide +kernel) (by decide +kernel)
set_option maxRecDepth 20000 in
theorem gL_acts_L_value : GoodIn wsL_acts (va_wsS RL 81 yL_value wsL_value) := goodIn_app (goodIn_of _ (by decide +kernel)) ggL_acts_L_value
set_option maxRecDepth 20000 in
theorem ggL_acts_L_bits : GoodIn wsL_acts wsL_bits := goodIn_r _ [45, 46, 47, 48, 49, 50, 51, 52, 53] (by decide +kernel) (by decide +kernel)
set_option maxRecDepth 20000 in
theorem gL_acts_L_bits : GoodIn wsL_acts (va_wsS RL 84 yL_bits wsL_bits) := goodIn_app (goodIn_of _ (by decide +kernel)) ggL_acts_L_bits
set_option maxRecDepth 20000 in
theorem ggL_acts_X8_setSpeed : GoodIn wsL_acts wsX8_setSpeed := goodIn_r _ [57, 58, 59, 11, 12, 60, 61, 62, 9, 63, 64, 65, 66, 27, 28, 29, 24, 30, 31, 32, 33, 34, 67, 68, 69, 70, 71, 72, 73, 74, 75, 76, 77, 78, 79, 80, 16, 81, 20, 82, 18, 83, 84, 85, 86, 87, 88, 89, 90, 26, 91, 92, 93, 94, 95, 96, 97, 98, 99, 100, 101, 102, 103, 104, 105, 106, 107, 108, 109, 110, 111, 112, 113, 114, 115, 116, 117, 118, 119, 120, 121, 122, 123, 124, 125, 126, 127, 128, 129, 130, 131, 132, 133, 134, 135, 136, 137, 138, 418, 419, 420, 421, 422, 423, 424, 425, 426, 427, 428, 429, 436, 437, 438, 439, 440, 441, 442, 443, 444, 445, 446, 447, 448, 430, 431, 432, 433, 434, 435, 449, 450, 451, 452, 453, 454, 455, 456, 457, 458] (by decide +kernel) (by decide +kernel)
set_option maxRecDepth 20000 in
theorem gL_acts_X8_setSpeed : GoodIn wsL_acts (wsV RL 87 RX8 yX8_setSpeed wsX8_setSpeed) := goodIn_app (goodIn_of _ (by decide +kernel)) ggL_acts_X8_setSpeed
set_option maxRecDepth 20000 in
theorem ggL_acts_X8_weight : GoodIn wsL_acts wsX8_weight := goodIn_r _ [142, 11, 12, 143, 144, 145, 24, 146, 90, 32, 9, 33, 34, 418, 419, 420, 421, 422, 423, 424, 425, 426, 427, 428, 429, 436, 437, 438] (by decide +kernel) (by decide +kernel)
set_option maxRecDepth 20000 in
theorem gL_acts_X8_weight : GoodIn wsL_acts (wsV RL 46 RX8 yX8_weight wsX8_weight) := goodIn_app (goodIn_of _ (by decide +kernel)) ggL_acts_X8_weight
set_option maxRecDepth 20000 in
theorem ggL_acts_X8_setWeight : GoodIn wsL_acts wsX8_setWeight := goodIn_r _ [150, 151, 11, 12, 60, 61, 62, 9, 63, 64, 65, 66, 143, 144, 145, 24, 146, 90, 32, 33, 34, 67, 68, 69, 70, 71, 72, 73, 74, 75, 76, 77, 78, 79, 80, 16, 81, 20, 82, 18, 83, 84, 85, 86, 87, 88, 89, 31, 26, 91, 92, 93, 94, 95, 96, 97, 98, 99, 100, 101, 102, 103, 104, 105, 106, 107, 108, 109, 110, 111, 112, 113, 114, 115, 116, 117, 118, 119, 120, 121, 122, 123, 124, 125, 126, 127, 128, 129, 130, 131, 132, 133, 134, 152, 153, 154, 155, 418, 419, 420, 421, 422, 423, 424, 425, 426, 427, 428, 429, 436, 437, 438, 439, 440, 441, 442, 443, 444, 445, 446, 447, 448, 430, 431, 432, 433, 434, 435, 449, 450, 451, 452, 453, 454, 455, 456, 457, 458] (by decide +kernel) (by decide +kernel)
set_option maxRecDepth 20000 in
theorem gL_acts_X8_setWeight : GoodIn wsL_acts (wsV RL 90 RX8 yX8_setWeight wsX8_setWeight) := goodIn_app (goodIn_of _ (by decide +kernel)) ggL_acts_X8_setWeight
set_option maxRecDepth 20000 in
theorem ggL_acts_X8_number : GoodIn wsL_acts wsX8_number := goodIn_r _ [159, 11, 12, 160, 22, 23, 24, 25, 26, 418, 419, 420, 421, 422, 423, 424, 425, 426, 427, 428, 429, 436, 437, 438] (by decide +kernel) (by decide +kernel)
set_option maxRecDepth 20000 in
theorem gL_acts_X8_number : GoodIn wsL_acts (wsV RL 33 RX8 yX8_number wsX8_number) := goodIn_app (goodIn_of _ (by decide +kernel)) ggL_acts_X8_number
set_option maxRecDepth 20000 in
theorem ggL_acts_X8_setNumber : GoodIn wsL_acts wsX8_setNumber := goodIn_r _ [164, 165, 166, 11, 12, 60, 160, 22, 23, 24, 25, 26, 67, 68, 69, 70, 71, 72, 73, 74, 75, 76, 77, 78, 79, 80, 16, 81, 20, 82, 18, 83, 84, 85, 86, 87, 88, 89, 31, 90, 91, 92, 93, 94, 95, 96, 97, 98, 99, 100, 101, 102, 103, 104, 105, 106, 107, 108, 109, 110, 111, 112, 113, 114, 115, 116, 117, 118, 119, 120, 121, 122, 123, 124, 125, 126, 127, 128, 129, 130, 131, 132, 133, 134, 167, 168, 169, 170, 418, 419, 420, 421, 422, 423, 424, 425, 426, 427, 428, 429, 436, 437, 438, 439, 440, 441, 442, 443, 444, 445, 446, 447, 448, 430, 431, 432, 433, 434, 435, 449, 450, 451, 452, 453, 454, 455, 456, 457, 458] (by decide +kernel) (by decide +kernel)
set_option maxRecDepth 20000 in
theorem gL_acts_X8_setNumber : GoodIn wsL_acts (wsV RL 93 RX8 yX8_setNumber wsX8_setNumber) := goodIn_app (goodIn_of _ (by decide +kernel)) ggL_acts_X8_setNumber
set_option maxRecDepth 20000 in
theorem ggL_acts_X8_door : GoodIn wsL_acts wsX8_door := goodIn_r _ [174, 11, 175, 176, 177, 178, 179, 180, 181, 182, 183, 9, 184, 418, 419, 420, 421, 422, 423, 424, 425, 426, 427, 428, 429, 430, 431, 432, 433, 434, 435] (by decide +kernel) (by decide +kernel)
set_option maxRecDepth 20000 in
theorem gL_acts_X8_door : GoodIn wsL_acts (wsV RL 22 RX8 yX8_door wsX8_door) := goodIn_app (goodIn_of _ (by decide +kernel)) ggL_acts_X8_door
set_option maxRecDepth 20000 in
theorem ggL_acts_X8_call : GoodIn wsL_acts wsX8_call := goodIn_r _ [188, 11, 175, 176, 60, 67, 68, 69, 70, 71, 72, 73, 74, 75, 76, 77, 78, 79, 80, 16, 81, 20, 82, 18, 83, 84, 85, 86, 87, 88, 24, 89, 31, 90, 26, 91, 92, 93, 94, 95, 96, 97, 98, 99, 100, 101, 102, 103, 104, 105, 106, 107, 108, 109, 110, 111, 112, 113, 114, 115, 116, 117, 118, 119, 120, 121, 122, 123, 124, 125, 126, 127, 128, 129, 130, 131, 132, 133, 134, 189, 190, 191, 192, 418, 419, 420, 421, 422, 423, 424, 425, 426, 427, 428, 429, 430, 431, 432, 433, 434, 435, 439, 440, 436, 437, 438, 441, 442, 443, 444, 445, 446, 447, 448, 449, 450, 451, 452, 453, 454, 455, 456, 457, 458] (by decide +kernel) (by decide +kernel)
set_option maxRecDepth 20000 in
theorem gL_acts_X8_call : GoodIn wsL_acts (wsV RL 96 RX8 yX8_call wsX8_call) := goodIn_app (goodIn_of _ (by decide +kernel)) ggL_acts_X8_call
set_option maxRecDepth 20000 in
theorem ggL_acts_X8_serve : GoodIn wsL_acts wsX8_serve := goodIn_r _ [196, 11, 175, 178, 60, 177, 67, 68, 69, 70, 71, 72, 73, 74, 75, 76, 77, 78, 79, 80, 16, 81, 20, 82, 18, 83, 84, 85, 86, 87, 88, 24, 89, 31, 90, 26, 91, 92, 93, 94, 95, 96, 97, 98, 99, 100, 101, 102, 103, 104, 105, 106, 107, 108, 109, 110, 111, 112, 113, 114, 115, 116, 117, 118, 119, 120, 121, 122, 123, 124, 125, 126, 127, 128, 129, 130, 131, 132, 133, 134, 418, 419, 420, 421, 422, 423, 424, 425, 426, 427, 428, 429, 430, 431, 432, 433, 434, 435, 439, 440, 436, 437, 438, 441, 442, 443, 444, 445, 446, 447, 448, 449, 450, 451, 452, 453, 454, 455, 456, 457, 458] (by decide +kernel) (by decide +kernel)
set_option maxRecDepth 20000 in
theorem gL_acts_X8_serve : GoodIn wsL_acts (wsV RL 99 RX8 yX8_serve wsX8_serve) := goodIn_app (goodIn_of _ (by decide +kernel)) ggL_acts_X8_serve
set_option maxRecDepth 20000 in
theorem ggL_acts_L_shuts : GoodIn wsL_acts wsL_shuts := goodIn_r _ [199, 200, 201, 202, 9, 203, 204, 11, 175, 176, 205, 79, 80, 16, 81, 20, 82, 18, 83, 84, 85, 86, 87, 88, 24, 89, 31, 90, 26, 91, 92, 93, 94, 95, 96, 97, 98, 99, 100, 101, 102, 103, 104, 105, 106, 107, 108, 109, 110, 111, 112, 113, 114, 115, 116, 117, 118, 119, 120, 121, 122, 123, 124, 125, 126, 127, 128, 129, 130, 131, 132, 133, 134, 206, 207, 208, 209, 210, 211, 212, 213, 214, 215, 216, 217, 218, 21, 22, 23, 25, 219, 220, 221, 222, 223, 224, 225, 226, 227, 19, 228, 229, 230, 231, 232, 233, 144, 145, 146, 32, 33, 34, 234, 235, 236, 237, 238, 239, 240, 241, 242, 243, 244, 245, 246, 247, 248, 249, 250, 251, 252, 253, 183, 184, 254, 255, 256, 257, 258, 259, 260, 261, 262, 263, 28, 29, 30, 264, 265, 266, 267, 268, 269, 270, 271, 272, 273, 274, 275, 276, 277, 278, 14, 15, 17, 279, 280, 281, 282, 283, 284, 285, 286, 287, 288, 289, 290, 291, 292, 293, 171, 172, 173, 174, 177, 178, 179, 180, 181, 182, 294, 295, 296, 297, 298, 299, 300, 301, 302, 303, 304, 305, 306, 307, 60, 308, 309, 310, 311, 312, 313, 314, 315, 316, 317, 318, 319, 320, 321, 322, 323, 324, 325, 67, 68, 69, 70, 71, 72, 73, 74, 75, 76, 77, 78, 418, 419, 420, 421, 422, 423, 424, 425, 426, 427, 428, 429, 430, 431, 432, 433, 434, 435, 436, 437, 438, 441, 442, 443, 444, 445, 446, 447, 448, 449, 450, 451, 452, 453, 454, 455, 456, 457, 458, 439, 440, 459, 460, 461, 462, 463] (by decide +kernel) (by decide +kernel)
set_option maxRecDepth 20000 in
theorem gL_acts_L_shuts : GoodIn wsL_acts (va_wsS RL 102 yL_shuts wsL_shuts) := goodIn_app (goodIn_of _ (by decide +kernel)) ggL_acts_L_shuts
set_option maxRecDepth 20000 in
theorem ggL_acts_X8_count : GoodIn wsL_acts wsX8_count := goodIn_r _ [297, 11, 298, 299, 300, 301, 302, 303, 304, 305, 306, 307, 60, 308, 309, 310, 418, 419, 420, 421, 422, 423, 424, 425, 426, 427, 428, 429, 451, 452, 453, 454, 455, 456, 457, 458, 439, 440, 459, 460, 461, 462, 463] (by decide +kernel) (by decide +kernel)
set_option maxRecDepth 20000 in
theorem gL_acts_X8_count : GoodIn wsL_acts (wsV RL 52 RX8 yX8_count wsX8_count) := goodIn_app (goodIn_of _ (by decide +kernel)) ggL_acts_X8_count
set_option maxRecDepth 20000 in
theorem ggL_acts_X8_clearText : GoodIn wsL_acts wsX8_clearText := goodIn_r _ [329, 309, 310, 418, 419, 420, 421, 422, 423, 459, 460, 461, 462, 463] (by decide +kernel) (by decide +kernel)
set_option maxRecDepth 20000 in
theorem gL_acts_X8_clearText : GoodIn wsL_acts (wsV RL 105 RX8 yX8_clearText wsX8_clearText) := goodIn_app (goodIn_of _ (by decide +kernel)) ggL_acts_X8_clearText
set_option maxRecDepth 20000 in
theorem ggL_acts_X8_type : GoodIn wsL_acts wsX8_type := goodIn_r _ [333, 309, 310, 334, 335, 336, 337, 338, 339, 340, 418, 419, 420, 421, 422, 423, 459, 460, 461, 462, 463] (by decide +kernel) (by decide +kernel)
set_option maxRecDepth 20000 in
theorem gL_acts_X8_type : GoodIn wsL_acts (wsV RL 108 RX8 yX8_type wsX8_type) := goodIn_app (goodIn_of _ (by decide +kernel)) ggL_acts_X8_type
set_option maxRecDepth 20000 in
theorem ggL_acts_X8_readBeams : GoodIn wsL_acts wsX8_readBeams := goodIn_r _ [344, 309, 11, 298, 325, 60, 345, 346, 347, 348, 337, 349, 350, 339, 340, 351, 352, 353, 354, 355, 356, 357, 358, 359, 360, 361, 362, 363, 364, 365, 366, 367, 368, 369, 370, 371, 372, 373, 374, 375, 376, 377, 378, 379, 380, 381, 67, 68, 69, 70, 71, 72, 73, 74, 75, 76, 77, 78, 79, 80, 16, 81, 20, 82, 18, 83, 84, 85, 86, 87, 88, 24, 89, 31, 90, 26, 91, 92, 93, 94, 95, 96, 97, 98, 99, 100, 101, 102, 103, 104, 105, 106, 107, 108, 109, 110, 111, 112, 113, 114, 115, 116, 117, 118, 119, 120, 121, 122, 123, 124, 125, 126, 127, 128, 129, 130, 131, 132, 133, 134, 382, 383, 384, 385, 386, 316, 317, 318, 319, 320, 207, 208, 209, 210, 211, 212, 213, 214, 215, 216, 217, 218, 21, 22, 23, 25, 219, 220, 221, 222, 223, 224, 225, 226, 227, 19, 228, 229, 230, 231, 232, 233, 144, 145, 146, 32, 9, 33, 34, 234, 235, 236, 237, 238, 239, 240, 241, 242, 243, 244, 245, 246, 247, 248, 249, 250, 251, 252, 253, 183, 184, 254, 255, 256, 257, 258, 259, 260, 261, 262, 263, 28, 29, 30, 264, 265, 266, 267, 268, 269, 270, 271, 272, 273, 274, 275, 276, 277, 278, 14, 15, 17, 279, 280, 281, 282, 283, 284, 285, 286, 287, 288, 289, 290, 291, 292, 293, 418, 419, 420, 421, 422, 423, 424, 425, 426, 427, 428, 429, 459, 460, 461, 462, 463, 439, 440, 436, 437, 438, 441, 442, 443, 444, 445, 446, 447, 448, 430, 431, 432, 433, 434, 435, 449, 450, 451, 452, 453, 454, 455, 456, 457, 458] (by decide +kernel) (by decide +kernel)
set_option maxRecDepth 20000 in
theorem gL_acts_X8_readBeams : GoodIn wsL_acts (wsV RL 112 RX8 yX8_readBeams wsX8_readBeams) := goodIn_app (goodIn_of _ (by decide +kernel)) ggL_acts_X8_readBeams
set_option maxRecDepth 20000 in
theorem ggL_acts_X8_placeIn : GoodIn wsL_acts wsX8_placeIn := goodIn_r _ [314, 204, 11, 175, 181, 315, 32, 9, 33, 34, 205, 79, 80, 16, 81, 20, 82, 18, 83, 84, 85, 86, 87, 88, 24, 89, 31, 90, 26, 91, 92, 93, 94, 95, 96, 97, 98, 99, 100, 101, 102, 103, 104, 105, 106, 107, 108, 109, 110, 111, 112, 113, 114, 115, 116, 117, 118, 119, 120, 121, 122, 123, 124, 125, 126, 127, 128, 129, 130, 131, 132, 133, 134, 316, 317, 318, 319, 320, 207, 208, 209, 210, 211, 212, 213, 214, 215, 216, 217, 218, 21, 22, 23, 25, 219, 220, 221, 222, 223, 224, 225, 226, 227, 19, 228, 229, 230, 231, 232, 233, 144, 145, 146, 234, 235, 236, 237, 238, 239, 240, 241, 242, 243, 244, 245, 246, 247, 248, 249, 250, 251, 252, 253, 183, 184, 254, 255, 256, 257, 258, 259, 260, 261, 262, 263, 28, 29, 30, 264, 265, 266, 267, 268, 269, 270, 271, 272, 273, 274, 275, 276, 277, 278, 14, 15, 17, 279, 280, 281, 282, 283, 284, 285, 286, 287, 288, 289, 290, 291, 292, 293, 418, 419, 420, 421, 422, 423, 424, 425, 426, 427, 428, 429, 430, 431, 432, 433, 434, 435, 436, 437, 438, 441, 442, 443, 444, 445, 446, 447, 448, 449, 450, 451, 452, 453, 454, 455, 456, 457, 458] (by decide +kernel) (by decide +kernel)
set_option maxRecDepth 20000 in
theorem gL_acts_X8_placeIn : GoodIn wsL_acts (wsV RL 67 RX8 yX8_placeIn wsX8_placeIn) := goodIn_app (goodIn_of _ (by decide +kernel)) ggL_acts_X8_placeIn
set_option maxRecDepth 20000 in
theorem ggL_acts_X8_pass : GoodIn wsL_acts wsX8_pass := goodIn_r _ [324, 11, 298, 325, 60, 175, 176, 67, 68, 69, 70, 71, 72, 73, 74, 75, 76, 77, 78, 79, 80, 16, 81, 20, 82, 18, 83, 84, 85, 86, 87, 88, 24, 89, 31, 90, 26, 91, 92, 93, 94, 95, 96, 97, 98, 99, 100, 101, 102, 103, 104, 105, 106, 107, 108, 109, 110, 111, 112, 113, 114, 115, 116, 117, 118, 119, 120, 121, 122, 123, 124, 125, 126, 127, 128, 129, 130, 131, 132, 133, 134, 316, 317, 318, 319, 320, 207, 208, 209, 210, 211, 212, 213, 214, 215, 216, 217, 218, 21, 22, 23, 25, 219, 220, 221, 222, 223, 224, 225, 226, 227, 19, 228, 229, 230, 231, 232, 233, 144, 145, 146, 32, 9, 33, 34, 234, 235, 236, 237, 238, 239, 240, 241, 242, 243, 244, 245, 246, 247, 248, 249, 250, 251, 252, 253, 183, 184, 254, 255, 256, 257, 258, 259, 260, 261, 262, 263, 28, 29, 30, 264, 265, 266, 267, 268, 269, 270, 271, 272, 273, 274, 275, 276, 277, 278, 14, 15, 17, 279, 280, 281, 282, 283, 284, 285, 286, 287, 288, 289, 290, 291, 292, 293, 418, 419, 420, 421, 422, 423, 424, 425, 426, 427, 428, 429, 430, 431, 432, 433, 434, 435, 439, 440, 436, 437, 438, 441, 442, 443, 444, 445, 446, 447, 448, 449, 450, 451, 452, 453, 454, 455, 456, 457, 458] (by decide +kernel) (by decide +kernel)
set_option maxRecDepth 20000 in
theorem gL_acts_X8_pass : GoodIn wsL_acts (wsV RL 71 RX8 yX8_pass wsX8_pass) := goodIn_app (goodIn_of _ (by decide +kernel)) ggL_acts_X8_pass
set_option maxRecDepth 20000 in
theorem ggL_acts_X8_place : GoodIn wsL_acts wsX8_place := goodIn_r _ [390, 11, 175, 181, 418, 419, 420, 421, 422, 423, 424, 425, 426, 427, 428, 429, 430, 431, 432, 433, 434, 435] (by decide +kernel) (by decide +kernel)
set_option maxRecDepth 20000 in
theorem gL_acts_X8_place : GoodIn wsL_acts (wsV RL 28 RX8 yX8_place wsX8_place) := goodIn_app (goodIn_of _ (by decide +kernel)) ggL_acts_X8_place

set_option maxRecDepth 20000 in
theorem ggL_acts_L_low : GoodIn wsL_acts wsL_low := goodIn_r _ [4, 5] (by decide +kernel) (by decide +kernel)
set_option maxRecDepth 20000 in
theorem gL_acts_L_low : GoodIn wsL_acts (va_wsS RL 78 yL_low wsL_low) := goodIn_app (goodIn_of _ (by decide +kernel)) ggL_acts_L_low
set_option maxRecDepth 20000 in
theorem ggL_acts_X8_speed : GoodIn wsL_acts wsX8_speed := goodIn_r _ [10, 11, 12, 13, 14, 15, 16, 17, 18, 19, 20, 21, 22, 23, 24, 25, 26, 27, 28, 29, 30, 31, 32, 9, 33, 34, 418, 419, 420, 421, 422, 423, 424, 425, 426, 427, 428, 429, 430, 431, 432, 433, 434, 435, 436, 437, 438] (by decide +kernel) (by decide +kernel)
set_option maxRecDepth 20000 in
theorem gL_acts_X8_speed : GoodIn wsL_acts (wsV RL 36 RX8 yX8_speed wsX8_speed) := goodIn_app (goodIn_of _ (by decide +kernel)) ggL_acts_X8_speed
set_option maxRecDepth 20000 in
theorem ggL_acts_L_value : GoodIn wsL_acts wsL_value := goodIn_r _ [37, 38, 39, 40, 41, 42] (by decide +kernel) (by decide +kernel)
set_option maxRecDepth 20000 in
theorem gL_acts_L_value : GoodIn wsL_acts (va_wsS RL 81 yL_value wsL_value) := goodIn_app (goodIn_of _ (by decide +kernel)) ggL_acts_L_value
set_option maxRecDepth 20000 in
theorem ggL_acts_L_bits : GoodIn wsL_acts wsL_bits := goodIn_r _ [45, 46, 47, 48, 49, 50, 51, 52, 53] (by decide +kernel) (by decide +kernel)
set_option maxRecDepth 20000 in
theorem gL_acts_L_bits : GoodIn wsL_acts (va_wsS RL 84 yL_bits wsL_bits) := goodIn_app (goodIn_of _ (by decide +kernel)) ggL_acts_L_bits
set_option maxRecDepth 20000 in
theorem ggL_acts_X8_setSpeed : GoodIn wsL_acts wsX8_setSpeed := goodIn_r _ [57, 58, 59, 11, 12, 60, 61, 62, 9, 63, 64, 65, 66, 27, 28, 29, 24, 30, 31, 32, 33, 34, 67, 68, 69, 70, 71, 72, 73, 74, 75, 76, 77, 78, 79, 80, 16, 81, 20, 82, 18, 83, 84, 85, 86, 87, 88, 89, 90, 26, 91, 92, 93, 94, 95, 96, 97, 98, 99, 100, 101, 102, 103, 104, 105, 106, 107, 108, 109, 110, 111, 112, 113, 114, 115, 116, 117, 118, 119, 120, 121, 122, 123, 124, 125, 126, 127, 128, 129, 130, 131, 132, 133, 134, 135, 136, 137, 138, 418, 419, 420, 421, 422, 423, 424, 425, 426, 427, 428, 429, 436, 437, 438, 439, 440, 441, 442, 443, 444, 445, 446, 447, 448, 430, 431, 432, 433, 434, 435, 449, 450, 451, 452, 453, 454, 455, 456, 457, 458] (by decide +kernel) (by decide +kernel)
set_option maxRecDepth 20000 in
theorem gL_acts_X8_setSpeed : GoodIn wsL_acts (wsV RL 87 RX8 yX8_setSpeed wsX8_setSpeed) := goodIn_app (goodIn_of _ (by decide +kernel)) ggL_acts_X8_setSpeed
set_option maxRecDepth 20000 in
theorem ggL_acts_X8_weight : GoodIn wsL_acts wsX8_weight := goodIn_r _ [142, 11, 12, 143, 144, 145, 24, 146, 90, 32, 9, 33, 34, 418, 419, 420, 421, 422, 423, 424, 425, 426, 427, 428, 429, 436, 437, 438] (by decide +kernel) (by decide +kernel)
set_option maxRecDepth 20000 in
theorem gL_acts_X8_weight : GoodIn wsL_acts (wsV RL 46 RX8 yX8_weight wsX8_weight) := goodIn_app (goodIn_of _ (by decide +kernel)) ggL_acts_X8_weight
set_option maxRecDepth 20000 in
theorem ggL_acts_X8_setWeight : GoodIn wsL_acts wsX8_setWeight := goodIn_r _ [150, 151, 11, 12, 60, 61, 62, 9, 63, 64, 65, 66, 143, 144, 145, 24, 146, 90, 32, 33, 34, 67, 68, 69, 70, 71, 72, 73, 74, 75, 76, 77, 78, 79, 80, 16, 81, 20, 82, 18, 83, 84, 85, 86, 87, 88, 89, 31, 26, 91, 92, 93, 94, 95, 96, 97, 98, 99, 100, 101, 102, 103, 104, 105, 106, 107, 108, 109, 110, 111, 112, 113, 114, 115, 116, 117, 118, 119, 120, 121, 122, 123, 124, 125, 126, 127, 128, 129, 130, 131, 132, 133, 134, 152, 153, 154, 155, 418, 419, 420, 421, 422, 423, 424, 425, 426, 427, 428, 429, 436, 437, 438, 439, 440, 441, 442, 443, 444, 445, 446, 447, 448, 430, 431, 432, 433, 434, 435, 449, 450, 451, 452, 453, 454, 455, 456, 457, 458] (by decide +kernel) (by decide +kernel)
set_option maxRecDepth 20000 in
theorem gL_acts_X8_setWeight : GoodIn wsL_acts (wsV RL 90 RX8 yX8_setWeight wsX8_setWeight) := goodIn_app (goodIn_of _ (by decide +kernel)) ggL_acts_X8_setWeight
set_option maxRecDepth 20000 in
theorem ggL_acts_X8_number : GoodIn wsL_acts wsX8_number := goodIn_r _ [159, 11, 12, 160, 22, 23, 24, 25, 26, 418, 419, 420, 421, 422, 423, 424, 425, 426, 427, 428, 429, 436, 437, 438] (by decide +kernel) (by decide +kernel)
set_option maxRecDepth 20000 in
theorem gL_acts_X8_number : GoodIn wsL_acts (wsV RL 33 RX8 yX8_number wsX8_number) := goodIn_app (goodIn_of _ (by decide +kernel)) ggL_acts_X8_number
set_option maxRecDepth 20000 in
theorem ggL_acts_X8_setNumber : GoodIn wsL_acts wsX8_setNumber := goodIn_r _ [164, 165, 166, 11, 12, 60, 160, 22, 23, 24, 25, 26, 67, 68, 69, 70, 71, 72, 73, 74, 75, 76, 77, 78, 79, 80, 16, 81, 20, 82, 18, 83, 84, 85, 86, 87, 88, 89, 31, 90, 91, 92, 93, 94, 95, 96, 97, 98, 99, 100, 101, 102, 103, 104, 105, 106, 107, 108, 109, 110, 111, 112, 113, 114, 115, 116, 117, 118, 119, 120, 121, 122, 123, 124, 125, 126, 127, 128, 129, 130, 131, 132, 133, 134, 167, 168, 169, 170, 418, 419, 420, 421, 422, 423, 424, 425, 426, 427, 428, 429, 436, 437, 438, 439, 440, 441, 442, 443, 444, 445, 446, 447, 448, 430, 431, 432, 433, 434, 435, 449, 450, 451, 452, 453, 454, 455, 456, 457, 458] (by decide +kernel) (by decide +kernel)
set_option maxRecDepth 20000 in
theorem gL_acts_X8_setNumber : GoodIn wsL_acts (wsV RL 93 RX8 yX8_setNumber wsX8_setNumber) := goodIn_app (goodIn_of _ (by decide +kernel)) ggL_acts_X8_setNumber
set_option maxRecDepth 20000 in
theorem ggL_acts_X8_door : GoodIn wsL_acts wsX8_door := goodIn_r _ [174, 11, 175, 176, 177, 178, 179, 180, 181, 182, 183, 9, 184, 418, 419, 420, 421, 422, 423, 424, 425, 426, 427, 428, 429, 430, 431, 432, 433, 434, 435] (by decide +kernel) (by decide +kernel)
set_option maxRecDepth 20000 in
theorem gL_acts_X8_door : GoodIn wsL_acts (wsV RL 22 RX8 yX8_door wsX8_door) := goodIn_app (goodIn_of _ (by decide +kernel)) ggL_acts_X8_door
set_option maxRecDepth 20000 in
theorem ggL_acts_X8_call : GoodIn wsL_acts wsX8_call := goodIn_r _ [188, 11, 175, 176, 60, 67, 68, 69, 70, 71, 72, 73, 74, 75, 76, 77, 78, 79, 80, 16, 81, 20, 82, 18, 83, 84, 85, 86, 87, 88, 24, 89, 31, 90, 26, 91, 92, 93, 94, 95, 96, 97, 98, 99, 100, 101, 102, 103, 104, 105, 106, 107, 108, 109, 110, 111, 112, 113, 114, 115, 116, 117, 118, 119, 120, 121, 122, 123, 124, 125, 126, 127, 128, 129, 130, 131, 132, 133, 134, 189, 190, 191, 192, 418, 419, 420, 421, 422, 423, 424, 425, 426, 427, 428, 429, 430, 431, 432, 433, 434, 435, 439, 440, 436, 437, 438, 441, 442, 443, 444, 445, 446, 447, 448, 449, 450, 451, 452, 453, 454, 455, 456, 457, 458] (by decide +kernel) (by decide +kernel)
set_option maxRecDepth 20000 in
theorem gL_acts_X8_call : GoodIn wsL_acts (wsV RL 96 RX8 yX8_call wsX8_call) := goodIn_app (goodIn_of _ (by decide +kernel)) ggL_acts_X8_call
set_option maxRecDepth 20000 in
theorem ggL_acts_X8_serve : GoodIn wsL_acts wsX8_serve := goodIn_r _ [196, 11, 175, 178, 60, 177, 67, 68, 69, 70, 71, 72, 73, 74, 75, 76, 77, 78, 79, 80, 16, 81, 20, 82, 18, 83, 84, 85, 86, 87, 88, 24, 89, 31, 90, 26, 91, 92, 93, 94, 95, 96, 97, 98, 99, 100, 101, 102, 103, 104, 105, 106, 107, 108, 109, 110, 111, 112, 113, 114, 115, 116, 117, 118, 119, 120, 121, 122, 123, 124, 125, 126, 127, 128, 129, 130, 131, 132, 133, 134, 418, 419, 420, 421, 422, 423, 424, 425, 426, 427, 428, 429, 430, 431, 432, 433, 434, 435, 439, 440, 436, 437, 438, 441, 442, 443, 444, 445, 446, 447, 448, 449, 450, 451, 452, 453, 454, 455, 456, 457, 458] (by decide +kernel) (by decide +kernel)
set_option maxRecDepth 20000 in
theorem gL_acts_X8_serve : GoodIn wsL_acts (wsV RL 99 RX8 yX8_serve wsX8_serve) := goodIn_app (goodIn_of _ (by decide +kernel)) ggL_acts_X8_serve
set_option maxRecDepth 20000 in
theorem ggL_acts_L_shuts : GoodIn wsL_acts wsL_shuts := goodIn_r _ [199, 200, 201, 202, 9, 203, 204, 11, 175, 176, 205, 79, 80, 16, 81, 20, 82, 18, 83, 84, 85, 86, 87, 88, 24, 89, 31, 90, 26, 91, 92, 93, 94, 95, 96, 97, 98, 99, 100, 101, 102, 103, 104, 105, 106, 107, 108, 109, 110, 111, 112, 113, 114, 115, 116, 117, 118, 119, 120, 121, 122, 123, 124, 125, 126, 127, 128, 129, 130, 131, 132, 133, 134, 206, 207, 208, 209, 210, 211, 212, 213, 214, 215, 216, 217, 218, 21, 22, 23, 25, 219, 220, 221, 222, 223, 224, 225, 226, 227, 19, 228, 229, 230, 231, 232, 233, 144, 145, 146, 32, 33, 34, 234, 235, 236, 237, 238, 239, 240, 241, 242, 243, 244, 245, 246, 247, 248, 249, 250, 251, 252, 253, 183, 184, 254, 255, 256, 257, 258, 259, 260, 261, 262, 263, 28, 29, 30, 264, 265, 266, 267, 268, 269, 270, 271, 272, 273, 274, 275, 276, 277, 278, 14, 15, 17, 279, 280, 281, 282, 283, 284, 285, 286, 287, 288, 289, 290, 291, 292, 293, 171, 172, 173, 174, 177, 178, 179, 180, 181, 182, 294, 295, 296, 297, 298, 299, 300, 301, 302, 303, 304, 305, 306, 307, 60, 308, 309, 310, 311, 312, 313, 314, 315, 316, 317, 318, 319, 320, 321, 322, 323, 324, 325, 67, 68, 69, 70, 71, 72, 73, 74, 75, 76, 77, 78, 418, 419, 420, 421, 422, 423, 424, 425, 426, 427, 428, 429, 430, 431, 432, 433, 434, 435, 436, 437, 438, 441, 442, 443, 444, 445, 446, 447, 448, 449, 450, 451, 452, 453, 454, 455, 456, 457, 458, 439, 440, 459, 460, 461, 462, 463] (by decide +kernel) (by decide +kernel)
set_option maxRecDepth 20000 in
theorem gL_acts_L_shuts : GoodIn wsL_acts (va_wsS RL 102 yL_shuts wsL_shuts) := goodIn_app (goodIn_of _ (by decide +kernel)) ggL_acts_L_shuts
set_option maxRecDepth 20000 in
theorem ggL_acts_X8_count : GoodIn wsL_acts wsX8_count := goodIn_r _ [297, 11, 298, 299, 300, 301, 302, 303, 304, 305, 306, 307, 60, 308, 309, 310, 418, 419, 420, 421, 422, 423, 424, 425, 426, 427, 428, 429, 451, 452, 453, 454, 455, 456, 457, 458, 439, 440, 459, 460, 461, 462, 463] (by decide +kernel) (by decide +kernel)
set_option maxRecDepth 20000 in
theorem gL_acts_X8_count : GoodIn wsL_acts (wsV RL 52 RX8 yX8_count wsX8_count) := goodIn_app (goodIn_of _ (by decide +kernel)) ggL_acts_X8_count
set_option maxRecDepth 20000 in
theorem ggL_acts_X8_clearText : GoodIn wsL_acts wsX8_clearText := goodIn_r _ [329, 309, 310, 418, 419, 420, 421, 422, 423, 459, 460, 461, 462, 463] (by decide +kernel) (by decide +kernel)
set_option maxRecDepth 20000 in
theorem gL_acts_X8_clearText : GoodIn wsL_acts (wsV RL 105 RX8 yX8_clearText wsX8_clearText) := goodIn_app (goodIn_of _ (by decide +kernel)) ggL_acts_X8_clearText
set_option maxRecDepth 20000 in
theorem ggL_acts_X8_type : GoodIn wsL_acts wsX8_type := goodIn_r _ [333, 309, 310, 334, 335, 336, 337, 338, 339, 340, 418, 419, 420, 421, 422, 423, 459, 460, 461, 462, 463] (by decide +kernel) (by decide +kernel)
set_option maxRecDepth 20000 in
theorem gL_acts_X8_type : GoodIn wsL_acts (wsV RL 108 RX8 yX8_type wsX8_type) := goodIn_app (goodIn_of _ (by decide +kernel)) ggL_acts_X8_type
set_option maxRecDepth 20000 in
theorem ggL_acts_X8_readBeams : GoodIn wsL_acts wsX8_readBeams := goodIn_r _ [344, 309, 11, 298, 325, 60, 345, 346, 347, 348, 337, 349, 350, 339, 340, 351, 352, 353, 354, 355, 356, 357, 358, 359, 360, 361, 362, 363, 364, 365, 366, 367, 368, 369, 370, 371, 372, 373, 374, 375, 376, 377, 378, 379, 380, 381, 67, 68, 69, 70, 71, 72, 73, 74, 75, 76, 77, 78, 79, 80, 16, 81, 20, 82, 18, 83, 84, 85, 86, 87, 88, 24, 89, 31, 90, 26, 91, 92, 93, 94, 95, 96, 97, 98, 99, 100, 101, 102, 103, 104, 105, 106, 107, 108, 109, 110, 111, 112, 113, 114, 115, 116, 117, 118, 119, 120, 121, 122, 123, 124, 125, 126, 127, 128, 129, 130, 131, 132, 133, 134, 382, 383, 384, 385, 386, 316, 317, 318, 319, 320, 207, 208, 209, 210, 211, 212, 213, 214, 215, 216, 217, 218, 21, 22, 23, 25, 219, 220, 221, 222, 223, 224, 225, 226, 227, 19, 228, 229, 230, 231, 232, 233, 144, 145, 146, 32, 9, 33, 34, 234, 235, 236, 237, 238, 239, 240, 241, 242, 243, 244, 245, 246, 247, 248, 249, 250, 251, 252, 253, 183, 184, 254, 255, 256, 257, 258, 259, 260, 261, 262, 263, 28, 29, 30, 264, 265, 266, 267, 268, 269, 270, 271, 272, 273, 274, 275, 276, 277, 278, 14, 15, 17, 279, 280, 281, 282, 283, 284, 285, 286, 287, 288, 289, 290, 291, 292, 293, 418, 419, 420, 421, 422, 423, 424, 425, 426, 427, 428, 429, 459, 460, 461, 462, 463, 439, 440, 436, 437, 438, 441, 442, 443, 444, 445, 446, 447, 448, 430, 431, 432, 433, 434, 435, 449, 450, 451, 452, 453, 454, 455, 456, 457, 458] (by decide +kernel) (by decide +kernel)
set_option maxRecDepth 20000 in
theorem gL_acts_X8_readBeams : GoodIn wsL_acts (wsV RL 112 RX8 yX8_readBeams wsX8_readBeams) := goodIn_app (goodIn_of _ (by decide +kernel)) ggL_acts_X8_readBeams
set_option maxRecDepth 20000 in
theorem ggL_acts_X8_placeIn : GoodIn wsL_acts wsX8_placeIn := goodIn_r _ [314, 204, 11, 175, 181, 315, 32, 9, 33, 34, 205, 79, 80, 16, 81, 20, 82, 18, 83, 84, 85, 86, 87, 88, 24, 89, 31, 90, 26, 91, 92, 93, 94, 95, 96, 97, 98, 99, 100, 101, 102, 103, 104, 105, 106, 107, 108, 109, 110, 111, 112, 113, 114, 115, 116, 117, 118, 119, 120, 121, 122, 123, 124, 125, 126, 127, 128, 129, 130, 131, 132, 133, 134, 316, 317, 318, 319, 320, 207, 208, 209, 210, 211, 212, 213, 214, 215, 216, 217, 218, 21, 22, 23, 25, 219, 220, 221, 222, 223, 224, 225, 226, 227, 19, 228, 229, 230, 231, 232, 233, 144, 145, 146, 234, 235, 236, 237, 238, 239, 240, 241, 242, 243, 244, 245, 246, 247, 248, 249, 250, 251, 252, 253, 183, 184, 254, 255, 256, 257, 258, 259, 260, 261, 262, 263, 28, 29, 30, 264, 265, 266, 267, 268, 269, 270, 271, 272, 273, 274, 275, 276, 277, 278, 14, 15, 17, 279, 280, 281, 282, 283, 284, 285, 286, 287, 288, 289, 290, 291, 292, 293, 418, 419, 420, 421, 422, 423, 424, 425, 426, 427, 428, 429, 430, 431, 432, 433, 434, 435, 436, 437, 438, 441, 442, 443, 444, 445, 446, 447, 448, 449, 450, 451, 452, 453, 454, 455, 456, 457, 458] (by decide +kernel) (by decide +kernel)
set_option maxRecDepth 20000 in
theorem gL_acts_X8_placeIn : GoodIn wsL_acts (wsV RL 67 RX8 yX8_placeIn wsX8_placeIn) := goodIn_app (goodIn_of _ (by decide +kernel)) ggL_acts_X8_placeIn
set_option maxRecDepth 20000 in
theorem ggL_acts_X8_pass : GoodIn wsL_acts wsX8_pass := goodIn_r _ [324, 11, 298, 325, 60, 175, 176, 67, 68, 69, 70, 71, 72, 73, 74, 75, 76, 77, 78, 79, 80, 16, 81, 20, 82, 18, 83, 84, 85, 86, 87, 88, 24, 89, 31, 90, 26, 91, 92, 93, 94, 95, 96, 97, 98, 99, 100, 101, 102, 103, 104, 105, 106, 107, 108, 109, 110, 111, 112, 113, 114, 115, 116, 117, 118, 119, 120, 121, 122, 123, 124, 125, 126, 127, 128, 129, 130, 131, 132, 133, 134, 316, 317, 318, 319, 320, 207, 208, 209, 210, 211, 212, 213, 214, 215, 216, 217, 218, 21, 22, 23, 25, 219, 220, 221, 222, 223, 224, 225, 226, 227, 19, 228, 229, 230, 231, 232, 233, 144, 145, 146, 32, 9, 33, 34, 234, 235, 236, 237, 238, 239, 240, 241, 242, 243, 244, 245, 246, 247, 248, 249, 250, 251, 252, 253, 183, 184, 254, 255, 256, 257, 258, 259, 260, 261, 262, 263, 28, 29, 30, 264, 265, 266, 267, 268, 269, 270, 271, 272, 273, 274, 275, 276, 277, 278, 14, 15, 17, 279, 280, 281, 282, 283, 284, 285, 286, 287, 288, 289, 290, 291, 292, 293, 418, 419, 420, 421, 422, 423, 424, 425, 426, 427, 428, 429, 430, 431, 432, 433, 434, 435, 439, 440, 436, 437, 438, 441, 442, 443, 444, 445, 446, 447, 448, 449, 450, 451, 452, 453, 454, 455, 456, 457, 458] (by decide +kernel) (by decide +kernel)
set_option maxRecDepth 20000 in
theorem gL_acts_X8_pass : GoodIn wsL_acts (wsV RL 71 RX8 yX8_pass wsX8_pass) := goodIn_app (goodIn_of _ (by decide +kernel)) ggL_acts_X8_pass
set_option maxRecDepth 20000 in
theorem ggL_acts_X8_place : GoodIn wsL_acts wsX8_place := goodIn_r _ [390, 11, 175, 181, 418, 419, 420, 421, 422, 423, 424, 425, 426, 427, 428, 429, 430, 431, 432, 433, 434, 435] (by decide +kernel) (by decide +kernel)
set_option maxRecDepth 20000 in
theorem gL_acts_X8_place : GoodIn wsL_acts (wsV RL 28 RX8 yX8_place wsX8_place) := goodIn_app (goodIn_of _ (by decide +kernel)) ggL_acts_X8_place
set_option maxRecDepth 20000 in
theorem ggL_acts_L_tick : GoodIn wsL_acts wsL_tick := goodIn_r _ [393, 394, 171, 172, 173, 9, 174, 11, 175, 176, 177, 178, 179, 180, 181, 182, 183, 184, 387, 388, 389, 390, 395, 396, 397, 398, 399, 400, 401, 402, 403, 404, 405, 406, 407, 12, 408, 230, 231, 94, 232, 233, 144, 145, 24, 146, 90, 32, 33, 34, 234, 235, 236, 237, 238, 239, 240, 241, 99, 100, 101, 98, 242, 243, 311, 312, 313, 314, 204, 315, 205, 79, 80, 16, 81, 20, 82, 18, 83, 84, 85, 86, 87, 88, 89, 31, 26, 91, 92, 93, 95, 96, 97, 102, 103, 104, 105, 106, 107, 108, 109, 110, 111, 112, 113, 114, 115, 116, 117, 118, 119, 120, 121, 122, 123, 124, 125, 126, 127, 128, 129, 130, 131, 132, 133, 134, 316, 317, 318, 319, 320, 207, 208, 209, 210, 211, 212, 213, 214, 215, 216, 217, 218, 21, 22, 23, 25, 219, 220, 221, 222, 223, 224, 225, 226, 227, 19, 228, 229, 244, 245, 246, 247, 248, 249, 250, 251, 252, 253, 254, 255, 256, 257, 258, 259, 260, 261, 262, 263, 28, 29, 30, 264, 265, 266, 267, 268, 269, 270, 271, 272, 273, 274, 275, 276, 277, 278, 14, 15, 17, 279, 280, 281, 282, 283, 284, 285, 286, 287, 288, 289, 290, 291, 292, 293, 294, 295, 296, 297, 298, 299, 300, 301, 302, 303, 304, 305, 306, 307, 60, 308, 309, 310, 156, 157, 158, 159, 160, 6, 7, 8, 10, 13, 27, 321, 322, 323, 324, 325, 67, 68, 69, 70, 71, 72, 73, 74, 75, 76, 77, 78, 409, 410, 411, 412, 413, 414, 415, 416, 417, 418, 419, 420, 421, 422, 423, 424, 425, 426, 427, 428, 429, 430, 431, 432, 433, 434, 435, 441, 442, 443, 444, 445, 446, 447, 448, 436, 437, 438, 449, 450, 451, 452, 453, 454, 455, 456, 457, 458, 439, 440, 459, 460, 461, 462, 463] (by decide +kernel) (by decide +kernel)
set_option maxRecDepth 20000 in
theorem gL_acts_L_tick : GoodIn wsL_acts (va_wsS RL 115 yL_tick wsL_tick) := goodIn_app (goodIn_of _ (by decide +kernel)) ggL_acts_L_tick
theorem dL_acts_0 : decode cL_acts 0 = .ok (.iload_n 1, 1) := by decide +kernel
theorem dL_acts_1 : decode cL_acts 1 = .ok (.bipush 12, 2) := by decide +kernel
theorem dL_acts_3 : decode cL_acts 3 = .ok (.invokestatic 78, 3) := by decide +kernel
theorem dL_acts_6 : decode cL_acts 6 = .ok (.tableswitch 650 0 8 #[50, 155, 249, 336, 336, 396, 454, 475, 589], 50) := by decide +kernel
theorem dL_acts_56 : decode cL_acts 56 = .ok (.iload_n 2, 1) := by decide +kernel
theorem dL_acts_57 : decode cL_acts 57 = .ok (.iconst 3, 1) := by decide +kernel
theorem dL_acts_58 : decode cL_acts 58 = .ok (.invokestatic 78, 3) := by decide +kernel
theorem dL_acts_61 : decode cL_acts 61 = .ok (.istore_n 3, 1) := by decide +kernel
theorem dL_acts_62 : decode cL_acts 62 = .ok (.iload_n 2, 1) := by decide +kernel
theorem dL_acts_63 : decode cL_acts 63 = .ok (.iconst 2, 1) := by decide +kernel
theorem dL_acts_64 : decode cL_acts 64 = .ok (.ishr, 1) := by decide +kernel
theorem dL_acts_65 : decode cL_acts 65 = .ok (.bipush 8, 2) := by decide +kernel
theorem dL_acts_67 : decode cL_acts 67 = .ok (.invokestatic 78, 3) := by decide +kernel
theorem dL_acts_70 : decode cL_acts 70 = .ok (.istore 4, 2) := by decide +kernel
theorem dL_acts_72 : decode cL_acts 72 = .ok (.iload 4, 2) := by decide +kernel
theorem dL_acts_74 : decode cL_acts 74 = .ok (.bipush 6, 2) := by decide +kernel
theorem dL_acts_76 : decode cL_acts 76 = .ok (.if_icmp .ge 21, 3) := by decide +kernel
theorem dL_acts_79 : decode cL_acts 79 = .ok (.aload_n 0, 1) := by decide +kernel
theorem dL_acts_80 : decode cL_acts 80 = .ok (.iload_n 3, 1) := by decide +kernel
theorem dL_acts_81 : decode cL_acts 81 = .ok (.invokevirtual 36, 3) := by decide +kernel
theorem dL_acts_84 : decode cL_acts 84 = .ok (.iload 4, 2) := by decide +kernel
theorem dL_acts_86 : decode cL_acts 86 = .ok (.invokestatic 81, 3) := by decide +kernel
theorem dL_acts_89 : decode cL_acts 89 = .ok (.fcmp .l, 1) := by decide +kernel
theorem dL_acts_90 : decode cL_acts 90 = .ok (.ifCond .ne 7, 3) := by decide +kernel
theorem dL_acts_93 : decode cL_acts 93 = .ok (.iconst 1, 1) := by decide +kernel
theorem dL_acts_94 : decode cL_acts 94 = .ok (.goto 4, 3) := by decide +kernel
theorem dL_acts_97 : decode cL_acts 97 = .ok (.iconst 0, 1) := by decide +kernel
theorem dL_acts_98 : decode cL_acts 98 = .ok (.istore 5, 2) := by decide +kernel
theorem dL_acts_100 : decode cL_acts 100 = .ok (.aload_n 0, 1) := by decide +kernel
theorem dL_acts_101 : decode cL_acts 101 = .ok (.iload_n 3, 1) := by decide +kernel
theorem dL_acts_102 : decode cL_acts 102 = .ok (.iload 4, 2) := by decide +kernel
theorem dL_acts_104 : decode cL_acts 104 = .ok (.invokestatic 84, 3) := by decide +kernel
theorem dL_acts_107 : decode cL_acts 107 = .ok (.invokevirtual 87, 3) := by decide +kernel
theorem dL_acts_110 : decode cL_acts 110 = .ok (.iload 4, 2) := by decide +kernel
theorem dL_acts_112 : decode cL_acts 112 = .ok (.iconst 5, 1) := by decide +kernel
theorem dL_acts_113 : decode cL_acts 113 = .ok (.if_icmp .le 8, 3) := by decide +kernel
theorem dL_acts_116 : decode cL_acts 116 = .ok (.bipush (-2), 2) := by decide +kernel
theorem dL_acts_118 : decode cL_acts 118 = .ok (.goto 14, 3) := by decide +kernel
theorem dL_acts_121 : decode cL_acts 121 = .ok (.iload 5, 2) := by decide +kernel
theorem dL_acts_123 : decode cL_acts 123 = .ok (.ifCond .eq 8, 3) := by decide +kernel
theorem dL_acts_126 : decode cL_acts 126 = .ok (.bipush (-5), 2) := by decide +kernel
theorem dL_acts_128 : decode cL_acts 128 = .ok (.goto 4, 3) := by decide +kernel
theorem dL_acts_131 : decode cL_acts 131 = .ok (.iconst 1, 1) := by decide +kernel
theorem dL_acts_132 : decode cL_acts 132 = .ok (.if_icmp .ne 27, 3) := by decide +kernel
theorem dL_acts_135 : decode cL_acts 135 = .ok (.iload 4, 2) := by decide +kernel
theorem dL_acts_137 : decode cL_acts 137 = .ok (.iconst 5, 1) := by decide +kernel
theorem dL_acts_138 : decode cL_acts 138 = .ok (.if_icmp .gt 17, 3) := by decide +kernel
theorem dL_acts_141 : decode cL_acts 141 = .ok (.aload_n 0, 1) := by decide +kernel
theorem dL_acts_142 : decode cL_acts 142 = .ok (.iload_n 3, 1) := by decide +kernel
theorem dL_acts_143 : decode cL_acts 143 = .ok (.invokevirtual 36, 3) := by decide +kernel
theorem dL_acts_146 : decode cL_acts 146 = .ok (.iload 4, 2) := by decide +kernel
theorem dL_acts_148 : decode cL_acts 148 = .ok (.invokestatic 81, 3) := by decide +kernel
theorem dL_acts_151 : decode cL_acts 151 = .ok (.fcmp .l, 1) := by decide +kernel
theorem dL_acts_152 : decode cL_acts 152 = .ok (.ifCond .ne 7, 3) := by decide +kernel
theorem dL_acts_155 : decode cL_acts 155 = .ok (.iconst 1, 1) := by decide +kernel
theorem dL_acts_156 : decode cL_acts 156 = .ok (.goto 4, 3) := by decide +kernel
theorem dL_acts_159 : decode cL_acts 159 = .ok (.iconst 0, 1) := by decide +kernel
theorem dL_acts_160 : decode cL_acts 160 = .ok (.ireturn, 1) := by decide +kernel
theorem dL_acts_161 : decode cL_acts 161 = .ok (.iload_n 2, 1) := by decide +kernel
theorem dL_acts_162 : decode cL_acts 162 = .ok (.iconst 4, 1) := by decide +kernel
theorem dL_acts_163 : decode cL_acts 163 = .ok (.invokestatic 78, 3) := by decide +kernel
theorem dL_acts_166 : decode cL_acts 166 = .ok (.istore_n 3, 1) := by decide +kernel
theorem dL_acts_167 : decode cL_acts 167 = .ok (.iload_n 2, 1) := by decide +kernel
theorem dL_acts_168 : decode cL_acts 168 = .ok (.iconst 2, 1) := by decide +kernel
theorem dL_acts_169 : decode cL_acts 169 = .ok (.ishr, 1) := by decide +kernel
theorem dL_acts_170 : decode cL_acts 170 = .ok (.iconst 5, 1) := by decide +kernel
theorem dL_acts_171 : decode cL_acts 171 = .ok (.invokestatic 78, 3) := by decide +kernel
theorem dL_acts_174 : decode cL_acts 174 = .ok (.istore 4, 2) := by decide +kernel
theorem dL_acts_176 : decode cL_acts 176 = .ok (.iload 4, 2) := by decide +kernel
theorem dL_acts_178 : decode cL_acts 178 = .ok (.iconst 3, 1) := by decide +kernel
theorem dL_acts_179 : decode cL_acts 179 = .ok (.if_icmp .eq 7, 3) := by decide +kernel
theorem dL_acts_182 : decode cL_acts 182 = .ok (.iconst 1, 1) := by decide +kernel
theorem dL_acts_183 : decode cL_acts 183 = .ok (.goto 4, 3) := by decide +kernel
theorem dL_acts_186 : decode cL_acts 186 = .ok (.iconst 0, 1) := by decide +kernel
theorem dL_acts_187 : decode cL_acts 187 = .ok (.istore 5, 2) := by decide +kernel
theorem dL_acts_189 : decode cL_acts 189 = .ok (.iload 5, 2) := by decide +kernel
theorem dL_acts_191 : decode cL_acts 191 = .ok (.ifCond .eq 21, 3) := by decide +kernel
theorem dL_acts_194 : decode cL_acts 194 = .ok (.aload_n 0, 1) := by decide +kernel
theorem dL_acts_195 : decode cL_acts 195 = .ok (.iload_n 3, 1) := by decide +kernel
theorem dL_acts_196 : decode cL_acts 196 = .ok (.invokevirtual 46, 3) := by decide +kernel
theorem dL_acts_199 : decode cL_acts 199 = .ok (.iload 4, 2) := by decide +kernel
theorem dL_acts_201 : decode cL_acts 201 = .ok (.invokestatic 81, 3) := by decide +kernel
theorem dL_acts_204 : decode cL_acts 204 = .ok (.fcmp .l, 1) := by decide +kernel
theorem dL_acts_205 : decode cL_acts 205 = .ok (.ifCond .ne 7, 3) := by decide +kernel
theorem dL_acts_208 : decode cL_acts 208 = .ok (.iconst 1, 1) := by decide +kernel
theorem dL_acts_209 : decode cL_acts 209 = .ok (.goto 4, 3) := by decide +kernel
theorem dL_acts_212 : decode cL_acts 212 = .ok (.iconst 0, 1) := by decide +kernel
theorem dL_acts_213 : decode cL_acts 213 = .ok (.istore 6, 2) := by decide +kernel
theorem dL_acts_215 : decode cL_acts 215 = .ok (.aload_n 0, 1) := by decide +kernel
theorem dL_acts_216 : decode cL_acts 216 = .ok (.iload_n 3, 1) := by decide +kernel
theorem dL_acts_217 : decode cL_acts 217 = .ok (.iload 4, 2) := by decide +kernel
theorem dL_acts_219 : decode cL_acts 219 = .ok (.invokestatic 84, 3) := by decide +kernel
theorem dL_acts_222 : decode cL_acts 222 = .ok (.invokevirtual 90, 3) := by decide +kernel
theorem dL_acts_225 : decode cL_acts 225 = .ok (.iload 5, 2) := by decide +kernel
theorem dL_acts_227 : decode cL_acts 227 = .ok (.ifCond .ne 8, 3) := by decide +kernel
theorem dL_acts_230 : decode cL_acts 230 = .ok (.bipush (-2), 2) := by decide +kernel
theorem dL_acts_232 : decode cL_acts 232 = .ok (.goto 14, 3) := by decide +kernel
theorem dL_acts_235 : decode cL_acts 235 = .ok (.iload 6, 2) := by decide +kernel
theorem dL_acts_237 : decode cL_acts 237 = .ok (.ifCond .eq 8, 3) := by decide +kernel
theorem dL_acts_240 : decode cL_acts 240 = .ok (.bipush (-5), 2) := by decide +kernel
theorem dL_acts_242 : decode cL_acts 242 = .ok (.goto 4, 3) := by decide +kernel
theorem dL_acts_245 : decode cL_acts 245 = .ok (.iconst 1, 1) := by decide +kernel
theorem dL_acts_246 : decode cL_acts 246 = .ok (.if_icmp .ne 7, 3) := by decide +kernel
theorem dL_acts_249 : decode cL_acts 249 = .ok (.iconst 1, 1) := by decide +kernel
theorem dL_acts_250 : decode cL_acts 250 = .ok (.goto 4, 3) := by decide +kernel
theorem dL_acts_253 : decode cL_acts 253 = .ok (.iconst 0, 1) := by decide +kernel
theorem dL_acts_254 : decode cL_acts 254 = .ok (.ireturn, 1) := by decide +kernel
theorem dL_acts_255 : decode cL_acts 255 = .ok (.iload_n 2, 1) := by decide +kernel
theorem dL_acts_256 : decode cL_acts 256 = .ok (.iconst 5, 1) := by decide +kernel
theorem dL_acts_257 : decode cL_acts 257 = .ok (.invokestatic 78, 3) := by decide +kernel
theorem dL_acts_260 : decode cL_acts 260 = .ok (.istore_n 3, 1) := by decide +kernel
theorem dL_acts_261 : decode cL_acts 261 = .ok (.iload_n 3, 1) := by decide +kernel
theorem dL_acts_262 : decode cL_acts 262 = .ok (.ifCond .ne 16, 3) := by decide +kernel
theorem dL_acts_265 : decode cL_acts 265 = .ok (.iconst 1, 1) := by decide +kernel
theorem dL_acts_266 : decode cL_acts 266 = .ok (.iload_n 2, 1) := by decide +kernel
theorem dL_acts_267 : decode cL_acts 267 = .ok (.iconst 3, 1) := by decide +kernel
theorem dL_acts_268 : decode cL_acts 268 = .ok (.ishr, 1) := by decide +kernel
theorem dL_acts_269 : decode cL_acts 269 = .ok (.bipush 6, 2) := by decide +kernel
theorem dL_acts_271 : decode cL_acts 271 = .ok (.invokestatic 78, 3) := by decide +kernel
theorem dL_acts_274 : decode cL_acts 274 = .ok (.iadd, 1) := by decide +kernel
theorem dL_acts_275 : decode cL_acts 275 = .ok (.goto 28, 3) := by decide +kernel
theorem dL_acts_278 : decode cL_acts 278 = .ok (.iload_n 3, 1) := by decide +kernel
theorem dL_acts_279 : decode cL_acts 279 = .ok (.iconst 4, 1) := by decide +kernel
theorem dL_acts_280 : decode cL_acts 280 = .ok (.if_icmp .ne 15, 3) := by decide +kernel
theorem dL_acts_283 : decode cL_acts 283 = .ok (.iconst 1, 1) := by decide +kernel
theorem dL_acts_284 : decode cL_acts 284 = .ok (.iload_n 2, 1) := by decide +kernel
theorem dL_acts_285 : decode cL_acts 285 = .ok (.iconst 3, 1) := by decide +kernel
theorem dL_acts_286 : decode cL_acts 286 = .ok (.ishr, 1) := by decide +kernel
theorem dL_acts_287 : decode cL_acts 287 = .ok (.iconst 4, 1) := by decide +kernel
theorem dL_acts_288 : decode cL_acts 288 = .ok (.invokestatic 78, 3) := by decide +kernel
theorem dL_acts_291 : decode cL_acts 291 = .ok (.iadd, 1) := by decide +kernel
theorem dL_acts_292 : decode cL_acts 292 = .ok (.goto 11, 3) := by decide +kernel
theorem dL_acts_295 : decode cL_acts 295 = .ok (.iload_n 2, 1) := by decide +kernel
theorem dL_acts_296 : decode cL_acts 296 = .ok (.iconst 3, 1) := by decide +kernel
theorem dL_acts_297 : decode cL_acts 297 = .ok (.ishr, 1) := by decide +kernel
theorem dL_acts_298 : decode cL_acts 298 = .ok (.bipush 6, 2) := by decide +kernel
theorem dL_acts_300 : decode cL_acts 300 = .ok (.invokestatic 78, 3) := by decide +kernel
theorem dL_acts_303 : decode cL_acts 303 = .ok (.istore 4, 2) := by decide +kernel
theorem dL_acts_305 : decode cL_acts 305 = .ok (.aload_n 0, 1) := by decide +kernel
theorem dL_acts_306 : decode cL_acts 306 = .ok (.iload_n 3, 1) := by decide +kernel
theorem dL_acts_307 : decode cL_acts 307 = .ok (.invokevirtual 33, 3) := by decide +kernel
theorem dL_acts_310 : decode cL_acts 310 = .ok (.istore 5, 2) := by decide +kernel
theorem dL_acts_312 : decode cL_acts 312 = .ok (.aload_n 0, 1) := by decide +kernel
theorem dL_acts_313 : decode cL_acts 313 = .ok (.iload_n 3, 1) := by decide +kernel
theorem dL_acts_314 : decode cL_acts 314 = .ok (.iload 4, 2) := by decide +kernel
theorem dL_acts_316 : decode cL_acts 316 = .ok (.invokevirtual 93, 3) := by decide +kernel
theorem dL_acts_319 : decode cL_acts 319 = .ok (.iload 5, 2) := by decide +kernel
theorem dL_acts_321 : decode cL_acts 321 = .ok (.iload 4, 2) := by decide +kernel
theorem dL_acts_323 : decode cL_acts 323 = .ok (.if_icmp .ne 8, 3) := by decide +kernel
theorem dL_acts_326 : decode cL_acts 326 = .ok (.bipush (-5), 2) := by decide +kernel
theorem dL_acts_328 : decode cL_acts 328 = .ok (.goto 5, 3) := by decide +kernel
theorem dL_acts_331 : decode cL_acts 331 = .ok (.iload 5, 2) := by decide +kernel
theorem dL_acts_333 : decode cL_acts 333 = .ok (.if_icmp .ne 7, 3) := by decide +kernel
theorem dL_acts_336 : decode cL_acts 336 = .ok (.iconst 1, 1) := by decide +kernel
theorem dL_acts_337 : decode cL_acts 337 = .ok (.goto 4, 3) := by decide +kernel
theorem dL_acts_340 : decode cL_acts 340 = .ok (.iconst 0, 1) := by decide +kernel
theorem dL_acts_341 : decode cL_acts 341 = .ok (.ireturn, 1) := by decide +kernel
theorem dL_acts_342 : decode cL_acts 342 = .ok (.aload_n 0, 1) := by decide +kernel
theorem dL_acts_343 : decode cL_acts 343 = .ok (.iconst 0, 1) := by decide +kernel
theorem dL_acts_344 : decode cL_acts 344 = .ok (.invokevirtual 22, 3) := by decide +kernel
theorem dL_acts_347 : decode cL_acts 347 = .ok (.istore_n 3, 1) := by decide +kernel
theorem dL_acts_348 : decode cL_acts 348 = .ok (.aload_n 0, 1) := by decide +kernel
theorem dL_acts_349 : decode cL_acts 349 = .ok (.invokevirtual 96, 3) := by decide +kernel
theorem dL_acts_352 : decode cL_acts 352 = .ok (.istore 4, 2) := by decide +kernel
theorem dL_acts_354 : decode cL_acts 354 = .ok (.iload 4, 2) := by decide +kernel
theorem dL_acts_356 : decode cL_acts 356 = .ok (.iload_n 3, 1) := by decide +kernel
theorem dL_acts_357 : decode cL_acts 357 = .ok (.iconst 1, 1) := by decide +kernel
theorem dL_acts_358 : decode cL_acts 358 = .ok (.if_icmp .ne 8, 3) := by decide +kernel
theorem dL_acts_361 : decode cL_acts 361 = .ok (.bipush (-4), 2) := by decide +kernel
theorem dL_acts_363 : decode cL_acts 363 = .ok (.goto 4, 3) := by decide +kernel
theorem dL_acts_366 : decode cL_acts 366 = .ok (.iload_n 3, 1) := by decide +kernel
theorem dL_acts_367 : decode cL_acts 367 = .ok (.if_icmp .ne 33, 3) := by decide +kernel
theorem dL_acts_370 : decode cL_acts 370 = .ok (.aload_n 0, 1) := by decide +kernel
theorem dL_acts_371 : decode cL_acts 371 = .ok (.iconst 0, 1) := by decide +kernel
theorem dL_acts_372 : decode cL_acts 372 = .ok (.invokevirtual 22, 3) := by decide +kernel
theorem dL_acts_375 : decode cL_acts 375 = .ok (.iload_n 3, 1) := by decide +kernel
theorem dL_acts_376 : decode cL_acts 376 = .ok (.iconst 2, 1) := by decide +kernel
theorem dL_acts_377 : decode cL_acts 377 = .ok (.if_icmp .ne 7, 3) := by decide +kernel
theorem dL_acts_380 : decode cL_acts 380 = .ok (.iconst 2, 1) := by decide +kernel
theorem dL_acts_381 : decode cL_acts 381 = .ok (.goto 4, 3) := by decide +kernel
theorem dL_acts_384 : decode cL_acts 384 = .ok (.iconst 1, 1) := by decide +kernel
theorem dL_acts_385 : decode cL_acts 385 = .ok (.if_icmp .ne 15, 3) := by decide +kernel
theorem dL_acts_388 : decode cL_acts 388 = .ok (.aload_n 0, 1) := by decide +kernel
theorem dL_acts_389 : decode cL_acts 389 = .ok (.iconst 3, 1) := by decide +kernel
theorem dL_acts_390 : decode cL_acts 390 = .ok (.invokevirtual 22, 3) := by decide +kernel
theorem dL_acts_393 : decode cL_acts 393 = .ok (.ifCond .ne 7, 3) := by decide +kernel
theorem dL_acts_396 : decode cL_acts 396 = .ok (.iconst 1, 1) := by decide +kernel
theorem dL_acts_397 : decode cL_acts 397 = .ok (.goto 4, 3) := by decide +kernel
theorem dL_acts_400 : decode cL_acts 400 = .ok (.iconst 0, 1) := by decide +kernel
theorem dL_acts_401 : decode cL_acts 401 = .ok (.ireturn, 1) := by decide +kernel
theorem dL_acts_402 : decode cL_acts 402 = .ok (.aload_n 0, 1) := by decide +kernel
theorem dL_acts_403 : decode cL_acts 403 = .ok (.iconst 1, 1) := by decide +kernel
theorem dL_acts_404 : decode cL_acts 404 = .ok (.invokevirtual 22, 3) := by decide +kernel
theorem dL_acts_407 : decode cL_acts 407 = .ok (.istore_n 3, 1) := by decide +kernel
theorem dL_acts_408 : decode cL_acts 408 = .ok (.aload_n 0, 1) := by decide +kernel
theorem dL_acts_409 : decode cL_acts 409 = .ok (.iconst 2, 1) := by decide +kernel
theorem dL_acts_410 : decode cL_acts 410 = .ok (.invokevirtual 22, 3) := by decide +kernel
theorem dL_acts_413 : decode cL_acts 413 = .ok (.istore 4, 2) := by decide +kernel
theorem dL_acts_415 : decode cL_acts 415 = .ok (.aload_n 0, 1) := by decide +kernel
theorem dL_acts_416 : decode cL_acts 416 = .ok (.invokevirtual 99, 3) := by decide +kernel
theorem dL_acts_419 : decode cL_acts 419 = .ok (.iload 4, 2) := by decide +kernel
theorem dL_acts_421 : decode cL_acts 421 = .ok (.ifCond .ne 8, 3) := by decide +kernel
theorem dL_acts_424 : decode cL_acts 424 = .ok (.bipush (-4), 2) := by decide +kernel
theorem dL_acts_426 : decode cL_acts 426 = .ok (.goto 4, 3) := by decide +kernel
theorem dL_acts_429 : decode cL_acts 429 = .ok (.iload_n 3, 1) := by decide +kernel
theorem dL_acts_430 : decode cL_acts 430 = .ok (.if_icmp .ne 28, 3) := by decide +kernel
theorem dL_acts_433 : decode cL_acts 433 = .ok (.aload_n 0, 1) := by decide +kernel
theorem dL_acts_434 : decode cL_acts 434 = .ok (.iconst 2, 1) := by decide +kernel
theorem dL_acts_435 : decode cL_acts 435 = .ok (.invokevirtual 22, 3) := by decide +kernel
theorem dL_acts_438 : decode cL_acts 438 = .ok (.ifCond .ne 20, 3) := by decide +kernel
theorem dL_acts_441 : decode cL_acts 441 = .ok (.iload 4, 2) := by decide +kernel
theorem dL_acts_443 : decode cL_acts 443 = .ok (.ifCond .eq 11, 3) := by decide +kernel
theorem dL_acts_446 : decode cL_acts 446 = .ok (.aload_n 0, 1) := by decide +kernel
theorem dL_acts_447 : decode cL_acts 447 = .ok (.iconst 1, 1) := by decide +kernel
theorem dL_acts_448 : decode cL_acts 448 = .ok (.invokevirtual 22, 3) := by decide +kernel
theorem dL_acts_451 : decode cL_acts 451 = .ok (.ifCond .ne 7, 3) := by decide +kernel
theorem dL_acts_454 : decode cL_acts 454 = .ok (.iconst 1, 1) := by decide +kernel
theorem dL_acts_455 : decode cL_acts 455 = .ok (.goto 4, 3) := by decide +kernel
theorem dL_acts_458 : decode cL_acts 458 = .ok (.iconst 0, 1) := by decide +kernel
theorem dL_acts_459 : decode cL_acts 459 = .ok (.ireturn, 1) := by decide +kernel
theorem dL_acts_460 : decode cL_acts 460 = .ok (.iload_n 2, 1) := by decide +kernel
theorem dL_acts_461 : decode cL_acts 461 = .ok (.iconst 4, 1) := by decide +kernel
theorem dL_acts_462 : decode cL_acts 462 = .ok (.invokestatic 78, 3) := by decide +kernel
theorem dL_acts_465 : decode cL_acts 465 = .ok (.ifCond .gt 10, 3) := by decide +kernel
theorem dL_acts_468 : decode cL_acts 468 = .ok (.aload_n 0, 1) := by decide +kernel
theorem dL_acts_469 : decode cL_acts 469 = .ok (.invokestatic 102, 3) := by decide +kernel
theorem dL_acts_472 : decode cL_acts 472 = .ok (.ifCond .eq 7, 3) := by decide +kernel
theorem dL_acts_475 : decode cL_acts 475 = .ok (.iconst 1, 1) := by decide +kernel
theorem dL_acts_476 : decode cL_acts 476 = .ok (.goto 4, 3) := by decide +kernel
theorem dL_acts_479 : decode cL_acts 479 = .ok (.iconst 0, 1) := by decide +kernel
theorem dL_acts_480 : decode cL_acts 480 = .ok (.ireturn, 1) := by decide +kernel
theorem dL_acts_481 : decode cL_acts 481 = .ok (.aload_n 0, 1) := by decide +kernel
theorem dL_acts_482 : decode cL_acts 482 = .ok (.iconst 0, 1) := by decide +kernel
theorem dL_acts_483 : decode cL_acts 483 = .ok (.invokevirtual 52, 3) := by decide +kernel
theorem dL_acts_486 : decode cL_acts 486 = .ok (.istore_n 3, 1) := by decide +kernel
theorem dL_acts_487 : decode cL_acts 487 = .ok (.aload_n 0, 1) := by decide +kernel
theorem dL_acts_488 : decode cL_acts 488 = .ok (.invokevirtual 105, 3) := by decide +kernel
theorem dL_acts_491 : decode cL_acts 491 = .ok (.pop, 1) := by decide +kernel
theorem dL_acts_492 : decode cL_acts 492 = .ok (.aload_n 0, 1) := by decide +kernel
theorem dL_acts_493 : decode cL_acts 493 = .ok (.bipush 48, 2) := by decide +kernel
theorem dL_acts_495 : decode cL_acts 495 = .ok (.iload_n 2, 1) := by decide +kernel
theorem dL_acts_496 : decode cL_acts 496 = .ok (.bipush 8, 2) := by decide +kernel
theorem dL_acts_498 : decode cL_acts 498 = .ok (.invokestatic 78, 3) := by decide +kernel
theorem dL_acts_501 : decode cL_acts 501 = .ok (.iadd, 1) := by decide +kernel
theorem dL_acts_502 : decode cL_acts 502 = .ok (.i2c, 1) := by decide +kernel
theorem dL_acts_503 : decode cL_acts 503 = .ok (.invokevirtual 108, 3) := by decide +kernel
theorem dL_acts_506 : decode cL_acts 506 = .ok (.pop, 1) := by decide +kernel
theorem dL_acts_507 : decode cL_acts 507 = .ok (.aload_n 0, 1) := by decide +kernel
theorem dL_acts_508 : decode cL_acts 508 = .ok (.bipush 42, 2) := by decide +kernel
theorem dL_acts_510 : decode cL_acts 510 = .ok (.invokevirtual 108, 3) := by decide +kernel
theorem dL_acts_513 : decode cL_acts 513 = .ok (.pop, 1) := by decide +kernel
theorem dL_acts_514 : decode cL_acts 514 = .ok (.aload_n 0, 1) := by decide +kernel
theorem dL_acts_515 : decode cL_acts 515 = .ok (.bipush 49, 2) := by decide +kernel
theorem dL_acts_517 : decode cL_acts 517 = .ok (.iload_n 2, 1) := by decide +kernel
theorem dL_acts_518 : decode cL_acts 518 = .ok (.iconst 3, 1) := by decide +kernel
theorem dL_acts_519 : decode cL_acts 519 = .ok (.ishr, 1) := by decide +kernel
theorem dL_acts_520 : decode cL_acts 520 = .ok (.bipush 9, 2) := by decide +kernel
theorem dL_acts_522 : decode cL_acts 522 = .ok (.invokestatic 78, 3) := by decide +kernel
theorem dL_acts_525 : decode cL_acts 525 = .ok (.iadd, 1) := by decide +kernel
theorem dL_acts_526 : decode cL_acts 526 = .ok (.i2c, 1) := by decide +kernel
theorem dL_acts_527 : decode cL_acts 527 = .ok (.invokevirtual 108, 3) := by decide +kernel
theorem dL_acts_530 : decode cL_acts 530 = .ok (.pop, 1) := by decide +kernel
theorem dL_acts_531 : decode cL_acts 531 = .ok (.aload_n 0, 1) := by decide +kernel
theorem dL_acts_532 : decode cL_acts 532 = .ok (.bipush 44, 2) := by decide +kernel
theorem dL_acts_534 : decode cL_acts 534 = .ok (.invokevirtual 108, 3) := by decide +kernel
theorem dL_acts_537 : decode cL_acts 537 = .ok (.pop, 1) := by decide +kernel
theorem dL_acts_538 : decode cL_acts 538 = .ok (.aload_n 0, 1) := by decide +kernel
theorem dL_acts_539 : decode cL_acts 539 = .ok (.bipush 48, 2) := by decide +kernel
theorem dL_acts_541 : decode cL_acts 541 = .ok (.iload_n 2, 1) := by decide +kernel
theorem dL_acts_542 : decode cL_acts 542 = .ok (.bipush 7, 2) := by decide +kernel
theorem dL_acts_544 : decode cL_acts 544 = .ok (.ishr, 1) := by decide +kernel
theorem dL_acts_545 : decode cL_acts 545 = .ok (.bipush 8, 2) := by decide +kernel
theorem dL_acts_547 : decode cL_acts 547 = .ok (.invokestatic 78, 3) := by decide +kernel
theorem dL_acts_550 : decode cL_acts 550 = .ok (.iadd, 1) := by decide +kernel
theorem dL_acts_551 : decode cL_acts 551 = .ok (.i2c, 1) := by decide +kernel
theorem dL_acts_552 : decode cL_acts 552 = .ok (.invokevirtual 108, 3) := by decide +kernel
theorem dL_acts_555 : decode cL_acts 555 = .ok (.pop, 1) := by decide +kernel
theorem dL_acts_556 : decode cL_acts 556 = .ok (.iconst 2, 1) := by decide +kernel
theorem dL_acts_557 : decode cL_acts 557 = .ok (.iload_n 2, 1) := by decide +kernel
theorem dL_acts_558 : decode cL_acts 558 = .ok (.iconst 3, 1) := by decide +kernel
theorem dL_acts_559 : decode cL_acts 559 = .ok (.ishr, 1) := by decide +kernel
theorem dL_acts_560 : decode cL_acts 560 = .ok (.bipush 9, 2) := by decide +kernel
theorem dL_acts_562 : decode cL_acts 562 = .ok (.invokestatic 78, 3) := by decide +kernel
theorem dL_acts_565 : decode cL_acts 565 = .ok (.iadd, 1) := by decide +kernel
theorem dL_acts_566 : decode cL_acts 566 = .ok (.istore 4, 2) := by decide +kernel
theorem dL_acts_568 : decode cL_acts 568 = .ok (.aload_n 0, 1) := by decide +kernel
theorem dL_acts_569 : decode cL_acts 569 = .ok (.invokevirtual 112, 3) := by decide +kernel
theorem dL_acts_572 : decode cL_acts 572 = .ok (.iload 4, 2) := by decide +kernel
theorem dL_acts_574 : decode cL_acts 574 = .ok (.if_icmp .ne 19, 3) := by decide +kernel
theorem dL_acts_577 : decode cL_acts 577 = .ok (.aload_n 0, 1) := by decide +kernel
theorem dL_acts_578 : decode cL_acts 578 = .ok (.iconst 0, 1) := by decide +kernel
theorem dL_acts_579 : decode cL_acts 579 = .ok (.invokevirtual 52, 3) := by decide +kernel
theorem dL_acts_582 : decode cL_acts 582 = .ok (.iload_n 3, 1) := by decide +kernel
theorem dL_acts_583 : decode cL_acts 583 = .ok (.iload 4, 2) := by decide +kernel
theorem dL_acts_585 : decode cL_acts 585 = .ok (.iadd, 1) := by decide +kernel
theorem dL_acts_586 : decode cL_acts 586 = .ok (.if_icmp .ne 7, 3) := by decide +kernel
theorem dL_acts_589 : decode cL_acts 589 = .ok (.iconst 1, 1) := by decide +kernel
theorem dL_acts_590 : decode cL_acts 590 = .ok (.goto 4, 3) := by decide +kernel
theorem dL_acts_593 : decode cL_acts 593 = .ok (.iconst 0, 1) := by decide +kernel
theorem dL_acts_594 : decode cL_acts 594 = .ok (.ireturn, 1) := by decide +kernel
theorem dL_acts_595 : decode cL_acts 595 = .ok (.iconst 1, 1) := by decide +kernel
theorem dL_acts_596 : decode cL_acts 596 = .ok (.iload_n 2, 1) := by decide +kernel
theorem dL_acts_597 : decode cL_acts 597 = .ok (.bipush 12, 2) := by decide +kernel
theorem dL_acts_599 : decode cL_acts 599 = .ok (.invokestatic 78, 3) := by decide +kernel
theorem dL_acts_602 : decode cL_acts 602 = .ok (.iadd, 1) := by decide +kernel
theorem dL_acts_603 : decode cL_acts 603 = .ok (.istore_n 3, 1) := by decide +kernel
theorem dL_acts_604 : decode cL_acts 604 = .ok (.aload_n 0, 1) := by decide +kernel
theorem dL_acts_605 : decode cL_acts 605 = .ok (.iconst 0, 1) := by decide +kernel
theorem dL_acts_606 : decode cL_acts 606 = .ok (.invokevirtual 52, 3) := by decide +kernel
theorem dL_acts_609 : decode cL_acts 609 = .ok (.istore 4, 2) := by decide +kernel
theorem dL_acts_611 : decode cL_acts 611 = .ok (.aload_n 0, 1) := by decide +kernel
theorem dL_acts_612 : decode cL_acts 612 = .ok (.iconst 0, 1) := by decide +kernel
theorem dL_acts_613 : decode cL_acts 613 = .ok (.iload_n 3, 1) := by decide +kernel
theorem dL_acts_614 : decode cL_acts 614 = .ok (.invokevirtual 67, 3) := by decide +kernel
theorem dL_acts_617 : decode cL_acts 617 = .ok (.fstore 5, 2) := by decide +kernel
theorem dL_acts_619 : decode cL_acts 619 = .ok (.aload_n 0, 1) := by decide +kernel
theorem dL_acts_620 : decode cL_acts 620 = .ok (.iconst 0, 1) := by decide +kernel
theorem dL_acts_621 : decode cL_acts 621 = .ok (.iload_n 3, 1) := by decide +kernel
theorem dL_acts_622 : decode cL_acts 622 = .ok (.invokevirtual 71, 3) := by decide +kernel
theorem dL_acts_625 : decode cL_acts 625 = .ok (.ifCond .lt 29, 3) := by decide +kernel
theorem dL_acts_628 : decode cL_acts 628 = .ok (.aload_n 0, 1) := by decide +kernel
theorem dL_acts_629 : decode cL_acts 629 = .ok (.invokevirtual 28, 3) := by decide +kernel
theorem dL_acts_632 : decode cL_acts 632 = .ok (.fload 5, 2) := by decide +kernel
theorem dL_acts_634 : decode cL_acts 634 = .ok (.fcmp .l, 1) := by decide +kernel
theorem dL_acts_635 : decode cL_acts 635 = .ok (.ifCond .ne 19, 3) := by decide +kernel
theorem dL_acts_638 : decode cL_acts 638 = .ok (.aload_n 0, 1) := by decide +kernel
theorem dL_acts_639 : decode cL_acts 639 = .ok (.iconst 0, 1) := by decide +kernel
theorem dL_acts_640 : decode cL_acts 640 = .ok (.invokevirtual 52, 3) := by decide +kernel
theorem dL_acts_643 : decode cL_acts 643 = .ok (.iload 4, 2) := by decide +kernel
theorem dL_acts_645 : decode cL_acts 645 = .ok (.iload_n 3, 1) := by decide +kernel
theorem dL_acts_646 : decode cL_acts 646 = .ok (.iadd, 1) := by decide +kernel
theorem dL_acts_647 : decode cL_acts 647 = .ok (.if_icmp .ne 7, 3) := by decide +kernel
theorem dL_acts_650 : decode cL_acts 650 = .ok (.iconst 1, 1) := by decide +kernel
theorem dL_acts_651 : decode cL_acts 651 = .ok (.goto 4, 3) := by decide +kernel
theorem dL_acts_654 : decode cL_acts 654 = .ok (.iconst 0, 1) := by decide +kernel
theorem dL_acts_655 : decode cL_acts 655 = .ok (.ireturn, 1) := by decide +kernel
theorem dL_acts_656 : decode cL_acts 656 = .ok (.aload_n 0, 1) := by decide +kernel
theorem dL_acts_657 : decode cL_acts 657 = .ok (.iload_n 2, 1) := by decide +kernel
theorem dL_acts_658 : decode cL_acts 658 = .ok (.iconst 3, 1) := by decide +kernel
theorem dL_acts_659 : decode cL_acts 659 = .ok (.invokestatic 78, 3) := by decide +kernel
theorem dL_acts_662 : decode cL_acts 662 = .ok (.ifCond .ne 14, 3) := by decide +kernel
theorem dL_acts_665 : decode cL_acts 665 = .ok (.iload_n 2, 1) := by decide +kernel
theorem dL_acts_666 : decode cL_acts 666 = .ok (.iconst 2, 1) := by decide +kernel
theorem dL_acts_667 : decode cL_acts 667 = .ok (.ishr, 1) := by decide +kernel
theorem dL_acts_668 : decode cL_acts 668 = .ok (.bipush 8, 2) := by decide +kernel
theorem dL_acts_670 : decode cL_acts 670 = .ok (.invokestatic 78, 3) := by decide +kernel
theorem dL_acts_673 : decode cL_acts 673 = .ok (.goto 4, 3) := by decide +kernel
theorem dL_acts_676 : decode cL_acts 676 = .ok (.iconst 0, 1) := by decide +kernel
theorem dL_acts_677 : decode cL_acts 677 = .ok (.invokestatic 115, 3) := by decide +kernel
theorem dL_acts_680 : decode cL_acts 680 = .ok (.ireturn, 1) := by decide +kernel

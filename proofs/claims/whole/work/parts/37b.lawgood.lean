/-! ===== the law: the words of what it calls, by their places ===== -/
set_option maxRecDepth 20000 in
theorem ggL_law_X4_init : GoodIn wsL_law wsX4_init := goodIn_r _ [9, 10, 11, 12, 13, 14, 15, 16, 17, 18, 19, 20, 21, 22, 23, 24, 25, 26, 27, 28, 29, 30, 31, 32, 33, 34, 35, 36, 37, 38, 39, 40, 41, 42, 43, 44, 45, 46, 47, 48, 49, 50, 51, 52, 53, 54, 55, 56, 57, 58, 59, 703, 679, 680, 681, 682, 683, 684, 704, 705, 706, 707, 708, 709, 710, 711, 712, 713, 714] (by decide +kernel) (by decide +kernel)
set_option maxRecDepth 20000 in
theorem gL_law_X4_init : GoodIn wsL_law (wsX4_init) := ggL_law_X4_init
set_option maxRecDepth 20000 in
theorem ggL_law_X5_init : GoodIn wsL_law wsX5_init := goodIn_r _ [62, 63, 11, 12, 30, 64, 65, 66, 67, 68, 69, 70, 71, 72, 73, 74, 75, 685, 686, 687, 688, 689, 690, 691, 692, 693, 694, 695, 696, 697, 698, 699, 700, 701, 702] (by decide +kernel) (by decide +kernel)
set_option maxRecDepth 20000 in
theorem gL_law_X5_init : GoodIn wsL_law (wsX5_init) := ggL_law_X5_init
set_option maxRecDepth 20000 in
theorem ggL_law_X4_set : GoodIn wsL_law wsX4_set := goodIn_r _ [79, 80, 81, 28, 16, 82, 83, 2, 84, 85, 86, 87, 27, 88, 59, 89, 90, 91, 92, 93, 15, 94, 38, 39, 40, 41, 42, 95, 96, 97, 98, 679, 680, 681, 682, 683, 684, 712, 713, 714, 703] (by decide +kernel) (by decide +kernel)
set_option maxRecDepth 20000 in
theorem gL_law_X4_set : GoodIn wsL_law (wsV RL 13 RX4 yX4_set wsX4_set) := goodIn_app (goodIn_r _ [76, 77, 78, 2] (by decide +kernel) (by decide +kernel)) ggL_law_X4_set
set_option maxRecDepth 20000 in
theorem ggL_law_X5_set : GoodIn wsL_law wsX5_set := goodIn_r _ [102, 64, 103, 104, 5, 105, 106, 107, 108, 109, 110, 111, 112, 113, 65, 114, 115, 116, 685, 686, 687, 688, 689, 690, 691, 692, 693, 694, 695, 696, 697, 698, 699, 700, 701, 702] (by decide +kernel) (by decide +kernel)
set_option maxRecDepth 20000 in
theorem gL_law_X5_set : GoodIn wsL_law (wsV RL 17 RX5 yX5_set wsX5_set) := goodIn_app (goodIn_r _ [99, 100, 101, 5] (by decide +kernel) (by decide +kernel)) ggL_law_X5_set
set_option maxRecDepth 20000 in
theorem ggL_law_X4_film : GoodIn wsL_law wsX4_film := goodIn_r _ [120, 16, 28, 82, 83, 2, 84, 121, 122, 123, 124, 125, 126, 15, 127, 38, 85, 86, 87, 27, 88, 59, 89, 90, 91, 92, 93, 94, 39, 40, 41, 42, 128, 129, 130, 131, 132, 679, 680, 681, 682, 683, 684, 703, 712, 713, 714] (by decide +kernel) (by decide +kernel)
set_option maxRecDepth 20000 in
theorem gL_law_X4_film : GoodIn wsL_law (wsV RL 18 RX4 yX4_film wsX4_film) := goodIn_app (goodIn_r _ [117, 118, 119, 2] (by decide +kernel) (by decide +kernel)) ggL_law_X4_film
set_option maxRecDepth 20000 in
theorem ggL_law_X5_film : GoodIn wsL_law wsX5_film := goodIn_r _ [136, 64, 106, 107, 5, 108, 109, 110, 111, 112, 113, 65, 114, 115, 116, 685, 686, 687, 688, 689, 690, 691, 692, 693, 694, 695, 696, 697, 698, 699, 700, 701, 702] (by decide +kernel) (by decide +kernel)
set_option maxRecDepth 20000 in
theorem gL_law_X5_film : GoodIn wsL_law (wsV RL 22 RX5 yX5_film wsX5_film) := goodIn_app (goodIn_r _ [133, 134, 135, 5] (by decide +kernel) (by decide +kernel)) ggL_law_X5_film
set_option maxRecDepth 20000 in
theorem ggL_law_X4_show : GoodIn wsL_law wsX4_show := goodIn_r _ [140, 28, 16, 141, 142, 143, 2, 144, 145, 146, 147, 15, 148, 132, 125, 126, 127, 38, 149, 150, 151, 121, 122, 123, 82, 83, 84, 152, 153, 154, 155, 156, 157, 158, 159, 160, 161, 162, 163, 164, 85, 86, 87, 27, 88, 59, 89, 90, 91, 92, 93, 94, 39, 40, 41, 42, 165, 166, 167, 168, 169, 170, 171, 679, 680, 681, 682, 683, 684, 703, 712, 713, 714] (by decide +kernel) (by decide +kernel)
set_option maxRecDepth 20000 in
theorem gL_law_X4_show : GoodIn wsL_law (wsV RL 23 RX4 yX4_show wsX4_show) := goodIn_app (goodIn_r _ [137, 138, 139, 2] (by decide +kernel) (by decide +kernel)) ggL_law_X4_show
set_option maxRecDepth 20000 in
theorem ggL_law_X5_show : GoodIn wsL_law wsX5_show := goodIn_r _ [175, 64, 176, 177, 178, 5, 179, 180, 181, 182, 183, 106, 107, 108, 184, 185, 186, 187, 188, 189, 190, 191, 192, 193, 194, 195, 196, 197, 198, 109, 110, 111, 112, 113, 65, 114, 115, 116, 199, 200, 201, 202, 685, 686, 687, 688, 689, 690, 691, 692, 693, 694, 695, 696, 697, 698, 699, 700, 701, 702] (by decide +kernel) (by decide +kernel)
set_option maxRecDepth 20000 in
theorem gL_law_X5_show : GoodIn wsL_law (wsV RL 27 RX5 yX5_show wsX5_show) := goodIn_app (goodIn_r _ [172, 173, 174, 5] (by decide +kernel) (by decide +kernel)) ggL_law_X5_show
set_option maxRecDepth 20000 in
theorem ggL_law_X4_drop : GoodIn wsL_law wsX4_drop := goodIn_r _ [206, 16, 28, 149, 150, 2, 151, 121, 122, 123, 82, 83, 84, 165, 166, 167, 207, 208, 209, 15, 210, 38, 85, 86, 87, 27, 88, 59, 89, 90, 91, 92, 93, 94, 39, 40, 41, 42, 168, 169, 170, 171, 679, 680, 681, 682, 683, 684, 703, 712, 713, 714] (by decide +kernel) (by decide +kernel)
set_option maxRecDepth 20000 in
theorem gL_law_X4_drop : GoodIn wsL_law (wsV RL 28 RX4 yX4_drop wsX4_drop) := goodIn_app (goodIn_r _ [203, 204, 205, 2] (by decide +kernel) (by decide +kernel)) ggL_law_X4_drop
set_option maxRecDepth 20000 in
theorem ggL_law_X5_drop : GoodIn wsL_law wsX5_drop := goodIn_r _ [214, 64, 184, 185, 5, 186, 106, 107, 108, 199, 200, 201, 202, 109, 110, 111, 112, 113, 65, 114, 115, 116, 685, 686, 687, 688, 689, 690, 691, 692, 693, 694, 695, 696, 697, 698, 699, 700, 701, 702] (by decide +kernel) (by decide +kernel)
set_option maxRecDepth 20000 in
theorem gL_law_X5_drop : GoodIn wsL_law (wsV RL 31 RX5 yX5_drop wsX5_drop) := goodIn_app (goodIn_r _ [211, 212, 213, 5] (by decide +kernel) (by decide +kernel)) ggL_law_X5_drop
set_option maxRecDepth 20000 in
theorem ggL_law_X4_exchange : GoodIn wsL_law wsX4_exchange := goodIn_r _ [218, 16, 28, 219, 149, 150, 2, 151, 121, 122, 123, 82, 83, 84, 165, 166, 167, 207, 208, 209, 15, 210, 38, 152, 153, 154, 155, 156, 157, 158, 159, 160, 146, 147, 148, 132, 125, 126, 127, 161, 162, 163, 164, 220, 221, 222, 223, 124, 224, 225, 226, 227, 20, 228, 229, 230, 19, 231, 232, 49, 233, 234, 235, 236, 237, 238, 46, 47, 48, 239, 240, 241, 242, 243, 244, 245, 246, 247, 248, 249, 250, 251, 252, 253, 254, 255, 256, 257, 258, 259, 260, 261, 262, 263, 264, 265, 266, 267, 268, 269, 270, 271, 272, 85, 86, 87, 27, 88, 59, 89, 90, 91, 92, 93, 94, 39, 40, 41, 42, 168, 169, 170, 171, 679, 680, 681, 682, 683, 684, 703, 704, 705, 706, 707, 708, 709, 712, 713, 714] (by decide +kernel) (by decide +kernel)
set_option maxRecDepth 20000 in
theorem gL_law_X4_exchange : GoodIn wsL_law (wsV RL 32 RX4 yX4_exchange wsX4_exchange) := goodIn_app (goodIn_r _ [215, 216, 217, 2] (by decide +kernel) (by decide +kernel)) ggL_law_X4_exchange
set_option maxRecDepth 20000 in
theorem ggL_law_X5_exchange : GoodIn wsL_law wsX5_exchange := goodIn_r _ [276, 64, 277, 184, 185, 5, 186, 106, 107, 108, 199, 200, 201, 202, 278, 279, 280, 281, 191, 192, 193, 194, 195, 196, 197, 198, 109, 110, 111, 112, 113, 65, 114, 115, 116, 282, 283, 284, 285, 286, 287, 288, 289, 290, 291, 292, 293, 71, 69, 70, 294, 295, 296, 297, 298, 299, 300, 301, 72, 73, 302, 303, 304, 305, 74, 75, 306, 307, 308, 309, 310, 311, 312, 313, 314, 315, 316, 317, 318, 319, 320, 321, 322, 323, 324, 685, 686, 687, 688, 689, 690, 691, 692, 693, 694, 695, 696, 697, 698, 699, 700, 701, 702] (by decide +kernel) (by decide +kernel)
set_option maxRecDepth 20000 in
theorem gL_law_X5_exchange : GoodIn wsL_law (wsV RL 36 RX5 yX5_exchange wsX5_exchange) := goodIn_app (goodIn_r _ [273, 274, 275, 5] (by decide +kernel) (by decide +kernel)) ggL_law_X5_exchange
set_option maxRecDepth 20000 in
theorem ggL_law_X4_let : GoodIn wsL_law wsX4_let := goodIn_r _ [328, 28, 16, 121, 122, 2, 123, 82, 83, 84, 85, 86, 87, 27, 88, 59, 89, 90, 91, 92, 93, 15, 94, 38, 39, 40, 41, 42, 329, 330, 331, 332, 333, 334, 335, 336, 165, 166, 167, 168, 169, 170, 171, 679, 680, 681, 682, 683, 684, 712, 713, 714, 703] (by decide +kernel) (by decide +kernel)
set_option maxRecDepth 20000 in
theorem gL_law_X4_let : GoodIn wsL_law (wsV RL 37 RX4 yX4_let wsX4_let) := goodIn_app (goodIn_r _ [325, 326, 327, 2] (by decide +kernel) (by decide +kernel)) ggL_law_X4_let
set_option maxRecDepth 20000 in
theorem ggL_law_X5_let : GoodIn wsL_law wsX5_let := goodIn_r _ [340, 64, 106, 107, 5, 108, 109, 110, 111, 112, 113, 65, 114, 115, 116, 199, 200, 201, 202, 685, 686, 687, 688, 689, 690, 691, 692, 693, 694, 695, 696, 697, 698, 699, 700, 701, 702] (by decide +kernel) (by decide +kernel)
set_option maxRecDepth 20000 in
theorem gL_law_X5_let : GoodIn wsL_law (wsV RL 40 RX5 yX5_let wsX5_let) := goodIn_app (goodIn_r _ [337, 338, 339, 5] (by decide +kernel) (by decide +kernel)) ggL_law_X5_let
set_option maxRecDepth 20000 in
theorem ggL_law_X4_carryOut : GoodIn wsL_law wsX4_carryOut := goodIn_r _ [344, 24, 28, 16, 345, 346, 347, 23, 348, 349, 54, 350, 351, 352, 353, 354, 355, 356, 357, 358, 359, 360, 361, 85, 86, 87, 27, 88, 59, 89, 90, 91, 92, 93, 15, 94, 38, 39, 40, 41, 42, 362, 363, 364, 2, 365, 366, 367, 368, 369, 370, 371, 372, 373, 374, 375, 376, 377, 378, 379, 380, 381, 382, 383, 384, 385, 386, 387, 388, 389, 141, 142, 143, 144, 145, 146, 147, 148, 132, 125, 126, 127, 149, 150, 151, 121, 122, 123, 82, 83, 84, 152, 153, 154, 155, 156, 157, 158, 159, 160, 161, 162, 163, 164, 165, 166, 167, 168, 169, 170, 171, 390, 391, 392, 393, 679, 680, 681, 682, 683, 684, 710, 711, 712, 713, 714, 703] (by decide +kernel) (by decide +kernel)
set_option maxRecDepth 20000 in
theorem gL_law_X4_carryOut : GoodIn wsL_law (wsV RL 41 RX4 yX4_carryOut wsX4_carryOut) := goodIn_app (goodIn_r _ [341, 342, 343, 2] (by decide +kernel) (by decide +kernel)) ggL_law_X4_carryOut
set_option maxRecDepth 20000 in
theorem ggL_law_X5_carryOut : GoodIn wsL_law wsX5_carryOut := goodIn_r _ [397, 398, 399, 400, 401, 402, 64, 403, 404, 405, 5, 406, 407, 408, 409, 410, 411, 412, 413, 414, 415, 416, 417, 418, 68, 106, 107, 108, 419, 420, 421, 422, 423, 424, 425, 426, 427, 428, 429, 430, 109, 110, 111, 112, 113, 65, 114, 115, 116, 176, 177, 178, 179, 180, 181, 182, 183, 184, 185, 186, 187, 188, 189, 190, 191, 192, 193, 194, 195, 196, 197, 198, 685, 686, 687, 688, 689, 690, 691, 692, 693, 694, 695, 696, 697, 698, 699, 700, 701, 702] (by decide +kernel) (by decide +kernel)
set_option maxRecDepth 20000 in
theorem gL_law_X5_carryOut : GoodIn wsL_law (wsV RL 45 RX5 yX5_carryOut wsX5_carryOut) := goodIn_app (goodIn_r _ [394, 395, 396, 5] (by decide +kernel) (by decide +kernel)) ggL_law_X5_carryOut
set_option maxRecDepth 20000 in
theorem ggL_law_X4_at : GoodIn wsL_law wsX4_at := goodIn_r _ [434, 16, 20, 149, 150, 2, 151, 121, 122, 123, 82, 83, 84, 165, 166, 167, 207, 208, 209, 15, 210, 38, 145, 146, 147, 148, 132, 125, 126, 127, 228, 229, 230, 19, 231, 232, 49, 233, 234, 162, 163, 164, 235, 236, 237, 238, 46, 47, 48, 239, 240, 241, 242, 243, 244, 245, 246, 247, 248, 249, 250, 251, 252, 253, 254, 255, 256, 257, 258, 259, 260, 261, 262, 263, 264, 265, 266, 267, 268, 435, 436, 437, 438, 439, 440, 441, 442, 443, 679, 680, 681, 682, 683, 684, 703, 704, 705, 706, 707, 708, 709] (by decide +kernel) (by decide +kernel)
set_option maxRecDepth 20000 in
theorem gL_law_X4_at : GoodIn wsL_law (wsV RL 46 RX4 yX4_at wsX4_at) := goodIn_app (goodIn_r _ [431, 432, 433, 2] (by decide +kernel) (by decide +kernel)) ggL_law_X4_at
set_option maxRecDepth 20000 in
theorem ggL_law_X5_at : GoodIn wsL_law wsX5_at := goodIn_r _ [447, 64, 69, 70, 184, 185, 5, 186, 106, 107, 108, 286, 287, 288, 289, 290, 291, 292, 293, 71, 195, 196, 197, 198, 294, 295, 296, 297, 298, 299, 300, 301, 72, 73, 302, 303, 304, 305, 74, 75, 306, 307, 308, 309, 310, 311, 312, 313, 685, 686, 687, 688, 689, 690, 691, 692, 693, 694, 695, 696, 697, 698, 699, 700, 701, 702] (by decide +kernel) (by decide +kernel)
set_option maxRecDepth 20000 in
theorem gL_law_X5_at : GoodIn wsL_law (wsV RL 49 RX5 yX5_at wsX5_at) := goodIn_app (goodIn_r _ [444, 445, 446, 5] (by decide +kernel) (by decide +kernel)) ggL_law_X5_at
set_option maxRecDepth 20000 in
theorem ggL_law_X4_of : GoodIn wsL_law wsX4_of := goodIn_r _ [451, 16, 20, 145, 146, 147, 15, 148, 132, 125, 126, 127, 38, 82, 83, 2, 84, 452, 162, 163, 164, 453, 454, 455, 456, 457, 208, 209, 210, 228, 229, 230, 19, 231, 232, 49, 233, 234, 235, 236, 237, 238, 46, 47, 48, 239, 240, 241, 242, 243, 244, 245, 246, 247, 248, 249, 250, 251, 252, 253, 254, 255, 256, 257, 258, 259, 260, 261, 262, 263, 264, 265, 266, 267, 268, 458, 459, 460, 461, 269, 270, 271, 272, 679, 680, 681, 682, 683, 684, 703, 704, 705, 706, 707, 708, 709] (by decide +kernel) (by decide +kernel)
set_option maxRecDepth 20000 in
theorem gL_law_X4_of : GoodIn wsL_law (wsV RL 50 RX4 yX4_of wsX4_of) := goodIn_app (goodIn_r _ [448, 449, 450, 2] (by decide +kernel) (by decide +kernel)) ggL_law_X4_of
set_option maxRecDepth 20000 in
theorem ggL_law_X5_of : GoodIn wsL_law wsX5_of := goodIn_r _ [465, 72, 73, 75, 71, 180, 181, 182, 5, 183, 64, 106, 107, 108, 286, 287, 288, 289, 290, 291, 292, 293, 69, 70, 195, 196, 197, 198, 294, 295, 296, 297, 298, 299, 300, 301, 302, 303, 304, 305, 74, 306, 307, 308, 309, 310, 311, 312, 313, 466, 467, 468, 469, 470, 471, 472, 473, 474, 475, 476, 685, 686, 687, 688, 689, 690, 691, 692, 693, 694, 695, 696, 697, 698, 699, 700, 701, 702] (by decide +kernel) (by decide +kernel)
set_option maxRecDepth 20000 in
theorem gL_law_X5_of : GoodIn wsL_law (wsV RL 53 RX5 yX5_of wsX5_of) := goodIn_app (goodIn_r _ [462, 463, 464, 5] (by decide +kernel) (by decide +kernel)) ggL_law_X5_of
set_option maxRecDepth 20000 in
theorem ggL_law_X4_inWeek : GoodIn wsL_law wsX4_inWeek := goodIn_r _ [480, 16, 20, 145, 146, 147, 15, 148, 132, 125, 126, 127, 38, 481, 482, 2, 483, 82, 83, 84, 228, 229, 230, 19, 231, 232, 49, 233, 234, 162, 163, 164, 235, 236, 237, 238, 46, 47, 48, 239, 208, 209, 210, 240, 241, 242, 243, 244, 245, 246, 247, 248, 249, 250, 251, 252, 253, 254, 255, 256, 257, 258, 259, 260, 261, 262, 263, 264, 265, 266, 267, 268, 484, 485, 486, 487, 488, 489, 490, 491, 492, 679, 680, 681, 682, 683, 684, 703, 704, 705, 706, 707, 708, 709] (by decide +kernel) (by decide +kernel)
set_option maxRecDepth 20000 in
theorem gL_law_X4_inWeek : GoodIn wsL_law (wsV RL 54 RX4 yX4_inWeek wsX4_inWeek) := goodIn_app (goodIn_r _ [477, 478, 479, 2] (by decide +kernel) (by decide +kernel)) ggL_law_X4_inWeek
set_option maxRecDepth 20000 in
theorem ggL_law_X5_inWeek : GoodIn wsL_law wsX5_inWeek := goodIn_r _ [496, 73, 74, 75, 180, 181, 182, 5, 183, 64, 106, 107, 108, 286, 287, 288, 289, 290, 291, 292, 293, 71, 69, 70, 195, 196, 197, 198, 294, 295, 296, 297, 298, 299, 300, 301, 72, 302, 303, 304, 305, 306, 307, 308, 309, 310, 311, 312, 313, 685, 686, 687, 688, 689, 690, 691, 692, 693, 694, 695, 696, 697, 698, 699, 700, 701, 702] (by decide +kernel) (by decide +kernel)
set_option maxRecDepth 20000 in
theorem gL_law_X5_inWeek : GoodIn wsL_law (wsV RL 57 RX5 yX5_inWeek wsX5_inWeek) := goodIn_app (goodIn_r _ [493, 494, 495, 5] (by decide +kernel) (by decide +kernel)) ggL_law_X5_inWeek
set_option maxRecDepth 20000 in
theorem ggL_law_X4_week : GoodIn wsL_law wsX4_week := goodIn_r _ [500, 16, 219, 481, 482, 2, 483, 82, 83, 84, 501, 502, 503, 504, 20, 124, 125, 126, 15, 127, 38, 228, 229, 230, 19, 231, 232, 49, 233, 234, 162, 163, 164, 235, 236, 237, 238, 46, 47, 48, 239, 208, 209, 210, 240, 241, 242, 243, 244, 245, 246, 247, 248, 249, 250, 251, 252, 253, 254, 255, 256, 257, 258, 259, 260, 261, 262, 263, 264, 265, 266, 267, 268, 484, 505, 506, 507, 508, 156, 157, 158, 159, 679, 680, 681, 682, 683, 684, 703, 704, 705, 706, 707, 708, 709] (by decide +kernel) (by decide +kernel)
set_option maxRecDepth 20000 in
theorem gL_law_X4_week : GoodIn wsL_law (wsV RL 58 RX4 yX4_week wsX4_week) := goodIn_app (goodIn_r _ [497, 498, 499, 2] (by decide +kernel) (by decide +kernel)) ggL_law_X4_week
set_option maxRecDepth 20000 in
theorem ggL_law_X5_week : GoodIn wsL_law wsX5_week := goodIn_r _ [512, 72, 73, 75, 277, 106, 107, 5, 108, 286, 287, 288, 289, 290, 291, 292, 293, 71, 64, 69, 70, 195, 196, 197, 198, 294, 295, 296, 297, 298, 299, 300, 301, 302, 303, 304, 305, 74, 306, 307, 308, 309, 310, 311, 312, 313, 318, 319, 320, 513, 514, 515, 516, 314, 315, 316, 317, 321, 322, 323, 324, 685, 686, 687, 688, 689, 690, 691, 692, 693, 694, 695, 696, 697, 698, 699, 700, 701, 702] (by decide +kernel) (by decide +kernel)
set_option maxRecDepth 20000 in
theorem gL_law_X5_week : GoodIn wsL_law (wsV RL 61 RX5 yX5_week wsX5_week) := goodIn_app (goodIn_r _ [509, 510, 511, 5] (by decide +kernel) (by decide +kernel)) ggL_law_X5_week
set_option maxRecDepth 20000 in
theorem ggL_law_X4_distributor : GoodIn wsL_law wsX4_distributor := goodIn_r _ [520, 16, 82, 83, 2, 84, 124, 125, 126, 15, 127, 38, 452, 162, 163, 164, 224, 225, 226, 227, 20, 228, 229, 230, 19, 231, 232, 49, 233, 234, 235, 236, 237, 238, 46, 47, 48, 239, 208, 209, 210, 240, 241, 242, 243, 244, 245, 246, 247, 248, 249, 250, 251, 252, 253, 254, 255, 256, 257, 258, 259, 260, 261, 262, 263, 264, 265, 266, 267, 268, 269, 270, 271, 272, 679, 680, 681, 682, 683, 684, 703, 704, 705, 706, 707, 708, 709] (by decide +kernel) (by decide +kernel)
set_option maxRecDepth 20000 in
theorem gL_law_X4_distributor : GoodIn wsL_law (wsV RL 62 RX4 yX4_distributor wsX4_distributor) := goodIn_app (goodIn_r _ [517, 518, 519, 2] (by decide +kernel) (by decide +kernel)) ggL_law_X4_distributor
set_option maxRecDepth 20000 in
theorem ggL_law_X5_distributor : GoodIn wsL_law wsX5_distributor := goodIn_r _ [524, 64, 72, 75, 106, 107, 5, 108, 286, 287, 288, 289, 290, 291, 292, 293, 71, 69, 70, 195, 196, 197, 198, 294, 295, 296, 297, 298, 299, 300, 301, 73, 302, 303, 304, 305, 74, 306, 307, 308, 309, 310, 311, 312, 313, 466, 467, 468, 685, 686, 687, 688, 689, 690, 691, 692, 693, 694, 695, 696, 697, 698, 699, 700, 701, 702] (by decide +kernel) (by decide +kernel)
set_option maxRecDepth 20000 in
theorem gL_law_X5_distributor : GoodIn wsL_law (wsV RL 65 RX5 yX5_distributor wsX5_distributor) := goodIn_app (goodIn_r _ [521, 522, 523, 5] (by decide +kernel) (by decide +kernel)) ggL_law_X5_distributor
set_option maxRecDepth 20000 in
theorem ggL_law_X4_rent : GoodIn wsL_law wsX4_rent := goodIn_r _ [528, 16, 121, 122, 2, 123, 82, 83, 84, 529, 157, 158, 15, 159, 38, 679, 680, 681, 682, 683, 684, 703] (by decide +kernel) (by decide +kernel)
set_option maxRecDepth 20000 in
theorem gL_law_X4_rent : GoodIn wsL_law (wsV RL 66 RX4 yX4_rent wsX4_rent) := goodIn_app (goodIn_r _ [525, 526, 527, 2] (by decide +kernel) (by decide +kernel)) ggL_law_X4_rent
set_option maxRecDepth 20000 in
theorem ggL_law_X5_rent : GoodIn wsL_law wsX5_rent := goodIn_r _ [533, 64, 106, 107, 5, 108, 685, 686, 687, 688, 689, 690, 691, 692, 693, 694, 695, 696, 697, 698, 699, 700, 701, 702] (by decide +kernel) (by decide +kernel)
set_option maxRecDepth 20000 in
theorem gL_law_X5_rent : GoodIn wsL_law (wsV RL 70 RX5 yX5_rent wsX5_rent) := goodIn_app (goodIn_r _ [530, 531, 532, 5] (by decide +kernel) (by decide +kernel)) ggL_law_X5_rent
set_option maxRecDepth 20000 in
theorem ggL_law_X4_count : GoodIn wsL_law wsX4_count := goodIn_r _ [537, 16, 219, 24, 28, 82, 83, 2, 84, 439, 248, 249, 15, 250, 38, 124, 125, 126, 127, 220, 221, 222, 223, 224, 225, 226, 227, 20, 228, 229, 230, 19, 231, 232, 49, 233, 234, 162, 163, 164, 235, 236, 237, 238, 46, 47, 48, 239, 208, 209, 210, 240, 241, 242, 243, 244, 245, 246, 247, 251, 252, 253, 254, 255, 256, 257, 258, 259, 260, 261, 262, 263, 264, 265, 266, 267, 268, 269, 270, 271, 272, 505, 506, 507, 508, 156, 157, 158, 159, 538, 539, 540, 541, 542, 543, 544, 545, 366, 367, 368, 23, 369, 349, 546, 547, 548, 27, 549, 90, 679, 680, 681, 682, 683, 684, 703, 704, 705, 706, 707, 708, 709, 710, 711, 712, 713, 714] (by decide +kernel) (by decide +kernel)
set_option maxRecDepth 20000 in
theorem gL_law_X4_count : GoodIn wsL_law (wsV RL 71 RX4 yX4_count wsX4_count) := goodIn_app (goodIn_r _ [534, 535, 536, 2] (by decide +kernel) (by decide +kernel)) ggL_law_X4_count
set_option maxRecDepth 20000 in
theorem ggL_law_X5_count : GoodIn wsL_law wsX5_count := goodIn_r _ [553, 64, 72, 73, 75, 277, 399, 113, 286, 287, 288, 5, 289, 290, 291, 292, 293, 71, 69, 70, 195, 196, 197, 198, 294, 295, 296, 297, 298, 299, 300, 301, 302, 303, 304, 305, 74, 306, 307, 308, 309, 310, 311, 312, 313, 318, 319, 320, 513, 514, 515, 516, 314, 315, 316, 317, 321, 322, 323, 324, 554, 555, 556, 557, 685, 686, 687, 688, 689, 690, 691, 692, 693, 694, 695, 696, 697, 698, 699, 700, 701, 702] (by decide +kernel) (by decide +kernel)
set_option maxRecDepth 20000 in
theorem gL_law_X5_count : GoodIn wsL_law (wsV RL 74 RX5 yX5_count wsX5_count) := goodIn_app (goodIn_r _ [550, 551, 552, 5] (by decide +kernel) (by decide +kernel)) ggL_law_X5_count
set_option maxRecDepth 20000 in
theorem ggL_law_X4_ifShown : GoodIn wsL_law wsX4_ifShown := goodIn_r _ [561, 219, 141, 142, 143, 2, 144, 16, 145, 146, 147, 15, 148, 132, 125, 126, 127, 38, 149, 150, 151, 121, 122, 123, 82, 83, 84, 152, 153, 154, 155, 156, 157, 158, 159, 160, 161, 162, 163, 164, 165, 166, 167, 562, 563, 564, 565, 207, 208, 209, 210, 566, 567, 568, 569, 20, 228, 229, 230, 19, 231, 232, 49, 233, 234, 235, 236, 237, 238, 46, 47, 48, 239, 240, 241, 242, 243, 244, 245, 246, 247, 248, 249, 250, 251, 252, 253, 254, 255, 256, 257, 258, 259, 260, 261, 262, 263, 264, 265, 266, 267, 268, 269, 270, 271, 272, 168, 169, 170, 171, 679, 680, 681, 682, 683, 684, 703, 704, 705, 706, 707, 708, 709] (by decide +kernel) (by decide +kernel)
set_option maxRecDepth 20000 in
theorem gL_law_X4_ifShown : GoodIn wsL_law (wsV RL 75 RX4 yX4_ifShown wsX4_ifShown) := goodIn_app (goodIn_r _ [558, 559, 560, 2] (by decide +kernel) (by decide +kernel)) ggL_law_X4_ifShown
set_option maxRecDepth 20000 in
theorem ggL_law_X5_ifShown : GoodIn wsL_law wsX5_ifShown := goodIn_r _ [573, 277, 176, 177, 178, 5, 179, 180, 181, 182, 183, 64, 106, 107, 108, 184, 185, 186, 187, 188, 189, 190, 191, 192, 193, 194, 195, 196, 197, 198, 574, 575, 576, 577, 282, 283, 284, 285, 286, 287, 288, 289, 290, 291, 292, 293, 71, 69, 70, 294, 295, 296, 297, 298, 299, 300, 301, 72, 73, 302, 303, 304, 305, 74, 75, 306, 307, 308, 309, 310, 311, 312, 313, 314, 315, 316, 317, 318, 319, 320, 321, 322, 323, 324, 685, 686, 687, 688, 689, 690, 691, 692, 693, 694, 695, 696, 697, 698, 699, 700, 701, 702] (by decide +kernel) (by decide +kernel)
set_option maxRecDepth 20000 in
theorem gL_law_X5_ifShown : GoodIn wsL_law (wsV RL 78 RX5 yX5_ifShown wsX5_ifShown) := goodIn_app (goodIn_r _ [570, 571, 572, 5] (by decide +kernel) (by decide +kernel)) ggL_law_X5_ifShown
set_option maxRecDepth 20000 in
theorem ggL_law_X4_bestFilm : GoodIn wsL_law wsX4_bestFilm := goodIn_r _ [581, 16, 219, 149, 150, 2, 151, 121, 122, 123, 82, 83, 84, 529, 157, 158, 15, 159, 38, 124, 125, 126, 127, 152, 153, 154, 155, 156, 160, 146, 147, 148, 132, 161, 162, 163, 164, 165, 166, 167, 562, 563, 564, 565, 207, 208, 209, 210, 566, 567, 568, 569, 20, 145, 228, 229, 230, 19, 231, 232, 49, 233, 234, 235, 236, 237, 238, 46, 47, 48, 239, 240, 241, 242, 243, 244, 245, 246, 247, 248, 249, 250, 251, 252, 253, 254, 255, 256, 257, 258, 259, 260, 261, 262, 263, 264, 265, 266, 267, 268, 269, 270, 271, 272, 168, 169, 170, 171, 679, 680, 681, 682, 683, 684, 703, 704, 705, 706, 707, 708, 709] (by decide +kernel) (by decide +kernel)
set_option maxRecDepth 20000 in
theorem gL_law_X4_bestFilm : GoodIn wsL_law (wsV RL 79 RX4 yX4_bestFilm wsX4_bestFilm) := goodIn_app (goodIn_r _ [578, 579, 580, 2] (by decide +kernel) (by decide +kernel)) ggL_law_X4_bestFilm
set_option maxRecDepth 20000 in
theorem ggL_law_X5_bestFilm : GoodIn wsL_law wsX5_bestFilm := goodIn_r _ [585, 64, 277, 184, 185, 5, 186, 106, 107, 108, 191, 192, 193, 194, 187, 188, 189, 190, 195, 196, 197, 198, 574, 575, 576, 577, 282, 283, 284, 285, 286, 287, 288, 289, 290, 291, 292, 293, 71, 69, 70, 294, 295, 296, 297, 298, 299, 300, 301, 72, 73, 302, 303, 304, 305, 74, 75, 306, 307, 308, 309, 310, 311, 312, 313, 314, 315, 316, 317, 318, 319, 320, 321, 322, 323, 324, 685, 686, 687, 688, 689, 690, 691, 692, 693, 694, 695, 696, 697, 698, 699, 700, 701, 702] (by decide +kernel) (by decide +kernel)
set_option maxRecDepth 20000 in
theorem gL_law_X5_bestFilm : GoodIn wsL_law (wsV RL 82 RX5 yX5_bestFilm wsX5_bestFilm) := goodIn_app (goodIn_r _ [582, 583, 584, 5] (by decide +kernel) (by decide +kernel)) ggL_law_X5_bestFilm
set_option maxRecDepth 20000 in
theorem ggL_law_X4_worstShow : GoodIn wsL_law wsX4_worstShow := goodIn_r _ [589, 16, 219, 82, 83, 2, 84, 207, 208, 209, 15, 210, 38, 562, 563, 564, 565, 566, 567, 568, 569, 20, 145, 146, 147, 148, 132, 125, 126, 127, 228, 229, 230, 19, 231, 232, 49, 233, 234, 162, 163, 164, 235, 236, 237, 238, 46, 47, 48, 239, 240, 241, 242, 243, 244, 245, 246, 247, 248, 249, 250, 251, 252, 253, 254, 255, 256, 257, 258, 259, 260, 261, 262, 263, 264, 265, 266, 267, 268, 269, 270, 271, 272, 168, 169, 170, 171, 679, 680, 681, 682, 683, 684, 703, 704, 705, 706, 707, 708, 709] (by decide +kernel) (by decide +kernel)
set_option maxRecDepth 20000 in
theorem gL_law_X4_worstShow : GoodIn wsL_law (wsV RL 83 RX4 yX4_worstShow wsX4_worstShow) := goodIn_app (goodIn_r _ [586, 587, 588, 2] (by decide +kernel) (by decide +kernel)) ggL_law_X4_worstShow
set_option maxRecDepth 20000 in
theorem ggL_law_X5_worstShow : GoodIn wsL_law wsX5_worstShow := goodIn_r _ [593, 64, 277, 106, 107, 5, 108, 574, 575, 576, 577, 282, 283, 284, 285, 286, 287, 288, 289, 290, 291, 292, 293, 71, 69, 70, 195, 196, 197, 198, 294, 295, 296, 297, 298, 299, 300, 301, 72, 73, 302, 303, 304, 305, 74, 75, 306, 307, 308, 309, 310, 311, 312, 313, 314, 315, 316, 317, 318, 319, 320, 321, 322, 323, 324, 685, 686, 687, 688, 689, 690, 691, 692, 693, 694, 695, 696, 697, 698, 699, 700, 701, 702] (by decide +kernel) (by decide +kernel)
set_option maxRecDepth 20000 in
theorem gL_law_X5_worstShow : GoodIn wsL_law (wsV RL 86 RX5 yX5_worstShow wsX5_worstShow) := goodIn_app (goodIn_r _ [590, 591, 592, 5] (by decide +kernel) (by decide +kernel)) ggL_law_X5_worstShow
set_option maxRecDepth 20000 in
theorem ggL_law_X4_priceFor : GoodIn wsL_law wsX4_priceFor := goodIn_r _ [597, 16, 20, 80, 81, 149, 150, 2, 151, 121, 122, 123, 82, 83, 84, 165, 166, 167, 207, 208, 209, 15, 210, 38, 145, 146, 147, 148, 132, 125, 126, 127, 228, 229, 230, 19, 231, 232, 49, 233, 234, 162, 163, 164, 235, 236, 237, 238, 46, 47, 48, 239, 240, 241, 242, 243, 244, 245, 246, 247, 248, 249, 250, 251, 252, 253, 254, 255, 256, 257, 258, 259, 260, 261, 262, 263, 264, 265, 266, 267, 268, 435, 436, 437, 438, 679, 680, 681, 682, 683, 684, 703, 704, 705, 706, 707, 708, 709] (by decide +kernel) (by decide +kernel)
set_option maxRecDepth 20000 in
theorem gL_law_X4_priceFor : GoodIn wsL_law (wsV RL 87 RX4 yX4_priceFor wsX4_priceFor) := goodIn_app (goodIn_r _ [594, 595, 596, 2] (by decide +kernel) (by decide +kernel)) ggL_law_X4_priceFor
set_option maxRecDepth 20000 in
theorem ggL_law_X5_priceFor : GoodIn wsL_law wsX5_priceFor := goodIn_r _ [601, 69, 184, 185, 5, 186, 106, 107, 108, 199, 200, 201, 202, 64, 286, 287, 288, 289, 290, 291, 292, 293, 71, 70, 195, 196, 197, 198, 294, 295, 296, 297, 298, 299, 300, 301, 72, 73, 302, 303, 304, 305, 74, 75, 306, 307, 308, 309, 310, 311, 312, 313, 685, 686, 687, 688, 689, 690, 691, 692, 693, 694, 695, 696, 697, 698, 699, 700, 701, 702] (by decide +kernel) (by decide +kernel)
set_option maxRecDepth 20000 in
theorem gL_law_X5_priceFor : GoodIn wsL_law (wsV RL 90 RX5 yX5_priceFor wsX5_priceFor) := goodIn_app (goodIn_r _ [598, 599, 600, 5] (by decide +kernel) (by decide +kernel)) ggL_law_X5_priceFor
set_option maxRecDepth 20000 in
theorem ggL_law_X4_put : GoodIn wsL_law wsX4_put := goodIn_r _ [605, 24, 606, 607, 608, 23, 609, 349, 54, 610, 611, 612, 613, 614, 615, 679, 680, 681, 682, 683, 684, 710, 711] (by decide +kernel) (by decide +kernel)
set_option maxRecDepth 20000 in
theorem gL_law_X4_put : GoodIn wsL_law (wsV RL 93 RX4 yX4_put wsX4_put) := goodIn_app (goodIn_r _ [602, 603, 604, 2] (by decide +kernel) (by decide +kernel)) ggL_law_X4_put
set_option maxRecDepth 20000 in
theorem ggL_law_X5_put : GoodIn wsL_law wsX5_put := goodIn_r _ [619, 620, 399, 68, 106, 107, 5, 108, 685, 686, 687, 688, 689, 690, 691, 692, 693, 694, 695, 696, 697, 698, 699, 700, 701, 702] (by decide +kernel) (by decide +kernel)
set_option maxRecDepth 20000 in
theorem gL_law_X5_put : GoodIn wsL_law (wsV RL 97 RX5 yX5_put wsX5_put) := goodIn_app (goodIn_r _ [616, 617, 618, 5] (by decide +kernel) (by decide +kernel)) ggL_law_X5_put
set_option maxRecDepth 20000 in
theorem ggL_law_X4_wipe : GoodIn wsL_law wsX4_wipe := goodIn_r _ [624, 24, 366, 367, 368, 23, 369, 349, 390, 391, 392, 393, 679, 680, 681, 682, 683, 684, 710, 711] (by decide +kernel) (by decide +kernel)
set_option maxRecDepth 20000 in
theorem gL_law_X4_wipe : GoodIn wsL_law (wsV RL 98 RX4 yX4_wipe wsX4_wipe) := goodIn_app (goodIn_r _ [621, 622, 623, 2] (by decide +kernel) (by decide +kernel)) ggL_law_X4_wipe
set_option maxRecDepth 20000 in
theorem ggL_law_X5_wipe : GoodIn wsL_law wsX5_wipe := goodIn_r _ [628, 399, 685, 686, 687, 688, 689, 690, 691, 692, 693, 694, 695, 696, 697, 698, 699, 700, 701, 702] (by decide +kernel) (by decide +kernel)
set_option maxRecDepth 20000 in
theorem gL_law_X5_wipe : GoodIn wsL_law (wsV RL 101 RX5 yX5_wipe wsX5_wipe) := goodIn_app (goodIn_r _ [625, 626, 627, 5] (by decide +kernel) (by decide +kernel)) ggL_law_X5_wipe
set_option maxRecDepth 20000 in
theorem ggL_law_X4_fault : GoodIn wsL_law wsX4_fault := goodIn_r _ [632, 24, 345, 346, 347, 23, 348, 349, 54, 350, 351, 352, 353, 354, 355, 356, 357, 358, 359, 360, 361, 679, 680, 681, 682, 683, 684, 710, 711] (by decide +kernel) (by decide +kernel)
set_option maxRecDepth 20000 in
theorem gL_law_X4_fault : GoodIn wsL_law (wsV RL 102 RX4 yX4_fault wsX4_fault) := goodIn_app (goodIn_r _ [629, 630, 631, 2] (by decide +kernel) (by decide +kernel)) ggL_law_X4_fault
set_option maxRecDepth 20000 in
theorem ggL_law_X5_fault : GoodIn wsL_law wsX5_fault := goodIn_r _ [636, 403, 404, 405, 5, 406, 398, 399, 407, 408, 409, 410, 400, 402, 401, 411, 412, 413, 414, 415, 416, 417, 418, 68, 106, 107, 108, 419, 420, 421, 422, 423, 424, 425, 426, 427, 428, 429, 430, 685, 686, 687, 688, 689, 690, 691, 692, 693, 694, 695, 696, 697, 698, 699, 700, 701, 702] (by decide +kernel) (by decide +kernel)
set_option maxRecDepth 20000 in
theorem gL_law_X5_fault : GoodIn wsL_law (wsV RL 105 RX5 yX5_fault wsX5_fault) := goodIn_app (goodIn_r _ [633, 634, 635, 5] (by decide +kernel) (by decide +kernel)) ggL_law_X5_fault
set_option maxRecDepth 20000 in
theorem ggL_law_X4_undo : GoodIn wsL_law wsX4_undo := goodIn_r _ [640, 28, 16, 546, 547, 548, 27, 549, 90, 641, 642, 643, 644, 59, 89, 645, 646, 647, 15, 648, 38, 39, 40, 41, 42, 679, 680, 681, 682, 683, 684, 712, 713, 714, 703] (by decide +kernel) (by decide +kernel)
set_option maxRecDepth 20000 in
theorem gL_law_X4_undo : GoodIn wsL_law (wsV RL 106 RX4 yX4_undo wsX4_undo) := goodIn_app (goodIn_r _ [637, 638, 639, 2] (by decide +kernel) (by decide +kernel)) ggL_law_X4_undo
set_option maxRecDepth 20000 in
theorem ggL_law_X5_undo : GoodIn wsL_law wsX5_undo := goodIn_r _ [652, 113, 65, 64, 114, 115, 5, 116, 685, 686, 687, 688, 689, 690, 691, 692, 693, 694, 695, 696, 697, 698, 699, 700, 701, 702] (by decide +kernel) (by decide +kernel)
set_option maxRecDepth 20000 in
theorem gL_law_X5_undo : GoodIn wsL_law (wsV RL 109 RX5 yX5_undo wsX5_undo) := goodIn_app (goodIn_r _ [649, 650, 651, 5] (by decide +kernel) (by decide +kernel)) ggL_law_X5_undo
set_option maxRecDepth 20000 in
theorem ggL_law_X4_save : GoodIn wsL_law wsX4_save := goodIn_r _ [656, 16, 31, 33, 82, 83, 2, 84, 657, 92, 93, 15, 94, 38, 39, 40, 41, 42, 658, 659, 660, 661, 457, 208, 209, 210, 679, 680, 681, 682, 683, 684, 703] (by decide +kernel) (by decide +kernel)
set_option maxRecDepth 20000 in
theorem gL_law_X4_save : GoodIn wsL_law (wsV RL 110 RX4 yX4_save wsX4_save) := goodIn_app (goodIn_r _ [653, 654, 655, 2] (by decide +kernel) (by decide +kernel)) ggL_law_X4_save
set_option maxRecDepth 20000 in
theorem ggL_law_X5_save : GoodIn wsL_law wsX5_save := goodIn_r _ [665, 64, 66, 67, 106, 107, 5, 108, 114, 115, 116, 666, 667, 668, 669, 685, 686, 687, 688, 689, 690, 691, 692, 693, 694, 695, 696, 697, 698, 699, 700, 701, 702] (by decide +kernel) (by decide +kernel)
set_option maxRecDepth 20000 in
theorem gL_law_X5_save : GoodIn wsL_law (wsV RL 113 RX5 yX5_save wsX5_save) := goodIn_app (goodIn_r _ [662, 663, 664, 5] (by decide +kernel) (by decide +kernel)) ggL_law_X5_save
set_option maxRecDepth 20000 in
theorem ggL_law_X4_restore : GoodIn wsL_law wsX4_restore := goodIn_r _ [673, 33, 28, 16, 31, 82, 83, 2, 84, 85, 86, 87, 27, 88, 59, 89, 90, 91, 92, 93, 15, 94, 38, 39, 40, 41, 42, 674, 646, 647, 648, 658, 659, 660, 661, 457, 208, 209, 210, 679, 680, 681, 682, 683, 684, 712, 713, 714, 703] (by decide +kernel) (by decide +kernel)
set_option maxRecDepth 20000 in
theorem gL_law_X4_restore : GoodIn wsL_law (wsV RL 114 RX4 yX4_restore wsX4_restore) := goodIn_app (goodIn_r _ [670, 671, 672, 2] (by decide +kernel) (by decide +kernel)) ggL_law_X4_restore
set_option maxRecDepth 20000 in
theorem ggL_law_X5_restore : GoodIn wsL_law wsX5_restore := goodIn_r _ [678, 67, 66, 64, 106, 107, 5, 108, 109, 110, 111, 112, 113, 65, 114, 115, 116, 666, 667, 668, 669, 685, 686, 687, 688, 689, 690, 691, 692, 693, 694, 695, 696, 697, 698, 699, 700, 701, 702] (by decide +kernel) (by decide +kernel)
set_option maxRecDepth 20000 in
theorem gL_law_X5_restore : GoodIn wsL_law (wsV RL 117 RX5 yX5_restore wsX5_restore) := goodIn_app (goodIn_r _ [675, 676, 677, 5] (by decide +kernel) (by decide +kernel)) ggL_law_X5_restore

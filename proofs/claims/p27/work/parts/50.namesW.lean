set_option maxRecDepth 20000 in
theorem ggL_law_X4_init : GoodIn wsL_law wsX4_init := goodIn_r _ [7, 8, 9, 10, 11, 12, 13, 14, 15, 16, 17, 18, 19, 20, 21, 22, 23, 24, 25, 26, 27, 3, 28, 29, 30, 31, 32, 33, 34, 35, 36, 37, 38, 39, 40, 41, 42, 43, 44, 45, 46, 47, 48, 49, 50, 51, 52, 53, 54, 55, 56, 348, 342, 343, 344, 345, 346, 347, 349, 350, 351, 352, 353, 354, 355, 356, 357, 358, 359] (by decide +kernel) (by decide +kernel)
set_option maxRecDepth 20000 in
theorem gL_law_X4_init : GoodIn wsL_law (wsX4_init) := ggL_law_X4_init
set_option maxRecDepth 20000 in
theorem ggL_law_L_cell : GoodIn wsL_law wsL_cell := goodIn_r _ [60, 61, 62] (by decide +kernel) (by decide +kernel)
set_option maxRecDepth 20000 in
theorem gL_law_L_cell : GoodIn wsL_law (va_wsS RL 72 yL_cell wsL_cell) := goodIn_app (goodIn_r _ [57, 58, 59] (by decide +kernel) (by decide +kernel)) ggL_law_L_cell
set_option maxRecDepth 20000 in
theorem ggL_law_L_low : GoodIn wsL_law wsL_low := goodIn_r _ [65, 66] (by decide +kernel) (by decide +kernel)
set_option maxRecDepth 20000 in
theorem gL_law_L_low : GoodIn wsL_law (va_wsS RL 57 yL_low wsL_low) := goodIn_app (goodIn_r _ [63, 64, 59] (by decide +kernel) (by decide +kernel)) ggL_law_L_low
set_option maxRecDepth 20000 in
theorem ggL_law_X4_film : GoodIn wsL_law wsX4_film := goodIn_r _ [70, 14, 26, 71, 72, 2, 73, 74, 75, 76, 77, 78, 79, 13, 80, 35, 81, 82, 83, 25, 84, 56, 85, 86, 87, 88, 89, 90, 36, 37, 38, 39, 91, 92, 93, 94, 95, 342, 343, 344, 345, 346, 347, 348, 357, 358, 359] (by decide +kernel) (by decide +kernel)
set_option maxRecDepth 20000 in
theorem gL_law_X4_film : GoodIn wsL_law (wsV RL 76 RX4 yX4_film wsX4_film) := goodIn_app (goodIn_r _ [67, 68, 69, 2] (by decide +kernel) (by decide +kernel)) ggL_law_X4_film
set_option maxRecDepth 20000 in
theorem ggL_law_L_film : GoodIn wsL_law wsL_film := goodIn_r _ [98] (by decide +kernel) (by decide +kernel)
set_option maxRecDepth 20000 in
theorem gL_law_L_film : GoodIn wsL_law (va_wsS RL 16 yL_film wsL_film) := goodIn_app (goodIn_r _ [96, 97, 59] (by decide +kernel) (by decide +kernel)) ggL_law_L_film
set_option maxRecDepth 20000 in
theorem ggL_law_L_left : GoodIn wsL_law wsL_left := goodIn_r _ [101, 102, 103, 59, 104, 96, 97, 98, 105, 106, 107, 108, 109, 110, 111, 112, 113, 114, 115, 116, 117, 118, 119, 120, 121, 122] (by decide +kernel) (by decide +kernel)
set_option maxRecDepth 20000 in
theorem gL_law_L_left : GoodIn wsL_law (va_wsS RL 67 yL_left wsL_left) := goodIn_app (goodIn_r _ [99, 100, 59] (by decide +kernel) (by decide +kernel)) ggL_law_L_left
set_option maxRecDepth 20000 in
theorem ggL_law_X4_ifShown : GoodIn wsL_law wsX4_ifShown := goodIn_r _ [126, 127, 128, 129, 130, 2, 131, 14, 132, 133, 134, 13, 135, 95, 78, 79, 80, 35, 136, 137, 138, 74, 75, 76, 71, 72, 73, 139, 140, 141, 142, 143, 144, 145, 146, 147, 148, 149, 150, 151, 152, 153, 154, 155, 156, 157, 158, 159, 160, 161, 162, 163, 164, 165, 166, 18, 167, 168, 169, 17, 170, 171, 46, 172, 173, 174, 175, 176, 177, 43, 44, 45, 178, 179, 180, 181, 182, 183, 184, 185, 186, 187, 188, 189, 190, 191, 192, 193, 194, 195, 196, 197, 198, 199, 200, 201, 202, 203, 204, 205, 206, 207, 208, 209, 210, 211, 212, 213, 214, 215, 342, 343, 344, 345, 346, 347, 348, 349, 350, 351, 352, 353, 354] (by decide +kernel) (by decide +kernel)
set_option maxRecDepth 20000 in
theorem gL_law_X4_ifShown : GoodIn wsL_law (wsV RL 79 RX4 yX4_ifShown wsX4_ifShown) := goodIn_app (goodIn_r _ [123, 124, 125, 2] (by decide +kernel) (by decide +kernel)) ggL_law_X4_ifShown
set_option maxRecDepth 20000 in
theorem ggL_law_X4_show : GoodIn wsL_law wsX4_show := goodIn_r _ [219, 26, 14, 128, 129, 130, 2, 131, 132, 133, 134, 13, 135, 95, 78, 79, 80, 35, 136, 137, 138, 74, 75, 76, 71, 72, 73, 139, 140, 141, 142, 143, 144, 145, 146, 147, 148, 149, 150, 151, 81, 82, 83, 25, 84, 56, 85, 86, 87, 88, 89, 90, 36, 37, 38, 39, 152, 153, 154, 212, 213, 214, 215, 342, 343, 344, 345, 346, 347, 348, 357, 358, 359] (by decide +kernel) (by decide +kernel)
set_option maxRecDepth 20000 in
theorem gL_law_X4_show : GoodIn wsL_law (wsV RL 82 RX4 yX4_show wsX4_show) := goodIn_app (goodIn_r _ [216, 217, 218, 2] (by decide +kernel) (by decide +kernel)) ggL_law_X4_show
set_option maxRecDepth 20000 in
theorem ggL_law_X4_drop : GoodIn wsL_law wsX4_drop := goodIn_r _ [223, 14, 26, 136, 137, 2, 138, 74, 75, 76, 71, 72, 73, 152, 153, 154, 159, 160, 161, 13, 162, 35, 81, 82, 83, 25, 84, 56, 85, 86, 87, 88, 89, 90, 36, 37, 38, 39, 212, 213, 214, 215, 342, 343, 344, 345, 346, 347, 348, 357, 358, 359] (by decide +kernel) (by decide +kernel)
set_option maxRecDepth 20000 in
theorem gL_law_X4_drop : GoodIn wsL_law (wsV RL 85 RX4 yX4_drop wsX4_drop) := goodIn_app (goodIn_r _ [220, 221, 222, 2] (by decide +kernel) (by decide +kernel)) ggL_law_X4_drop
set_option maxRecDepth 20000 in
theorem ggL_law_X4_exchange : GoodIn wsL_law wsX4_exchange := goodIn_r _ [227, 14, 26, 127, 136, 137, 2, 138, 74, 75, 76, 71, 72, 73, 152, 153, 154, 159, 160, 161, 13, 162, 35, 139, 140, 141, 142, 143, 144, 145, 146, 147, 133, 134, 135, 95, 78, 79, 80, 148, 149, 150, 151, 228, 229, 230, 231, 77, 232, 233, 234, 235, 18, 167, 168, 169, 17, 170, 171, 46, 172, 173, 174, 175, 176, 177, 43, 44, 45, 178, 179, 180, 181, 182, 183, 184, 185, 186, 187, 188, 189, 190, 191, 192, 193, 194, 195, 196, 197, 198, 199, 200, 201, 202, 203, 204, 205, 206, 207, 208, 209, 210, 211, 81, 82, 83, 25, 84, 56, 85, 86, 87, 88, 89, 90, 36, 37, 38, 39, 212, 213, 214, 215, 342, 343, 344, 345, 346, 347, 348, 349, 350, 351, 352, 353, 354, 357, 358, 359] (by decide +kernel) (by decide +kernel)
set_option maxRecDepth 20000 in
theorem gL_law_X4_exchange : GoodIn wsL_law (wsV RL 88 RX4 yX4_exchange wsX4_exchange) := goodIn_app (goodIn_r _ [224, 225, 226, 2] (by decide +kernel) (by decide +kernel)) ggL_law_X4_exchange
set_option maxRecDepth 20000 in
theorem ggL_law_X4_let : GoodIn wsL_law wsX4_let := goodIn_r _ [239, 26, 14, 74, 75, 2, 76, 71, 72, 73, 81, 82, 83, 25, 84, 56, 85, 86, 87, 88, 89, 13, 90, 35, 36, 37, 38, 39, 240, 241, 242, 243, 244, 245, 246, 247, 152, 153, 154, 212, 213, 214, 215, 342, 343, 344, 345, 346, 347, 357, 358, 359, 348] (by decide +kernel) (by decide +kernel)
set_option maxRecDepth 20000 in
theorem gL_law_X4_let : GoodIn wsL_law (wsV RL 92 RX4 yX4_let wsX4_let) := goodIn_app (goodIn_r _ [236, 237, 238, 2] (by decide +kernel) (by decide +kernel)) ggL_law_X4_let
set_option maxRecDepth 20000 in
theorem ggL_law_X4_set : GoodIn wsL_law wsX4_set := goodIn_r _ [251, 252, 253, 26, 14, 71, 72, 2, 73, 81, 82, 83, 25, 84, 56, 85, 86, 87, 88, 89, 13, 90, 35, 36, 37, 38, 39, 254, 255, 256, 257, 342, 343, 344, 345, 346, 347, 357, 358, 359, 348] (by decide +kernel) (by decide +kernel)
set_option maxRecDepth 20000 in
theorem gL_law_X4_set : GoodIn wsL_law (wsV RL 95 RX4 yX4_set wsX4_set) := goodIn_app (goodIn_r _ [248, 249, 250, 2] (by decide +kernel) (by decide +kernel)) ggL_law_X4_set
set_option maxRecDepth 20000 in
theorem ggL_law_L_same_t : GoodIn wsL_law (((wsL_same_r1 ++ (wsL_same_r2 ++ (wsL_same_r3 ++ (wsL_same_r4 ++ (wsL_same_r5 ++ (wsL_same_r6 ++ (wsL_same_r7 ++ (wsL_same_r8 ++ wsL_same_r9)))))))) ++ wsX40 ++ wsX10 ++ wsX00 ++ wsX30 ++ wsX20)) := goodIn_r _ [4, 261, 262, 263, 2, 264, 14, 74, 75, 76, 71, 72, 73, 265, 144, 145, 13, 146, 35, 96, 97, 59, 98, 105, 106, 107, 108, 109, 110, 111, 112, 113, 266, 267, 268, 269, 18, 136, 137, 138, 152, 153, 154, 159, 160, 161, 162, 132, 133, 134, 135, 95, 78, 79, 80, 167, 168, 169, 17, 170, 171, 46, 172, 173, 149, 150, 151, 174, 175, 176, 177, 43, 44, 45, 178, 179, 180, 181, 182, 183, 184, 185, 186, 187, 188, 189, 190, 191, 192, 193, 194, 195, 196, 197, 198, 199, 200, 201, 202, 203, 204, 205, 206, 207, 270, 271, 272, 273, 274, 275, 276, 277, 278, 279, 280, 281, 282, 283, 284, 285, 286, 287, 288, 289, 290, 291, 292, 208, 209, 210, 211, 102, 103, 104, 120, 121, 122, 117, 118, 119, 114, 115, 116, 293, 294, 295, 296, 297, 298, 299, 300, 301, 302, 303, 304, 305, 306, 307, 308, 63, 64, 65, 66, 309, 310, 311, 312, 127, 313, 314, 315, 316, 77, 317, 318, 319, 320, 143, 321, 322, 323, 324, 22, 26, 228, 229, 230, 231, 232, 233, 234, 235, 325, 326, 327, 328, 329, 330, 331, 332, 333, 334, 335, 21, 336, 337, 338, 339, 340, 25, 341, 86, 99, 100, 101, 342, 343, 344, 345, 346, 347, 348, 349, 350, 351, 352, 353, 354, 355, 356, 357, 358, 359] (by decide +kernel) (by decide +kernel)
set_option maxRecDepth 20000 in
theorem ggL_law_L_same_c : Cond.code yL_same cL_same 22 (some .boolean) ∈ wsL_law := List.mem_of_getElem? (i := 260) rfl
set_option maxRecDepth 20000 in
theorem ggL_law_L_same : GoodIn wsL_law wsL_same := fun w h => (List.mem_cons.mp h).elim (fun e => by rw [e]; exact ⟨ggL_law_L_same_c, good_of_word (by decide +kernel)⟩) (ggL_law_L_same_t w)
set_option maxRecDepth 20000 in
theorem gL_law_L_same : GoodIn wsL_law (va_wsS RL 98 yL_same wsL_same) := goodIn_app (goodIn_r _ [258, 259, 59] (by decide +kernel) (by decide +kernel)) ggL_law_L_same
theorem dL_law_0 : decode cL_law 0 = .ok (.new 41, 3) := by decide +kernel
theorem dL_law_3 : decode cL_law 3 = .ok (.dup, 1) := by decide +kernel
theorem dL_law_4 : decode cL_law 4 = .ok (.invokespecial 71, 3) := by decide +kernel
theorem dL_law_7 : decode cL_law 7 = .ok (.astore_n 1, 1) := by decide +kernel
theorem dL_law_8 : decode cL_law 8 = .ok (.bipush 6, 2) := by decide +kernel
theorem dL_law_10 : decode cL_law 10 = .ok (.newarray .int, 2) := by decide +kernel
theorem dL_law_12 : decode cL_law 12 = .ok (.astore_n 2, 1) := by decide +kernel
theorem dL_law_13 : decode cL_law 13 = .ok (.bipush 40, 2) := by decide +kernel
theorem dL_law_15 : decode cL_law 15 = .ok (.newarray .int, 2) := by decide +kernel
theorem dL_law_17 : decode cL_law 17 = .ok (.astore_n 3, 1) := by decide +kernel
theorem dL_law_18 : decode cL_law 18 = .ok (.bipush 35, 2) := by decide +kernel
theorem dL_law_20 : decode cL_law 20 = .ok (.newarray .int, 2) := by decide +kernel
theorem dL_law_22 : decode cL_law 22 = .ok (.astore 4, 2) := by decide +kernel
theorem dL_law_24 : decode cL_law 24 = .ok (.bipush 35, 2) := by decide +kernel
theorem dL_law_26 : decode cL_law 26 = .ok (.newarray .int, 2) := by decide +kernel
theorem dL_law_28 : decode cL_law 28 = .ok (.astore 5, 2) := by decide +kernel
theorem dL_law_30 : decode cL_law 30 = .ok (.bipush 35, 2) := by decide +kernel
theorem dL_law_32 : decode cL_law 32 = .ok (.newarray .int, 2) := by decide +kernel
theorem dL_law_34 : decode cL_law 34 = .ok (.astore 6, 2) := by decide +kernel
theorem dL_law_36 : decode cL_law 36 = .ok (.aload_n 2, 1) := by decide +kernel
theorem dL_law_37 : decode cL_law 37 = .ok (.iconst 0, 1) := by decide +kernel
theorem dL_law_38 : decode cL_law 38 = .ok (.bipush 80, 2) := by decide +kernel
theorem dL_law_40 : decode cL_law 40 = .ok (.iastore, 1) := by decide +kernel
theorem dL_law_41 : decode cL_law 41 = .ok (.aload_n 2, 1) := by decide +kernel
theorem dL_law_42 : decode cL_law 42 = .ok (.iconst 1, 1) := by decide +kernel
theorem dL_law_43 : decode cL_law 43 = .ok (.bipush 6, 2) := by decide +kernel
theorem dL_law_45 : decode cL_law 45 = .ok (.iastore, 1) := by decide +kernel
theorem dL_law_46 : decode cL_law 46 = .ok (.aload_n 2, 1) := by decide +kernel
theorem dL_law_47 : decode cL_law 47 = .ok (.iconst 2, 1) := by decide +kernel
theorem dL_law_48 : decode cL_law 48 = .ok (.bipush 30, 2) := by decide +kernel
theorem dL_law_50 : decode cL_law 50 = .ok (.iastore, 1) := by decide +kernel
theorem dL_law_51 : decode cL_law 51 = .ok (.aload_n 2, 1) := by decide +kernel
theorem dL_law_52 : decode cL_law 52 = .ok (.iconst 3, 1) := by decide +kernel
theorem dL_law_53 : decode cL_law 53 = .ok (.bipush 40, 2) := by decide +kernel
theorem dL_law_55 : decode cL_law 55 = .ok (.iastore, 1) := by decide +kernel
theorem dL_law_56 : decode cL_law 56 = .ok (.aload_n 2, 1) := by decide +kernel
theorem dL_law_57 : decode cL_law 57 = .ok (.iconst 4, 1) := by decide +kernel
theorem dL_law_58 : decode cL_law 58 = .ok (.bipush 20, 2) := by decide +kernel
theorem dL_law_60 : decode cL_law 60 = .ok (.iastore, 1) := by decide +kernel
theorem dL_law_61 : decode cL_law 61 = .ok (.iconst 0, 1) := by decide +kernel
theorem dL_law_62 : decode cL_law 62 = .ok (.istore 7, 2) := by decide +kernel
theorem dL_law_64 : decode cL_law 64 = .ok (.iload 7, 2) := by decide +kernel
theorem dL_law_66 : decode cL_law 66 = .ok (.bipush 16, 2) := by decide +kernel
theorem dL_law_68 : decode cL_law 68 = .ok (.if_icmp .ge 1032, 3) := by decide +kernel
theorem dL_law_71 : decode cL_law 71 = .ok (.aload_n 0, 1) := by decide +kernel
theorem dL_law_72 : decode cL_law 72 = .ok (.iload 7, 2) := by decide +kernel
theorem dL_law_74 : decode cL_law 74 = .ok (.invokestatic 72, 3) := by decide +kernel
theorem dL_law_77 : decode cL_law 77 = .ok (.istore 8, 2) := by decide +kernel
theorem dL_law_79 : decode cL_law 79 = .ok (.iload 7, 2) := by decide +kernel
theorem dL_law_81 : decode cL_law 81 = .ok (.iconst 3, 1) := by decide +kernel
theorem dL_law_82 : decode cL_law 82 = .ok (.if_icmp .ge 7, 3) := by decide +kernel
theorem dL_law_85 : decode cL_law 85 = .ok (.iconst 0, 1) := by decide +kernel
theorem dL_law_86 : decode cL_law 86 = .ok (.goto 12, 3) := by decide +kernel
theorem dL_law_89 : decode cL_law 89 = .ok (.iconst 1, 1) := by decide +kernel
theorem dL_law_90 : decode cL_law 90 = .ok (.iload 8, 2) := by decide +kernel
theorem dL_law_92 : decode cL_law 92 = .ok (.bipush 9, 2) := by decide +kernel
theorem dL_law_94 : decode cL_law 94 = .ok (.invokestatic 57, 3) := by decide +kernel
theorem dL_law_97 : decode cL_law 97 = .ok (.iadd, 1) := by decide +kernel
theorem dL_law_98 : decode cL_law 98 = .ok (.istore 9, 2) := by decide +kernel
theorem dL_law_100 : decode cL_law 100 = .ok (.iload 8, 2) := by decide +kernel
theorem dL_law_102 : decode cL_law 102 = .ok (.iconst 4, 1) := by decide +kernel
theorem dL_law_103 : decode cL_law 103 = .ok (.ishr, 1) := by decide +kernel
theorem dL_law_104 : decode cL_law 104 = .ok (.bipush 35, 2) := by decide +kernel
theorem dL_law_106 : decode cL_law 106 = .ok (.invokestatic 57, 3) := by decide +kernel
theorem dL_law_109 : decode cL_law 109 = .ok (.istore 10, 2) := by decide +kernel
theorem dL_law_111 : decode cL_law 111 = .ok (.iload 8, 2) := by decide +kernel
theorem dL_law_113 : decode cL_law 113 = .ok (.bipush 6, 2) := by decide +kernel
theorem dL_law_115 : decode cL_law 115 = .ok (.ishr, 1) := by decide +kernel
theorem dL_law_116 : decode cL_law 116 = .ok (.iconst 2, 1) := by decide +kernel
theorem dL_law_117 : decode cL_law 117 = .ok (.invokestatic 57, 3) := by decide +kernel
theorem dL_law_120 : decode cL_law 120 = .ok (.istore 11, 2) := by decide +kernel
theorem dL_law_122 : decode cL_law 122 = .ok (.iload 9, 2) := by decide +kernel
theorem dL_law_124 : decode cL_law 124 = .ok (.ifCond .eq 30, 3) := by decide +kernel
theorem dL_law_127 : decode cL_law 127 = .ok (.iload 9, 2) := by decide +kernel
theorem dL_law_129 : decode cL_law 129 = .ok (.bipush 9, 2) := by decide +kernel
theorem dL_law_131 : decode cL_law 131 = .ok (.if_icmp .ne 160, 3) := by decide +kernel
theorem dL_law_134 : decode cL_law 134 = .ok (.aload_n 2, 1) := by decide +kernel
theorem dL_law_135 : decode cL_law 135 = .ok (.iconst 5, 1) := by decide +kernel
theorem dL_law_136 : decode cL_law 136 = .ok (.iaload, 1) := by decide +kernel
theorem dL_law_137 : decode cL_law 137 = .ok (.bipush 8, 2) := by decide +kernel
theorem dL_law_139 : decode cL_law 139 = .ok (.if_icmp .ge 152, 3) := by decide +kernel
theorem dL_law_142 : decode cL_law 142 = .ok (.iload 8, 2) := by decide +kernel
theorem dL_law_144 : decode cL_law 144 = .ok (.bipush 8, 2) := by decide +kernel
theorem dL_law_146 : decode cL_law 146 = .ok (.ishr, 1) := by decide +kernel
theorem dL_law_147 : decode cL_law 147 = .ok (.iconst 2, 1) := by decide +kernel
theorem dL_law_148 : decode cL_law 148 = .ok (.invokestatic 57, 3) := by decide +kernel
theorem dL_law_151 : decode cL_law 151 = .ok (.ifCond .ne 140, 3) := by decide +kernel
theorem dL_law_154 : decode cL_law 154 = .ok (.iconst 5, 1) := by decide +kernel
theorem dL_law_155 : decode cL_law 155 = .ok (.aload_n 2, 1) := by decide +kernel
theorem dL_law_156 : decode cL_law 156 = .ok (.iconst 5, 1) := by decide +kernel
theorem dL_law_157 : decode cL_law 157 = .ok (.iaload, 1) := by decide +kernel
theorem dL_law_158 : decode cL_law 158 = .ok (.imul, 1) := by decide +kernel
theorem dL_law_159 : decode cL_law 159 = .ok (.istore 12, 2) := by decide +kernel
theorem dL_law_161 : decode cL_law 161 = .ok (.aload_n 3, 1) := by decide +kernel
theorem dL_law_162 : decode cL_law 162 = .ok (.iload 12, 2) := by decide +kernel
theorem dL_law_164 : decode cL_law 164 = .ok (.iload 8, 2) := by decide +kernel
theorem dL_law_166 : decode cL_law 166 = .ok (.iconst 3, 1) := by decide +kernel
theorem dL_law_167 : decode cL_law 167 = .ok (.ishr, 1) := by decide +kernel
theorem dL_law_168 : decode cL_law 168 = .ok (.iconst 4, 1) := by decide +kernel
theorem dL_law_169 : decode cL_law 169 = .ok (.invokestatic 57, 3) := by decide +kernel
theorem dL_law_172 : decode cL_law 172 = .ok (.iastore, 1) := by decide +kernel
theorem dL_law_173 : decode cL_law 173 = .ok (.aload_n 3, 1) := by decide +kernel
theorem dL_law_174 : decode cL_law 174 = .ok (.iload 12, 2) := by decide +kernel
theorem dL_law_176 : decode cL_law 176 = .ok (.iconst 1, 1) := by decide +kernel
theorem dL_law_177 : decode cL_law 177 = .ok (.iadd, 1) := by decide +kernel
theorem dL_law_178 : decode cL_law 178 = .ok (.iconst 1, 1) := by decide +kernel
theorem dL_law_179 : decode cL_law 179 = .ok (.iload 8, 2) := by decide +kernel
theorem dL_law_181 : decode cL_law 181 = .ok (.iconst 5, 1) := by decide +kernel
theorem dL_law_182 : decode cL_law 182 = .ok (.ishr, 1) := by decide +kernel
theorem dL_law_183 : decode cL_law 183 = .ok (.sipush 999, 3) := by decide +kernel
theorem dL_law_186 : decode cL_law 186 = .ok (.invokestatic 57, 3) := by decide +kernel
theorem dL_law_189 : decode cL_law 189 = .ok (.iadd, 1) := by decide +kernel
theorem dL_law_190 : decode cL_law 190 = .ok (.iastore, 1) := by decide +kernel
theorem dL_law_191 : decode cL_law 191 = .ok (.aload_n 3, 1) := by decide +kernel
theorem dL_law_192 : decode cL_law 192 = .ok (.iload 12, 2) := by decide +kernel
theorem dL_law_194 : decode cL_law 194 = .ok (.iconst 2, 1) := by decide +kernel
theorem dL_law_195 : decode cL_law 195 = .ok (.iadd, 1) := by decide +kernel
theorem dL_law_196 : decode cL_law 196 = .ok (.iload 8, 2) := by decide +kernel
theorem dL_law_198 : decode cL_law 198 = .ok (.bipush 7, 2) := by decide +kernel
theorem dL_law_200 : decode cL_law 200 = .ok (.ishr, 1) := by decide +kernel
theorem dL_law_201 : decode cL_law 201 = .ok (.sipush 501, 3) := by decide +kernel
theorem dL_law_204 : decode cL_law 204 = .ok (.invokestatic 57, 3) := by decide +kernel
theorem dL_law_207 : decode cL_law 207 = .ok (.iastore, 1) := by decide +kernel
theorem dL_law_208 : decode cL_law 208 = .ok (.aload_n 3, 1) := by decide +kernel
theorem dL_law_209 : decode cL_law 209 = .ok (.iload 12, 2) := by decide +kernel
theorem dL_law_211 : decode cL_law 211 = .ok (.iconst 3, 1) := by decide +kernel
theorem dL_law_212 : decode cL_law 212 = .ok (.iadd, 1) := by decide +kernel
theorem dL_law_213 : decode cL_law 213 = .ok (.bipush 20, 2) := by decide +kernel
theorem dL_law_215 : decode cL_law 215 = .ok (.iload 8, 2) := by decide +kernel
theorem dL_law_217 : decode cL_law 217 = .ok (.bipush 9, 2) := by decide +kernel
theorem dL_law_219 : decode cL_law 219 = .ok (.ishr, 1) := by decide +kernel
theorem dL_law_220 : decode cL_law 220 = .ok (.bipush 71, 2) := by decide +kernel
theorem dL_law_222 : decode cL_law 222 = .ok (.invokestatic 57, 3) := by decide +kernel
theorem dL_law_225 : decode cL_law 225 = .ok (.iadd, 1) := by decide +kernel
theorem dL_law_226 : decode cL_law 226 = .ok (.iastore, 1) := by decide +kernel
theorem dL_law_227 : decode cL_law 227 = .ok (.aload_n 3, 1) := by decide +kernel
theorem dL_law_228 : decode cL_law 228 = .ok (.iload 12, 2) := by decide +kernel
theorem dL_law_230 : decode cL_law 230 = .ok (.iconst 4, 1) := by decide +kernel
theorem dL_law_231 : decode cL_law 231 = .ok (.iadd, 1) := by decide +kernel
theorem dL_law_232 : decode cL_law 232 = .ok (.iload 8, 2) := by decide +kernel
theorem dL_law_234 : decode cL_law 234 = .ok (.bipush 11, 2) := by decide +kernel
theorem dL_law_236 : decode cL_law 236 = .ok (.ishr, 1) := by decide +kernel
theorem dL_law_237 : decode cL_law 237 = .ok (.bipush 20, 2) := by decide +kernel
theorem dL_law_239 : decode cL_law 239 = .ok (.invokestatic 57, 3) := by decide +kernel
theorem dL_law_242 : decode cL_law 242 = .ok (.iastore, 1) := by decide +kernel
theorem dL_law_243 : decode cL_law 243 = .ok (.aload_n 1, 1) := by decide +kernel
theorem dL_law_244 : decode cL_law 244 = .ok (.aload_n 3, 1) := by decide +kernel
theorem dL_law_245 : decode cL_law 245 = .ok (.iload 12, 2) := by decide +kernel
theorem dL_law_247 : decode cL_law 247 = .ok (.iaload, 1) := by decide +kernel
theorem dL_law_248 : decode cL_law 248 = .ok (.aload_n 3, 1) := by decide +kernel
theorem dL_law_249 : decode cL_law 249 = .ok (.iload 12, 2) := by decide +kernel
theorem dL_law_251 : decode cL_law 251 = .ok (.iconst 1, 1) := by decide +kernel
theorem dL_law_252 : decode cL_law 252 = .ok (.iadd, 1) := by decide +kernel
theorem dL_law_253 : decode cL_law 253 = .ok (.iaload, 1) := by decide +kernel
theorem dL_law_254 : decode cL_law 254 = .ok (.aload_n 3, 1) := by decide +kernel
theorem dL_law_255 : decode cL_law 255 = .ok (.iload 12, 2) := by decide +kernel
theorem dL_law_257 : decode cL_law 257 = .ok (.iconst 2, 1) := by decide +kernel
theorem dL_law_258 : decode cL_law 258 = .ok (.iadd, 1) := by decide +kernel
theorem dL_law_259 : decode cL_law 259 = .ok (.iaload, 1) := by decide +kernel
theorem dL_law_260 : decode cL_law 260 = .ok (.aload_n 3, 1) := by decide +kernel
theorem dL_law_261 : decode cL_law 261 = .ok (.iload 12, 2) := by decide +kernel
theorem dL_law_263 : decode cL_law 263 = .ok (.iconst 3, 1) := by decide +kernel
theorem dL_law_264 : decode cL_law 264 = .ok (.iadd, 1) := by decide +kernel
theorem dL_law_265 : decode cL_law 265 = .ok (.iaload, 1) := by decide +kernel
theorem dL_law_266 : decode cL_law 266 = .ok (.aload_n 3, 1) := by decide +kernel
theorem dL_law_267 : decode cL_law 267 = .ok (.iload 12, 2) := by decide +kernel
theorem dL_law_269 : decode cL_law 269 = .ok (.iconst 4, 1) := by decide +kernel
theorem dL_law_270 : decode cL_law 270 = .ok (.iadd, 1) := by decide +kernel
theorem dL_law_271 : decode cL_law 271 = .ok (.iaload, 1) := by decide +kernel
theorem dL_law_272 : decode cL_law 272 = .ok (.invokevirtual 76, 3) := by decide +kernel
theorem dL_law_275 : decode cL_law 275 = .ok (.aload_n 2, 1) := by decide +kernel
theorem dL_law_276 : decode cL_law 276 = .ok (.iconst 5, 1) := by decide +kernel
theorem dL_law_277 : decode cL_law 277 = .ok (.dup2, 1) := by decide +kernel
theorem dL_law_278 : decode cL_law 278 = .ok (.iaload, 1) := by decide +kernel
theorem dL_law_279 : decode cL_law 279 = .ok (.dup_x2, 1) := by decide +kernel
theorem dL_law_280 : decode cL_law 280 = .ok (.iconst 1, 1) := by decide +kernel
theorem dL_law_281 : decode cL_law 281 = .ok (.iadd, 1) := by decide +kernel
theorem dL_law_282 : decode cL_law 282 = .ok (.iastore, 1) := by decide +kernel
theorem dL_law_283 : decode cL_law 283 = .ok (.if_icmp .eq 5, 3) := by decide +kernel
theorem dL_law_286 : decode cL_law 286 = .ok (.iconst 0, 1) := by decide +kernel
theorem dL_law_287 : decode cL_law 287 = .ok (.ireturn, 1) := by decide +kernel
theorem dL_law_288 : decode cL_law 288 = .ok (.goto 785, 3) := by decide +kernel
theorem dL_law_291 : decode cL_law 291 = .ok (.iload 9, 2) := by decide +kernel
theorem dL_law_293 : decode cL_law 293 = .ok (.bipush 6, 2) := by decide +kernel
theorem dL_law_295 : decode cL_law 295 = .ok (.if_icmp .ge 225, 3) := by decide +kernel
theorem dL_law_298 : decode cL_law 298 = .ok (.iconst 0, 1) := by decide +kernel
theorem dL_law_299 : decode cL_law 299 = .ok (.istore 12, 2) := by decide +kernel
theorem dL_law_301 : decode cL_law 301 = .ok (.iload 12, 2) := by decide +kernel
theorem dL_law_303 : decode cL_law 303 = .ok (.iconst 3, 1) := by decide +kernel
theorem dL_law_304 : decode cL_law 304 = .ok (.if_icmp .ge 213, 3) := by decide +kernel
theorem dL_law_307 : decode cL_law 307 = .ok (.iload 10, 2) := by decide +kernel
theorem dL_law_309 : decode cL_law 309 = .ok (.iconst 5, 1) := by decide +kernel
theorem dL_law_310 : decode cL_law 310 = .ok (.iload 12, 2) := by decide +kernel
theorem dL_law_312 : decode cL_law 312 = .ok (.imul, 1) := by decide +kernel
theorem dL_law_313 : decode cL_law 313 = .ok (.iadd, 1) := by decide +kernel
theorem dL_law_314 : decode cL_law 314 = .ok (.bipush 35, 2) := by decide +kernel
theorem dL_law_316 : decode cL_law 316 = .ok (.irem, 1) := by decide +kernel
theorem dL_law_317 : decode cL_law 317 = .ok (.istore 13, 2) := by decide +kernel
theorem dL_law_319 : decode cL_law 319 = .ok (.iload 8, 2) := by decide +kernel
theorem dL_law_321 : decode cL_law 321 = .ok (.bipush 8, 2) := by decide +kernel
theorem dL_law_323 : decode cL_law 323 = .ok (.iload 12, 2) := by decide +kernel
theorem dL_law_325 : decode cL_law 325 = .ok (.iadd, 1) := by decide +kernel
theorem dL_law_326 : decode cL_law 326 = .ok (.ishr, 1) := by decide +kernel
theorem dL_law_327 : decode cL_law 327 = .ok (.aload_n 2, 1) := by decide +kernel
theorem dL_law_328 : decode cL_law 328 = .ok (.iconst 5, 1) := by decide +kernel
theorem dL_law_329 : decode cL_law 329 = .ok (.iaload, 1) := by decide +kernel
theorem dL_law_330 : decode cL_law 330 = .ok (.invokestatic 57, 3) := by decide +kernel
theorem dL_law_333 : decode cL_law 333 = .ok (.istore 14, 2) := by decide +kernel
theorem dL_law_335 : decode cL_law 335 = .ok (.aload 6, 2) := by decide +kernel
theorem dL_law_337 : decode cL_law 337 = .ok (.iload 13, 2) := by decide +kernel
theorem dL_law_339 : decode cL_law 339 = .ok (.iaload, 1) := by decide +kernel
theorem dL_law_340 : decode cL_law 340 = .ok (.ifCond .ne 20, 3) := by decide +kernel
theorem dL_law_343 : decode cL_law 343 = .ok (.iload 13, 2) := by decide +kernel
theorem dL_law_345 : decode cL_law 345 = .ok (.aload_n 3, 1) := by decide +kernel
theorem dL_law_346 : decode cL_law 346 = .ok (.iconst 5, 1) := by decide +kernel
theorem dL_law_347 : decode cL_law 347 = .ok (.iload 14, 2) := by decide +kernel
theorem dL_law_349 : decode cL_law 349 = .ok (.imul, 1) := by decide +kernel
theorem dL_law_350 : decode cL_law 350 = .ok (.iconst 4, 1) := by decide +kernel
theorem dL_law_351 : decode cL_law 351 = .ok (.iadd, 1) := by decide +kernel
theorem dL_law_352 : decode cL_law 352 = .ok (.iaload, 1) := by decide +kernel
theorem dL_law_353 : decode cL_law 353 = .ok (.if_icmp .lt 7, 3) := by decide +kernel
theorem dL_law_356 : decode cL_law 356 = .ok (.iconst 1, 1) := by decide +kernel
theorem dL_law_357 : decode cL_law 357 = .ok (.goto 4, 3) := by decide +kernel
theorem dL_law_360 : decode cL_law 360 = .ok (.iconst 0, 1) := by decide +kernel
theorem dL_law_361 : decode cL_law 361 = .ok (.istore 15, 2) := by decide +kernel
theorem dL_law_363 : decode cL_law 363 = .ok (.iload 13, 2) := by decide +kernel
theorem dL_law_365 : decode cL_law 365 = .ok (.iload 11, 2) := by decide +kernel
theorem dL_law_367 : decode cL_law 367 = .ok (.aload 4, 2) := by decide +kernel
theorem dL_law_369 : decode cL_law 369 = .ok (.aload 5, 2) := by decide +kernel
theorem dL_law_371 : decode cL_law 371 = .ok (.invokestatic 16, 3) := by decide +kernel
theorem dL_law_374 : decode cL_law 374 = .ok (.istore 16, 2) := by decide +kernel
theorem dL_law_376 : decode cL_law 376 = .ok (.aload_n 2, 1) := by decide +kernel
theorem dL_law_377 : decode cL_law 377 = .ok (.aload_n 3, 1) := by decide +kernel
theorem dL_law_378 : decode cL_law 378 = .ok (.aload 4, 2) := by decide +kernel
theorem dL_law_380 : decode cL_law 380 = .ok (.aload 5, 2) := by decide +kernel
theorem dL_law_382 : decode cL_law 382 = .ok (.aload 6, 2) := by decide +kernel
theorem dL_law_384 : decode cL_law 384 = .ok (.invokestatic 67, 3) := by decide +kernel
theorem dL_law_387 : decode cL_law 387 = .ok (.istore 17, 2) := by decide +kernel
theorem dL_law_389 : decode cL_law 389 = .ok (.aload_n 1, 1) := by decide +kernel
theorem dL_law_390 : decode cL_law 390 = .ok (.iload 14, 2) := by decide +kernel
theorem dL_law_392 : decode cL_law 392 = .ok (.iload 13, 2) := by decide +kernel
theorem dL_law_394 : decode cL_law 394 = .ok (.iload 11, 2) := by decide +kernel
theorem dL_law_396 : decode cL_law 396 = .ok (.invokevirtual 79, 3) := by decide +kernel
theorem dL_law_399 : decode cL_law 399 = .ok (.istore 18, 2) := by decide +kernel
theorem dL_law_401 : decode cL_law 401 = .ok (.aload_n 1, 1) := by decide +kernel
theorem dL_law_402 : decode cL_law 402 = .ok (.iload 14, 2) := by decide +kernel
theorem dL_law_404 : decode cL_law 404 = .ok (.iload 13, 2) := by decide +kernel
theorem dL_law_406 : decode cL_law 406 = .ok (.iload 11, 2) := by decide +kernel
theorem dL_law_408 : decode cL_law 408 = .ok (.invokevirtual 82, 3) := by decide +kernel
theorem dL_law_411 : decode cL_law 411 = .ok (.iload 15, 2) := by decide +kernel
theorem dL_law_413 : decode cL_law 413 = .ok (.ifCond .eq 18, 3) := by decide +kernel
theorem dL_law_416 : decode cL_law 416 = .ok (.iload 16, 2) := by decide +kernel
theorem dL_law_418 : decode cL_law 418 = .ok (.ifCond .ge 8, 3) := by decide +kernel
theorem dL_law_421 : decode cL_law 421 = .ok (.bipush (-6), 2) := by decide +kernel
theorem dL_law_423 : decode cL_law 423 = .ok (.goto 10, 3) := by decide +kernel
theorem dL_law_426 : decode cL_law 426 = .ok (.iload 16, 2) := by decide +kernel
theorem dL_law_428 : decode cL_law 428 = .ok (.goto 5, 3) := by decide +kernel
theorem dL_law_431 : decode cL_law 431 = .ok (.bipush (-5), 2) := by decide +kernel
theorem dL_law_433 : decode cL_law 433 = .ok (.if_icmp .eq 5, 3) := by decide +kernel
theorem dL_law_436 : decode cL_law 436 = .ok (.iconst 0, 1) := by decide +kernel
theorem dL_law_437 : decode cL_law 437 = .ok (.ireturn, 1) := by decide +kernel
theorem dL_law_438 : decode cL_law 438 = .ok (.iload 15, 2) := by decide +kernel
theorem dL_law_440 : decode cL_law 440 = .ok (.ifCond .eq 17, 3) := by decide +kernel
theorem dL_law_443 : decode cL_law 443 = .ok (.iload 11, 2) := by decide +kernel
theorem dL_law_445 : decode cL_law 445 = .ok (.ifCond .ne 12, 3) := by decide +kernel
theorem dL_law_448 : decode cL_law 448 = .ok (.aload 4, 2) := by decide +kernel
theorem dL_law_450 : decode cL_law 450 = .ok (.iload 13, 2) := by decide +kernel
theorem dL_law_452 : decode cL_law 452 = .ok (.iload 14, 2) := by decide +kernel
theorem dL_law_454 : decode cL_law 454 = .ok (.iconst 1, 1) := by decide +kernel
theorem dL_law_455 : decode cL_law 455 = .ok (.iadd, 1) := by decide +kernel
theorem dL_law_456 : decode cL_law 456 = .ok (.iastore, 1) := by decide +kernel
theorem dL_law_457 : decode cL_law 457 = .ok (.iload 15, 2) := by decide +kernel
theorem dL_law_459 : decode cL_law 459 = .ok (.ifCond .eq 18, 3) := by decide +kernel
theorem dL_law_462 : decode cL_law 462 = .ok (.iload 11, 2) := by decide +kernel
theorem dL_law_464 : decode cL_law 464 = .ok (.iconst 1, 1) := by decide +kernel
theorem dL_law_465 : decode cL_law 465 = .ok (.if_icmp .ne 12, 3) := by decide +kernel
theorem dL_law_468 : decode cL_law 468 = .ok (.aload 5, 2) := by decide +kernel
theorem dL_law_470 : decode cL_law 470 = .ok (.iload 13, 2) := by decide +kernel
theorem dL_law_472 : decode cL_law 472 = .ok (.iload 14, 2) := by decide +kernel
theorem dL_law_474 : decode cL_law 474 = .ok (.iconst 1, 1) := by decide +kernel
theorem dL_law_475 : decode cL_law 475 = .ok (.iadd, 1) := by decide +kernel
theorem dL_law_476 : decode cL_law 476 = .ok (.iastore, 1) := by decide +kernel
theorem dL_law_477 : decode cL_law 477 = .ok (.iload 18, 2) := by decide +kernel
theorem dL_law_479 : decode cL_law 479 = .ok (.iload 15, 2) := by decide +kernel
theorem dL_law_481 : decode cL_law 481 = .ok (.ifCond .eq 23, 3) := by decide +kernel
theorem dL_law_484 : decode cL_law 484 = .ok (.aload_n 2, 1) := by decide +kernel
theorem dL_law_485 : decode cL_law 485 = .ok (.aload_n 3, 1) := by decide +kernel
theorem dL_law_486 : decode cL_law 486 = .ok (.aload 4, 2) := by decide +kernel
theorem dL_law_488 : decode cL_law 488 = .ok (.aload 5, 2) := by decide +kernel
theorem dL_law_490 : decode cL_law 490 = .ok (.aload 6, 2) := by decide +kernel
theorem dL_law_492 : decode cL_law 492 = .ok (.invokestatic 67, 3) := by decide +kernel
theorem dL_law_495 : decode cL_law 495 = .ok (.iload 17, 2) := by decide +kernel
theorem dL_law_497 : decode cL_law 497 = .ok (.isub, 1) := by decide +kernel
theorem dL_law_498 : decode cL_law 498 = .ok (.ldc 63, 2) := by decide +kernel
theorem dL_law_500 : decode cL_law 500 = .ok (.iadd, 1) := by decide +kernel
theorem dL_law_501 : decode cL_law 501 = .ok (.goto 5, 3) := by decide +kernel
theorem dL_law_504 : decode cL_law 504 = .ok (.bipush (-5), 2) := by decide +kernel
theorem dL_law_506 : decode cL_law 506 = .ok (.if_icmp .eq 5, 3) := by decide +kernel
theorem dL_law_509 : decode cL_law 509 = .ok (.iconst 0, 1) := by decide +kernel
theorem dL_law_510 : decode cL_law 510 = .ok (.ireturn, 1) := by decide +kernel
theorem dL_law_511 : decode cL_law 511 = .ok (.iinc 12 1, 3) := by decide +kernel
theorem dL_law_514 : decode cL_law 514 = .ok (.goto (-213), 3) := by decide +kernel
theorem dL_law_517 : decode cL_law 517 = .ok (.goto 556, 3) := by decide +kernel
theorem dL_law_520 : decode cL_law 520 = .ok (.iload 9, 2) := by decide +kernel
theorem dL_law_522 : decode cL_law 522 = .ok (.bipush 6, 2) := by decide +kernel
theorem dL_law_524 : decode cL_law 524 = .ok (.if_icmp .ne 64, 3) := by decide +kernel
theorem dL_law_527 : decode cL_law 527 = .ok (.iload 10, 2) := by decide +kernel
theorem dL_law_529 : decode cL_law 529 = .ok (.iload 11, 2) := by decide +kernel
theorem dL_law_531 : decode cL_law 531 = .ok (.aload 4, 2) := by decide +kernel
theorem dL_law_533 : decode cL_law 533 = .ok (.aload 5, 2) := by decide +kernel
theorem dL_law_535 : decode cL_law 535 = .ok (.invokestatic 16, 3) := by decide +kernel
theorem dL_law_538 : decode cL_law 538 = .ok (.istore 12, 2) := by decide +kernel
theorem dL_law_540 : decode cL_law 540 = .ok (.aload_n 1, 1) := by decide +kernel
theorem dL_law_541 : decode cL_law 541 = .ok (.iload 10, 2) := by decide +kernel
theorem dL_law_543 : decode cL_law 543 = .ok (.iload 11, 2) := by decide +kernel
theorem dL_law_545 : decode cL_law 545 = .ok (.invokevirtual 85, 3) := by decide +kernel
theorem dL_law_548 : decode cL_law 548 = .ok (.iload 12, 2) := by decide +kernel
theorem dL_law_550 : decode cL_law 550 = .ok (.ifCond .ge 8, 3) := by decide +kernel
theorem dL_law_553 : decode cL_law 553 = .ok (.bipush (-5), 2) := by decide +kernel
theorem dL_law_555 : decode cL_law 555 = .ok (.goto 5, 3) := by decide +kernel
theorem dL_law_558 : decode cL_law 558 = .ok (.iload 12, 2) := by decide +kernel
theorem dL_law_560 : decode cL_law 560 = .ok (.if_icmp .eq 5, 3) := by decide +kernel
theorem dL_law_563 : decode cL_law 563 = .ok (.iconst 0, 1) := by decide +kernel
theorem dL_law_564 : decode cL_law 564 = .ok (.ireturn, 1) := by decide +kernel
theorem dL_law_565 : decode cL_law 565 = .ok (.iload 11, 2) := by decide +kernel
theorem dL_law_567 : decode cL_law 567 = .ok (.ifCond .ne 12, 3) := by decide +kernel
theorem dL_law_570 : decode cL_law 570 = .ok (.aload 4, 2) := by decide +kernel
theorem dL_law_572 : decode cL_law 572 = .ok (.iload 10, 2) := by decide +kernel
theorem dL_law_574 : decode cL_law 574 = .ok (.iconst 0, 1) := by decide +kernel
theorem dL_law_575 : decode cL_law 575 = .ok (.iastore, 1) := by decide +kernel
theorem dL_law_576 : decode cL_law 576 = .ok (.goto 9, 3) := by decide +kernel
theorem dL_law_579 : decode cL_law 579 = .ok (.aload 5, 2) := by decide +kernel
theorem dL_law_581 : decode cL_law 581 = .ok (.iload 10, 2) := by decide +kernel
theorem dL_law_583 : decode cL_law 583 = .ok (.iconst 0, 1) := by decide +kernel
theorem dL_law_584 : decode cL_law 584 = .ok (.iastore, 1) := by decide +kernel
theorem dL_law_585 : decode cL_law 585 = .ok (.goto 488, 3) := by decide +kernel
theorem dL_law_588 : decode cL_law 588 = .ok (.iload 9, 2) := by decide +kernel
theorem dL_law_590 : decode cL_law 590 = .ok (.bipush 7, 2) := by decide +kernel
theorem dL_law_592 : decode cL_law 592 = .ok (.if_icmp .ne 249, 3) := by decide +kernel
theorem dL_law_595 : decode cL_law 595 = .ok (.iload 8, 2) := by decide +kernel
theorem dL_law_597 : decode cL_law 597 = .ok (.bipush 9, 2) := by decide +kernel
theorem dL_law_599 : decode cL_law 599 = .ok (.ishr, 1) := by decide +kernel
theorem dL_law_600 : decode cL_law 600 = .ok (.bipush 35, 2) := by decide +kernel
theorem dL_law_602 : decode cL_law 602 = .ok (.invokestatic 57, 3) := by decide +kernel
theorem dL_law_605 : decode cL_law 605 = .ok (.istore 12, 2) := by decide +kernel
theorem dL_law_607 : decode cL_law 607 = .ok (.iload 8, 2) := by decide +kernel
theorem dL_law_609 : decode cL_law 609 = .ok (.bipush 12, 2) := by decide +kernel
theorem dL_law_611 : decode cL_law 611 = .ok (.ishr, 1) := by decide +kernel
theorem dL_law_612 : decode cL_law 612 = .ok (.iconst 2, 1) := by decide +kernel
theorem dL_law_613 : decode cL_law 613 = .ok (.invokestatic 57, 3) := by decide +kernel
theorem dL_law_616 : decode cL_law 616 = .ok (.istore 13, 2) := by decide +kernel
theorem dL_law_618 : decode cL_law 618 = .ok (.iload 10, 2) := by decide +kernel
theorem dL_law_620 : decode cL_law 620 = .ok (.iload 11, 2) := by decide +kernel
theorem dL_law_622 : decode cL_law 622 = .ok (.aload 4, 2) := by decide +kernel
theorem dL_law_624 : decode cL_law 624 = .ok (.aload 5, 2) := by decide +kernel
theorem dL_law_626 : decode cL_law 626 = .ok (.invokestatic 16, 3) := by decide +kernel
theorem dL_law_629 : decode cL_law 629 = .ok (.istore 14, 2) := by decide +kernel
theorem dL_law_631 : decode cL_law 631 = .ok (.iload 12, 2) := by decide +kernel
theorem dL_law_633 : decode cL_law 633 = .ok (.iload 13, 2) := by decide +kernel
theorem dL_law_635 : decode cL_law 635 = .ok (.aload 4, 2) := by decide +kernel
theorem dL_law_637 : decode cL_law 637 = .ok (.aload 5, 2) := by decide +kernel
theorem dL_law_639 : decode cL_law 639 = .ok (.invokestatic 16, 3) := by decide +kernel
theorem dL_law_642 : decode cL_law 642 = .ok (.istore 15, 2) := by decide +kernel
theorem dL_law_644 : decode cL_law 644 = .ok (.aload 6, 2) := by decide +kernel
theorem dL_law_646 : decode cL_law 646 = .ok (.iload 10, 2) := by decide +kernel
theorem dL_law_648 : decode cL_law 648 = .ok (.iaload, 1) := by decide +kernel
theorem dL_law_649 : decode cL_law 649 = .ok (.ifCond .ne 51, 3) := by decide +kernel
theorem dL_law_652 : decode cL_law 652 = .ok (.aload 6, 2) := by decide +kernel
theorem dL_law_654 : decode cL_law 654 = .ok (.iload 12, 2) := by decide +kernel
theorem dL_law_656 : decode cL_law 656 = .ok (.iaload, 1) := by decide +kernel
theorem dL_law_657 : decode cL_law 657 = .ok (.ifCond .ne 43, 3) := by decide +kernel
theorem dL_law_660 : decode cL_law 660 = .ok (.iload 14, 2) := by decide +kernel
theorem dL_law_662 : decode cL_law 662 = .ok (.ifCond .lt 16, 3) := by decide +kernel
theorem dL_law_665 : decode cL_law 665 = .ok (.iload 12, 2) := by decide +kernel
theorem dL_law_667 : decode cL_law 667 = .ok (.aload_n 3, 1) := by decide +kernel
theorem dL_law_668 : decode cL_law 668 = .ok (.iconst 5, 1) := by decide +kernel
theorem dL_law_669 : decode cL_law 669 = .ok (.iload 14, 2) := by decide +kernel
theorem dL_law_671 : decode cL_law 671 = .ok (.imul, 1) := by decide +kernel
theorem dL_law_672 : decode cL_law 672 = .ok (.iconst 4, 1) := by decide +kernel
theorem dL_law_673 : decode cL_law 673 = .ok (.iadd, 1) := by decide +kernel
theorem dL_law_674 : decode cL_law 674 = .ok (.iaload, 1) := by decide +kernel
theorem dL_law_675 : decode cL_law 675 = .ok (.if_icmp .lt 25, 3) := by decide +kernel
theorem dL_law_678 : decode cL_law 678 = .ok (.iload 15, 2) := by decide +kernel
theorem dL_law_680 : decode cL_law 680 = .ok (.ifCond .lt 16, 3) := by decide +kernel
theorem dL_law_683 : decode cL_law 683 = .ok (.iload 10, 2) := by decide +kernel
theorem dL_law_685 : decode cL_law 685 = .ok (.aload_n 3, 1) := by decide +kernel
theorem dL_law_686 : decode cL_law 686 = .ok (.iconst 5, 1) := by decide +kernel
theorem dL_law_687 : decode cL_law 687 = .ok (.iload 15, 2) := by decide +kernel
theorem dL_law_689 : decode cL_law 689 = .ok (.imul, 1) := by decide +kernel
theorem dL_law_690 : decode cL_law 690 = .ok (.iconst 4, 1) := by decide +kernel
theorem dL_law_691 : decode cL_law 691 = .ok (.iadd, 1) := by decide +kernel
theorem dL_law_692 : decode cL_law 692 = .ok (.iaload, 1) := by decide +kernel
theorem dL_law_693 : decode cL_law 693 = .ok (.if_icmp .lt 7, 3) := by decide +kernel
theorem dL_law_696 : decode cL_law 696 = .ok (.iconst 1, 1) := by decide +kernel
theorem dL_law_697 : decode cL_law 697 = .ok (.goto 4, 3) := by decide +kernel
theorem dL_law_700 : decode cL_law 700 = .ok (.iconst 0, 1) := by decide +kernel
theorem dL_law_701 : decode cL_law 701 = .ok (.istore 16, 2) := by decide +kernel
theorem dL_law_703 : decode cL_law 703 = .ok (.aload_n 2, 1) := by decide +kernel
theorem dL_law_704 : decode cL_law 704 = .ok (.aload_n 3, 1) := by decide +kernel
theorem dL_law_705 : decode cL_law 705 = .ok (.aload 4, 2) := by decide +kernel
theorem dL_law_707 : decode cL_law 707 = .ok (.aload 5, 2) := by decide +kernel
theorem dL_law_709 : decode cL_law 709 = .ok (.aload 6, 2) := by decide +kernel
theorem dL_law_711 : decode cL_law 711 = .ok (.invokestatic 67, 3) := by decide +kernel
theorem dL_law_714 : decode cL_law 714 = .ok (.istore 17, 2) := by decide +kernel
theorem dL_law_716 : decode cL_law 716 = .ok (.iload 16, 2) := by decide +kernel
theorem dL_law_718 : decode cL_law 718 = .ok (.ifCond .eq 17, 3) := by decide +kernel
theorem dL_law_721 : decode cL_law 721 = .ok (.iload 11, 2) := by decide +kernel
theorem dL_law_723 : decode cL_law 723 = .ok (.ifCond .ne 12, 3) := by decide +kernel
theorem dL_law_726 : decode cL_law 726 = .ok (.aload 4, 2) := by decide +kernel
theorem dL_law_728 : decode cL_law 728 = .ok (.iload 10, 2) := by decide +kernel
theorem dL_law_730 : decode cL_law 730 = .ok (.iload 15, 2) := by decide +kernel
theorem dL_law_732 : decode cL_law 732 = .ok (.iconst 1, 1) := by decide +kernel
theorem dL_law_733 : decode cL_law 733 = .ok (.iadd, 1) := by decide +kernel
theorem dL_law_734 : decode cL_law 734 = .ok (.iastore, 1) := by decide +kernel
theorem dL_law_735 : decode cL_law 735 = .ok (.iload 16, 2) := by decide +kernel
theorem dL_law_737 : decode cL_law 737 = .ok (.ifCond .eq 18, 3) := by decide +kernel
theorem dL_law_740 : decode cL_law 740 = .ok (.iload 11, 2) := by decide +kernel
theorem dL_law_742 : decode cL_law 742 = .ok (.iconst 1, 1) := by decide +kernel
theorem dL_law_743 : decode cL_law 743 = .ok (.if_icmp .ne 12, 3) := by decide +kernel
theorem dL_law_746 : decode cL_law 746 = .ok (.aload 5, 2) := by decide +kernel
theorem dL_law_748 : decode cL_law 748 = .ok (.iload 10, 2) := by decide +kernel
theorem dL_law_750 : decode cL_law 750 = .ok (.iload 15, 2) := by decide +kernel
theorem dL_law_752 : decode cL_law 752 = .ok (.iconst 1, 1) := by decide +kernel
theorem dL_law_753 : decode cL_law 753 = .ok (.iadd, 1) := by decide +kernel
theorem dL_law_754 : decode cL_law 754 = .ok (.iastore, 1) := by decide +kernel
theorem dL_law_755 : decode cL_law 755 = .ok (.iload 16, 2) := by decide +kernel
theorem dL_law_757 : decode cL_law 757 = .ok (.ifCond .eq 17, 3) := by decide +kernel
theorem dL_law_760 : decode cL_law 760 = .ok (.iload 13, 2) := by decide +kernel
theorem dL_law_762 : decode cL_law 762 = .ok (.ifCond .ne 12, 3) := by decide +kernel
theorem dL_law_765 : decode cL_law 765 = .ok (.aload 4, 2) := by decide +kernel
theorem dL_law_767 : decode cL_law 767 = .ok (.iload 12, 2) := by decide +kernel
theorem dL_law_769 : decode cL_law 769 = .ok (.iload 14, 2) := by decide +kernel
theorem dL_law_771 : decode cL_law 771 = .ok (.iconst 1, 1) := by decide +kernel
theorem dL_law_772 : decode cL_law 772 = .ok (.iadd, 1) := by decide +kernel
theorem dL_law_773 : decode cL_law 773 = .ok (.iastore, 1) := by decide +kernel
theorem dL_law_774 : decode cL_law 774 = .ok (.iload 16, 2) := by decide +kernel
theorem dL_law_776 : decode cL_law 776 = .ok (.ifCond .eq 18, 3) := by decide +kernel
theorem dL_law_779 : decode cL_law 779 = .ok (.iload 13, 2) := by decide +kernel
theorem dL_law_781 : decode cL_law 781 = .ok (.iconst 1, 1) := by decide +kernel
theorem dL_law_782 : decode cL_law 782 = .ok (.if_icmp .ne 12, 3) := by decide +kernel
theorem dL_law_785 : decode cL_law 785 = .ok (.aload 5, 2) := by decide +kernel
theorem dL_law_787 : decode cL_law 787 = .ok (.iload 12, 2) := by decide +kernel
theorem dL_law_789 : decode cL_law 789 = .ok (.iload 14, 2) := by decide +kernel
theorem dL_law_791 : decode cL_law 791 = .ok (.iconst 1, 1) := by decide +kernel
theorem dL_law_792 : decode cL_law 792 = .ok (.iadd, 1) := by decide +kernel
theorem dL_law_793 : decode cL_law 793 = .ok (.iastore, 1) := by decide +kernel
theorem dL_law_794 : decode cL_law 794 = .ok (.aload_n 1, 1) := by decide +kernel
theorem dL_law_795 : decode cL_law 795 = .ok (.iload 10, 2) := by decide +kernel
theorem dL_law_797 : decode cL_law 797 = .ok (.iload 11, 2) := by decide +kernel
theorem dL_law_799 : decode cL_law 799 = .ok (.iload 12, 2) := by decide +kernel
theorem dL_law_801 : decode cL_law 801 = .ok (.iload 13, 2) := by decide +kernel
theorem dL_law_803 : decode cL_law 803 = .ok (.invokevirtual 88, 3) := by decide +kernel
theorem dL_law_806 : decode cL_law 806 = .ok (.iload 16, 2) := by decide +kernel
theorem dL_law_808 : decode cL_law 808 = .ok (.ifCond .eq 23, 3) := by decide +kernel
theorem dL_law_811 : decode cL_law 811 = .ok (.aload_n 2, 1) := by decide +kernel
theorem dL_law_812 : decode cL_law 812 = .ok (.aload_n 3, 1) := by decide +kernel
theorem dL_law_813 : decode cL_law 813 = .ok (.aload 4, 2) := by decide +kernel
theorem dL_law_815 : decode cL_law 815 = .ok (.aload 5, 2) := by decide +kernel
theorem dL_law_817 : decode cL_law 817 = .ok (.aload 6, 2) := by decide +kernel
theorem dL_law_819 : decode cL_law 819 = .ok (.invokestatic 67, 3) := by decide +kernel
theorem dL_law_822 : decode cL_law 822 = .ok (.iload 17, 2) := by decide +kernel
theorem dL_law_824 : decode cL_law 824 = .ok (.isub, 1) := by decide +kernel
theorem dL_law_825 : decode cL_law 825 = .ok (.ldc 63, 2) := by decide +kernel
theorem dL_law_827 : decode cL_law 827 = .ok (.iadd, 1) := by decide +kernel
theorem dL_law_828 : decode cL_law 828 = .ok (.goto 5, 3) := by decide +kernel
theorem dL_law_831 : decode cL_law 831 = .ok (.bipush (-5), 2) := by decide +kernel
theorem dL_law_833 : decode cL_law 833 = .ok (.if_icmp .eq 5, 3) := by decide +kernel
theorem dL_law_836 : decode cL_law 836 = .ok (.iconst 0, 1) := by decide +kernel
theorem dL_law_837 : decode cL_law 837 = .ok (.ireturn, 1) := by decide +kernel
theorem dL_law_838 : decode cL_law 838 = .ok (.goto 235, 3) := by decide +kernel
theorem dL_law_841 : decode cL_law 841 = .ok (.iload 9, 2) := by decide +kernel
theorem dL_law_843 : decode cL_law 843 = .ok (.bipush 8, 2) := by decide +kernel
theorem dL_law_845 : decode cL_law 845 = .ok (.if_icmp .ne 117, 3) := by decide +kernel
theorem dL_law_848 : decode cL_law 848 = .ok (.iload 8, 2) := by decide +kernel
theorem dL_law_850 : decode cL_law 850 = .ok (.bipush 9, 2) := by decide +kernel
theorem dL_law_852 : decode cL_law 852 = .ok (.ishr, 1) := by decide +kernel
theorem dL_law_853 : decode cL_law 853 = .ok (.iconst 2, 1) := by decide +kernel
theorem dL_law_854 : decode cL_law 854 = .ok (.invokestatic 57, 3) := by decide +kernel
theorem dL_law_857 : decode cL_law 857 = .ok (.ifCond .ne 7, 3) := by decide +kernel
theorem dL_law_860 : decode cL_law 860 = .ok (.iconst 0, 1) := by decide +kernel
theorem dL_law_861 : decode cL_law 861 = .ok (.goto 14, 3) := by decide +kernel
theorem dL_law_864 : decode cL_law 864 = .ok (.iload 8, 2) := by decide +kernel
theorem dL_law_866 : decode cL_law 866 = .ok (.bipush 10, 2) := by decide +kernel
theorem dL_law_868 : decode cL_law 868 = .ok (.ishr, 1) := by decide +kernel
theorem dL_law_869 : decode cL_law 869 = .ok (.sipush 1000, 3) := by decide +kernel
theorem dL_law_872 : decode cL_law 872 = .ok (.invokestatic 57, 3) := by decide +kernel
theorem dL_law_875 : decode cL_law 875 = .ok (.istore 12, 2) := by decide +kernel
theorem dL_law_877 : decode cL_law 877 = .ok (.iload 12, 2) := by decide +kernel
theorem dL_law_879 : decode cL_law 879 = .ok (.ifCond .ne 7, 3) := by decide +kernel
theorem dL_law_882 : decode cL_law 882 = .ok (.iconst 0, 1) := by decide +kernel
theorem dL_law_883 : decode cL_law 883 = .ok (.goto 30, 3) := by decide +kernel
theorem dL_law_886 : decode cL_law 886 = .ok (.aload 4, 2) := by decide +kernel
theorem dL_law_888 : decode cL_law 888 = .ok (.iload 10, 2) := by decide +kernel
theorem dL_law_890 : decode cL_law 890 = .ok (.iaload, 1) := by decide +kernel
theorem dL_law_891 : decode cL_law 891 = .ok (.ifCond .le 7, 3) := by decide +kernel
theorem dL_law_894 : decode cL_law 894 = .ok (.iconst 1, 1) := by decide +kernel
theorem dL_law_895 : decode cL_law 895 = .ok (.goto 4, 3) := by decide +kernel
theorem dL_law_898 : decode cL_law 898 = .ok (.iconst 0, 1) := by decide +kernel
theorem dL_law_899 : decode cL_law 899 = .ok (.aload 5, 2) := by decide +kernel
theorem dL_law_901 : decode cL_law 901 = .ok (.iload 10, 2) := by decide +kernel
theorem dL_law_903 : decode cL_law 903 = .ok (.iaload, 1) := by decide +kernel
theorem dL_law_904 : decode cL_law 904 = .ok (.ifCond .le 7, 3) := by decide +kernel
theorem dL_law_907 : decode cL_law 907 = .ok (.iconst 1, 1) := by decide +kernel
theorem dL_law_908 : decode cL_law 908 = .ok (.goto 4, 3) := by decide +kernel
theorem dL_law_911 : decode cL_law 911 = .ok (.iconst 0, 1) := by decide +kernel
theorem dL_law_912 : decode cL_law 912 = .ok (.iadd, 1) := by decide +kernel
theorem dL_law_913 : decode cL_law 913 = .ok (.istore 13, 2) := by decide +kernel
theorem dL_law_915 : decode cL_law 915 = .ok (.aload_n 1, 1) := by decide +kernel
theorem dL_law_916 : decode cL_law 916 = .ok (.iload 10, 2) := by decide +kernel
theorem dL_law_918 : decode cL_law 918 = .ok (.iload 12, 2) := by decide +kernel
theorem dL_law_920 : decode cL_law 920 = .ok (.invokevirtual 92, 3) := by decide +kernel
theorem dL_law_923 : decode cL_law 923 = .ok (.iload 13, 2) := by decide +kernel
theorem dL_law_925 : decode cL_law 925 = .ok (.if_icmp .eq 5, 3) := by decide +kernel
theorem dL_law_928 : decode cL_law 928 = .ok (.iconst 0, 1) := by decide +kernel
theorem dL_law_929 : decode cL_law 929 = .ok (.ireturn, 1) := by decide +kernel
theorem dL_law_930 : decode cL_law 930 = .ok (.iload 12, 2) := by decide +kernel
theorem dL_law_932 : decode cL_law 932 = .ok (.ifCond .le 9, 3) := by decide +kernel
theorem dL_law_935 : decode cL_law 935 = .ok (.aload 4, 2) := by decide +kernel
theorem dL_law_937 : decode cL_law 937 = .ok (.iload 10, 2) := by decide +kernel
theorem dL_law_939 : decode cL_law 939 = .ok (.iconst 0, 1) := by decide +kernel
theorem dL_law_940 : decode cL_law 940 = .ok (.iastore, 1) := by decide +kernel
theorem dL_law_941 : decode cL_law 941 = .ok (.iload 12, 2) := by decide +kernel
theorem dL_law_943 : decode cL_law 943 = .ok (.ifCond .le 9, 3) := by decide +kernel
theorem dL_law_946 : decode cL_law 946 = .ok (.aload 5, 2) := by decide +kernel
theorem dL_law_948 : decode cL_law 948 = .ok (.iload 10, 2) := by decide +kernel
theorem dL_law_950 : decode cL_law 950 = .ok (.iconst 0, 1) := by decide +kernel
theorem dL_law_951 : decode cL_law 951 = .ok (.iastore, 1) := by decide +kernel
theorem dL_law_952 : decode cL_law 952 = .ok (.aload 6, 2) := by decide +kernel
theorem dL_law_954 : decode cL_law 954 = .ok (.iload 10, 2) := by decide +kernel
theorem dL_law_956 : decode cL_law 956 = .ok (.iload 12, 2) := by decide +kernel
theorem dL_law_958 : decode cL_law 958 = .ok (.iastore, 1) := by decide +kernel
theorem dL_law_959 : decode cL_law 959 = .ok (.goto 114, 3) := by decide +kernel
theorem dL_law_962 : decode cL_law 962 = .ok (.iload 8, 2) := by decide +kernel
theorem dL_law_964 : decode cL_law 964 = .ok (.bipush 9, 2) := by decide +kernel
theorem dL_law_966 : decode cL_law 966 = .ok (.ishr, 1) := by decide +kernel
theorem dL_law_967 : decode cL_law 967 = .ok (.iconst 5, 1) := by decide +kernel
theorem dL_law_968 : decode cL_law 968 = .ok (.invokestatic 57, 3) := by decide +kernel
theorem dL_law_971 : decode cL_law 971 = .ok (.istore 12, 2) := by decide +kernel
theorem dL_law_973 : decode cL_law 973 = .ok (.iload 12, 2) := by decide +kernel
theorem dL_law_975 : decode cL_law 975 = .ok (.ifCond .ne 20, 3) := by decide +kernel
theorem dL_law_978 : decode cL_law 978 = .ok (.bipush 10, 2) := by decide +kernel
theorem dL_law_980 : decode cL_law 980 = .ok (.iload 8, 2) := by decide +kernel
theorem dL_law_982 : decode cL_law 982 = .ok (.bipush 11, 2) := by decide +kernel
theorem dL_law_984 : decode cL_law 984 = .ok (.ishr, 1) := by decide +kernel
theorem dL_law_985 : decode cL_law 985 = .ok (.sipush 291, 3) := by decide +kernel
theorem dL_law_988 : decode cL_law 988 = .ok (.invokestatic 57, 3) := by decide +kernel
theorem dL_law_991 : decode cL_law 991 = .ok (.iadd, 1) := by decide +kernel
theorem dL_law_992 : decode cL_law 992 = .ok (.goto 56, 3) := by decide +kernel
theorem dL_law_995 : decode cL_law 995 = .ok (.iload 12, 2) := by decide +kernel
theorem dL_law_997 : decode cL_law 997 = .ok (.iconst 1, 1) := by decide +kernel
theorem dL_law_998 : decode cL_law 998 = .ok (.if_icmp .ne 18, 3) := by decide +kernel
theorem dL_law_1001 : decode cL_law 1001 = .ok (.iconst 1, 1) := by decide +kernel
theorem dL_law_1002 : decode cL_law 1002 = .ok (.iload 8, 2) := by decide +kernel
theorem dL_law_1004 : decode cL_law 1004 = .ok (.bipush 11, 2) := by decide +kernel
theorem dL_law_1006 : decode cL_law 1006 = .ok (.ishr, 1) := by decide +kernel
theorem dL_law_1007 : decode cL_law 1007 = .ok (.bipush 20, 2) := by decide +kernel
theorem dL_law_1009 : decode cL_law 1009 = .ok (.invokestatic 57, 3) := by decide +kernel
theorem dL_law_1012 : decode cL_law 1012 = .ok (.iadd, 1) := by decide +kernel
theorem dL_law_1013 : decode cL_law 1013 = .ok (.goto 35, 3) := by decide +kernel
theorem dL_law_1016 : decode cL_law 1016 = .ok (.iload 12, 2) := by decide +kernel
theorem dL_law_1018 : decode cL_law 1018 = .ok (.iconst 2, 1) := by decide +kernel
theorem dL_law_1019 : decode cL_law 1019 = .ok (.if_icmp .ne 17, 3) := by decide +kernel
theorem dL_law_1022 : decode cL_law 1022 = .ok (.iload 8, 2) := by decide +kernel
theorem dL_law_1024 : decode cL_law 1024 = .ok (.bipush 11, 2) := by decide +kernel
theorem dL_law_1026 : decode cL_law 1026 = .ok (.ishr, 1) := by decide +kernel
theorem dL_law_1027 : decode cL_law 1027 = .ok (.sipush 201, 3) := by decide +kernel
theorem dL_law_1030 : decode cL_law 1030 = .ok (.invokestatic 57, 3) := by decide +kernel
theorem dL_law_1033 : decode cL_law 1033 = .ok (.goto 15, 3) := by decide +kernel
theorem dL_law_1036 : decode cL_law 1036 = .ok (.iconst 1, 1) := by decide +kernel
theorem dL_law_1037 : decode cL_law 1037 = .ok (.iload 8, 2) := by decide +kernel
theorem dL_law_1039 : decode cL_law 1039 = .ok (.bipush 11, 2) := by decide +kernel
theorem dL_law_1041 : decode cL_law 1041 = .ok (.ishr, 1) := by decide +kernel
theorem dL_law_1042 : decode cL_law 1042 = .ok (.bipush 100, 2) := by decide +kernel
theorem dL_law_1044 : decode cL_law 1044 = .ok (.invokestatic 57, 3) := by decide +kernel
theorem dL_law_1047 : decode cL_law 1047 = .ok (.iadd, 1) := by decide +kernel
theorem dL_law_1048 : decode cL_law 1048 = .ok (.istore 13, 2) := by decide +kernel
theorem dL_law_1050 : decode cL_law 1050 = .ok (.aload_n 1, 1) := by decide +kernel
theorem dL_law_1051 : decode cL_law 1051 = .ok (.iload 12, 2) := by decide +kernel
theorem dL_law_1053 : decode cL_law 1053 = .ok (.iload 13, 2) := by decide +kernel
theorem dL_law_1055 : decode cL_law 1055 = .ok (.invokevirtual 95, 3) := by decide +kernel
theorem dL_law_1058 : decode cL_law 1058 = .ok (.aload_n 2, 1) := by decide +kernel
theorem dL_law_1059 : decode cL_law 1059 = .ok (.iload 12, 2) := by decide +kernel
theorem dL_law_1061 : decode cL_law 1061 = .ok (.iaload, 1) := by decide +kernel
theorem dL_law_1062 : decode cL_law 1062 = .ok (.if_icmp .eq 5, 3) := by decide +kernel
theorem dL_law_1065 : decode cL_law 1065 = .ok (.iconst 0, 1) := by decide +kernel
theorem dL_law_1066 : decode cL_law 1066 = .ok (.ireturn, 1) := by decide +kernel
theorem dL_law_1067 : decode cL_law 1067 = .ok (.aload_n 2, 1) := by decide +kernel
theorem dL_law_1068 : decode cL_law 1068 = .ok (.iload 12, 2) := by decide +kernel
theorem dL_law_1070 : decode cL_law 1070 = .ok (.iload 13, 2) := by decide +kernel
theorem dL_law_1072 : decode cL_law 1072 = .ok (.iastore, 1) := by decide +kernel
theorem dL_law_1073 : decode cL_law 1073 = .ok (.aload_n 1, 1) := by decide +kernel
theorem dL_law_1074 : decode cL_law 1074 = .ok (.iload 8, 2) := by decide +kernel
theorem dL_law_1076 : decode cL_law 1076 = .ok (.iconst 5, 1) := by decide +kernel
theorem dL_law_1077 : decode cL_law 1077 = .ok (.ishr, 1) := by decide +kernel
theorem dL_law_1078 : decode cL_law 1078 = .ok (.aload_n 2, 1) := by decide +kernel
theorem dL_law_1079 : decode cL_law 1079 = .ok (.aload_n 3, 1) := by decide +kernel
theorem dL_law_1080 : decode cL_law 1080 = .ok (.aload 4, 2) := by decide +kernel
theorem dL_law_1082 : decode cL_law 1082 = .ok (.aload 5, 2) := by decide +kernel
theorem dL_law_1084 : decode cL_law 1084 = .ok (.aload 6, 2) := by decide +kernel
theorem dL_law_1086 : decode cL_law 1086 = .ok (.invokestatic 98, 3) := by decide +kernel
theorem dL_law_1089 : decode cL_law 1089 = .ok (.ifCond .ne 5, 3) := by decide +kernel
theorem dL_law_1092 : decode cL_law 1092 = .ok (.iconst 0, 1) := by decide +kernel
theorem dL_law_1093 : decode cL_law 1093 = .ok (.ireturn, 1) := by decide +kernel
theorem dL_law_1094 : decode cL_law 1094 = .ok (.iinc 7 1, 3) := by decide +kernel
theorem dL_law_1097 : decode cL_law 1097 = .ok (.goto (-1033), 3) := by decide +kernel
theorem dL_law_1100 : decode cL_law 1100 = .ok (.iconst 1, 1) := by decide +kernel
theorem dL_law_1101 : decode cL_law 1101 = .ok (.ireturn, 1) := by decide +kernel

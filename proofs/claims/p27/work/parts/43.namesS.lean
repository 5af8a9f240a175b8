set_option maxRecDepth 20000 in
theorem ggL_same_X4_rent : GoodIn wsL_same wsX4_rent := goodIn_r _ [6, 7, 8, 9, 5, 10, 11, 12, 13, 14, 15, 16, 17, 18, 19, 216, 217, 218, 219, 220, 221, 222] (by decide +kernel) (by decide +kernel)
set_option maxRecDepth 20000 in
theorem gL_same_X4_rent : GoodIn wsL_same (wsV RL 40 RX4 yX4_rent wsX4_rent) := goodIn_app (goodIn_r _ [2, 3, 4, 5] (by decide +kernel) (by decide +kernel)) ggL_same_X4_rent
set_option maxRecDepth 20000 in
theorem ggL_same_L_film : GoodIn wsL_same wsL_film := goodIn_r _ [23] (by decide +kernel) (by decide +kernel)
set_option maxRecDepth 20000 in
theorem gL_same_L_film : GoodIn wsL_same (va_wsS RL 16 yL_film wsL_film) := goodIn_app (goodIn_r _ [20, 21, 22] (by decide +kernel) (by decide +kernel)) ggL_same_L_film
set_option maxRecDepth 20000 in
theorem ggL_same_L_people : GoodIn wsL_same wsL_people := goodIn_r _ [26, 20, 21, 22, 23, 27, 28, 29, 30, 31, 32] (by decide +kernel) (by decide +kernel)
set_option maxRecDepth 20000 in
theorem gL_same_L_people : GoodIn wsL_same (va_wsS RL 24 yL_people wsL_people) := goodIn_app (goodIn_r _ [24, 25, 22] (by decide +kernel) (by decide +kernel)) ggL_same_L_people
set_option maxRecDepth 20000 in
theorem ggL_same_X4_at : GoodIn wsL_same wsX4_at := goodIn_r _ [36, 7, 37, 38, 39, 5, 40, 8, 9, 10, 11, 12, 13, 41, 42, 43, 44, 45, 46, 17, 47, 19, 48, 49, 50, 51, 52, 53, 54, 55, 56, 57, 58, 59, 60, 61, 62, 63, 64, 65, 66, 67, 68, 69, 70, 71, 72, 73, 74, 75, 76, 77, 78, 79, 80, 81, 82, 83, 84, 85, 86, 87, 88, 89, 90, 91, 92, 93, 94, 95, 96, 97, 98, 99, 100, 101, 102, 103, 104, 105, 106, 107, 108, 109, 110, 111, 112, 113, 216, 217, 218, 219, 220, 221, 222, 223, 224, 225, 226, 227, 228] (by decide +kernel) (by decide +kernel)
set_option maxRecDepth 20000 in
theorem gL_same_X4_at : GoodIn wsL_same (wsV RL 46 RX4 yX4_at wsX4_at) := goodIn_app (goodIn_r _ [33, 34, 35, 5] (by decide +kernel) (by decide +kernel)) ggL_same_X4_at
set_option maxRecDepth 20000 in
theorem ggL_same_L_leftAt : GoodIn wsL_same wsL_leftAt := goodIn_r _ [29, 30, 31, 22, 32] (by decide +kernel) (by decide +kernel)
set_option maxRecDepth 20000 in
theorem gL_same_L_leftAt : GoodIn wsL_same (va_wsS RL 20 yL_leftAt wsL_leftAt) := goodIn_app (goodIn_r _ [27, 28, 22] (by decide +kernel) (by decide +kernel)) ggL_same_L_leftAt
set_option maxRecDepth 20000 in
theorem ggL_same_X4_of : GoodIn wsL_same wsX4_of := goodIn_r _ [117, 7, 37, 48, 49, 50, 17, 51, 52, 53, 54, 55, 19, 11, 12, 5, 13, 118, 65, 66, 67, 119, 120, 121, 122, 123, 45, 46, 47, 56, 57, 58, 59, 60, 61, 62, 63, 64, 68, 69, 70, 71, 72, 73, 74, 75, 76, 77, 78, 79, 80, 81, 82, 83, 84, 85, 86, 87, 88, 89, 90, 91, 92, 93, 94, 95, 96, 97, 98, 99, 100, 101, 102, 103, 104, 124, 125, 126, 127, 128, 129, 130, 131, 216, 217, 218, 219, 220, 221, 222, 223, 224, 225, 226, 227, 228] (by decide +kernel) (by decide +kernel)
set_option maxRecDepth 20000 in
theorem gL_same_X4_of : GoodIn wsL_same (wsV RL 50 RX4 yX4_of wsX4_of) := goodIn_app (goodIn_r _ [114, 115, 116, 5] (by decide +kernel) (by decide +kernel)) ggL_same_X4_of
set_option maxRecDepth 20000 in
theorem ggL_same_L_takings : GoodIn wsL_same wsL_takings := goodIn_r _ [134, 20, 21, 22, 23, 24, 25, 26, 27, 28, 29, 30, 31, 32] (by decide +kernel) (by decide +kernel)
set_option maxRecDepth 20000 in
theorem gL_same_L_takings : GoodIn wsL_same (va_wsS RL 30 yL_takings wsL_takings) := goodIn_app (goodIn_r _ [132, 133, 22] (by decide +kernel) (by decide +kernel)) ggL_same_L_takings
set_option maxRecDepth 20000 in
theorem ggL_same_L_share : GoodIn wsL_same wsL_share := goodIn_r _ [137, 138, 139, 22, 140] (by decide +kernel) (by decide +kernel)
set_option maxRecDepth 20000 in
theorem gL_same_L_share : GoodIn wsL_same (va_wsS RL 33 yL_share wsL_share) := goodIn_app (goodIn_r _ [135, 136, 22] (by decide +kernel) (by decide +kernel)) ggL_same_L_share
set_option maxRecDepth 20000 in
theorem ggL_same_L_due : GoodIn wsL_same wsL_due := goodIn_r _ [143, 138, 139, 22, 140, 132, 133, 134, 20, 21, 23, 24, 25, 26, 27, 28, 29, 30, 31, 32, 135, 136, 137] (by decide +kernel) (by decide +kernel)
set_option maxRecDepth 20000 in
theorem gL_same_L_due : GoodIn wsL_same (va_wsS RL 37 yL_due wsL_due) := goodIn_app (goodIn_r _ [141, 142, 22] (by decide +kernel) (by decide +kernel)) ggL_same_L_due
set_option maxRecDepth 20000 in
theorem ggL_same_L_shows : GoodIn wsL_same wsL_shows := goodIn_r _ [140] (by decide +kernel) (by decide +kernel)
set_option maxRecDepth 20000 in
theorem gL_same_L_shows : GoodIn wsL_same (va_wsS RL 27 yL_shows wsL_shows) := goodIn_app (goodIn_r _ [138, 139, 22] (by decide +kernel) (by decide +kernel)) ggL_same_L_shows
set_option maxRecDepth 20000 in
theorem ggL_same_X4_inWeek : GoodIn wsL_same wsX4_inWeek := goodIn_r _ [147, 7, 37, 48, 49, 50, 17, 51, 52, 53, 54, 55, 19, 148, 149, 5, 150, 11, 12, 13, 56, 57, 58, 59, 60, 61, 62, 63, 64, 65, 66, 67, 68, 69, 70, 71, 72, 73, 74, 75, 45, 46, 47, 76, 77, 78, 79, 80, 81, 82, 83, 84, 85, 86, 87, 88, 89, 90, 91, 92, 93, 94, 95, 96, 97, 98, 99, 100, 101, 102, 103, 104, 151, 152, 153, 154, 155, 156, 157, 158, 159, 216, 217, 218, 219, 220, 221, 222, 223, 224, 225, 226, 227, 228] (by decide +kernel) (by decide +kernel)
set_option maxRecDepth 20000 in
theorem gL_same_X4_inWeek : GoodIn wsL_same (wsV RL 54 RX4 yX4_inWeek wsX4_inWeek) := goodIn_app (goodIn_r _ [144, 145, 146, 5] (by decide +kernel) (by decide +kernel)) ggL_same_X4_inWeek
set_option maxRecDepth 20000 in
theorem ggL_same_L_low : GoodIn wsL_same wsL_low := goodIn_r _ [162, 163] (by decide +kernel) (by decide +kernel)
set_option maxRecDepth 20000 in
theorem gL_same_L_low : GoodIn wsL_same (va_wsS RL 57 yL_low wsL_low) := goodIn_app (goodIn_r _ [160, 161, 22] (by decide +kernel) (by decide +kernel)) ggL_same_L_low
set_option maxRecDepth 20000 in
theorem ggL_same_X4_week : GoodIn wsL_same wsX4_week := goodIn_r _ [167, 7, 168, 148, 149, 5, 150, 11, 12, 13, 169, 170, 171, 172, 37, 173, 53, 54, 17, 55, 19, 56, 57, 58, 59, 60, 61, 62, 63, 64, 65, 66, 67, 68, 69, 70, 71, 72, 73, 74, 75, 45, 46, 47, 76, 77, 78, 79, 80, 81, 82, 83, 84, 85, 86, 87, 88, 89, 90, 91, 92, 93, 94, 95, 96, 97, 98, 99, 100, 101, 102, 103, 104, 151, 174, 175, 176, 177, 178, 15, 16, 18, 216, 217, 218, 219, 220, 221, 222, 223, 224, 225, 226, 227, 228] (by decide +kernel) (by decide +kernel)
set_option maxRecDepth 20000 in
theorem gL_same_X4_week : GoodIn wsL_same (wsV RL 60 RX4 yX4_week wsX4_week) := goodIn_app (goodIn_r _ [164, 165, 166, 5] (by decide +kernel) (by decide +kernel)) ggL_same_X4_week
set_option maxRecDepth 20000 in
theorem ggL_same_X4_count : GoodIn wsL_same wsX4_count := goodIn_r _ [182, 7, 168, 183, 184, 11, 12, 5, 13, 109, 84, 85, 17, 86, 19, 173, 53, 54, 55, 185, 186, 187, 188, 189, 190, 191, 192, 37, 56, 57, 58, 59, 60, 61, 62, 63, 64, 65, 66, 67, 68, 69, 70, 71, 72, 73, 74, 75, 45, 46, 47, 76, 77, 78, 79, 80, 81, 82, 83, 87, 88, 89, 90, 91, 92, 93, 94, 95, 96, 97, 98, 99, 100, 101, 102, 103, 104, 128, 129, 130, 131, 174, 175, 176, 177, 178, 15, 16, 18, 193, 194, 195, 196, 197, 198, 199, 200, 201, 202, 203, 204, 205, 206, 207, 208, 209, 210, 211, 212, 216, 217, 218, 219, 220, 221, 222, 223, 224, 225, 226, 227, 228, 229, 230, 231, 232, 233] (by decide +kernel) (by decide +kernel)
set_option maxRecDepth 20000 in
theorem gL_same_X4_count : GoodIn wsL_same (wsV RL 64 RX4 yX4_count wsX4_count) := goodIn_app (goodIn_r _ [179, 180, 181, 5] (by decide +kernel) (by decide +kernel)) ggL_same_X4_count
set_option maxRecDepth 20000 in
theorem ggL_same_L_left : GoodIn wsL_same wsL_left := goodIn_r _ [215, 132, 133, 22, 134, 20, 21, 23, 24, 25, 26, 27, 28, 29, 30, 31, 32, 141, 142, 143, 138, 139, 140, 135, 136, 137] (by decide +kernel) (by decide +kernel)
set_option maxRecDepth 20000 in
theorem gL_same_L_left : GoodIn wsL_same (va_wsS RL 67 yL_left wsL_left) := goodIn_app (goodIn_r _ [213, 214, 22] (by decide +kernel) (by decide +kernel)) ggL_same_L_left
theorem dL_same_0 : decode cL_same 0 = .ok (.iconst 0, 1) := by decide +kernel
theorem dL_same_1 : decode cL_same 1 = .ok (.istore 7, 2) := by decide +kernel
theorem dL_same_3 : decode cL_same 3 = .ok (.iconst 0, 1) := by decide +kernel
theorem dL_same_4 : decode cL_same 4 = .ok (.istore 8, 2) := by decide +kernel
theorem dL_same_6 : decode cL_same 6 = .ok (.iconst 0, 1) := by decide +kernel
theorem dL_same_7 : decode cL_same 7 = .ok (.istore 9, 2) := by decide +kernel
theorem dL_same_9 : decode cL_same 9 = .ok (.iconst 0, 1) := by decide +kernel
theorem dL_same_10 : decode cL_same 10 = .ok (.istore 10, 2) := by decide +kernel
theorem dL_same_12 : decode cL_same 12 = .ok (.iconst 0, 1) := by decide +kernel
theorem dL_same_13 : decode cL_same 13 = .ok (.istore 11, 2) := by decide +kernel
theorem dL_same_15 : decode cL_same 15 = .ok (.iconst 0, 1) := by decide +kernel
theorem dL_same_16 : decode cL_same 16 = .ok (.istore 12, 2) := by decide +kernel
theorem dL_same_18 : decode cL_same 18 = .ok (.iconst 0, 1) := by decide +kernel
theorem dL_same_19 : decode cL_same 19 = .ok (.istore 13, 2) := by decide +kernel
theorem dL_same_21 : decode cL_same 21 = .ok (.iload 13, 2) := by decide +kernel
theorem dL_same_23 : decode cL_same 23 = .ok (.bipush 35, 2) := by decide +kernel
theorem dL_same_25 : decode cL_same 25 = .ok (.if_icmp .ge 224, 3) := by decide +kernel
theorem dL_same_28 : decode cL_same 28 = .ok (.iload 10, 2) := by decide +kernel
theorem dL_same_30 : decode cL_same 30 = .ok (.aload 6, 2) := by decide +kernel
theorem dL_same_32 : decode cL_same 32 = .ok (.iload 13, 2) := by decide +kernel
theorem dL_same_34 : decode cL_same 34 = .ok (.iaload, 1) := by decide +kernel
theorem dL_same_35 : decode cL_same 35 = .ok (.iadd, 1) := by decide +kernel
theorem dL_same_36 : decode cL_same 36 = .ok (.istore 10, 2) := by decide +kernel
theorem dL_same_38 : decode cL_same 38 = .ok (.aload_n 0, 1) := by decide +kernel
theorem dL_same_39 : decode cL_same 39 = .ok (.iload 13, 2) := by decide +kernel
theorem dL_same_41 : decode cL_same 41 = .ok (.invokevirtual 40, 3) := by decide +kernel
theorem dL_same_44 : decode cL_same 44 = .ok (.aload 6, 2) := by decide +kernel
theorem dL_same_46 : decode cL_same 46 = .ok (.iload 13, 2) := by decide +kernel
theorem dL_same_48 : decode cL_same 48 = .ok (.iaload, 1) := by decide +kernel
theorem dL_same_49 : decode cL_same 49 = .ok (.if_icmp .eq 5, 3) := by decide +kernel
theorem dL_same_52 : decode cL_same 52 = .ok (.iconst 0, 1) := by decide +kernel
theorem dL_same_53 : decode cL_same 53 = .ok (.ireturn, 1) := by decide +kernel
theorem dL_same_54 : decode cL_same 54 = .ok (.iconst 0, 1) := by decide +kernel
theorem dL_same_55 : decode cL_same 55 = .ok (.istore 14, 2) := by decide +kernel
theorem dL_same_57 : decode cL_same 57 = .ok (.iload 14, 2) := by decide +kernel
theorem dL_same_59 : decode cL_same 59 = .ok (.iconst 2, 1) := by decide +kernel
theorem dL_same_60 : decode cL_same 60 = .ok (.if_icmp .ge 183, 3) := by decide +kernel
theorem dL_same_63 : decode cL_same 63 = .ok (.iload 13, 2) := by decide +kernel
theorem dL_same_65 : decode cL_same 65 = .ok (.iload 14, 2) := by decide +kernel
theorem dL_same_67 : decode cL_same 67 = .ok (.aload 4, 2) := by decide +kernel
theorem dL_same_69 : decode cL_same 69 = .ok (.aload 5, 2) := by decide +kernel
theorem dL_same_71 : decode cL_same 71 = .ok (.invokestatic 16, 3) := by decide +kernel
theorem dL_same_74 : decode cL_same 74 = .ok (.istore 15, 2) := by decide +kernel
theorem dL_same_76 : decode cL_same 76 = .ok (.iload 13, 2) := by decide +kernel
theorem dL_same_78 : decode cL_same 78 = .ok (.iload 14, 2) := by decide +kernel
theorem dL_same_80 : decode cL_same 80 = .ok (.aload_n 2, 1) := by decide +kernel
theorem dL_same_81 : decode cL_same 81 = .ok (.aload_n 3, 1) := by decide +kernel
theorem dL_same_82 : decode cL_same 82 = .ok (.aload 4, 2) := by decide +kernel
theorem dL_same_84 : decode cL_same 84 = .ok (.aload 5, 2) := by decide +kernel
theorem dL_same_86 : decode cL_same 86 = .ok (.invokestatic 24, 3) := by decide +kernel
theorem dL_same_89 : decode cL_same 89 = .ok (.istore 16, 2) := by decide +kernel
theorem dL_same_91 : decode cL_same 91 = .ok (.iload 7, 2) := by decide +kernel
theorem dL_same_93 : decode cL_same 93 = .ok (.iload 15, 2) := by decide +kernel
theorem dL_same_95 : decode cL_same 95 = .ok (.ifCond .ge 7, 3) := by decide +kernel
theorem dL_same_98 : decode cL_same 98 = .ok (.iconst 0, 1) := by decide +kernel
theorem dL_same_99 : decode cL_same 99 = .ok (.goto 4, 3) := by decide +kernel
theorem dL_same_102 : decode cL_same 102 = .ok (.iconst 1, 1) := by decide +kernel
theorem dL_same_103 : decode cL_same 103 = .ok (.iadd, 1) := by decide +kernel
theorem dL_same_104 : decode cL_same 104 = .ok (.istore 7, 2) := by decide +kernel
theorem dL_same_106 : decode cL_same 106 = .ok (.iload 8, 2) := by decide +kernel
theorem dL_same_108 : decode cL_same 108 = .ok (.iload 16, 2) := by decide +kernel
theorem dL_same_110 : decode cL_same 110 = .ok (.iadd, 1) := by decide +kernel
theorem dL_same_111 : decode cL_same 111 = .ok (.istore 8, 2) := by decide +kernel
theorem dL_same_113 : decode cL_same 113 = .ok (.iload 9, 2) := by decide +kernel
theorem dL_same_115 : decode cL_same 115 = .ok (.iload 15, 2) := by decide +kernel
theorem dL_same_117 : decode cL_same 117 = .ok (.ifCond .lt 15, 3) := by decide +kernel
theorem dL_same_120 : decode cL_same 120 = .ok (.iload 16, 2) := by decide +kernel
theorem dL_same_122 : decode cL_same 122 = .ok (.aload_n 2, 1) := by decide +kernel
theorem dL_same_123 : decode cL_same 123 = .ok (.iconst 0, 1) := by decide +kernel
theorem dL_same_124 : decode cL_same 124 = .ok (.iaload, 1) := by decide +kernel
theorem dL_same_125 : decode cL_same 125 = .ok (.if_icmp .ne 7, 3) := by decide +kernel
theorem dL_same_128 : decode cL_same 128 = .ok (.iconst 1, 1) := by decide +kernel
theorem dL_same_129 : decode cL_same 129 = .ok (.goto 4, 3) := by decide +kernel
theorem dL_same_132 : decode cL_same 132 = .ok (.iconst 0, 1) := by decide +kernel
theorem dL_same_133 : decode cL_same 133 = .ok (.iadd, 1) := by decide +kernel
theorem dL_same_134 : decode cL_same 134 = .ok (.istore 9, 2) := by decide +kernel
theorem dL_same_136 : decode cL_same 136 = .ok (.aload_n 0, 1) := by decide +kernel
theorem dL_same_137 : decode cL_same 137 = .ok (.iload 13, 2) := by decide +kernel
theorem dL_same_139 : decode cL_same 139 = .ok (.iload 14, 2) := by decide +kernel
theorem dL_same_141 : decode cL_same 141 = .ok (.iconst 0, 1) := by decide +kernel
theorem dL_same_142 : decode cL_same 142 = .ok (.invokevirtual 46, 3) := by decide +kernel
theorem dL_same_145 : decode cL_same 145 = .ok (.iload 15, 2) := by decide +kernel
theorem dL_same_147 : decode cL_same 147 = .ok (.ifCond .ge 8, 3) := by decide +kernel
theorem dL_same_150 : decode cL_same 150 = .ok (.bipush (-6), 2) := by decide +kernel
theorem dL_same_152 : decode cL_same 152 = .ok (.goto 5, 3) := by decide +kernel
theorem dL_same_155 : decode cL_same 155 = .ok (.iload 15, 2) := by decide +kernel
theorem dL_same_157 : decode cL_same 157 = .ok (.if_icmp .ne 78, 3) := by decide +kernel
theorem dL_same_160 : decode cL_same 160 = .ok (.aload_n 0, 1) := by decide +kernel
theorem dL_same_161 : decode cL_same 161 = .ok (.iload 13, 2) := by decide +kernel
theorem dL_same_163 : decode cL_same 163 = .ok (.iload 14, 2) := by decide +kernel
theorem dL_same_165 : decode cL_same 165 = .ok (.iconst 1, 1) := by decide +kernel
theorem dL_same_166 : decode cL_same 166 = .ok (.invokevirtual 46, 3) := by decide +kernel
theorem dL_same_169 : decode cL_same 169 = .ok (.iload 16, 2) := by decide +kernel
theorem dL_same_171 : decode cL_same 171 = .ok (.if_icmp .ne 64, 3) := by decide +kernel
theorem dL_same_174 : decode cL_same 174 = .ok (.aload_n 0, 1) := by decide +kernel
theorem dL_same_175 : decode cL_same 175 = .ok (.iload 13, 2) := by decide +kernel
theorem dL_same_177 : decode cL_same 177 = .ok (.iload 14, 2) := by decide +kernel
theorem dL_same_179 : decode cL_same 179 = .ok (.iconst 2, 1) := by decide +kernel
theorem dL_same_180 : decode cL_same 180 = .ok (.invokevirtual 46, 3) := by decide +kernel
theorem dL_same_183 : decode cL_same 183 = .ok (.iload 16, 2) := by decide +kernel
theorem dL_same_185 : decode cL_same 185 = .ok (.aload_n 2, 1) := by decide +kernel
theorem dL_same_186 : decode cL_same 186 = .ok (.iconst 1, 1) := by decide +kernel
theorem dL_same_187 : decode cL_same 187 = .ok (.iaload, 1) := by decide +kernel
theorem dL_same_188 : decode cL_same 188 = .ok (.imul, 1) := by decide +kernel
theorem dL_same_189 : decode cL_same 189 = .ok (.if_icmp .ne 46, 3) := by decide +kernel
theorem dL_same_192 : decode cL_same 192 = .ok (.aload_n 0, 1) := by decide +kernel
theorem dL_same_193 : decode cL_same 193 = .ok (.iload 13, 2) := by decide +kernel
theorem dL_same_195 : decode cL_same 195 = .ok (.iload 14, 2) := by decide +kernel
theorem dL_same_197 : decode cL_same 197 = .ok (.iconst 3, 1) := by decide +kernel
theorem dL_same_198 : decode cL_same 198 = .ok (.invokevirtual 46, 3) := by decide +kernel
theorem dL_same_201 : decode cL_same 201 = .ok (.iload 15, 2) := by decide +kernel
theorem dL_same_203 : decode cL_same 203 = .ok (.ifCond .ge 8, 3) := by decide +kernel
theorem dL_same_206 : decode cL_same 206 = .ok (.bipush (-6), 2) := by decide +kernel
theorem dL_same_208 : decode cL_same 208 = .ok (.goto 24, 3) := by decide +kernel
theorem dL_same_211 : decode cL_same 211 = .ok (.iload 15, 2) := by decide +kernel
theorem dL_same_213 : decode cL_same 213 = .ok (.iconst 2, 1) := by decide +kernel
theorem dL_same_214 : decode cL_same 214 = .ok (.iload 13, 2) := by decide +kernel
theorem dL_same_216 : decode cL_same 216 = .ok (.imul, 1) := by decide +kernel
theorem dL_same_217 : decode cL_same 217 = .ok (.iload 14, 2) := by decide +kernel
theorem dL_same_219 : decode cL_same 219 = .ok (.iadd, 1) := by decide +kernel
theorem dL_same_220 : decode cL_same 220 = .ok (.aload_n 2, 1) := by decide +kernel
theorem dL_same_221 : decode cL_same 221 = .ok (.aload_n 3, 1) := by decide +kernel
theorem dL_same_222 : decode cL_same 222 = .ok (.aload 4, 2) := by decide +kernel
theorem dL_same_224 : decode cL_same 224 = .ok (.aload 5, 2) := by decide +kernel
theorem dL_same_226 : decode cL_same 226 = .ok (.invokestatic 20, 3) := by decide +kernel
theorem dL_same_229 : decode cL_same 229 = .ok (.iload 16, 2) := by decide +kernel
theorem dL_same_231 : decode cL_same 231 = .ok (.isub, 1) := by decide +kernel
theorem dL_same_232 : decode cL_same 232 = .ok (.if_icmp .eq 5, 3) := by decide +kernel
theorem dL_same_235 : decode cL_same 235 = .ok (.iconst 0, 1) := by decide +kernel
theorem dL_same_236 : decode cL_same 236 = .ok (.ireturn, 1) := by decide +kernel
theorem dL_same_237 : decode cL_same 237 = .ok (.iinc 14 1, 3) := by decide +kernel
theorem dL_same_240 : decode cL_same 240 = .ok (.goto (-183), 3) := by decide +kernel
theorem dL_same_243 : decode cL_same 243 = .ok (.iinc 13 1, 3) := by decide +kernel
theorem dL_same_246 : decode cL_same 246 = .ok (.goto (-225), 3) := by decide +kernel
theorem dL_same_249 : decode cL_same 249 = .ok (.iconst 0, 1) := by decide +kernel
theorem dL_same_250 : decode cL_same 250 = .ok (.istore 13, 2) := by decide +kernel
theorem dL_same_252 : decode cL_same 252 = .ok (.iload 13, 2) := by decide +kernel
theorem dL_same_254 : decode cL_same 254 = .ok (.aload_n 2, 1) := by decide +kernel
theorem dL_same_255 : decode cL_same 255 = .ok (.iconst 5, 1) := by decide +kernel
theorem dL_same_256 : decode cL_same 256 = .ok (.iaload, 1) := by decide +kernel
theorem dL_same_257 : decode cL_same 257 = .ok (.if_icmp .ge 380, 3) := by decide +kernel
theorem dL_same_260 : decode cL_same 260 = .ok (.iconst 0, 1) := by decide +kernel
theorem dL_same_261 : decode cL_same 261 = .ok (.istore 14, 2) := by decide +kernel
theorem dL_same_263 : decode cL_same 263 = .ok (.iconst 0, 1) := by decide +kernel
theorem dL_same_264 : decode cL_same 264 = .ok (.istore 15, 2) := by decide +kernel
theorem dL_same_266 : decode cL_same 266 = .ok (.iconst 0, 1) := by decide +kernel
theorem dL_same_267 : decode cL_same 267 = .ok (.istore 16, 2) := by decide +kernel
theorem dL_same_269 : decode cL_same 269 = .ok (.bipush (-6), 2) := by decide +kernel
theorem dL_same_271 : decode cL_same 271 = .ok (.istore 17, 2) := by decide +kernel
theorem dL_same_273 : decode cL_same 273 = .ok (.iconst 0, 1) := by decide +kernel
theorem dL_same_274 : decode cL_same 274 = .ok (.istore 18, 2) := by decide +kernel
theorem dL_same_276 : decode cL_same 276 = .ok (.iload 18, 2) := by decide +kernel
theorem dL_same_278 : decode cL_same 278 = .ok (.iconst 5, 1) := by decide +kernel
theorem dL_same_279 : decode cL_same 279 = .ok (.if_icmp .ge 31, 3) := by decide +kernel
theorem dL_same_282 : decode cL_same 282 = .ok (.aload_n 0, 1) := by decide +kernel
theorem dL_same_283 : decode cL_same 283 = .ok (.iload 13, 2) := by decide +kernel
theorem dL_same_285 : decode cL_same 285 = .ok (.iload 18, 2) := by decide +kernel
theorem dL_same_287 : decode cL_same 287 = .ok (.invokevirtual 50, 3) := by decide +kernel
theorem dL_same_290 : decode cL_same 290 = .ok (.aload_n 3, 1) := by decide +kernel
theorem dL_same_291 : decode cL_same 291 = .ok (.iconst 5, 1) := by decide +kernel
theorem dL_same_292 : decode cL_same 292 = .ok (.iload 13, 2) := by decide +kernel
theorem dL_same_294 : decode cL_same 294 = .ok (.imul, 1) := by decide +kernel
theorem dL_same_295 : decode cL_same 295 = .ok (.iload 18, 2) := by decide +kernel
theorem dL_same_297 : decode cL_same 297 = .ok (.iadd, 1) := by decide +kernel
theorem dL_same_298 : decode cL_same 298 = .ok (.iaload, 1) := by decide +kernel
theorem dL_same_299 : decode cL_same 299 = .ok (.if_icmp .eq 5, 3) := by decide +kernel
theorem dL_same_302 : decode cL_same 302 = .ok (.iconst 0, 1) := by decide +kernel
theorem dL_same_303 : decode cL_same 303 = .ok (.ireturn, 1) := by decide +kernel
theorem dL_same_304 : decode cL_same 304 = .ok (.iinc 18 1, 3) := by decide +kernel
theorem dL_same_307 : decode cL_same 307 = .ok (.goto (-31), 3) := by decide +kernel
theorem dL_same_310 : decode cL_same 310 = .ok (.bipush 34, 2) := by decide +kernel
theorem dL_same_312 : decode cL_same 312 = .ok (.istore 18, 2) := by decide +kernel
theorem dL_same_314 : decode cL_same 314 = .ok (.iload 18, 2) := by decide +kernel
theorem dL_same_316 : decode cL_same 316 = .ok (.ifCond .lt 42, 3) := by decide +kernel
theorem dL_same_319 : decode cL_same 319 = .ok (.aload 4, 2) := by decide +kernel
theorem dL_same_321 : decode cL_same 321 = .ok (.iload 18, 2) := by decide +kernel
theorem dL_same_323 : decode cL_same 323 = .ok (.iaload, 1) := by decide +kernel
theorem dL_same_324 : decode cL_same 324 = .ok (.iload 13, 2) := by decide +kernel
theorem dL_same_326 : decode cL_same 326 = .ok (.iconst 1, 1) := by decide +kernel
theorem dL_same_327 : decode cL_same 327 = .ok (.iadd, 1) := by decide +kernel
theorem dL_same_328 : decode cL_same 328 = .ok (.if_icmp .eq 15, 3) := by decide +kernel
theorem dL_same_331 : decode cL_same 331 = .ok (.aload 5, 2) := by decide +kernel
theorem dL_same_333 : decode cL_same 333 = .ok (.iload 18, 2) := by decide +kernel
theorem dL_same_335 : decode cL_same 335 = .ok (.iaload, 1) := by decide +kernel
theorem dL_same_336 : decode cL_same 336 = .ok (.iload 13, 2) := by decide +kernel
theorem dL_same_338 : decode cL_same 338 = .ok (.iconst 1, 1) := by decide +kernel
theorem dL_same_339 : decode cL_same 339 = .ok (.iadd, 1) := by decide +kernel
theorem dL_same_340 : decode cL_same 340 = .ok (.if_icmp .ne 8, 3) := by decide +kernel
theorem dL_same_343 : decode cL_same 343 = .ok (.iload 18, 2) := by decide +kernel
theorem dL_same_345 : decode cL_same 345 = .ok (.goto 5, 3) := by decide +kernel
theorem dL_same_348 : decode cL_same 348 = .ok (.iload 17, 2) := by decide +kernel
theorem dL_same_350 : decode cL_same 350 = .ok (.istore 17, 2) := by decide +kernel
theorem dL_same_352 : decode cL_same 352 = .ok (.iinc 18 (-1), 3) := by decide +kernel
theorem dL_same_355 : decode cL_same 355 = .ok (.goto (-41), 3) := by decide +kernel
theorem dL_same_358 : decode cL_same 358 = .ok (.iconst 0, 1) := by decide +kernel
theorem dL_same_359 : decode cL_same 359 = .ok (.istore 18, 2) := by decide +kernel
theorem dL_same_361 : decode cL_same 361 = .ok (.iload 18, 2) := by decide +kernel
theorem dL_same_363 : decode cL_same 363 = .ok (.iconst 5, 1) := by decide +kernel
theorem dL_same_364 : decode cL_same 364 = .ok (.if_icmp .ge 159, 3) := by decide +kernel
theorem dL_same_367 : decode cL_same 367 = .ok (.iload 13, 2) := by decide +kernel
theorem dL_same_369 : decode cL_same 369 = .ok (.iload 18, 2) := by decide +kernel
theorem dL_same_371 : decode cL_same 371 = .ok (.aload_n 2, 1) := by decide +kernel
theorem dL_same_372 : decode cL_same 372 = .ok (.aload_n 3, 1) := by decide +kernel
theorem dL_same_373 : decode cL_same 373 = .ok (.aload 4, 2) := by decide +kernel
theorem dL_same_375 : decode cL_same 375 = .ok (.aload 5, 2) := by decide +kernel
theorem dL_same_377 : decode cL_same 377 = .ok (.invokestatic 30, 3) := by decide +kernel
theorem dL_same_380 : decode cL_same 380 = .ok (.istore 19, 2) := by decide +kernel
theorem dL_same_382 : decode cL_same 382 = .ok (.iload 13, 2) := by decide +kernel
theorem dL_same_384 : decode cL_same 384 = .ok (.iload 18, 2) := by decide +kernel
theorem dL_same_386 : decode cL_same 386 = .ok (.aload_n 3, 1) := by decide +kernel
theorem dL_same_387 : decode cL_same 387 = .ok (.aload 4, 2) := by decide +kernel
theorem dL_same_389 : decode cL_same 389 = .ok (.aload 5, 2) := by decide +kernel
theorem dL_same_391 : decode cL_same 391 = .ok (.invokestatic 33, 3) := by decide +kernel
theorem dL_same_394 : decode cL_same 394 = .ok (.istore 20, 2) := by decide +kernel
theorem dL_same_396 : decode cL_same 396 = .ok (.iload 13, 2) := by decide +kernel
theorem dL_same_398 : decode cL_same 398 = .ok (.iload 18, 2) := by decide +kernel
theorem dL_same_400 : decode cL_same 400 = .ok (.aload_n 2, 1) := by decide +kernel
theorem dL_same_401 : decode cL_same 401 = .ok (.aload_n 3, 1) := by decide +kernel
theorem dL_same_402 : decode cL_same 402 = .ok (.aload 4, 2) := by decide +kernel
theorem dL_same_404 : decode cL_same 404 = .ok (.aload 5, 2) := by decide +kernel
theorem dL_same_406 : decode cL_same 406 = .ok (.invokestatic 37, 3) := by decide +kernel
theorem dL_same_409 : decode cL_same 409 = .ok (.istore 21, 2) := by decide +kernel
theorem dL_same_411 : decode cL_same 411 = .ok (.iload 14, 2) := by decide +kernel
theorem dL_same_413 : decode cL_same 413 = .ok (.iload 19, 2) := by decide +kernel
theorem dL_same_415 : decode cL_same 415 = .ok (.iadd, 1) := by decide +kernel
theorem dL_same_416 : decode cL_same 416 = .ok (.istore 14, 2) := by decide +kernel
theorem dL_same_418 : decode cL_same 418 = .ok (.iload 15, 2) := by decide +kernel
theorem dL_same_420 : decode cL_same 420 = .ok (.iload 21, 2) := by decide +kernel
theorem dL_same_422 : decode cL_same 422 = .ok (.iadd, 1) := by decide +kernel
theorem dL_same_423 : decode cL_same 423 = .ok (.istore 15, 2) := by decide +kernel
theorem dL_same_425 : decode cL_same 425 = .ok (.iload 16, 2) := by decide +kernel
theorem dL_same_427 : decode cL_same 427 = .ok (.iload 13, 2) := by decide +kernel
theorem dL_same_429 : decode cL_same 429 = .ok (.iload 18, 2) := by decide +kernel
theorem dL_same_431 : decode cL_same 431 = .ok (.aload 4, 2) := by decide +kernel
theorem dL_same_433 : decode cL_same 433 = .ok (.aload 5, 2) := by decide +kernel
theorem dL_same_435 : decode cL_same 435 = .ok (.invokestatic 27, 3) := by decide +kernel
theorem dL_same_438 : decode cL_same 438 = .ok (.iadd, 1) := by decide +kernel
theorem dL_same_439 : decode cL_same 439 = .ok (.istore 16, 2) := by decide +kernel
theorem dL_same_441 : decode cL_same 441 = .ok (.aload_n 0, 1) := by decide +kernel
theorem dL_same_442 : decode cL_same 442 = .ok (.iload 13, 2) := by decide +kernel
theorem dL_same_444 : decode cL_same 444 = .ok (.iload 18, 2) := by decide +kernel
theorem dL_same_446 : decode cL_same 446 = .ok (.iconst 0, 1) := by decide +kernel
theorem dL_same_447 : decode cL_same 447 = .ok (.invokevirtual 54, 3) := by decide +kernel
theorem dL_same_450 : decode cL_same 450 = .ok (.iload 19, 2) := by decide +kernel
theorem dL_same_452 : decode cL_same 452 = .ok (.if_icmp .ne 63, 3) := by decide +kernel
theorem dL_same_455 : decode cL_same 455 = .ok (.aload_n 0, 1) := by decide +kernel
theorem dL_same_456 : decode cL_same 456 = .ok (.iload 13, 2) := by decide +kernel
theorem dL_same_458 : decode cL_same 458 = .ok (.iload 18, 2) := by decide +kernel
theorem dL_same_460 : decode cL_same 460 = .ok (.iconst 1, 1) := by decide +kernel
theorem dL_same_461 : decode cL_same 461 = .ok (.invokevirtual 54, 3) := by decide +kernel
theorem dL_same_464 : decode cL_same 464 = .ok (.iload 20, 2) := by decide +kernel
theorem dL_same_466 : decode cL_same 466 = .ok (.if_icmp .ne 49, 3) := by decide +kernel
theorem dL_same_469 : decode cL_same 469 = .ok (.aload_n 0, 1) := by decide +kernel
theorem dL_same_470 : decode cL_same 470 = .ok (.iload 13, 2) := by decide +kernel
theorem dL_same_472 : decode cL_same 472 = .ok (.iload 18, 2) := by decide +kernel
theorem dL_same_474 : decode cL_same 474 = .ok (.iconst 2, 1) := by decide +kernel
theorem dL_same_475 : decode cL_same 475 = .ok (.invokevirtual 54, 3) := by decide +kernel
theorem dL_same_478 : decode cL_same 478 = .ok (.iload 21, 2) := by decide +kernel
theorem dL_same_480 : decode cL_same 480 = .ok (.if_icmp .ne 35, 3) := by decide +kernel
theorem dL_same_483 : decode cL_same 483 = .ok (.aload_n 0, 1) := by decide +kernel
theorem dL_same_484 : decode cL_same 484 = .ok (.iload 13, 2) := by decide +kernel
theorem dL_same_486 : decode cL_same 486 = .ok (.iload 18, 2) := by decide +kernel
theorem dL_same_488 : decode cL_same 488 = .ok (.iconst 3, 1) := by decide +kernel
theorem dL_same_489 : decode cL_same 489 = .ok (.invokevirtual 54, 3) := by decide +kernel
theorem dL_same_492 : decode cL_same 492 = .ok (.iload 21, 2) := by decide +kernel
theorem dL_same_494 : decode cL_same 494 = .ok (.iload 20, 2) := by decide +kernel
theorem dL_same_496 : decode cL_same 496 = .ok (.ifCond .ge 7, 3) := by decide +kernel
theorem dL_same_499 : decode cL_same 499 = .ok (.iconst 0, 1) := by decide +kernel
theorem dL_same_500 : decode cL_same 500 = .ok (.goto 11, 3) := by decide +kernel
theorem dL_same_503 : decode cL_same 503 = .ok (.iload 19, 2) := by decide +kernel
theorem dL_same_505 : decode cL_same 505 = .ok (.iload 20, 2) := by decide +kernel
theorem dL_same_507 : decode cL_same 507 = .ok (.imul, 1) := by decide +kernel
theorem dL_same_508 : decode cL_same 508 = .ok (.bipush 100, 2) := by decide +kernel
theorem dL_same_510 : decode cL_same 510 = .ok (.idiv, 1) := by decide +kernel
theorem dL_same_511 : decode cL_same 511 = .ok (.isub, 1) := by decide +kernel
theorem dL_same_512 : decode cL_same 512 = .ok (.if_icmp .eq 5, 3) := by decide +kernel
theorem dL_same_515 : decode cL_same 515 = .ok (.iconst 0, 1) := by decide +kernel
theorem dL_same_516 : decode cL_same 516 = .ok (.ireturn, 1) := by decide +kernel
theorem dL_same_517 : decode cL_same 517 = .ok (.iinc 18 1, 3) := by decide +kernel
theorem dL_same_520 : decode cL_same 520 = .ok (.goto (-159), 3) := by decide +kernel
theorem dL_same_523 : decode cL_same 523 = .ok (.iload 11, 2) := by decide +kernel
theorem dL_same_525 : decode cL_same 525 = .ok (.iload 15, 2) := by decide +kernel
theorem dL_same_527 : decode cL_same 527 = .ok (.iadd, 1) := by decide +kernel
theorem dL_same_528 : decode cL_same 528 = .ok (.istore 11, 2) := by decide +kernel
theorem dL_same_530 : decode cL_same 530 = .ok (.iload 12, 2) := by decide +kernel
theorem dL_same_532 : decode cL_same 532 = .ok (.iload 14, 2) := by decide +kernel
theorem dL_same_534 : decode cL_same 534 = .ok (.iadd, 1) := by decide +kernel
theorem dL_same_535 : decode cL_same 535 = .ok (.istore 12, 2) := by decide +kernel
theorem dL_same_537 : decode cL_same 537 = .ok (.aload_n 0, 1) := by decide +kernel
theorem dL_same_538 : decode cL_same 538 = .ok (.iload 13, 2) := by decide +kernel
theorem dL_same_540 : decode cL_same 540 = .ok (.iconst 5, 1) := by decide +kernel
theorem dL_same_541 : decode cL_same 541 = .ok (.invokevirtual 50, 3) := by decide +kernel
theorem dL_same_544 : decode cL_same 544 = .ok (.iload 16, 2) := by decide +kernel
theorem dL_same_546 : decode cL_same 546 = .ok (.if_icmp .ne 83, 3) := by decide +kernel
theorem dL_same_549 : decode cL_same 549 = .ok (.aload_n 0, 1) := by decide +kernel
theorem dL_same_550 : decode cL_same 550 = .ok (.iload 13, 2) := by decide +kernel
theorem dL_same_552 : decode cL_same 552 = .ok (.bipush 7, 2) := by decide +kernel
theorem dL_same_554 : decode cL_same 554 = .ok (.invokevirtual 50, 3) := by decide +kernel
theorem dL_same_557 : decode cL_same 557 = .ok (.iload 14, 2) := by decide +kernel
theorem dL_same_559 : decode cL_same 559 = .ok (.if_icmp .ne 70, 3) := by decide +kernel
theorem dL_same_562 : decode cL_same 562 = .ok (.aload_n 0, 1) := by decide +kernel
theorem dL_same_563 : decode cL_same 563 = .ok (.iload 13, 2) := by decide +kernel
theorem dL_same_565 : decode cL_same 565 = .ok (.bipush 8, 2) := by decide +kernel
theorem dL_same_567 : decode cL_same 567 = .ok (.invokevirtual 50, 3) := by decide +kernel
theorem dL_same_570 : decode cL_same 570 = .ok (.iload 15, 2) := by decide +kernel
theorem dL_same_572 : decode cL_same 572 = .ok (.if_icmp .ne 57, 3) := by decide +kernel
theorem dL_same_575 : decode cL_same 575 = .ok (.aload_n 0, 1) := by decide +kernel
theorem dL_same_576 : decode cL_same 576 = .ok (.iload 13, 2) := by decide +kernel
theorem dL_same_578 : decode cL_same 578 = .ok (.bipush 9, 2) := by decide +kernel
theorem dL_same_580 : decode cL_same 580 = .ok (.invokevirtual 50, 3) := by decide +kernel
theorem dL_same_583 : decode cL_same 583 = .ok (.iload 13, 2) := by decide +kernel
theorem dL_same_585 : decode cL_same 585 = .ok (.bipush 70, 2) := by decide +kernel
theorem dL_same_587 : decode cL_same 587 = .ok (.aload_n 2, 1) := by decide +kernel
theorem dL_same_588 : decode cL_same 588 = .ok (.aload_n 3, 1) := by decide +kernel
theorem dL_same_589 : decode cL_same 589 = .ok (.aload 4, 2) := by decide +kernel
theorem dL_same_591 : decode cL_same 591 = .ok (.aload 5, 2) := by decide +kernel
theorem dL_same_593 : decode cL_same 593 = .ok (.invokestatic 20, 3) := by decide +kernel
theorem dL_same_596 : decode cL_same 596 = .ok (.if_icmp .ne 33, 3) := by decide +kernel
theorem dL_same_599 : decode cL_same 599 = .ok (.aload_n 0, 1) := by decide +kernel
theorem dL_same_600 : decode cL_same 600 = .ok (.iload 13, 2) := by decide +kernel
theorem dL_same_602 : decode cL_same 602 = .ok (.bipush 10, 2) := by decide +kernel
theorem dL_same_604 : decode cL_same 604 = .ok (.invokevirtual 50, 3) := by decide +kernel
theorem dL_same_607 : decode cL_same 607 = .ok (.iload 17, 2) := by decide +kernel
theorem dL_same_609 : decode cL_same 609 = .ok (.if_icmp .ne 20, 3) := by decide +kernel
theorem dL_same_612 : decode cL_same 612 = .ok (.aload_n 0, 1) := by decide +kernel
theorem dL_same_613 : decode cL_same 613 = .ok (.iload 13, 2) := by decide +kernel
theorem dL_same_615 : decode cL_same 615 = .ok (.bipush 6, 2) := by decide +kernel
theorem dL_same_617 : decode cL_same 617 = .ok (.invokevirtual 50, 3) := by decide +kernel
theorem dL_same_620 : decode cL_same 620 = .ok (.aload_n 2, 1) := by decide +kernel
theorem dL_same_621 : decode cL_same 621 = .ok (.iconst 1, 1) := by decide +kernel
theorem dL_same_622 : decode cL_same 622 = .ok (.iaload, 1) := by decide +kernel
theorem dL_same_623 : decode cL_same 623 = .ok (.imul, 1) := by decide +kernel
theorem dL_same_624 : decode cL_same 624 = .ok (.iload 14, 2) := by decide +kernel
theorem dL_same_626 : decode cL_same 626 = .ok (.if_icmp .eq 5, 3) := by decide +kernel
theorem dL_same_629 : decode cL_same 629 = .ok (.iconst 0, 1) := by decide +kernel
theorem dL_same_630 : decode cL_same 630 = .ok (.ireturn, 1) := by decide +kernel
theorem dL_same_631 : decode cL_same 631 = .ok (.iinc 13 1, 3) := by decide +kernel
theorem dL_same_634 : decode cL_same 634 = .ok (.goto (-382), 3) := by decide +kernel
theorem dL_same_637 : decode cL_same 637 = .ok (.iload_n 1, 1) := by decide +kernel
theorem dL_same_638 : decode cL_same 638 = .ok (.iconst 5, 1) := by decide +kernel
theorem dL_same_639 : decode cL_same 639 = .ok (.invokestatic 57, 3) := by decide +kernel
theorem dL_same_642 : decode cL_same 642 = .ok (.istore 13, 2) := by decide +kernel
theorem dL_same_644 : decode cL_same 644 = .ok (.iconst 0, 1) := by decide +kernel
theorem dL_same_645 : decode cL_same 645 = .ok (.istore 14, 2) := by decide +kernel
theorem dL_same_647 : decode cL_same 647 = .ok (.iconst 0, 1) := by decide +kernel
theorem dL_same_648 : decode cL_same 648 = .ok (.istore 15, 2) := by decide +kernel
theorem dL_same_650 : decode cL_same 650 = .ok (.iconst 0, 1) := by decide +kernel
theorem dL_same_651 : decode cL_same 651 = .ok (.istore 16, 2) := by decide +kernel
theorem dL_same_653 : decode cL_same 653 = .ok (.iconst 0, 1) := by decide +kernel
theorem dL_same_654 : decode cL_same 654 = .ok (.istore 17, 2) := by decide +kernel
theorem dL_same_656 : decode cL_same 656 = .ok (.iconst 0, 1) := by decide +kernel
theorem dL_same_657 : decode cL_same 657 = .ok (.istore 18, 2) := by decide +kernel
theorem dL_same_659 : decode cL_same 659 = .ok (.iload 18, 2) := by decide +kernel
theorem dL_same_661 : decode cL_same 661 = .ok (.aload_n 2, 1) := by decide +kernel
theorem dL_same_662 : decode cL_same 662 = .ok (.iconst 5, 1) := by decide +kernel
theorem dL_same_663 : decode cL_same 663 = .ok (.iaload, 1) := by decide +kernel
theorem dL_same_664 : decode cL_same 664 = .ok (.if_icmp .ge 61, 3) := by decide +kernel
theorem dL_same_667 : decode cL_same 667 = .ok (.iload 14, 2) := by decide +kernel
theorem dL_same_669 : decode cL_same 669 = .ok (.iload 18, 2) := by decide +kernel
theorem dL_same_671 : decode cL_same 671 = .ok (.iload 13, 2) := by decide +kernel
theorem dL_same_673 : decode cL_same 673 = .ok (.aload_n 2, 1) := by decide +kernel
theorem dL_same_674 : decode cL_same 674 = .ok (.aload_n 3, 1) := by decide +kernel
theorem dL_same_675 : decode cL_same 675 = .ok (.aload 4, 2) := by decide +kernel
theorem dL_same_677 : decode cL_same 677 = .ok (.aload 5, 2) := by decide +kernel
theorem dL_same_679 : decode cL_same 679 = .ok (.invokestatic 30, 3) := by decide +kernel
theorem dL_same_682 : decode cL_same 682 = .ok (.iadd, 1) := by decide +kernel
theorem dL_same_683 : decode cL_same 683 = .ok (.istore 14, 2) := by decide +kernel
theorem dL_same_685 : decode cL_same 685 = .ok (.iload 15, 2) := by decide +kernel
theorem dL_same_687 : decode cL_same 687 = .ok (.iload 18, 2) := by decide +kernel
theorem dL_same_689 : decode cL_same 689 = .ok (.iload 13, 2) := by decide +kernel
theorem dL_same_691 : decode cL_same 691 = .ok (.aload 4, 2) := by decide +kernel
theorem dL_same_693 : decode cL_same 693 = .ok (.aload 5, 2) := by decide +kernel
theorem dL_same_695 : decode cL_same 695 = .ok (.invokestatic 27, 3) := by decide +kernel
theorem dL_same_698 : decode cL_same 698 = .ok (.iadd, 1) := by decide +kernel
theorem dL_same_699 : decode cL_same 699 = .ok (.istore 15, 2) := by decide +kernel
theorem dL_same_701 : decode cL_same 701 = .ok (.iload 16, 2) := by decide +kernel
theorem dL_same_703 : decode cL_same 703 = .ok (.iload 18, 2) := by decide +kernel
theorem dL_same_705 : decode cL_same 705 = .ok (.iload 13, 2) := by decide +kernel
theorem dL_same_707 : decode cL_same 707 = .ok (.aload_n 2, 1) := by decide +kernel
theorem dL_same_708 : decode cL_same 708 = .ok (.aload_n 3, 1) := by decide +kernel
theorem dL_same_709 : decode cL_same 709 = .ok (.aload 4, 2) := by decide +kernel
theorem dL_same_711 : decode cL_same 711 = .ok (.aload 5, 2) := by decide +kernel
theorem dL_same_713 : decode cL_same 713 = .ok (.invokestatic 37, 3) := by decide +kernel
theorem dL_same_716 : decode cL_same 716 = .ok (.iadd, 1) := by decide +kernel
theorem dL_same_717 : decode cL_same 717 = .ok (.istore 16, 2) := by decide +kernel
theorem dL_same_719 : decode cL_same 719 = .ok (.iinc 18 1, 3) := by decide +kernel
theorem dL_same_722 : decode cL_same 722 = .ok (.goto (-63), 3) := by decide +kernel
theorem dL_same_725 : decode cL_same 725 = .ok (.bipush 7, 2) := by decide +kernel
theorem dL_same_727 : decode cL_same 727 = .ok (.iload 13, 2) := by decide +kernel
theorem dL_same_729 : decode cL_same 729 = .ok (.imul, 1) := by decide +kernel
theorem dL_same_730 : decode cL_same 730 = .ok (.istore 18, 2) := by decide +kernel
theorem dL_same_732 : decode cL_same 732 = .ok (.iload 18, 2) := by decide +kernel
theorem dL_same_734 : decode cL_same 734 = .ok (.bipush 7, 2) := by decide +kernel
theorem dL_same_736 : decode cL_same 736 = .ok (.iload 13, 2) := by decide +kernel
theorem dL_same_738 : decode cL_same 738 = .ok (.imul, 1) := by decide +kernel
theorem dL_same_739 : decode cL_same 739 = .ok (.bipush 7, 2) := by decide +kernel
theorem dL_same_741 : decode cL_same 741 = .ok (.iadd, 1) := by decide +kernel
theorem dL_same_742 : decode cL_same 742 = .ok (.if_icmp .ge 19, 3) := by decide +kernel
theorem dL_same_745 : decode cL_same 745 = .ok (.iload 17, 2) := by decide +kernel
theorem dL_same_747 : decode cL_same 747 = .ok (.aload 6, 2) := by decide +kernel
theorem dL_same_749 : decode cL_same 749 = .ok (.iload 18, 2) := by decide +kernel
theorem dL_same_751 : decode cL_same 751 = .ok (.iaload, 1) := by decide +kernel
theorem dL_same_752 : decode cL_same 752 = .ok (.iadd, 1) := by decide +kernel
theorem dL_same_753 : decode cL_same 753 = .ok (.istore 17, 2) := by decide +kernel
theorem dL_same_755 : decode cL_same 755 = .ok (.iinc 18 1, 3) := by decide +kernel
theorem dL_same_758 : decode cL_same 758 = .ok (.goto (-26), 3) := by decide +kernel
theorem dL_same_761 : decode cL_same 761 = .ok (.aload_n 0, 1) := by decide +kernel
theorem dL_same_762 : decode cL_same 762 = .ok (.iload 13, 2) := by decide +kernel
theorem dL_same_764 : decode cL_same 764 = .ok (.iconst 0, 1) := by decide +kernel
theorem dL_same_765 : decode cL_same 765 = .ok (.invokevirtual 60, 3) := by decide +kernel
theorem dL_same_768 : decode cL_same 768 = .ok (.iload 15, 2) := by decide +kernel
theorem dL_same_770 : decode cL_same 770 = .ok (.if_icmp .ne 71, 3) := by decide +kernel
theorem dL_same_773 : decode cL_same 773 = .ok (.aload_n 0, 1) := by decide +kernel
theorem dL_same_774 : decode cL_same 774 = .ok (.iload 13, 2) := by decide +kernel
theorem dL_same_776 : decode cL_same 776 = .ok (.iconst 1, 1) := by decide +kernel
theorem dL_same_777 : decode cL_same 777 = .ok (.invokevirtual 60, 3) := by decide +kernel
theorem dL_same_780 : decode cL_same 780 = .ok (.aload_n 2, 1) := by decide +kernel
theorem dL_same_781 : decode cL_same 781 = .ok (.iconst 1, 1) := by decide +kernel
theorem dL_same_782 : decode cL_same 782 = .ok (.iaload, 1) := by decide +kernel
theorem dL_same_783 : decode cL_same 783 = .ok (.imul, 1) := by decide +kernel
theorem dL_same_784 : decode cL_same 784 = .ok (.iload 14, 2) := by decide +kernel
theorem dL_same_786 : decode cL_same 786 = .ok (.if_icmp .ne 55, 3) := by decide +kernel
theorem dL_same_789 : decode cL_same 789 = .ok (.aload_n 0, 1) := by decide +kernel
theorem dL_same_790 : decode cL_same 790 = .ok (.iload 13, 2) := by decide +kernel
theorem dL_same_792 : decode cL_same 792 = .ok (.iconst 2, 1) := by decide +kernel
theorem dL_same_793 : decode cL_same 793 = .ok (.invokevirtual 60, 3) := by decide +kernel
theorem dL_same_796 : decode cL_same 796 = .ok (.iload 14, 2) := by decide +kernel
theorem dL_same_798 : decode cL_same 798 = .ok (.if_icmp .ne 43, 3) := by decide +kernel
theorem dL_same_801 : decode cL_same 801 = .ok (.aload_n 0, 1) := by decide +kernel
theorem dL_same_802 : decode cL_same 802 = .ok (.iload 13, 2) := by decide +kernel
theorem dL_same_804 : decode cL_same 804 = .ok (.iconst 3, 1) := by decide +kernel
theorem dL_same_805 : decode cL_same 805 = .ok (.invokevirtual 60, 3) := by decide +kernel
theorem dL_same_808 : decode cL_same 808 = .ok (.iload 16, 2) := by decide +kernel
theorem dL_same_810 : decode cL_same 810 = .ok (.if_icmp .ne 31, 3) := by decide +kernel
theorem dL_same_813 : decode cL_same 813 = .ok (.aload_n 0, 1) := by decide +kernel
theorem dL_same_814 : decode cL_same 814 = .ok (.iload 13, 2) := by decide +kernel
theorem dL_same_816 : decode cL_same 816 = .ok (.iconst 4, 1) := by decide +kernel
theorem dL_same_817 : decode cL_same 817 = .ok (.invokevirtual 60, 3) := by decide +kernel
theorem dL_same_820 : decode cL_same 820 = .ok (.iload 14, 2) := by decide +kernel
theorem dL_same_822 : decode cL_same 822 = .ok (.iload 16, 2) := by decide +kernel
theorem dL_same_824 : decode cL_same 824 = .ok (.isub, 1) := by decide +kernel
theorem dL_same_825 : decode cL_same 825 = .ok (.aload_n 2, 1) := by decide +kernel
theorem dL_same_826 : decode cL_same 826 = .ok (.iconst 2, 1) := by decide +kernel
theorem dL_same_827 : decode cL_same 827 = .ok (.iaload, 1) := by decide +kernel
theorem dL_same_828 : decode cL_same 828 = .ok (.iload 15, 2) := by decide +kernel
theorem dL_same_830 : decode cL_same 830 = .ok (.imul, 1) := by decide +kernel
theorem dL_same_831 : decode cL_same 831 = .ok (.isub, 1) := by decide +kernel
theorem dL_same_832 : decode cL_same 832 = .ok (.iload 17, 2) := by decide +kernel
theorem dL_same_834 : decode cL_same 834 = .ok (.iadd, 1) := by decide +kernel
theorem dL_same_835 : decode cL_same 835 = .ok (.ldc 63, 2) := by decide +kernel
theorem dL_same_837 : decode cL_same 837 = .ok (.iadd, 1) := by decide +kernel
theorem dL_same_838 : decode cL_same 838 = .ok (.if_icmp .eq 5, 3) := by decide +kernel
theorem dL_same_841 : decode cL_same 841 = .ok (.iconst 0, 1) := by decide +kernel
theorem dL_same_842 : decode cL_same 842 = .ok (.ireturn, 1) := by decide +kernel
theorem dL_same_843 : decode cL_same 843 = .ok (.aload_n 0, 1) := by decide +kernel
theorem dL_same_844 : decode cL_same 844 = .ok (.iconst 0, 1) := by decide +kernel
theorem dL_same_845 : decode cL_same 845 = .ok (.invokevirtual 64, 3) := by decide +kernel
theorem dL_same_848 : decode cL_same 848 = .ok (.aload_n 2, 1) := by decide +kernel
theorem dL_same_849 : decode cL_same 849 = .ok (.iconst 5, 1) := by decide +kernel
theorem dL_same_850 : decode cL_same 850 = .ok (.iaload, 1) := by decide +kernel
theorem dL_same_851 : decode cL_same 851 = .ok (.if_icmp .ne 115, 3) := by decide +kernel
theorem dL_same_854 : decode cL_same 854 = .ok (.aload_n 0, 1) := by decide +kernel
theorem dL_same_855 : decode cL_same 855 = .ok (.iconst 1, 1) := by decide +kernel
theorem dL_same_856 : decode cL_same 856 = .ok (.invokevirtual 64, 3) := by decide +kernel
theorem dL_same_859 : decode cL_same 859 = .ok (.iload 7, 2) := by decide +kernel
theorem dL_same_861 : decode cL_same 861 = .ok (.if_icmp .ne 105, 3) := by decide +kernel
theorem dL_same_864 : decode cL_same 864 = .ok (.aload_n 0, 1) := by decide +kernel
theorem dL_same_865 : decode cL_same 865 = .ok (.iconst 2, 1) := by decide +kernel
theorem dL_same_866 : decode cL_same 866 = .ok (.invokevirtual 64, 3) := by decide +kernel
theorem dL_same_869 : decode cL_same 869 = .ok (.iload 8, 2) := by decide +kernel
theorem dL_same_871 : decode cL_same 871 = .ok (.if_icmp .ne 95, 3) := by decide +kernel
theorem dL_same_874 : decode cL_same 874 = .ok (.aload_n 0, 1) := by decide +kernel
theorem dL_same_875 : decode cL_same 875 = .ok (.iconst 3, 1) := by decide +kernel
theorem dL_same_876 : decode cL_same 876 = .ok (.invokevirtual 64, 3) := by decide +kernel
theorem dL_same_879 : decode cL_same 879 = .ok (.iload 12, 2) := by decide +kernel
theorem dL_same_881 : decode cL_same 881 = .ok (.if_icmp .ne 85, 3) := by decide +kernel
theorem dL_same_884 : decode cL_same 884 = .ok (.aload_n 0, 1) := by decide +kernel
theorem dL_same_885 : decode cL_same 885 = .ok (.iconst 4, 1) := by decide +kernel
theorem dL_same_886 : decode cL_same 886 = .ok (.invokevirtual 64, 3) := by decide +kernel
theorem dL_same_889 : decode cL_same 889 = .ok (.iload 11, 2) := by decide +kernel
theorem dL_same_891 : decode cL_same 891 = .ok (.if_icmp .ne 75, 3) := by decide +kernel
theorem dL_same_894 : decode cL_same 894 = .ok (.aload_n 0, 1) := by decide +kernel
theorem dL_same_895 : decode cL_same 895 = .ok (.iconst 5, 1) := by decide +kernel
theorem dL_same_896 : decode cL_same 896 = .ok (.invokevirtual 64, 3) := by decide +kernel
theorem dL_same_899 : decode cL_same 899 = .ok (.aload_n 2, 1) := by decide +kernel
theorem dL_same_900 : decode cL_same 900 = .ok (.aload_n 3, 1) := by decide +kernel
theorem dL_same_901 : decode cL_same 901 = .ok (.aload 4, 2) := by decide +kernel
theorem dL_same_903 : decode cL_same 903 = .ok (.aload 5, 2) := by decide +kernel
theorem dL_same_905 : decode cL_same 905 = .ok (.aload 6, 2) := by decide +kernel
theorem dL_same_907 : decode cL_same 907 = .ok (.invokestatic 67, 3) := by decide +kernel
theorem dL_same_910 : decode cL_same 910 = .ok (.ldc 63, 2) := by decide +kernel
theorem dL_same_912 : decode cL_same 912 = .ok (.iadd, 1) := by decide +kernel
theorem dL_same_913 : decode cL_same 913 = .ok (.if_icmp .ne 53, 3) := by decide +kernel
theorem dL_same_916 : decode cL_same 916 = .ok (.aload_n 0, 1) := by decide +kernel
theorem dL_same_917 : decode cL_same 917 = .ok (.bipush 6, 2) := by decide +kernel
theorem dL_same_919 : decode cL_same 919 = .ok (.invokevirtual 64, 3) := by decide +kernel
theorem dL_same_922 : decode cL_same 922 = .ok (.iload 10, 2) := by decide +kernel
theorem dL_same_924 : decode cL_same 924 = .ok (.if_icmp .ne 42, 3) := by decide +kernel
theorem dL_same_927 : decode cL_same 927 = .ok (.aload_n 0, 1) := by decide +kernel
theorem dL_same_928 : decode cL_same 928 = .ok (.bipush 7, 2) := by decide +kernel
theorem dL_same_930 : decode cL_same 930 = .ok (.invokevirtual 64, 3) := by decide +kernel
theorem dL_same_933 : decode cL_same 933 = .ok (.iload 9, 2) := by decide +kernel
theorem dL_same_935 : decode cL_same 935 = .ok (.if_icmp .ne 31, 3) := by decide +kernel
theorem dL_same_938 : decode cL_same 938 = .ok (.aload_n 0, 1) := by decide +kernel
theorem dL_same_939 : decode cL_same 939 = .ok (.bipush 8, 2) := by decide +kernel
theorem dL_same_941 : decode cL_same 941 = .ok (.invokevirtual 64, 3) := by decide +kernel
theorem dL_same_944 : decode cL_same 944 = .ok (.aload_n 2, 1) := by decide +kernel
theorem dL_same_945 : decode cL_same 945 = .ok (.iconst 0, 1) := by decide +kernel
theorem dL_same_946 : decode cL_same 946 = .ok (.iaload, 1) := by decide +kernel
theorem dL_same_947 : decode cL_same 947 = .ok (.if_icmp .ne 19, 3) := by decide +kernel
theorem dL_same_950 : decode cL_same 950 = .ok (.aload_n 0, 1) := by decide +kernel
theorem dL_same_951 : decode cL_same 951 = .ok (.bipush 12, 2) := by decide +kernel
theorem dL_same_953 : decode cL_same 953 = .ok (.invokevirtual 64, 3) := by decide +kernel
theorem dL_same_956 : decode cL_same 956 = .ok (.aload_n 2, 1) := by decide +kernel
theorem dL_same_957 : decode cL_same 957 = .ok (.iconst 4, 1) := by decide +kernel
theorem dL_same_958 : decode cL_same 958 = .ok (.iaload, 1) := by decide +kernel
theorem dL_same_959 : decode cL_same 959 = .ok (.if_icmp .ne 7, 3) := by decide +kernel
theorem dL_same_962 : decode cL_same 962 = .ok (.iconst 1, 1) := by decide +kernel
theorem dL_same_963 : decode cL_same 963 = .ok (.goto 4, 3) := by decide +kernel
theorem dL_same_966 : decode cL_same 966 = .ok (.iconst 0, 1) := by decide +kernel
theorem dL_same_967 : decode cL_same 967 = .ok (.ireturn, 1) := by decide +kernel

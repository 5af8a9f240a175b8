theorem dL_cell_0 : decode cL_cell 0 = .ok (.iload_n 1, 1) := by decide +kernel
theorem dL_cell_1 : decode cL_cell 1 = .ok (.aload_n 0, 1) := by decide +kernel
theorem dL_cell_2 : decode cL_cell 2 = .ok (.arraylength, 1) := by decide +kernel
theorem dL_cell_3 : decode cL_cell 3 = .ok (.if_icmp .ge 9, 3) := by decide +kernel
theorem dL_cell_6 : decode cL_cell 6 = .ok (.aload_n 0, 1) := by decide +kernel
theorem dL_cell_7 : decode cL_cell 7 = .ok (.iload_n 1, 1) := by decide +kernel
theorem dL_cell_8 : decode cL_cell 8 = .ok (.iaload, 1) := by decide +kernel
theorem dL_cell_9 : decode cL_cell 9 = .ok (.goto 12, 3) := by decide +kernel
theorem dL_cell_12 : decode cL_cell 12 = .ok (.ldc 7, 2) := by decide +kernel
theorem dL_cell_14 : decode cL_cell 14 = .ok (.iload_n 1, 1) := by decide +kernel
theorem dL_cell_15 : decode cL_cell 15 = .ok (.iconst 1, 1) := by decide +kernel
theorem dL_cell_16 : decode cL_cell 16 = .ok (.iadd, 1) := by decide +kernel
theorem dL_cell_17 : decode cL_cell 17 = .ok (.imul, 1) := by decide +kernel
theorem dL_cell_18 : decode cL_cell 18 = .ok (.ldc 8, 2) := by decide +kernel
theorem dL_cell_20 : decode cL_cell 20 = .ok (.iadd, 1) := by decide +kernel
theorem dL_cell_21 : decode cL_cell 21 = .ok (.ireturn, 1) := by decide +kernel
theorem dL_low_0 : decode cL_low 0 = .ok (.iload_n 0, 1) := by decide +kernel
theorem dL_low_1 : decode cL_low 1 = .ok (.ldc 9, 2) := by decide +kernel
theorem dL_low_3 : decode cL_low 3 = .ok (.iand, 1) := by decide +kernel
theorem dL_low_4 : decode cL_low 4 = .ok (.iload_n 1, 1) := by decide +kernel
theorem dL_low_5 : decode cL_low 5 = .ok (.irem, 1) := by decide +kernel
theorem dL_low_6 : decode cL_low 6 = .ok (.ireturn, 1) := by decide +kernel
set_option maxRecDepth 20000 in
theorem ggL_leftAt_L_coming : GoodIn wsL_leftAt wsL_coming := goodIn_r _ [4] (by decide +kernel) (by decide +kernel)
set_option maxRecDepth 20000 in
theorem gL_leftAt_L_coming : GoodIn wsL_leftAt (va_wsS RL 10 yL_coming wsL_coming) := goodIn_app (goodIn_of _ (by decide +kernel)) ggL_leftAt_L_coming
theorem dL_leftAt_0 : decode cL_leftAt 0 = .ok (.aload_n 3, 1) := by decide +kernel
theorem dL_leftAt_1 : decode cL_leftAt 1 = .ok (.iconst 5, 1) := by decide +kernel
theorem dL_leftAt_2 : decode cL_leftAt 2 = .ok (.iload_n 0, 1) := by decide +kernel
theorem dL_leftAt_3 : decode cL_leftAt 3 = .ok (.imul, 1) := by decide +kernel
theorem dL_leftAt_4 : decode cL_leftAt 4 = .ok (.iconst 1, 1) := by decide +kernel
theorem dL_leftAt_5 : decode cL_leftAt 5 = .ok (.iadd, 1) := by decide +kernel
theorem dL_leftAt_6 : decode cL_leftAt 6 = .ok (.iaload, 1) := by decide +kernel
theorem dL_leftAt_7 : decode cL_leftAt 7 = .ok (.istore 6, 2) := by decide +kernel
theorem dL_leftAt_9 : decode cL_leftAt 9 = .ok (.iconst 0, 1) := by decide +kernel
theorem dL_leftAt_10 : decode cL_leftAt 10 = .ok (.istore 7, 2) := by decide +kernel
theorem dL_leftAt_12 : decode cL_leftAt 12 = .ok (.iload 7, 2) := by decide +kernel
theorem dL_leftAt_14 : decode cL_leftAt 14 = .ok (.iload_n 1, 1) := by decide +kernel
theorem dL_leftAt_15 : decode cL_leftAt 15 = .ok (.if_icmp .ge 103, 3) := by decide +kernel
theorem dL_leftAt_18 : decode cL_leftAt 18 = .ok (.iload 7, 2) := by decide +kernel
theorem dL_leftAt_20 : decode cL_leftAt 20 = .ok (.iconst 2, 1) := by decide +kernel
theorem dL_leftAt_21 : decode cL_leftAt 21 = .ok (.idiv, 1) := by decide +kernel
theorem dL_leftAt_22 : decode cL_leftAt 22 = .ok (.istore 8, 2) := by decide +kernel
theorem dL_leftAt_24 : decode cL_leftAt 24 = .ok (.iload 7, 2) := by decide +kernel
theorem dL_leftAt_26 : decode cL_leftAt 26 = .ok (.bipush 14, 2) := by decide +kernel
theorem dL_leftAt_28 : decode cL_leftAt 28 = .ok (.irem, 1) := by decide +kernel
theorem dL_leftAt_29 : decode cL_leftAt 29 = .ok (.ifCond .ne 30, 3) := by decide +kernel
theorem dL_leftAt_32 : decode cL_leftAt 32 = .ok (.iload 8, 2) := by decide +kernel
theorem dL_leftAt_34 : decode cL_leftAt 34 = .ok (.bipush 7, 2) := by decide +kernel
theorem dL_leftAt_36 : decode cL_leftAt 36 = .ok (.idiv, 1) := by decide +kernel
theorem dL_leftAt_37 : decode cL_leftAt 37 = .ok (.aload_n 3, 1) := by decide +kernel
theorem dL_leftAt_38 : decode cL_leftAt 38 = .ok (.iconst 5, 1) := by decide +kernel
theorem dL_leftAt_39 : decode cL_leftAt 39 = .ok (.iload_n 0, 1) := by decide +kernel
theorem dL_leftAt_40 : decode cL_leftAt 40 = .ok (.imul, 1) := by decide +kernel
theorem dL_leftAt_41 : decode cL_leftAt 41 = .ok (.iconst 4, 1) := by decide +kernel
theorem dL_leftAt_42 : decode cL_leftAt 42 = .ok (.iadd, 1) := by decide +kernel
theorem dL_leftAt_43 : decode cL_leftAt 43 = .ok (.iaload, 1) := by decide +kernel
theorem dL_leftAt_44 : decode cL_leftAt 44 = .ok (.bipush 7, 2) := by decide +kernel
theorem dL_leftAt_46 : decode cL_leftAt 46 = .ok (.idiv, 1) := by decide +kernel
theorem dL_leftAt_47 : decode cL_leftAt 47 = .ok (.if_icmp .le 12, 3) := by decide +kernel
theorem dL_leftAt_50 : decode cL_leftAt 50 = .ok (.iload 6, 2) := by decide +kernel
theorem dL_leftAt_52 : decode cL_leftAt 52 = .ok (.iload 6, 2) := by decide +kernel
theorem dL_leftAt_54 : decode cL_leftAt 54 = .ok (.iconst 4, 1) := by decide +kernel
theorem dL_leftAt_55 : decode cL_leftAt 55 = .ok (.idiv, 1) := by decide +kernel
theorem dL_leftAt_56 : decode cL_leftAt 56 = .ok (.isub, 1) := by decide +kernel
theorem dL_leftAt_57 : decode cL_leftAt 57 = .ok (.istore 6, 2) := by decide +kernel
theorem dL_leftAt_59 : decode cL_leftAt 59 = .ok (.iload 7, 2) := by decide +kernel
theorem dL_leftAt_61 : decode cL_leftAt 61 = .ok (.iconst 2, 1) := by decide +kernel
theorem dL_leftAt_62 : decode cL_leftAt 62 = .ok (.irem, 1) := by decide +kernel
theorem dL_leftAt_63 : decode cL_leftAt 63 = .ok (.ifCond .ne 11, 3) := by decide +kernel
theorem dL_leftAt_66 : decode cL_leftAt 66 = .ok (.aload 4, 2) := by decide +kernel
theorem dL_leftAt_68 : decode cL_leftAt 68 = .ok (.iload 8, 2) := by decide +kernel
theorem dL_leftAt_70 : decode cL_leftAt 70 = .ok (.iaload, 1) := by decide +kernel
theorem dL_leftAt_71 : decode cL_leftAt 71 = .ok (.goto 8, 3) := by decide +kernel
theorem dL_leftAt_74 : decode cL_leftAt 74 = .ok (.aload 5, 2) := by decide +kernel
theorem dL_leftAt_76 : decode cL_leftAt 76 = .ok (.iload 8, 2) := by decide +kernel
theorem dL_leftAt_78 : decode cL_leftAt 78 = .ok (.iaload, 1) := by decide +kernel
theorem dL_leftAt_79 : decode cL_leftAt 79 = .ok (.iload_n 0, 1) := by decide +kernel
theorem dL_leftAt_80 : decode cL_leftAt 80 = .ok (.iconst 1, 1) := by decide +kernel
theorem dL_leftAt_81 : decode cL_leftAt 81 = .ok (.iadd, 1) := by decide +kernel
theorem dL_leftAt_82 : decode cL_leftAt 82 = .ok (.if_icmp .ne 7, 3) := by decide +kernel
theorem dL_leftAt_85 : decode cL_leftAt 85 = .ok (.iconst 1, 1) := by decide +kernel
theorem dL_leftAt_86 : decode cL_leftAt 86 = .ok (.goto 4, 3) := by decide +kernel
theorem dL_leftAt_89 : decode cL_leftAt 89 = .ok (.iconst 0, 1) := by decide +kernel
theorem dL_leftAt_90 : decode cL_leftAt 90 = .ok (.istore 9, 2) := by decide +kernel
theorem dL_leftAt_92 : decode cL_leftAt 92 = .ok (.iload 9, 2) := by decide +kernel
theorem dL_leftAt_94 : decode cL_leftAt 94 = .ok (.ifCond .eq 18, 3) := by decide +kernel
theorem dL_leftAt_97 : decode cL_leftAt 97 = .ok (.iload 6, 2) := by decide +kernel
theorem dL_leftAt_99 : decode cL_leftAt 99 = .ok (.iload 6, 2) := by decide +kernel
theorem dL_leftAt_101 : decode cL_leftAt 101 = .ok (.iload 7, 2) := by decide +kernel
theorem dL_leftAt_103 : decode cL_leftAt 103 = .ok (.iconst 2, 1) := by decide +kernel
theorem dL_leftAt_104 : decode cL_leftAt 104 = .ok (.irem, 1) := by decide +kernel
theorem dL_leftAt_105 : decode cL_leftAt 105 = .ok (.aload_n 2, 1) := by decide +kernel
theorem dL_leftAt_106 : decode cL_leftAt 106 = .ok (.invokestatic 10, 3) := by decide +kernel
theorem dL_leftAt_109 : decode cL_leftAt 109 = .ok (.isub, 1) := by decide +kernel
theorem dL_leftAt_110 : decode cL_leftAt 110 = .ok (.istore 6, 2) := by decide +kernel
theorem dL_leftAt_112 : decode cL_leftAt 112 = .ok (.iinc 7 1, 3) := by decide +kernel
theorem dL_leftAt_115 : decode cL_leftAt 115 = .ok (.goto (-103), 3) := by decide +kernel
theorem dL_leftAt_118 : decode cL_leftAt 118 = .ok (.iload_n 1, 1) := by decide +kernel
theorem dL_leftAt_119 : decode cL_leftAt 119 = .ok (.bipush 14, 2) := by decide +kernel
theorem dL_leftAt_121 : decode cL_leftAt 121 = .ok (.irem, 1) := by decide +kernel
theorem dL_leftAt_122 : decode cL_leftAt 122 = .ok (.ifCond .ne 35, 3) := by decide +kernel
theorem dL_leftAt_125 : decode cL_leftAt 125 = .ok (.iload_n 1, 1) := by decide +kernel
theorem dL_leftAt_126 : decode cL_leftAt 126 = .ok (.bipush 70, 2) := by decide +kernel
theorem dL_leftAt_128 : decode cL_leftAt 128 = .ok (.if_icmp .ge 29, 3) := by decide +kernel
theorem dL_leftAt_131 : decode cL_leftAt 131 = .ok (.iload_n 1, 1) := by decide +kernel
theorem dL_leftAt_132 : decode cL_leftAt 132 = .ok (.bipush 14, 2) := by decide +kernel
theorem dL_leftAt_134 : decode cL_leftAt 134 = .ok (.idiv, 1) := by decide +kernel
theorem dL_leftAt_135 : decode cL_leftAt 135 = .ok (.aload_n 3, 1) := by decide +kernel
theorem dL_leftAt_136 : decode cL_leftAt 136 = .ok (.iconst 5, 1) := by decide +kernel
theorem dL_leftAt_137 : decode cL_leftAt 137 = .ok (.iload_n 0, 1) := by decide +kernel
theorem dL_leftAt_138 : decode cL_leftAt 138 = .ok (.imul, 1) := by decide +kernel
theorem dL_leftAt_139 : decode cL_leftAt 139 = .ok (.iconst 4, 1) := by decide +kernel
theorem dL_leftAt_140 : decode cL_leftAt 140 = .ok (.iadd, 1) := by decide +kernel
theorem dL_leftAt_141 : decode cL_leftAt 141 = .ok (.iaload, 1) := by decide +kernel
theorem dL_leftAt_142 : decode cL_leftAt 142 = .ok (.bipush 7, 2) := by decide +kernel
theorem dL_leftAt_144 : decode cL_leftAt 144 = .ok (.idiv, 1) := by decide +kernel
theorem dL_leftAt_145 : decode cL_leftAt 145 = .ok (.if_icmp .le 12, 3) := by decide +kernel
theorem dL_leftAt_148 : decode cL_leftAt 148 = .ok (.iload 6, 2) := by decide +kernel
theorem dL_leftAt_150 : decode cL_leftAt 150 = .ok (.iload 6, 2) := by decide +kernel
theorem dL_leftAt_152 : decode cL_leftAt 152 = .ok (.iconst 4, 1) := by decide +kernel
theorem dL_leftAt_153 : decode cL_leftAt 153 = .ok (.idiv, 1) := by decide +kernel
theorem dL_leftAt_154 : decode cL_leftAt 154 = .ok (.isub, 1) := by decide +kernel
theorem dL_leftAt_155 : decode cL_leftAt 155 = .ok (.istore 6, 2) := by decide +kernel
theorem dL_leftAt_157 : decode cL_leftAt 157 = .ok (.iload 6, 2) := by decide +kernel
theorem dL_leftAt_159 : decode cL_leftAt 159 = .ok (.ireturn, 1) := by decide +kernel
theorem dL_coming_0 : decode cL_coming 0 = .ok (.iload_n 0, 1) := by decide +kernel
theorem dL_coming_1 : decode cL_coming 1 = .ok (.iload_n 1, 1) := by decide +kernel
theorem dL_coming_2 : decode cL_coming 2 = .ok (.ifCond .ne 9, 3) := by decide +kernel
theorem dL_coming_5 : decode cL_coming 5 = .ok (.aload_n 2, 1) := by decide +kernel
theorem dL_coming_6 : decode cL_coming 6 = .ok (.iconst 4, 1) := by decide +kernel
theorem dL_coming_7 : decode cL_coming 7 = .ok (.iaload, 1) := by decide +kernel
theorem dL_coming_8 : decode cL_coming 8 = .ok (.goto 6, 3) := by decide +kernel
theorem dL_coming_11 : decode cL_coming 11 = .ok (.aload_n 2, 1) := by decide +kernel
theorem dL_coming_12 : decode cL_coming 12 = .ok (.iconst 3, 1) := by decide +kernel
theorem dL_coming_13 : decode cL_coming 13 = .ok (.iaload, 1) := by decide +kernel
theorem dL_coming_14 : decode cL_coming 14 = .ok (.imul, 1) := by decide +kernel
theorem dL_coming_15 : decode cL_coming 15 = .ok (.bipush 100, 2) := by decide +kernel
theorem dL_coming_17 : decode cL_coming 17 = .ok (.idiv, 1) := by decide +kernel
theorem dL_coming_18 : decode cL_coming 18 = .ok (.istore_n 3, 1) := by decide +kernel
theorem dL_coming_19 : decode cL_coming 19 = .ok (.iload_n 3, 1) := by decide +kernel
theorem dL_coming_20 : decode cL_coming 20 = .ok (.aload_n 2, 1) := by decide +kernel
theorem dL_coming_21 : decode cL_coming 21 = .ok (.iconst 0, 1) := by decide +kernel
theorem dL_coming_22 : decode cL_coming 22 = .ok (.iaload, 1) := by decide +kernel
theorem dL_coming_23 : decode cL_coming 23 = .ok (.if_icmp .le 9, 3) := by decide +kernel
theorem dL_coming_26 : decode cL_coming 26 = .ok (.aload_n 2, 1) := by decide +kernel
theorem dL_coming_27 : decode cL_coming 27 = .ok (.iconst 0, 1) := by decide +kernel
theorem dL_coming_28 : decode cL_coming 28 = .ok (.iaload, 1) := by decide +kernel
theorem dL_coming_29 : decode cL_coming 29 = .ok (.goto 4, 3) := by decide +kernel
theorem dL_coming_32 : decode cL_coming 32 = .ok (.iload_n 3, 1) := by decide +kernel
theorem dL_coming_33 : decode cL_coming 33 = .ok (.ireturn, 1) := by decide +kernel
theorem dL_film_0 : decode cL_film 0 = .ok (.iload_n 1, 1) := by decide +kernel
theorem dL_film_1 : decode cL_film 1 = .ok (.ifCond .ne 9, 3) := by decide +kernel
theorem dL_film_4 : decode cL_film 4 = .ok (.aload_n 2, 1) := by decide +kernel
theorem dL_film_5 : decode cL_film 5 = .ok (.iload_n 0, 1) := by decide +kernel
theorem dL_film_6 : decode cL_film 6 = .ok (.iaload, 1) := by decide +kernel
theorem dL_film_7 : decode cL_film 7 = .ok (.goto 6, 3) := by decide +kernel
theorem dL_film_10 : decode cL_film 10 = .ok (.aload_n 3, 1) := by decide +kernel
theorem dL_film_11 : decode cL_film 11 = .ok (.iload_n 0, 1) := by decide +kernel
theorem dL_film_12 : decode cL_film 12 = .ok (.iaload, 1) := by decide +kernel
theorem dL_film_13 : decode cL_film 13 = .ok (.iconst 1, 1) := by decide +kernel
theorem dL_film_14 : decode cL_film 14 = .ok (.isub, 1) := by decide +kernel
theorem dL_film_15 : decode cL_film 15 = .ok (.ireturn, 1) := by decide +kernel
set_option maxRecDepth 20000 in
theorem ggL_people_L_film : GoodIn wsL_people wsL_film := goodIn_r _ [4] (by decide +kernel) (by decide +kernel)
set_option maxRecDepth 20000 in
theorem gL_people_L_film : GoodIn wsL_people (va_wsS RL 16 yL_film wsL_film) := goodIn_app (goodIn_of _ (by decide +kernel)) ggL_people_L_film
set_option maxRecDepth 20000 in
theorem ggL_people_L_leftAt : GoodIn wsL_people wsL_leftAt := goodIn_r _ [7, 8, 9, 3, 10] (by decide +kernel) (by decide +kernel)
set_option maxRecDepth 20000 in
theorem gL_people_L_leftAt : GoodIn wsL_people (va_wsS RL 20 yL_leftAt wsL_leftAt) := goodIn_app (goodIn_of _ (by decide +kernel)) ggL_people_L_leftAt
set_option maxRecDepth 20000 in
theorem ggL_people_L_coming : GoodIn wsL_people wsL_coming := goodIn_r _ [10] (by decide +kernel) (by decide +kernel)
set_option maxRecDepth 20000 in
theorem gL_people_L_coming : GoodIn wsL_people (va_wsS RL 10 yL_coming wsL_coming) := goodIn_app (goodIn_of _ (by decide +kernel)) ggL_people_L_coming
theorem dL_people_0 : decode cL_people 0 = .ok (.iload_n 0, 1) := by decide +kernel
theorem dL_people_1 : decode cL_people 1 = .ok (.iload_n 1, 1) := by decide +kernel
theorem dL_people_2 : decode cL_people 2 = .ok (.aload 4, 2) := by decide +kernel
theorem dL_people_4 : decode cL_people 4 = .ok (.aload 5, 2) := by decide +kernel
theorem dL_people_6 : decode cL_people 6 = .ok (.invokestatic 16, 3) := by decide +kernel
theorem dL_people_9 : decode cL_people 9 = .ok (.istore 6, 2) := by decide +kernel
theorem dL_people_11 : decode cL_people 11 = .ok (.iload 6, 2) := by decide +kernel
theorem dL_people_13 : decode cL_people 13 = .ok (.ifCond .ge 7, 3) := by decide +kernel
theorem dL_people_16 : decode cL_people 16 = .ok (.iconst 0, 1) := by decide +kernel
theorem dL_people_17 : decode cL_people 17 = .ok (.goto 24, 3) := by decide +kernel
theorem dL_people_20 : decode cL_people 20 = .ok (.iload 6, 2) := by decide +kernel
theorem dL_people_22 : decode cL_people 22 = .ok (.iconst 2, 1) := by decide +kernel
theorem dL_people_23 : decode cL_people 23 = .ok (.iload_n 0, 1) := by decide +kernel
theorem dL_people_24 : decode cL_people 24 = .ok (.imul, 1) := by decide +kernel
theorem dL_people_25 : decode cL_people 25 = .ok (.iload_n 1, 1) := by decide +kernel
theorem dL_people_26 : decode cL_people 26 = .ok (.iadd, 1) := by decide +kernel
theorem dL_people_27 : decode cL_people 27 = .ok (.aload_n 2, 1) := by decide +kernel
theorem dL_people_28 : decode cL_people 28 = .ok (.aload_n 3, 1) := by decide +kernel
theorem dL_people_29 : decode cL_people 29 = .ok (.aload 4, 2) := by decide +kernel
theorem dL_people_31 : decode cL_people 31 = .ok (.aload 5, 2) := by decide +kernel
theorem dL_people_33 : decode cL_people 33 = .ok (.invokestatic 20, 3) := by decide +kernel
theorem dL_people_36 : decode cL_people 36 = .ok (.iload_n 1, 1) := by decide +kernel
theorem dL_people_37 : decode cL_people 37 = .ok (.aload_n 2, 1) := by decide +kernel
theorem dL_people_38 : decode cL_people 38 = .ok (.invokestatic 10, 3) := by decide +kernel
theorem dL_people_41 : decode cL_people 41 = .ok (.ireturn, 1) := by decide +kernel
theorem dL_shows_0 : decode cL_shows 0 = .ok (.iconst 0, 1) := by decide +kernel
theorem dL_shows_1 : decode cL_shows 1 = .ok (.istore 4, 2) := by decide +kernel
theorem dL_shows_3 : decode cL_shows 3 = .ok (.bipush 7, 2) := by decide +kernel
theorem dL_shows_5 : decode cL_shows 5 = .ok (.iload_n 1, 1) := by decide +kernel
theorem dL_shows_6 : decode cL_shows 6 = .ok (.imul, 1) := by decide +kernel
theorem dL_shows_7 : decode cL_shows 7 = .ok (.istore 5, 2) := by decide +kernel
theorem dL_shows_9 : decode cL_shows 9 = .ok (.iload 5, 2) := by decide +kernel
theorem dL_shows_11 : decode cL_shows 11 = .ok (.bipush 7, 2) := by decide +kernel
theorem dL_shows_13 : decode cL_shows 13 = .ok (.iload_n 1, 1) := by decide +kernel
theorem dL_shows_14 : decode cL_shows 14 = .ok (.imul, 1) := by decide +kernel
theorem dL_shows_15 : decode cL_shows 15 = .ok (.bipush 7, 2) := by decide +kernel
theorem dL_shows_17 : decode cL_shows 17 = .ok (.iadd, 1) := by decide +kernel
theorem dL_shows_18 : decode cL_shows 18 = .ok (.if_icmp .ge 45, 3) := by decide +kernel
theorem dL_shows_21 : decode cL_shows 21 = .ok (.iload 4, 2) := by decide +kernel
theorem dL_shows_23 : decode cL_shows 23 = .ok (.aload_n 2, 1) := by decide +kernel
theorem dL_shows_24 : decode cL_shows 24 = .ok (.iload 5, 2) := by decide +kernel
theorem dL_shows_26 : decode cL_shows 26 = .ok (.iaload, 1) := by decide +kernel
theorem dL_shows_27 : decode cL_shows 27 = .ok (.iload_n 0, 1) := by decide +kernel
theorem dL_shows_28 : decode cL_shows 28 = .ok (.iconst 1, 1) := by decide +kernel
theorem dL_shows_29 : decode cL_shows 29 = .ok (.iadd, 1) := by decide +kernel
theorem dL_shows_30 : decode cL_shows 30 = .ok (.if_icmp .ne 7, 3) := by decide +kernel
theorem dL_shows_33 : decode cL_shows 33 = .ok (.iconst 1, 1) := by decide +kernel
theorem dL_shows_34 : decode cL_shows 34 = .ok (.goto 4, 3) := by decide +kernel
theorem dL_shows_37 : decode cL_shows 37 = .ok (.iconst 0, 1) := by decide +kernel
theorem dL_shows_38 : decode cL_shows 38 = .ok (.aload_n 3, 1) := by decide +kernel
theorem dL_shows_39 : decode cL_shows 39 = .ok (.iload 5, 2) := by decide +kernel
theorem dL_shows_41 : decode cL_shows 41 = .ok (.iaload, 1) := by decide +kernel
theorem dL_shows_42 : decode cL_shows 42 = .ok (.iload_n 0, 1) := by decide +kernel
theorem dL_shows_43 : decode cL_shows 43 = .ok (.iconst 1, 1) := by decide +kernel
theorem dL_shows_44 : decode cL_shows 44 = .ok (.iadd, 1) := by decide +kernel
theorem dL_shows_45 : decode cL_shows 45 = .ok (.if_icmp .ne 7, 3) := by decide +kernel
theorem dL_shows_48 : decode cL_shows 48 = .ok (.iconst 1, 1) := by decide +kernel
theorem dL_shows_49 : decode cL_shows 49 = .ok (.goto 4, 3) := by decide +kernel
theorem dL_shows_52 : decode cL_shows 52 = .ok (.iconst 0, 1) := by decide +kernel
theorem dL_shows_53 : decode cL_shows 53 = .ok (.iadd, 1) := by decide +kernel
theorem dL_shows_54 : decode cL_shows 54 = .ok (.iadd, 1) := by decide +kernel
theorem dL_shows_55 : decode cL_shows 55 = .ok (.istore 4, 2) := by decide +kernel
theorem dL_shows_57 : decode cL_shows 57 = .ok (.iinc 5 1, 3) := by decide +kernel
theorem dL_shows_60 : decode cL_shows 60 = .ok (.goto (-51), 3) := by decide +kernel
theorem dL_shows_63 : decode cL_shows 63 = .ok (.iload 4, 2) := by decide +kernel
theorem dL_shows_65 : decode cL_shows 65 = .ok (.ireturn, 1) := by decide +kernel
set_option maxRecDepth 20000 in
theorem ggL_takings_L_film : GoodIn wsL_takings wsL_film := goodIn_r _ [4] (by decide +kernel) (by decide +kernel)
set_option maxRecDepth 20000 in
theorem gL_takings_L_film : GoodIn wsL_takings (va_wsS RL 16 yL_film wsL_film) := goodIn_app (goodIn_of _ (by decide +kernel)) ggL_takings_L_film
set_option maxRecDepth 20000 in
theorem ggL_takings_L_people : GoodIn wsL_takings wsL_people := goodIn_r _ [7, 1, 2, 3, 4, 8, 9, 10, 11, 12, 13] (by decide +kernel) (by decide +kernel)
set_option maxRecDepth 20000 in
theorem gL_takings_L_people : GoodIn wsL_takings (va_wsS RL 24 yL_people wsL_people) := goodIn_app (goodIn_of _ (by decide +kernel)) ggL_takings_L_people
theorem dL_takings_0 : decode cL_takings 0 = .ok (.iconst 0, 1) := by decide +kernel
theorem dL_takings_1 : decode cL_takings 1 = .ok (.istore 6, 2) := by decide +kernel
theorem dL_takings_3 : decode cL_takings 3 = .ok (.bipush 7, 2) := by decide +kernel
theorem dL_takings_5 : decode cL_takings 5 = .ok (.iload_n 1, 1) := by decide +kernel
theorem dL_takings_6 : decode cL_takings 6 = .ok (.imul, 1) := by decide +kernel
theorem dL_takings_7 : decode cL_takings 7 = .ok (.istore 7, 2) := by decide +kernel
theorem dL_takings_9 : decode cL_takings 9 = .ok (.iload 7, 2) := by decide +kernel
theorem dL_takings_11 : decode cL_takings 11 = .ok (.bipush 7, 2) := by decide +kernel
theorem dL_takings_13 : decode cL_takings 13 = .ok (.iload_n 1, 1) := by decide +kernel
theorem dL_takings_14 : decode cL_takings 14 = .ok (.imul, 1) := by decide +kernel
theorem dL_takings_15 : decode cL_takings 15 = .ok (.bipush 7, 2) := by decide +kernel
theorem dL_takings_17 : decode cL_takings 17 = .ok (.iadd, 1) := by decide +kernel
theorem dL_takings_18 : decode cL_takings 18 = .ok (.if_icmp .ge 65, 3) := by decide +kernel
theorem dL_takings_21 : decode cL_takings 21 = .ok (.iconst 0, 1) := by decide +kernel
theorem dL_takings_22 : decode cL_takings 22 = .ok (.istore 8, 2) := by decide +kernel
theorem dL_takings_24 : decode cL_takings 24 = .ok (.iload 8, 2) := by decide +kernel
theorem dL_takings_26 : decode cL_takings 26 = .ok (.iconst 2, 1) := by decide +kernel
theorem dL_takings_27 : decode cL_takings 27 = .ok (.if_icmp .ge 50, 3) := by decide +kernel
theorem dL_takings_30 : decode cL_takings 30 = .ok (.iload 6, 2) := by decide +kernel
theorem dL_takings_32 : decode cL_takings 32 = .ok (.iload 7, 2) := by decide +kernel
theorem dL_takings_34 : decode cL_takings 34 = .ok (.iload 8, 2) := by decide +kernel
theorem dL_takings_36 : decode cL_takings 36 = .ok (.aload 4, 2) := by decide +kernel
theorem dL_takings_38 : decode cL_takings 38 = .ok (.aload 5, 2) := by decide +kernel
theorem dL_takings_40 : decode cL_takings 40 = .ok (.invokestatic 16, 3) := by decide +kernel
theorem dL_takings_43 : decode cL_takings 43 = .ok (.iload_n 0, 1) := by decide +kernel
theorem dL_takings_44 : decode cL_takings 44 = .ok (.if_icmp .ne 23, 3) := by decide +kernel
theorem dL_takings_47 : decode cL_takings 47 = .ok (.iload 7, 2) := by decide +kernel
theorem dL_takings_49 : decode cL_takings 49 = .ok (.iload 8, 2) := by decide +kernel
theorem dL_takings_51 : decode cL_takings 51 = .ok (.aload_n 2, 1) := by decide +kernel
theorem dL_takings_52 : decode cL_takings 52 = .ok (.aload_n 3, 1) := by decide +kernel
theorem dL_takings_53 : decode cL_takings 53 = .ok (.aload 4, 2) := by decide +kernel
theorem dL_takings_55 : decode cL_takings 55 = .ok (.aload 5, 2) := by decide +kernel
theorem dL_takings_57 : decode cL_takings 57 = .ok (.invokestatic 24, 3) := by decide +kernel
theorem dL_takings_60 : decode cL_takings 60 = .ok (.aload_n 2, 1) := by decide +kernel
theorem dL_takings_61 : decode cL_takings 61 = .ok (.iconst 1, 1) := by decide +kernel
theorem dL_takings_62 : decode cL_takings 62 = .ok (.iaload, 1) := by decide +kernel
theorem dL_takings_63 : decode cL_takings 63 = .ok (.imul, 1) := by decide +kernel
theorem dL_takings_64 : decode cL_takings 64 = .ok (.goto 4, 3) := by decide +kernel
theorem dL_takings_67 : decode cL_takings 67 = .ok (.iconst 0, 1) := by decide +kernel
theorem dL_takings_68 : decode cL_takings 68 = .ok (.iadd, 1) := by decide +kernel
theorem dL_takings_69 : decode cL_takings 69 = .ok (.istore 6, 2) := by decide +kernel
theorem dL_takings_71 : decode cL_takings 71 = .ok (.iinc 8 1, 3) := by decide +kernel
theorem dL_takings_74 : decode cL_takings 74 = .ok (.goto (-50), 3) := by decide +kernel
theorem dL_takings_77 : decode cL_takings 77 = .ok (.iinc 7 1, 3) := by decide +kernel
theorem dL_takings_80 : decode cL_takings 80 = .ok (.goto (-71), 3) := by decide +kernel
theorem dL_takings_83 : decode cL_takings 83 = .ok (.iload 6, 2) := by decide +kernel
theorem dL_takings_85 : decode cL_takings 85 = .ok (.ireturn, 1) := by decide +kernel
set_option maxRecDepth 20000 in
theorem ggL_share_L_shows : GoodIn wsL_share wsL_shows := goodIn_r _ [4] (by decide +kernel) (by decide +kernel)
set_option maxRecDepth 20000 in
theorem gL_share_L_shows : GoodIn wsL_share (va_wsS RL 27 yL_shows wsL_shows) := goodIn_app (goodIn_of _ (by decide +kernel)) ggL_share_L_shows
theorem dL_share_0 : decode cL_share 0 = .ok (.iconst 0, 1) := by decide +kernel
theorem dL_share_1 : decode cL_share 1 = .ok (.istore 5, 2) := by decide +kernel
theorem dL_share_3 : decode cL_share 3 = .ok (.iload 5, 2) := by decide +kernel
theorem dL_share_5 : decode cL_share 5 = .ok (.iload_n 1, 1) := by decide +kernel
theorem dL_share_6 : decode cL_share 6 = .ok (.if_icmp .gt 56, 3) := by decide +kernel
theorem dL_share_9 : decode cL_share 9 = .ok (.iload_n 0, 1) := by decide +kernel
theorem dL_share_10 : decode cL_share 10 = .ok (.iload 5, 2) := by decide +kernel
theorem dL_share_12 : decode cL_share 12 = .ok (.aload_n 3, 1) := by decide +kernel
theorem dL_share_13 : decode cL_share 13 = .ok (.aload 4, 2) := by decide +kernel
theorem dL_share_15 : decode cL_share 15 = .ok (.invokestatic 27, 3) := by decide +kernel
theorem dL_share_18 : decode cL_share 18 = .ok (.ifCond .ne 6, 3) := by decide +kernel
theorem dL_share_21 : decode cL_share 21 = .ok (.goto 35, 3) := by decide +kernel
theorem dL_share_24 : decode cL_share 24 = .ok (.aload_n 2, 1) := by decide +kernel
theorem dL_share_25 : decode cL_share 25 = .ok (.iconst 5, 1) := by decide +kernel
theorem dL_share_26 : decode cL_share 26 = .ok (.iload_n 0, 1) := by decide +kernel
theorem dL_share_27 : decode cL_share 27 = .ok (.imul, 1) := by decide +kernel
theorem dL_share_28 : decode cL_share 28 = .ok (.iconst 3, 1) := by decide +kernel
theorem dL_share_29 : decode cL_share 29 = .ok (.iadd, 1) := by decide +kernel
theorem dL_share_30 : decode cL_share 30 = .ok (.iaload, 1) := by decide +kernel
theorem dL_share_31 : decode cL_share 31 = .ok (.bipush 10, 2) := by decide +kernel
theorem dL_share_33 : decode cL_share 33 = .ok (.iload_n 1, 1) := by decide +kernel
theorem dL_share_34 : decode cL_share 34 = .ok (.iload 5, 2) := by decide +kernel
theorem dL_share_36 : decode cL_share 36 = .ok (.isub, 1) := by decide +kernel
theorem dL_share_37 : decode cL_share 37 = .ok (.imul, 1) := by decide +kernel
theorem dL_share_38 : decode cL_share 38 = .ok (.isub, 1) := by decide +kernel
theorem dL_share_39 : decode cL_share 39 = .ok (.istore 6, 2) := by decide +kernel
theorem dL_share_41 : decode cL_share 41 = .ok (.iload 6, 2) := by decide +kernel
theorem dL_share_43 : decode cL_share 43 = .ok (.bipush 20, 2) := by decide +kernel
theorem dL_share_45 : decode cL_share 45 = .ok (.if_icmp .ge 8, 3) := by decide +kernel
theorem dL_share_48 : decode cL_share 48 = .ok (.bipush 20, 2) := by decide +kernel
theorem dL_share_50 : decode cL_share 50 = .ok (.goto 5, 3) := by decide +kernel
theorem dL_share_53 : decode cL_share 53 = .ok (.iload 6, 2) := by decide +kernel
theorem dL_share_55 : decode cL_share 55 = .ok (.ireturn, 1) := by decide +kernel
theorem dL_share_56 : decode cL_share 56 = .ok (.iinc 5 1, 3) := by decide +kernel
theorem dL_share_59 : decode cL_share 59 = .ok (.goto (-56), 3) := by decide +kernel
theorem dL_share_62 : decode cL_share 62 = .ok (.bipush (-6), 2) := by decide +kernel
theorem dL_share_64 : decode cL_share 64 = .ok (.ireturn, 1) := by decide +kernel
set_option maxRecDepth 20000 in
theorem ggL_due_L_shows : GoodIn wsL_due wsL_shows := goodIn_r _ [4] (by decide +kernel) (by decide +kernel)
set_option maxRecDepth 20000 in
theorem gL_due_L_shows : GoodIn wsL_due (va_wsS RL 27 yL_shows wsL_shows) := goodIn_app (goodIn_of _ (by decide +kernel)) ggL_due_L_shows
set_option maxRecDepth 20000 in
theorem ggL_due_L_takings : GoodIn wsL_due wsL_takings := goodIn_r _ [7, 8, 9, 3, 10, 11, 12, 13, 14, 15, 16, 17, 18, 19] (by decide +kernel) (by decide +kernel)
set_option maxRecDepth 20000 in
theorem gL_due_L_takings : GoodIn wsL_due (va_wsS RL 30 yL_takings wsL_takings) := goodIn_app (goodIn_of _ (by decide +kernel)) ggL_due_L_takings
set_option maxRecDepth 20000 in
theorem ggL_due_L_share : GoodIn wsL_due wsL_share := goodIn_r _ [22, 1, 2, 3, 4] (by decide +kernel) (by decide +kernel)
set_option maxRecDepth 20000 in
theorem gL_due_L_share : GoodIn wsL_due (va_wsS RL 33 yL_share wsL_share) := goodIn_app (goodIn_of _ (by decide +kernel)) ggL_due_L_share
theorem dL_due_0 : decode cL_due 0 = .ok (.iload_n 0, 1) := by decide +kernel
theorem dL_due_1 : decode cL_due 1 = .ok (.iload_n 1, 1) := by decide +kernel
theorem dL_due_2 : decode cL_due 2 = .ok (.aload 4, 2) := by decide +kernel
theorem dL_due_4 : decode cL_due 4 = .ok (.aload 5, 2) := by decide +kernel
theorem dL_due_6 : decode cL_due 6 = .ok (.invokestatic 27, 3) := by decide +kernel
theorem dL_due_9 : decode cL_due 9 = .ok (.ifCond .ne 5, 3) := by decide +kernel
theorem dL_due_12 : decode cL_due 12 = .ok (.iconst 0, 1) := by decide +kernel
theorem dL_due_13 : decode cL_due 13 = .ok (.ireturn, 1) := by decide +kernel
theorem dL_due_14 : decode cL_due 14 = .ok (.iload_n 0, 1) := by decide +kernel
theorem dL_due_15 : decode cL_due 15 = .ok (.iload_n 1, 1) := by decide +kernel
theorem dL_due_16 : decode cL_due 16 = .ok (.aload_n 2, 1) := by decide +kernel
theorem dL_due_17 : decode cL_due 17 = .ok (.aload_n 3, 1) := by decide +kernel
theorem dL_due_18 : decode cL_due 18 = .ok (.aload 4, 2) := by decide +kernel
theorem dL_due_20 : decode cL_due 20 = .ok (.aload 5, 2) := by decide +kernel
theorem dL_due_22 : decode cL_due 22 = .ok (.invokestatic 30, 3) := by decide +kernel
theorem dL_due_25 : decode cL_due 25 = .ok (.iload_n 0, 1) := by decide +kernel
theorem dL_due_26 : decode cL_due 26 = .ok (.iload_n 1, 1) := by decide +kernel
theorem dL_due_27 : decode cL_due 27 = .ok (.aload_n 3, 1) := by decide +kernel
theorem dL_due_28 : decode cL_due 28 = .ok (.aload 4, 2) := by decide +kernel
theorem dL_due_30 : decode cL_due 30 = .ok (.aload 5, 2) := by decide +kernel
theorem dL_due_32 : decode cL_due 32 = .ok (.invokestatic 33, 3) := by decide +kernel
theorem dL_due_35 : decode cL_due 35 = .ok (.imul, 1) := by decide +kernel
theorem dL_due_36 : decode cL_due 36 = .ok (.bipush 100, 2) := by decide +kernel
theorem dL_due_38 : decode cL_due 38 = .ok (.idiv, 1) := by decide +kernel
theorem dL_due_39 : decode cL_due 39 = .ok (.istore 6, 2) := by decide +kernel
theorem dL_due_41 : decode cL_due 41 = .ok (.iload 6, 2) := by decide +kernel
theorem dL_due_43 : decode cL_due 43 = .ok (.aload_n 3, 1) := by decide +kernel
theorem dL_due_44 : decode cL_due 44 = .ok (.iconst 5, 1) := by decide +kernel
theorem dL_due_45 : decode cL_due 45 = .ok (.iload_n 0, 1) := by decide +kernel
theorem dL_due_46 : decode cL_due 46 = .ok (.imul, 1) := by decide +kernel
theorem dL_due_47 : decode cL_due 47 = .ok (.iconst 2, 1) := by decide +kernel
theorem dL_due_48 : decode cL_due 48 = .ok (.iadd, 1) := by decide +kernel
theorem dL_due_49 : decode cL_due 49 = .ok (.iaload, 1) := by decide +kernel
theorem dL_due_50 : decode cL_due 50 = .ok (.if_icmp .ge 13, 3) := by decide +kernel
theorem dL_due_53 : decode cL_due 53 = .ok (.aload_n 3, 1) := by decide +kernel
theorem dL_due_54 : decode cL_due 54 = .ok (.iconst 5, 1) := by decide +kernel
theorem dL_due_55 : decode cL_due 55 = .ok (.iload_n 0, 1) := by decide +kernel
theorem dL_due_56 : decode cL_due 56 = .ok (.imul, 1) := by decide +kernel
theorem dL_due_57 : decode cL_due 57 = .ok (.iconst 2, 1) := by decide +kernel
theorem dL_due_58 : decode cL_due 58 = .ok (.iadd, 1) := by decide +kernel
theorem dL_due_59 : decode cL_due 59 = .ok (.iaload, 1) := by decide +kernel
theorem dL_due_60 : decode cL_due 60 = .ok (.goto 5, 3) := by decide +kernel
theorem dL_due_63 : decode cL_due 63 = .ok (.iload 6, 2) := by decide +kernel
theorem dL_due_65 : decode cL_due 65 = .ok (.ireturn, 1) := by decide +kernel
set_option maxRecDepth 20000 in
theorem ggL_left_L_takings : GoodIn wsL_left wsL_takings := goodIn_r _ [4, 5, 6, 3, 7, 8, 9, 10, 11, 12, 13, 14, 15, 16] (by decide +kernel) (by decide +kernel)
set_option maxRecDepth 20000 in
theorem gL_left_L_takings : GoodIn wsL_left (va_wsS RL 30 yL_takings wsL_takings) := goodIn_app (goodIn_of _ (by decide +kernel)) ggL_left_L_takings
set_option maxRecDepth 20000 in
theorem ggL_left_L_due : GoodIn wsL_left wsL_due := goodIn_r _ [19, 20, 21, 3, 22, 1, 2, 4, 5, 6, 7, 8, 9, 10, 11, 12, 13, 14, 15, 16, 23, 24, 25] (by decide +kernel) (by decide +kernel)
set_option maxRecDepth 20000 in
theorem gL_left_L_due : GoodIn wsL_left (va_wsS RL 37 yL_due wsL_due) := goodIn_app (goodIn_of _ (by decide +kernel)) ggL_left_L_due
set_option maxRecDepth 20000 in
theorem ggL_left_L_shows : GoodIn wsL_left wsL_shows := goodIn_r _ [22] (by decide +kernel) (by decide +kernel)
set_option maxRecDepth 20000 in
theorem gL_left_L_shows : GoodIn wsL_left (va_wsS RL 27 yL_shows wsL_shows) := goodIn_app (goodIn_of _ (by decide +kernel)) ggL_left_L_shows
theorem dL_left_0 : decode cL_left 0 = .ok (.iconst 0, 1) := by decide +kernel
theorem dL_left_1 : decode cL_left 1 = .ok (.istore 5, 2) := by decide +kernel
theorem dL_left_3 : decode cL_left 3 = .ok (.iconst 0, 1) := by decide +kernel
theorem dL_left_4 : decode cL_left 4 = .ok (.istore 6, 2) := by decide +kernel
theorem dL_left_6 : decode cL_left 6 = .ok (.iload 6, 2) := by decide +kernel
theorem dL_left_8 : decode cL_left 8 = .ok (.iconst 5, 1) := by decide +kernel
theorem dL_left_9 : decode cL_left 9 = .ok (.if_icmp .ge 68, 3) := by decide +kernel
theorem dL_left_12 : decode cL_left 12 = .ok (.iconst 0, 1) := by decide +kernel
theorem dL_left_13 : decode cL_left 13 = .ok (.istore 7, 2) := by decide +kernel
theorem dL_left_15 : decode cL_left 15 = .ok (.iload 7, 2) := by decide +kernel
theorem dL_left_17 : decode cL_left 17 = .ok (.aload_n 0, 1) := by decide +kernel
theorem dL_left_18 : decode cL_left 18 = .ok (.iconst 5, 1) := by decide +kernel
theorem dL_left_19 : decode cL_left 19 = .ok (.iaload, 1) := by decide +kernel
theorem dL_left_20 : decode cL_left 20 = .ok (.if_icmp .ge 51, 3) := by decide +kernel
theorem dL_left_23 : decode cL_left 23 = .ok (.iload 5, 2) := by decide +kernel
theorem dL_left_25 : decode cL_left 25 = .ok (.iload 7, 2) := by decide +kernel
theorem dL_left_27 : decode cL_left 27 = .ok (.iload 6, 2) := by decide +kernel
theorem dL_left_29 : decode cL_left 29 = .ok (.aload_n 0, 1) := by decide +kernel
theorem dL_left_30 : decode cL_left 30 = .ok (.aload_n 1, 1) := by decide +kernel
theorem dL_left_31 : decode cL_left 31 = .ok (.aload_n 2, 1) := by decide +kernel
theorem dL_left_32 : decode cL_left 32 = .ok (.aload_n 3, 1) := by decide +kernel
theorem dL_left_33 : decode cL_left 33 = .ok (.invokestatic 30, 3) := by decide +kernel
theorem dL_left_36 : decode cL_left 36 = .ok (.iload 7, 2) := by decide +kernel
theorem dL_left_38 : decode cL_left 38 = .ok (.iload 6, 2) := by decide +kernel
theorem dL_left_40 : decode cL_left 40 = .ok (.aload_n 0, 1) := by decide +kernel
theorem dL_left_41 : decode cL_left 41 = .ok (.aload_n 1, 1) := by decide +kernel
theorem dL_left_42 : decode cL_left 42 = .ok (.aload_n 2, 1) := by decide +kernel
theorem dL_left_43 : decode cL_left 43 = .ok (.aload_n 3, 1) := by decide +kernel
theorem dL_left_44 : decode cL_left 44 = .ok (.invokestatic 37, 3) := by decide +kernel
theorem dL_left_47 : decode cL_left 47 = .ok (.isub, 1) := by decide +kernel
theorem dL_left_48 : decode cL_left 48 = .ok (.aload_n 0, 1) := by decide +kernel
theorem dL_left_49 : decode cL_left 49 = .ok (.iconst 2, 1) := by decide +kernel
theorem dL_left_50 : decode cL_left 50 = .ok (.iaload, 1) := by decide +kernel
theorem dL_left_51 : decode cL_left 51 = .ok (.iload 7, 2) := by decide +kernel
theorem dL_left_53 : decode cL_left 53 = .ok (.iload 6, 2) := by decide +kernel
theorem dL_left_55 : decode cL_left 55 = .ok (.aload_n 2, 1) := by decide +kernel
theorem dL_left_56 : decode cL_left 56 = .ok (.aload_n 3, 1) := by decide +kernel
theorem dL_left_57 : decode cL_left 57 = .ok (.invokestatic 27, 3) := by decide +kernel
theorem dL_left_60 : decode cL_left 60 = .ok (.imul, 1) := by decide +kernel
theorem dL_left_61 : decode cL_left 61 = .ok (.isub, 1) := by decide +kernel
theorem dL_left_62 : decode cL_left 62 = .ok (.iadd, 1) := by decide +kernel
theorem dL_left_63 : decode cL_left 63 = .ok (.istore 5, 2) := by decide +kernel
theorem dL_left_65 : decode cL_left 65 = .ok (.iinc 7 1, 3) := by decide +kernel
theorem dL_left_68 : decode cL_left 68 = .ok (.goto (-53), 3) := by decide +kernel
theorem dL_left_71 : decode cL_left 71 = .ok (.iinc 6 1, 3) := by decide +kernel
theorem dL_left_74 : decode cL_left 74 = .ok (.goto (-68), 3) := by decide +kernel
theorem dL_left_77 : decode cL_left 77 = .ok (.iconst 0, 1) := by decide +kernel
theorem dL_left_78 : decode cL_left 78 = .ok (.istore 6, 2) := by decide +kernel
theorem dL_left_80 : decode cL_left 80 = .ok (.iload 6, 2) := by decide +kernel
theorem dL_left_82 : decode cL_left 82 = .ok (.bipush 35, 2) := by decide +kernel
theorem dL_left_84 : decode cL_left 84 = .ok (.if_icmp .ge 19, 3) := by decide +kernel
theorem dL_left_87 : decode cL_left 87 = .ok (.iload 5, 2) := by decide +kernel
theorem dL_left_89 : decode cL_left 89 = .ok (.aload 4, 2) := by decide +kernel
theorem dL_left_91 : decode cL_left 91 = .ok (.iload 6, 2) := by decide +kernel
theorem dL_left_93 : decode cL_left 93 = .ok (.iaload, 1) := by decide +kernel
theorem dL_left_94 : decode cL_left 94 = .ok (.iadd, 1) := by decide +kernel
theorem dL_left_95 : decode cL_left 95 = .ok (.istore 5, 2) := by decide +kernel
theorem dL_left_97 : decode cL_left 97 = .ok (.iinc 6 1, 3) := by decide +kernel
theorem dL_left_100 : decode cL_left 100 = .ok (.goto (-20), 3) := by decide +kernel
theorem dL_left_103 : decode cL_left 103 = .ok (.iload 5, 2) := by decide +kernel
theorem dL_left_105 : decode cL_left 105 = .ok (.ireturn, 1) := by decide +kernel

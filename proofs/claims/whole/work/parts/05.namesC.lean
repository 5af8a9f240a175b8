theorem dX5_init_0 : decode cX5_init 0 = .ok (.aload_n 0, 1) := by decide +kernel
theorem dX5_init_1 : decode cX5_init 1 = .ok (.invokespecial 1, 3) := by decide +kernel
theorem dX5_init_4 : decode cX5_init 4 = .ok (.aload_n 0, 1) := by decide +kernel
theorem dX5_init_5 : decode cX5_init 5 = .ok (.sipush 151, 3) := by decide +kernel
theorem dX5_init_8 : decode cX5_init 8 = .ok (.newarray .int, 2) := by decide +kernel
theorem dX5_init_10 : decode cX5_init 10 = .ok (.putfield 7, 3) := by decide +kernel
theorem dX5_init_13 : decode cX5_init 13 = .ok (.aload_n 0, 1) := by decide +kernel
theorem dX5_init_14 : decode cX5_init 14 = .ok (.sipush 906, 3) := by decide +kernel
theorem dX5_init_17 : decode cX5_init 17 = .ok (.newarray .int, 2) := by decide +kernel
theorem dX5_init_19 : decode cX5_init 19 = .ok (.putfield 13, 3) := by decide +kernel
theorem dX5_init_22 : decode cX5_init 22 = .ok (.aload_n 0, 1) := by decide +kernel
theorem dX5_init_23 : decode cX5_init 23 = .ok (.sipush 302, 3) := by decide +kernel
theorem dX5_init_26 : decode cX5_init 26 = .ok (.newarray .int, 2) := by decide +kernel
theorem dX5_init_28 : decode cX5_init 28 = .ok (.putfield 16, 3) := by decide +kernel
theorem dX5_init_31 : decode cX5_init 31 = .ok (.aload_n 0, 1) := by decide +kernel
theorem dX5_init_32 : decode cX5_init 32 = .ok (.iconst 2, 1) := by decide +kernel
theorem dX5_init_33 : decode cX5_init 33 = .ok (.newarray .int, 2) := by decide +kernel
theorem dX5_init_35 : decode cX5_init 35 = .ok (.putfield 19, 3) := by decide +kernel
theorem dX5_init_38 : decode cX5_init 38 = .ok (.aload_n 0, 1) := by decide +kernel
theorem dX5_init_39 : decode cX5_init 39 = .ok (.bipush 60, 2) := by decide +kernel
theorem dX5_init_41 : decode cX5_init 41 = .ok (.newarray .int, 2) := by decide +kernel
theorem dX5_init_43 : decode cX5_init 43 = .ok (.putfield 22, 3) := by decide +kernel
theorem dX5_init_46 : decode cX5_init 46 = .ok (.aload_n 0, 1) := by decide +kernel
theorem dX5_init_47 : decode cX5_init 47 = .ok (.bipush 70, 2) := by decide +kernel
theorem dX5_init_49 : decode cX5_init 49 = .ok (.newarray .int, 2) := by decide +kernel
theorem dX5_init_51 : decode cX5_init 51 = .ok (.putfield 25, 3) := by decide +kernel
theorem dX5_init_54 : decode cX5_init 54 = .ok (.aload_n 0, 1) := by decide +kernel
theorem dX5_init_55 : decode cX5_init 55 = .ok (.bipush 70, 2) := by decide +kernel
theorem dX5_init_57 : decode cX5_init 57 = .ok (.newarray .int, 2) := by decide +kernel
theorem dX5_init_59 : decode cX5_init 59 = .ok (.putfield 28, 3) := by decide +kernel
theorem dX5_init_62 : decode cX5_init 62 = .ok (.aload_n 0, 1) := by decide +kernel
theorem dX5_init_63 : decode cX5_init 63 = .ok (.bipush 8, 2) := by decide +kernel
theorem dX5_init_65 : decode cX5_init 65 = .ok (.newarray .int, 2) := by decide +kernel
theorem dX5_init_67 : decode cX5_init 67 = .ok (.putfield 31, 3) := by decide +kernel
theorem dX5_init_70 : decode cX5_init 70 = .ok (.aload_n 0, 1) := by decide +kernel
theorem dX5_init_71 : decode cX5_init 71 = .ok (.bipush 40, 2) := by decide +kernel
theorem dX5_init_73 : decode cX5_init 73 = .ok (.newarray .int, 2) := by decide +kernel
theorem dX5_init_75 : decode cX5_init 75 = .ok (.putfield 34, 3) := by decide +kernel
theorem dX5_init_78 : decode cX5_init 78 = .ok (.aload_n 0, 1) := by decide +kernel
theorem dX5_init_79 : decode cX5_init 79 = .ok (.bipush 40, 2) := by decide +kernel
theorem dX5_init_81 : decode cX5_init 81 = .ok (.newarray .int, 2) := by decide +kernel
theorem dX5_init_83 : decode cX5_init 83 = .ok (.putfield 37, 3) := by decide +kernel
theorem dX5_init_86 : decode cX5_init 86 = .ok (.aload_n 0, 1) := by decide +kernel
theorem dX5_init_87 : decode cX5_init 87 = .ok (.bipush 40, 2) := by decide +kernel
theorem dX5_init_89 : decode cX5_init 89 = .ok (.newarray .int, 2) := by decide +kernel
theorem dX5_init_91 : decode cX5_init 91 = .ok (.putfield 40, 3) := by decide +kernel
theorem dX5_init_94 : decode cX5_init 94 = .ok (.aload_n 0, 1) := by decide +kernel
theorem dX5_init_95 : decode cX5_init 95 = .ok (.bipush 40, 2) := by decide +kernel
theorem dX5_init_97 : decode cX5_init 97 = .ok (.newarray .int, 2) := by decide +kernel
theorem dX5_init_99 : decode cX5_init 99 = .ok (.putfield 43, 3) := by decide +kernel
theorem dX5_init_102 : decode cX5_init 102 = .ok (.aload_n 0, 1) := by decide +kernel
theorem dX5_init_103 : decode cX5_init 103 = .ok (.getfield 7, 3) := by decide +kernel
theorem dX5_init_106 : decode cX5_init 106 = .ok (.iconst 0, 1) := by decide +kernel
theorem dX5_init_107 : decode cX5_init 107 = .ok (.bipush 80, 2) := by decide +kernel
theorem dX5_init_109 : decode cX5_init 109 = .ok (.iastore, 1) := by decide +kernel
theorem dX5_init_110 : decode cX5_init 110 = .ok (.aload_n 0, 1) := by decide +kernel
theorem dX5_init_111 : decode cX5_init 111 = .ok (.getfield 7, 3) := by decide +kernel
theorem dX5_init_114 : decode cX5_init 114 = .ok (.iconst 1, 1) := by decide +kernel
theorem dX5_init_115 : decode cX5_init 115 = .ok (.bipush 6, 2) := by decide +kernel
theorem dX5_init_117 : decode cX5_init 117 = .ok (.iastore, 1) := by decide +kernel
theorem dX5_init_118 : decode cX5_init 118 = .ok (.aload_n 0, 1) := by decide +kernel
theorem dX5_init_119 : decode cX5_init 119 = .ok (.getfield 7, 3) := by decide +kernel
theorem dX5_init_122 : decode cX5_init 122 = .ok (.iconst 2, 1) := by decide +kernel
theorem dX5_init_123 : decode cX5_init 123 = .ok (.bipush 30, 2) := by decide +kernel
theorem dX5_init_125 : decode cX5_init 125 = .ok (.iastore, 1) := by decide +kernel
theorem dX5_init_126 : decode cX5_init 126 = .ok (.aload_n 0, 1) := by decide +kernel
theorem dX5_init_127 : decode cX5_init 127 = .ok (.getfield 7, 3) := by decide +kernel
theorem dX5_init_130 : decode cX5_init 130 = .ok (.iconst 3, 1) := by decide +kernel
theorem dX5_init_131 : decode cX5_init 131 = .ok (.bipush 40, 2) := by decide +kernel
theorem dX5_init_133 : decode cX5_init 133 = .ok (.iastore, 1) := by decide +kernel
theorem dX5_init_134 : decode cX5_init 134 = .ok (.aload_n 0, 1) := by decide +kernel
theorem dX5_init_135 : decode cX5_init 135 = .ok (.getfield 7, 3) := by decide +kernel
theorem dX5_init_138 : decode cX5_init 138 = .ok (.iconst 4, 1) := by decide +kernel
theorem dX5_init_139 : decode cX5_init 139 = .ok (.bipush 20, 2) := by decide +kernel
theorem dX5_init_141 : decode cX5_init 141 = .ok (.iastore, 1) := by decide +kernel
theorem dX5_init_142 : decode cX5_init 142 = .ok (.iconst 0, 1) := by decide +kernel
theorem dX5_init_143 : decode cX5_init 143 = .ok (.istore_n 1, 1) := by decide +kernel
theorem dX5_init_144 : decode cX5_init 144 = .ok (.iload_n 1, 1) := by decide +kernel
theorem dX5_init_145 : decode cX5_init 145 = .ok (.bipush 70, 2) := by decide +kernel
theorem dX5_init_147 : decode cX5_init 147 = .ok (.if_icmp .ge 20, 3) := by decide +kernel
theorem dX5_init_150 : decode cX5_init 150 = .ok (.aload_n 0, 1) := by decide +kernel
theorem dX5_init_151 : decode cX5_init 151 = .ok (.getfield 7, 3) := by decide +kernel
theorem dX5_init_154 : decode cX5_init 154 = .ok (.bipush 46, 2) := by decide +kernel
theorem dX5_init_156 : decode cX5_init 156 = .ok (.iload_n 1, 1) := by decide +kernel
theorem dX5_init_157 : decode cX5_init 157 = .ok (.iadd, 1) := by decide +kernel
theorem dX5_init_158 : decode cX5_init 158 = .ok (.bipush (-6), 2) := by decide +kernel
theorem dX5_init_160 : decode cX5_init 160 = .ok (.iastore, 1) := by decide +kernel
theorem dX5_init_161 : decode cX5_init 161 = .ok (.iinc 1 1, 3) := by decide +kernel
theorem dX5_init_164 : decode cX5_init 164 = .ok (.goto (-20), 3) := by decide +kernel
theorem dX5_init_167 : decode cX5_init 167 = .ok (.return_, 1) := by decide +kernel
theorem dX5_moves_0 : decode cX5_moves 0 = .ok (.iconst 0, 1) := by decide +kernel
theorem dX5_moves_1 : decode cX5_moves 1 = .ok (.istore 4, 2) := by decide +kernel
theorem dX5_moves_3 : decode cX5_moves 3 = .ok (.iload 4, 2) := by decide +kernel
theorem dX5_moves_5 : decode cX5_moves 5 = .ok (.sipush 151, 3) := by decide +kernel
theorem dX5_moves_8 : decode cX5_moves 8 = .ok (.if_icmp .ge 21, 3) := by decide +kernel
theorem dX5_moves_11 : decode cX5_moves 11 = .ok (.aload_n 2, 1) := by decide +kernel
theorem dX5_moves_12 : decode cX5_moves 12 = .ok (.iload_n 3, 1) := by decide +kernel
theorem dX5_moves_13 : decode cX5_moves 13 = .ok (.iload 4, 2) := by decide +kernel
theorem dX5_moves_15 : decode cX5_moves 15 = .ok (.iadd, 1) := by decide +kernel
theorem dX5_moves_16 : decode cX5_moves 16 = .ok (.aload_n 0, 1) := by decide +kernel
theorem dX5_moves_17 : decode cX5_moves 17 = .ok (.iload_n 1, 1) := by decide +kernel
theorem dX5_moves_18 : decode cX5_moves 18 = .ok (.iload 4, 2) := by decide +kernel
theorem dX5_moves_20 : decode cX5_moves 20 = .ok (.iadd, 1) := by decide +kernel
theorem dX5_moves_21 : decode cX5_moves 21 = .ok (.iaload, 1) := by decide +kernel
theorem dX5_moves_22 : decode cX5_moves 22 = .ok (.iastore, 1) := by decide +kernel
theorem dX5_moves_23 : decode cX5_moves 23 = .ok (.iinc 4 1, 3) := by decide +kernel
theorem dX5_moves_26 : decode cX5_moves 26 = .ok (.goto (-23), 3) := by decide +kernel
theorem dX5_moves_29 : decode cX5_moves 29 = .ok (.return_, 1) := by decide +kernel
theorem dX5_within_0 : decode cX5_within 0 = .ok (.iload_n 0, 1) := by decide +kernel
theorem dX5_within_1 : decode cX5_within 1 = .ok (.iload_n 1, 1) := by decide +kernel
theorem dX5_within_2 : decode cX5_within 2 = .ok (.if_icmp .lt 12, 3) := by decide +kernel
theorem dX5_within_5 : decode cX5_within 5 = .ok (.iload_n 0, 1) := by decide +kernel
theorem dX5_within_6 : decode cX5_within 6 = .ok (.iload_n 2, 1) := by decide +kernel
theorem dX5_within_7 : decode cX5_within 7 = .ok (.if_icmp .gt 7, 3) := by decide +kernel
theorem dX5_within_10 : decode cX5_within 10 = .ok (.iconst 1, 1) := by decide +kernel
theorem dX5_within_11 : decode cX5_within 11 = .ok (.goto 4, 3) := by decide +kernel
theorem dX5_within_14 : decode cX5_within 14 = .ok (.iconst 0, 1) := by decide +kernel
theorem dX5_within_15 : decode cX5_within 15 = .ok (.ireturn, 1) := by decide +kernel
set_option maxRecDepth 20000 in
theorem ggX5_record_X5_moves : GoodIn wsX5_record wsX5_moves := goodIn_r _ [7] (by decide +kernel) (by decide +kernel)
set_option maxRecDepth 20000 in
theorem gX5_record_X5_moves : GoodIn wsX5_record (va_wsS RX5 50 yX5_moves wsX5_moves) := goodIn_app (goodIn_of _ (by decide +kernel)) ggX5_record_X5_moves
theorem dX5_record_0 : decode cX5_record 0 = .ok (.aload_n 0, 1) := by decide +kernel
theorem dX5_record_1 : decode cX5_record 1 = .ok (.getfield 46, 3) := by decide +kernel
theorem dX5_record_4 : decode cX5_record 4 = .ok (.bipush 6, 2) := by decide +kernel
theorem dX5_record_6 : decode cX5_record 6 = .ok (.if_icmp .ne 44, 3) := by decide +kernel
theorem dX5_record_9 : decode cX5_record 9 = .ok (.iconst 0, 1) := by decide +kernel
theorem dX5_record_10 : decode cX5_record 10 = .ok (.istore_n 1, 1) := by decide +kernel
theorem dX5_record_11 : decode cX5_record 11 = .ok (.iload_n 1, 1) := by decide +kernel
theorem dX5_record_12 : decode cX5_record 12 = .ok (.sipush 755, 3) := by decide +kernel
theorem dX5_record_15 : decode cX5_record 15 = .ok (.if_icmp .ge 25, 3) := by decide +kernel
theorem dX5_record_18 : decode cX5_record 18 = .ok (.aload_n 0, 1) := by decide +kernel
theorem dX5_record_19 : decode cX5_record 19 = .ok (.getfield 13, 3) := by decide +kernel
theorem dX5_record_22 : decode cX5_record 22 = .ok (.iload_n 1, 1) := by decide +kernel
theorem dX5_record_23 : decode cX5_record 23 = .ok (.aload_n 0, 1) := by decide +kernel
theorem dX5_record_24 : decode cX5_record 24 = .ok (.getfield 13, 3) := by decide +kernel
theorem dX5_record_27 : decode cX5_record 27 = .ok (.iload_n 1, 1) := by decide +kernel
theorem dX5_record_28 : decode cX5_record 28 = .ok (.sipush 151, 3) := by decide +kernel
theorem dX5_record_31 : decode cX5_record 31 = .ok (.iadd, 1) := by decide +kernel
theorem dX5_record_32 : decode cX5_record 32 = .ok (.iaload, 1) := by decide +kernel
theorem dX5_record_33 : decode cX5_record 33 = .ok (.iastore, 1) := by decide +kernel
theorem dX5_record_34 : decode cX5_record 34 = .ok (.iinc 1 1, 3) := by decide +kernel
theorem dX5_record_37 : decode cX5_record 37 = .ok (.goto (-26), 3) := by decide +kernel
theorem dX5_record_40 : decode cX5_record 40 = .ok (.aload_n 0, 1) := by decide +kernel
theorem dX5_record_41 : decode cX5_record 41 = .ok (.dup, 1) := by decide +kernel
theorem dX5_record_42 : decode cX5_record 42 = .ok (.getfield 46, 3) := by decide +kernel
theorem dX5_record_45 : decode cX5_record 45 = .ok (.iconst 1, 1) := by decide +kernel
theorem dX5_record_46 : decode cX5_record 46 = .ok (.isub, 1) := by decide +kernel
theorem dX5_record_47 : decode cX5_record 47 = .ok (.putfield 46, 3) := by decide +kernel
theorem dX5_record_50 : decode cX5_record 50 = .ok (.aload_n 0, 1) := by decide +kernel
theorem dX5_record_51 : decode cX5_record 51 = .ok (.getfield 7, 3) := by decide +kernel
theorem dX5_record_54 : decode cX5_record 54 = .ok (.iconst 0, 1) := by decide +kernel
theorem dX5_record_55 : decode cX5_record 55 = .ok (.aload_n 0, 1) := by decide +kernel
theorem dX5_record_56 : decode cX5_record 56 = .ok (.getfield 13, 3) := by decide +kernel
theorem dX5_record_59 : decode cX5_record 59 = .ok (.aload_n 0, 1) := by decide +kernel
theorem dX5_record_60 : decode cX5_record 60 = .ok (.getfield 46, 3) := by decide +kernel
theorem dX5_record_63 : decode cX5_record 63 = .ok (.sipush 151, 3) := by decide +kernel
theorem dX5_record_66 : decode cX5_record 66 = .ok (.imul, 1) := by decide +kernel
theorem dX5_record_67 : decode cX5_record 67 = .ok (.invokestatic 50, 3) := by decide +kernel
theorem dX5_record_70 : decode cX5_record 70 = .ok (.aload_n 0, 1) := by decide +kernel
theorem dX5_record_71 : decode cX5_record 71 = .ok (.dup, 1) := by decide +kernel
theorem dX5_record_72 : decode cX5_record 72 = .ok (.getfield 46, 3) := by decide +kernel
theorem dX5_record_75 : decode cX5_record 75 = .ok (.iconst 1, 1) := by decide +kernel
theorem dX5_record_76 : decode cX5_record 76 = .ok (.iadd, 1) := by decide +kernel
theorem dX5_record_77 : decode cX5_record 77 = .ok (.putfield 46, 3) := by decide +kernel
theorem dX5_record_80 : decode cX5_record 80 = .ok (.return_, 1) := by decide +kernel
set_option maxRecDepth 20000 in
theorem ggX5_isFilm_X5_within : GoodIn wsX5_isFilm wsX5_within := goodIn_r _ [5] (by decide +kernel) (by decide +kernel)
set_option maxRecDepth 20000 in
theorem gX5_isFilm_X5_within : GoodIn wsX5_isFilm (va_wsS RX5 54 yX5_within wsX5_within) := goodIn_app (goodIn_of _ (by decide +kernel)) ggX5_isFilm_X5_within
theorem dX5_isFilm_0 : decode cX5_isFilm 0 = .ok (.iload_n 1, 1) := by decide +kernel
theorem dX5_isFilm_1 : decode cX5_isFilm 1 = .ok (.iconst 0, 1) := by decide +kernel
theorem dX5_isFilm_2 : decode cX5_isFilm 2 = .ok (.aload_n 0, 1) := by decide +kernel
theorem dX5_isFilm_3 : decode cX5_isFilm 3 = .ok (.getfield 7, 3) := by decide +kernel
theorem dX5_isFilm_6 : decode cX5_isFilm 6 = .ok (.iconst 5, 1) := by decide +kernel
theorem dX5_isFilm_7 : decode cX5_isFilm 7 = .ok (.iaload, 1) := by decide +kernel
theorem dX5_isFilm_8 : decode cX5_isFilm 8 = .ok (.iconst 1, 1) := by decide +kernel
theorem dX5_isFilm_9 : decode cX5_isFilm 9 = .ok (.isub, 1) := by decide +kernel
theorem dX5_isFilm_10 : decode cX5_isFilm 10 = .ok (.invokestatic 54, 3) := by decide +kernel
theorem dX5_isFilm_13 : decode cX5_isFilm 13 = .ok (.ireturn, 1) := by decide +kernel
theorem dX5_filmPart_0 : decode cX5_filmPart 0 = .ok (.aload_n 0, 1) := by decide +kernel
theorem dX5_filmPart_1 : decode cX5_filmPart 1 = .ok (.getfield 7, 3) := by decide +kernel
theorem dX5_filmPart_4 : decode cX5_filmPart 4 = .ok (.bipush 6, 2) := by decide +kernel
theorem dX5_filmPart_6 : decode cX5_filmPart 6 = .ok (.iconst 5, 1) := by decide +kernel
theorem dX5_filmPart_7 : decode cX5_filmPart 7 = .ok (.iload_n 1, 1) := by decide +kernel
theorem dX5_filmPart_8 : decode cX5_filmPart 8 = .ok (.imul, 1) := by decide +kernel
theorem dX5_filmPart_9 : decode cX5_filmPart 9 = .ok (.iadd, 1) := by decide +kernel
theorem dX5_filmPart_10 : decode cX5_filmPart 10 = .ok (.iload_n 2, 1) := by decide +kernel
theorem dX5_filmPart_11 : decode cX5_filmPart 11 = .ok (.iadd, 1) := by decide +kernel
theorem dX5_filmPart_12 : decode cX5_filmPart 12 = .ok (.iaload, 1) := by decide +kernel
theorem dX5_filmPart_13 : decode cX5_filmPart 13 = .ok (.ireturn, 1) := by decide +kernel
set_option maxRecDepth 20000 in
theorem ggX5_isPart_X5_within : GoodIn wsX5_isPart wsX5_within := goodIn_r _ [4] (by decide +kernel) (by decide +kernel)
set_option maxRecDepth 20000 in
theorem gX5_isPart_X5_within : GoodIn wsX5_isPart (va_wsS RX5 54 yX5_within wsX5_within) := goodIn_app (goodIn_of _ (by decide +kernel)) ggX5_isPart_X5_within
theorem dX5_isPart_0 : decode cX5_isPart 0 = .ok (.iload_n 0, 1) := by decide +kernel
theorem dX5_isPart_1 : decode cX5_isPart 1 = .ok (.iconst 0, 1) := by decide +kernel
theorem dX5_isPart_2 : decode cX5_isPart 2 = .ok (.bipush 34, 2) := by decide +kernel
theorem dX5_isPart_4 : decode cX5_isPart 4 = .ok (.invokestatic 54, 3) := by decide +kernel
theorem dX5_isPart_7 : decode cX5_isPart 7 = .ok (.ifCond .eq 16, 3) := by decide +kernel
theorem dX5_isPart_10 : decode cX5_isPart 10 = .ok (.iload_n 1, 1) := by decide +kernel
theorem dX5_isPart_11 : decode cX5_isPart 11 = .ok (.iconst 0, 1) := by decide +kernel
theorem dX5_isPart_12 : decode cX5_isPart 12 = .ok (.iconst 1, 1) := by decide +kernel
theorem dX5_isPart_13 : decode cX5_isPart 13 = .ok (.invokestatic 54, 3) := by decide +kernel
theorem dX5_isPart_16 : decode cX5_isPart 16 = .ok (.ifCond .eq 7, 3) := by decide +kernel
theorem dX5_isPart_19 : decode cX5_isPart 19 = .ok (.iconst 1, 1) := by decide +kernel
theorem dX5_isPart_20 : decode cX5_isPart 20 = .ok (.goto 4, 3) := by decide +kernel
theorem dX5_isPart_23 : decode cX5_isPart 23 = .ok (.iconst 0, 1) := by decide +kernel
theorem dX5_isPart_24 : decode cX5_isPart 24 = .ok (.ireturn, 1) := by decide +kernel
theorem dX5_showAt_0 : decode cX5_showAt 0 = .ok (.aload_n 0, 1) := by decide +kernel
theorem dX5_showAt_1 : decode cX5_showAt 1 = .ok (.getfield 7, 3) := by decide +kernel
theorem dX5_showAt_4 : decode cX5_showAt 4 = .ok (.bipush 46, 2) := by decide +kernel
theorem dX5_showAt_6 : decode cX5_showAt 6 = .ok (.iconst 2, 1) := by decide +kernel
theorem dX5_showAt_7 : decode cX5_showAt 7 = .ok (.iload_n 1, 1) := by decide +kernel
theorem dX5_showAt_8 : decode cX5_showAt 8 = .ok (.imul, 1) := by decide +kernel
theorem dX5_showAt_9 : decode cX5_showAt 9 = .ok (.iadd, 1) := by decide +kernel
theorem dX5_showAt_10 : decode cX5_showAt 10 = .ok (.iload_n 2, 1) := by decide +kernel
theorem dX5_showAt_11 : decode cX5_showAt 11 = .ok (.iadd, 1) := by decide +kernel
theorem dX5_showAt_12 : decode cX5_showAt 12 = .ok (.iaload, 1) := by decide +kernel
theorem dX5_showAt_13 : decode cX5_showAt 13 = .ok (.ireturn, 1) := by decide +kernel
theorem dX5_isLet_0 : decode cX5_isLet 0 = .ok (.aload_n 0, 1) := by decide +kernel
theorem dX5_isLet_1 : decode cX5_isLet 1 = .ok (.getfield 7, 3) := by decide +kernel
theorem dX5_isLet_4 : decode cX5_isLet 4 = .ok (.bipush 116, 2) := by decide +kernel
theorem dX5_isLet_6 : decode cX5_isLet 6 = .ok (.iload_n 1, 1) := by decide +kernel
theorem dX5_isLet_7 : decode cX5_isLet 7 = .ok (.iadd, 1) := by decide +kernel
theorem dX5_isLet_8 : decode cX5_isLet 8 = .ok (.iaload, 1) := by decide +kernel
theorem dX5_isLet_9 : decode cX5_isLet 9 = .ok (.ifCond .le 7, 3) := by decide +kernel
theorem dX5_isLet_12 : decode cX5_isLet 12 = .ok (.iconst 1, 1) := by decide +kernel
theorem dX5_isLet_13 : decode cX5_isLet 13 = .ok (.goto 4, 3) := by decide +kernel
theorem dX5_isLet_16 : decode cX5_isLet 16 = .ok (.iconst 0, 1) := by decide +kernel
theorem dX5_isLet_17 : decode cX5_isLet 17 = .ok (.ireturn, 1) := by decide +kernel
set_option maxRecDepth 20000 in
theorem ggX5_fade_X5_filmPart : GoodIn wsX5_fade wsX5_filmPart := goodIn_r _ [7, 1, 8, 9, 10, 11, 12, 13, 14, 15, 16, 17, 18, 19, 20, 21, 22, 23, 24, 25] (by decide +kernel) (by decide +kernel)
set_option maxRecDepth 20000 in
theorem gX5_fade_X5_filmPart : GoodIn wsX5_fade (wsV RX5 58 RX5 yX5_filmPart wsX5_filmPart) := goodIn_app (goodIn_of _ (by decide +kernel)) ggX5_fade_X5_filmPart
theorem dX5_fade_0 : decode cX5_fade 0 = .ok (.iconst 0, 1) := by decide +kernel
theorem dX5_fade_1 : decode cX5_fade 1 = .ok (.istore_n 2, 1) := by decide +kernel
theorem dX5_fade_2 : decode cX5_fade 2 = .ok (.iload_n 2, 1) := by decide +kernel
theorem dX5_fade_3 : decode cX5_fade 3 = .ok (.aload_n 0, 1) := by decide +kernel
theorem dX5_fade_4 : decode cX5_fade 4 = .ok (.getfield 7, 3) := by decide +kernel
theorem dX5_fade_7 : decode cX5_fade 7 = .ok (.iconst 5, 1) := by decide +kernel
theorem dX5_fade_8 : decode cX5_fade 8 = .ok (.iaload, 1) := by decide +kernel
theorem dX5_fade_9 : decode cX5_fade 9 = .ok (.if_icmp .ge 43, 3) := by decide +kernel
theorem dX5_fade_12 : decode cX5_fade 12 = .ok (.aload_n 0, 1) := by decide +kernel
theorem dX5_fade_13 : decode cX5_fade 13 = .ok (.getfield 31, 3) := by decide +kernel
theorem dX5_fade_16 : decode cX5_fade 16 = .ok (.iload_n 2, 1) := by decide +kernel
theorem dX5_fade_17 : decode cX5_fade 17 = .ok (.dup2, 1) := by decide +kernel
theorem dX5_fade_18 : decode cX5_fade 18 = .ok (.iaload, 1) := by decide +kernel
theorem dX5_fade_19 : decode cX5_fade 19 = .ok (.iload_n 1, 1) := by decide +kernel
theorem dX5_fade_20 : decode cX5_fade 20 = .ok (.aload_n 0, 1) := by decide +kernel
theorem dX5_fade_21 : decode cX5_fade 21 = .ok (.iload_n 2, 1) := by decide +kernel
theorem dX5_fade_22 : decode cX5_fade 22 = .ok (.iconst 4, 1) := by decide +kernel
theorem dX5_fade_23 : decode cX5_fade 23 = .ok (.invokevirtual 58, 3) := by decide +kernel
theorem dX5_fade_26 : decode cX5_fade 26 = .ok (.bipush 7, 2) := by decide +kernel
theorem dX5_fade_28 : decode cX5_fade 28 = .ok (.idiv, 1) := by decide +kernel
theorem dX5_fade_29 : decode cX5_fade 29 = .ok (.if_icmp .le 14, 3) := by decide +kernel
theorem dX5_fade_32 : decode cX5_fade 32 = .ok (.aload_n 0, 1) := by decide +kernel
theorem dX5_fade_33 : decode cX5_fade 33 = .ok (.getfield 31, 3) := by decide +kernel
theorem dX5_fade_36 : decode cX5_fade 36 = .ok (.iload_n 2, 1) := by decide +kernel
theorem dX5_fade_37 : decode cX5_fade 37 = .ok (.iaload, 1) := by decide +kernel
theorem dX5_fade_38 : decode cX5_fade 38 = .ok (.iconst 4, 1) := by decide +kernel
theorem dX5_fade_39 : decode cX5_fade 39 = .ok (.idiv, 1) := by decide +kernel
theorem dX5_fade_40 : decode cX5_fade 40 = .ok (.goto 4, 3) := by decide +kernel
theorem dX5_fade_43 : decode cX5_fade 43 = .ok (.iconst 0, 1) := by decide +kernel
theorem dX5_fade_44 : decode cX5_fade 44 = .ok (.isub, 1) := by decide +kernel
theorem dX5_fade_45 : decode cX5_fade 45 = .ok (.iastore, 1) := by decide +kernel
theorem dX5_fade_46 : decode cX5_fade 46 = .ok (.iinc 2 1, 3) := by decide +kernel
theorem dX5_fade_49 : decode cX5_fade 49 = .ok (.goto (-47), 3) := by decide +kernel
theorem dX5_fade_52 : decode cX5_fade 52 = .ok (.return_, 1) := by decide +kernel
set_option maxRecDepth 20000 in
theorem ggX5_findPeople_X5_filmPart : GoodIn wsX5_findPeople wsX5_filmPart := goodIn_r _ [9, 2, 14, 15, 16, 17, 18, 19, 20, 21, 22, 23, 24, 25, 26, 27, 28, 29, 30, 31] (by decide +kernel) (by decide +kernel)
set_option maxRecDepth 20000 in
theorem gX5_findPeople_X5_filmPart : GoodIn wsX5_findPeople (wsV RX5 58 RX5 yX5_filmPart wsX5_filmPart) := goodIn_app (goodIn_of _ (by decide +kernel)) ggX5_findPeople_X5_filmPart
set_option maxRecDepth 20000 in
theorem ggX5_findPeople_X5_fade : GoodIn wsX5_findPeople wsX5_fade := goodIn_r _ [13, 2, 1, 5, 6, 7, 8, 9, 14, 15, 16, 17, 18, 19, 20, 21, 22, 23, 24, 25, 26, 27, 28, 29, 30, 31] (by decide +kernel) (by decide +kernel)
set_option maxRecDepth 20000 in
theorem gX5_findPeople_X5_fade : GoodIn wsX5_findPeople (wsV RX5 62 RX5 yX5_fade wsX5_fade) := goodIn_app (goodIn_of _ (by decide +kernel)) ggX5_findPeople_X5_fade
theorem dX5_findPeople_0 : decode cX5_findPeople 0 = .ok (.iconst 0, 1) := by decide +kernel
theorem dX5_findPeople_1 : decode cX5_findPeople 1 = .ok (.istore_n 1, 1) := by decide +kernel
theorem dX5_findPeople_2 : decode cX5_findPeople 2 = .ok (.iload_n 1, 1) := by decide +kernel
theorem dX5_findPeople_3 : decode cX5_findPeople 3 = .ok (.bipush 8, 2) := by decide +kernel
theorem dX5_findPeople_5 : decode cX5_findPeople 5 = .ok (.if_icmp .ge 21, 3) := by decide +kernel
theorem dX5_findPeople_8 : decode cX5_findPeople 8 = .ok (.aload_n 0, 1) := by decide +kernel
theorem dX5_findPeople_9 : decode cX5_findPeople 9 = .ok (.getfield 31, 3) := by decide +kernel
theorem dX5_findPeople_12 : decode cX5_findPeople 12 = .ok (.iload_n 1, 1) := by decide +kernel
theorem dX5_findPeople_13 : decode cX5_findPeople 13 = .ok (.aload_n 0, 1) := by decide +kernel
theorem dX5_findPeople_14 : decode cX5_findPeople 14 = .ok (.iload_n 1, 1) := by decide +kernel
theorem dX5_findPeople_15 : decode cX5_findPeople 15 = .ok (.iconst 1, 1) := by decide +kernel
theorem dX5_findPeople_16 : decode cX5_findPeople 16 = .ok (.invokevirtual 58, 3) := by decide +kernel
theorem dX5_findPeople_19 : decode cX5_findPeople 19 = .ok (.iastore, 1) := by decide +kernel
theorem dX5_findPeople_20 : decode cX5_findPeople 20 = .ok (.iinc 1 1, 3) := by decide +kernel
theorem dX5_findPeople_23 : decode cX5_findPeople 23 = .ok (.goto (-21), 3) := by decide +kernel
theorem dX5_findPeople_26 : decode cX5_findPeople 26 = .ok (.iconst 0, 1) := by decide +kernel
theorem dX5_findPeople_27 : decode cX5_findPeople 27 = .ok (.istore_n 1, 1) := by decide +kernel
theorem dX5_findPeople_28 : decode cX5_findPeople 28 = .ok (.iload_n 1, 1) := by decide +kernel
theorem dX5_findPeople_29 : decode cX5_findPeople 29 = .ok (.bipush 70, 2) := by decide +kernel
theorem dX5_findPeople_31 : decode cX5_findPeople 31 = .ok (.if_icmp .ge 140, 3) := by decide +kernel
theorem dX5_findPeople_34 : decode cX5_findPeople 34 = .ok (.aload_n 0, 1) := by decide +kernel
theorem dX5_findPeople_35 : decode cX5_findPeople 35 = .ok (.getfield 7, 3) := by decide +kernel
theorem dX5_findPeople_38 : decode cX5_findPeople 38 = .ok (.bipush 46, 2) := by decide +kernel
theorem dX5_findPeople_40 : decode cX5_findPeople 40 = .ok (.iload_n 1, 1) := by decide +kernel
theorem dX5_findPeople_41 : decode cX5_findPeople 41 = .ok (.iadd, 1) := by decide +kernel
theorem dX5_findPeople_42 : decode cX5_findPeople 42 = .ok (.iaload, 1) := by decide +kernel
theorem dX5_findPeople_43 : decode cX5_findPeople 43 = .ok (.istore_n 2, 1) := by decide +kernel
theorem dX5_findPeople_44 : decode cX5_findPeople 44 = .ok (.iload_n 1, 1) := by decide +kernel
theorem dX5_findPeople_45 : decode cX5_findPeople 45 = .ok (.bipush 14, 2) := by decide +kernel
theorem dX5_findPeople_47 : decode cX5_findPeople 47 = .ok (.irem, 1) := by decide +kernel
theorem dX5_findPeople_48 : decode cX5_findPeople 48 = .ok (.ifCond .ne 11, 3) := by decide +kernel
theorem dX5_findPeople_51 : decode cX5_findPeople 51 = .ok (.aload_n 0, 1) := by decide +kernel
theorem dX5_findPeople_52 : decode cX5_findPeople 52 = .ok (.iload_n 1, 1) := by decide +kernel
theorem dX5_findPeople_53 : decode cX5_findPeople 53 = .ok (.bipush 14, 2) := by decide +kernel
theorem dX5_findPeople_55 : decode cX5_findPeople 55 = .ok (.idiv, 1) := by decide +kernel
theorem dX5_findPeople_56 : decode cX5_findPeople 56 = .ok (.invokevirtual 62, 3) := by decide +kernel
theorem dX5_findPeople_59 : decode cX5_findPeople 59 = .ok (.aload_n 0, 1) := by decide +kernel
theorem dX5_findPeople_60 : decode cX5_findPeople 60 = .ok (.getfield 25, 3) := by decide +kernel
theorem dX5_findPeople_63 : decode cX5_findPeople 63 = .ok (.iload_n 1, 1) := by decide +kernel
theorem dX5_findPeople_64 : decode cX5_findPeople 64 = .ok (.iconst 0, 1) := by decide +kernel
theorem dX5_findPeople_65 : decode cX5_findPeople 65 = .ok (.iastore, 1) := by decide +kernel
theorem dX5_findPeople_66 : decode cX5_findPeople 66 = .ok (.aload_n 0, 1) := by decide +kernel
theorem dX5_findPeople_67 : decode cX5_findPeople 67 = .ok (.getfield 28, 3) := by decide +kernel
theorem dX5_findPeople_70 : decode cX5_findPeople 70 = .ok (.iload_n 1, 1) := by decide +kernel
theorem dX5_findPeople_71 : decode cX5_findPeople 71 = .ok (.bipush (-6), 2) := by decide +kernel
theorem dX5_findPeople_73 : decode cX5_findPeople 73 = .ok (.iastore, 1) := by decide +kernel
theorem dX5_findPeople_74 : decode cX5_findPeople 74 = .ok (.iload_n 2, 1) := by decide +kernel
theorem dX5_findPeople_75 : decode cX5_findPeople 75 = .ok (.bipush (-6), 2) := by decide +kernel
theorem dX5_findPeople_77 : decode cX5_findPeople 77 = .ok (.if_icmp .eq 88, 3) := by decide +kernel
theorem dX5_findPeople_80 : decode cX5_findPeople 80 = .ok (.aload_n 0, 1) := by decide +kernel
theorem dX5_findPeople_81 : decode cX5_findPeople 81 = .ok (.getfield 31, 3) := by decide +kernel
theorem dX5_findPeople_84 : decode cX5_findPeople 84 = .ok (.iload_n 2, 1) := by decide +kernel
theorem dX5_findPeople_85 : decode cX5_findPeople 85 = .ok (.iaload, 1) := by decide +kernel
theorem dX5_findPeople_86 : decode cX5_findPeople 86 = .ok (.iload_n 1, 1) := by decide +kernel
theorem dX5_findPeople_87 : decode cX5_findPeople 87 = .ok (.iconst 2, 1) := by decide +kernel
theorem dX5_findPeople_88 : decode cX5_findPeople 88 = .ok (.irem, 1) := by decide +kernel
theorem dX5_findPeople_89 : decode cX5_findPeople 89 = .ok (.ifCond .ne 12, 3) := by decide +kernel
theorem dX5_findPeople_92 : decode cX5_findPeople 92 = .ok (.aload_n 0, 1) := by decide +kernel
theorem dX5_findPeople_93 : decode cX5_findPeople 93 = .ok (.getfield 7, 3) := by decide +kernel
theorem dX5_findPeople_96 : decode cX5_findPeople 96 = .ok (.iconst 4, 1) := by decide +kernel
theorem dX5_findPeople_97 : decode cX5_findPeople 97 = .ok (.iaload, 1) := by decide +kernel
theorem dX5_findPeople_98 : decode cX5_findPeople 98 = .ok (.goto 9, 3) := by decide +kernel
theorem dX5_findPeople_101 : decode cX5_findPeople 101 = .ok (.aload_n 0, 1) := by decide +kernel
theorem dX5_findPeople_102 : decode cX5_findPeople 102 = .ok (.getfield 7, 3) := by decide +kernel
theorem dX5_findPeople_105 : decode cX5_findPeople 105 = .ok (.iconst 3, 1) := by decide +kernel
theorem dX5_findPeople_106 : decode cX5_findPeople 106 = .ok (.iaload, 1) := by decide +kernel
theorem dX5_findPeople_107 : decode cX5_findPeople 107 = .ok (.imul, 1) := by decide +kernel
theorem dX5_findPeople_108 : decode cX5_findPeople 108 = .ok (.bipush 100, 2) := by decide +kernel
theorem dX5_findPeople_110 : decode cX5_findPeople 110 = .ok (.idiv, 1) := by decide +kernel
theorem dX5_findPeople_111 : decode cX5_findPeople 111 = .ok (.istore_n 3, 1) := by decide +kernel
theorem dX5_findPeople_112 : decode cX5_findPeople 112 = .ok (.aload_n 0, 1) := by decide +kernel
theorem dX5_findPeople_113 : decode cX5_findPeople 113 = .ok (.getfield 25, 3) := by decide +kernel
theorem dX5_findPeople_116 : decode cX5_findPeople 116 = .ok (.iload_n 1, 1) := by decide +kernel
theorem dX5_findPeople_117 : decode cX5_findPeople 117 = .ok (.iload_n 3, 1) := by decide +kernel
theorem dX5_findPeople_118 : decode cX5_findPeople 118 = .ok (.aload_n 0, 1) := by decide +kernel
theorem dX5_findPeople_119 : decode cX5_findPeople 119 = .ok (.getfield 7, 3) := by decide +kernel
theorem dX5_findPeople_122 : decode cX5_findPeople 122 = .ok (.iconst 0, 1) := by decide +kernel
theorem dX5_findPeople_123 : decode cX5_findPeople 123 = .ok (.iaload, 1) := by decide +kernel
theorem dX5_findPeople_124 : decode cX5_findPeople 124 = .ok (.if_icmp .ge 7, 3) := by decide +kernel
theorem dX5_findPeople_127 : decode cX5_findPeople 127 = .ok (.iload_n 3, 1) := by decide +kernel
theorem dX5_findPeople_128 : decode cX5_findPeople 128 = .ok (.goto 9, 3) := by decide +kernel
theorem dX5_findPeople_131 : decode cX5_findPeople 131 = .ok (.aload_n 0, 1) := by decide +kernel
theorem dX5_findPeople_132 : decode cX5_findPeople 132 = .ok (.getfield 7, 3) := by decide +kernel
theorem dX5_findPeople_135 : decode cX5_findPeople 135 = .ok (.iconst 0, 1) := by decide +kernel
theorem dX5_findPeople_136 : decode cX5_findPeople 136 = .ok (.iaload, 1) := by decide +kernel
theorem dX5_findPeople_137 : decode cX5_findPeople 137 = .ok (.iastore, 1) := by decide +kernel
theorem dX5_findPeople_138 : decode cX5_findPeople 138 = .ok (.aload_n 0, 1) := by decide +kernel
theorem dX5_findPeople_139 : decode cX5_findPeople 139 = .ok (.getfield 31, 3) := by decide +kernel
theorem dX5_findPeople_142 : decode cX5_findPeople 142 = .ok (.iload_n 2, 1) := by decide +kernel
theorem dX5_findPeople_143 : decode cX5_findPeople 143 = .ok (.dup2, 1) := by decide +kernel
theorem dX5_findPeople_144 : decode cX5_findPeople 144 = .ok (.iaload, 1) := by decide +kernel
theorem dX5_findPeople_145 : decode cX5_findPeople 145 = .ok (.aload_n 0, 1) := by decide +kernel
theorem dX5_findPeople_146 : decode cX5_findPeople 146 = .ok (.getfield 25, 3) := by decide +kernel
theorem dX5_findPeople_149 : decode cX5_findPeople 149 = .ok (.iload_n 1, 1) := by decide +kernel
theorem dX5_findPeople_150 : decode cX5_findPeople 150 = .ok (.iaload, 1) := by decide +kernel
theorem dX5_findPeople_151 : decode cX5_findPeople 151 = .ok (.isub, 1) := by decide +kernel
theorem dX5_findPeople_152 : decode cX5_findPeople 152 = .ok (.iastore, 1) := by decide +kernel
theorem dX5_findPeople_153 : decode cX5_findPeople 153 = .ok (.aload_n 0, 1) := by decide +kernel
theorem dX5_findPeople_154 : decode cX5_findPeople 154 = .ok (.getfield 28, 3) := by decide +kernel
theorem dX5_findPeople_157 : decode cX5_findPeople 157 = .ok (.iload_n 1, 1) := by decide +kernel
theorem dX5_findPeople_158 : decode cX5_findPeople 158 = .ok (.aload_n 0, 1) := by decide +kernel
theorem dX5_findPeople_159 : decode cX5_findPeople 159 = .ok (.getfield 31, 3) := by decide +kernel
theorem dX5_findPeople_162 : decode cX5_findPeople 162 = .ok (.iload_n 2, 1) := by decide +kernel
theorem dX5_findPeople_163 : decode cX5_findPeople 163 = .ok (.iaload, 1) := by decide +kernel
theorem dX5_findPeople_164 : decode cX5_findPeople 164 = .ok (.iastore, 1) := by decide +kernel
theorem dX5_findPeople_165 : decode cX5_findPeople 165 = .ok (.iinc 1 1, 3) := by decide +kernel
theorem dX5_findPeople_168 : decode cX5_findPeople 168 = .ok (.goto (-140), 3) := by decide +kernel
theorem dX5_findPeople_171 : decode cX5_findPeople 171 = .ok (.return_, 1) := by decide +kernel
theorem dX5_findTakings_0 : decode cX5_findTakings 0 = .ok (.iconst 0, 1) := by decide +kernel
theorem dX5_findTakings_1 : decode cX5_findTakings 1 = .ok (.istore_n 1, 1) := by decide +kernel
theorem dX5_findTakings_2 : decode cX5_findTakings 2 = .ok (.iload_n 1, 1) := by decide +kernel
theorem dX5_findTakings_3 : decode cX5_findTakings 3 = .ok (.bipush 40, 2) := by decide +kernel
theorem dX5_findTakings_5 : decode cX5_findTakings 5 = .ok (.if_icmp .ge 23, 3) := by decide +kernel
theorem dX5_findTakings_8 : decode cX5_findTakings 8 = .ok (.aload_n 0, 1) := by decide +kernel
theorem dX5_findTakings_9 : decode cX5_findTakings 9 = .ok (.getfield 34, 3) := by decide +kernel
theorem dX5_findTakings_12 : decode cX5_findTakings 12 = .ok (.iload_n 1, 1) := by decide +kernel
theorem dX5_findTakings_13 : decode cX5_findTakings 13 = .ok (.iconst 0, 1) := by decide +kernel
theorem dX5_findTakings_14 : decode cX5_findTakings 14 = .ok (.iastore, 1) := by decide +kernel
theorem dX5_findTakings_15 : decode cX5_findTakings 15 = .ok (.aload_n 0, 1) := by decide +kernel
theorem dX5_findTakings_16 : decode cX5_findTakings 16 = .ok (.getfield 37, 3) := by decide +kernel
theorem dX5_findTakings_19 : decode cX5_findTakings 19 = .ok (.iload_n 1, 1) := by decide +kernel
theorem dX5_findTakings_20 : decode cX5_findTakings 20 = .ok (.iconst 0, 1) := by decide +kernel
theorem dX5_findTakings_21 : decode cX5_findTakings 21 = .ok (.iastore, 1) := by decide +kernel
theorem dX5_findTakings_22 : decode cX5_findTakings 22 = .ok (.iinc 1 1, 3) := by decide +kernel
theorem dX5_findTakings_25 : decode cX5_findTakings 25 = .ok (.goto (-23), 3) := by decide +kernel
theorem dX5_findTakings_28 : decode cX5_findTakings 28 = .ok (.iconst 0, 1) := by decide +kernel
theorem dX5_findTakings_29 : decode cX5_findTakings 29 = .ok (.istore_n 1, 1) := by decide +kernel
theorem dX5_findTakings_30 : decode cX5_findTakings 30 = .ok (.iload_n 1, 1) := by decide +kernel
theorem dX5_findTakings_31 : decode cX5_findTakings 31 = .ok (.bipush 70, 2) := by decide +kernel
theorem dX5_findTakings_33 : decode cX5_findTakings 33 = .ok (.if_icmp .ge 71, 3) := by decide +kernel
theorem dX5_findTakings_36 : decode cX5_findTakings 36 = .ok (.aload_n 0, 1) := by decide +kernel
theorem dX5_findTakings_37 : decode cX5_findTakings 37 = .ok (.getfield 7, 3) := by decide +kernel
theorem dX5_findTakings_40 : decode cX5_findTakings 40 = .ok (.bipush 46, 2) := by decide +kernel
theorem dX5_findTakings_42 : decode cX5_findTakings 42 = .ok (.iload_n 1, 1) := by decide +kernel
theorem dX5_findTakings_43 : decode cX5_findTakings 43 = .ok (.iadd, 1) := by decide +kernel
theorem dX5_findTakings_44 : decode cX5_findTakings 44 = .ok (.iaload, 1) := by decide +kernel
theorem dX5_findTakings_45 : decode cX5_findTakings 45 = .ok (.istore_n 2, 1) := by decide +kernel
theorem dX5_findTakings_46 : decode cX5_findTakings 46 = .ok (.iload_n 2, 1) := by decide +kernel
theorem dX5_findTakings_47 : decode cX5_findTakings 47 = .ok (.bipush (-6), 2) := by decide +kernel
theorem dX5_findTakings_49 : decode cX5_findTakings 49 = .ok (.if_icmp .eq 49, 3) := by decide +kernel
theorem dX5_findTakings_52 : decode cX5_findTakings 52 = .ok (.aload_n 0, 1) := by decide +kernel
theorem dX5_findTakings_53 : decode cX5_findTakings 53 = .ok (.getfield 34, 3) := by decide +kernel
theorem dX5_findTakings_56 : decode cX5_findTakings 56 = .ok (.iconst 5, 1) := by decide +kernel
theorem dX5_findTakings_57 : decode cX5_findTakings 57 = .ok (.iload_n 2, 1) := by decide +kernel
theorem dX5_findTakings_58 : decode cX5_findTakings 58 = .ok (.imul, 1) := by decide +kernel
theorem dX5_findTakings_59 : decode cX5_findTakings 59 = .ok (.iload_n 1, 1) := by decide +kernel
theorem dX5_findTakings_60 : decode cX5_findTakings 60 = .ok (.bipush 14, 2) := by decide +kernel
theorem dX5_findTakings_62 : decode cX5_findTakings 62 = .ok (.idiv, 1) := by decide +kernel
theorem dX5_findTakings_63 : decode cX5_findTakings 63 = .ok (.iadd, 1) := by decide +kernel
theorem dX5_findTakings_64 : decode cX5_findTakings 64 = .ok (.dup2, 1) := by decide +kernel
theorem dX5_findTakings_65 : decode cX5_findTakings 65 = .ok (.iaload, 1) := by decide +kernel
theorem dX5_findTakings_66 : decode cX5_findTakings 66 = .ok (.iconst 1, 1) := by decide +kernel
theorem dX5_findTakings_67 : decode cX5_findTakings 67 = .ok (.iadd, 1) := by decide +kernel
theorem dX5_findTakings_68 : decode cX5_findTakings 68 = .ok (.iastore, 1) := by decide +kernel
theorem dX5_findTakings_69 : decode cX5_findTakings 69 = .ok (.aload_n 0, 1) := by decide +kernel
theorem dX5_findTakings_70 : decode cX5_findTakings 70 = .ok (.getfield 37, 3) := by decide +kernel
theorem dX5_findTakings_73 : decode cX5_findTakings 73 = .ok (.iconst 5, 1) := by decide +kernel
theorem dX5_findTakings_74 : decode cX5_findTakings 74 = .ok (.iload_n 2, 1) := by decide +kernel
theorem dX5_findTakings_75 : decode cX5_findTakings 75 = .ok (.imul, 1) := by decide +kernel
theorem dX5_findTakings_76 : decode cX5_findTakings 76 = .ok (.iload_n 1, 1) := by decide +kernel
theorem dX5_findTakings_77 : decode cX5_findTakings 77 = .ok (.bipush 14, 2) := by decide +kernel
theorem dX5_findTakings_79 : decode cX5_findTakings 79 = .ok (.idiv, 1) := by decide +kernel
theorem dX5_findTakings_80 : decode cX5_findTakings 80 = .ok (.iadd, 1) := by decide +kernel
theorem dX5_findTakings_81 : decode cX5_findTakings 81 = .ok (.dup2, 1) := by decide +kernel
theorem dX5_findTakings_82 : decode cX5_findTakings 82 = .ok (.iaload, 1) := by decide +kernel
theorem dX5_findTakings_83 : decode cX5_findTakings 83 = .ok (.aload_n 0, 1) := by decide +kernel
theorem dX5_findTakings_84 : decode cX5_findTakings 84 = .ok (.getfield 25, 3) := by decide +kernel
theorem dX5_findTakings_87 : decode cX5_findTakings 87 = .ok (.iload_n 1, 1) := by decide +kernel
theorem dX5_findTakings_88 : decode cX5_findTakings 88 = .ok (.iaload, 1) := by decide +kernel
theorem dX5_findTakings_89 : decode cX5_findTakings 89 = .ok (.aload_n 0, 1) := by decide +kernel
theorem dX5_findTakings_90 : decode cX5_findTakings 90 = .ok (.getfield 7, 3) := by decide +kernel
theorem dX5_findTakings_93 : decode cX5_findTakings 93 = .ok (.iconst 1, 1) := by decide +kernel
theorem dX5_findTakings_94 : decode cX5_findTakings 94 = .ok (.iaload, 1) := by decide +kernel
theorem dX5_findTakings_95 : decode cX5_findTakings 95 = .ok (.imul, 1) := by decide +kernel
theorem dX5_findTakings_96 : decode cX5_findTakings 96 = .ok (.iadd, 1) := by decide +kernel
theorem dX5_findTakings_97 : decode cX5_findTakings 97 = .ok (.iastore, 1) := by decide +kernel
theorem dX5_findTakings_98 : decode cX5_findTakings 98 = .ok (.iinc 1 1, 3) := by decide +kernel
theorem dX5_findTakings_101 : decode cX5_findTakings 101 = .ok (.goto (-71), 3) := by decide +kernel
theorem dX5_findTakings_104 : decode cX5_findTakings 104 = .ok (.return_, 1) := by decide +kernel
set_option maxRecDepth 20000 in
theorem ggX5_shareOf_X5_filmPart : GoodIn wsX5_shareOf wsX5_filmPart := goodIn_r _ [5, 6, 7, 8, 9, 10, 11, 12, 13, 14, 15, 16, 17, 18, 19, 20, 21, 22, 23, 24] (by decide +kernel) (by decide +kernel)
set_option maxRecDepth 20000 in
theorem gX5_shareOf_X5_filmPart : GoodIn wsX5_shareOf (wsV RX5 58 RX5 yX5_filmPart wsX5_filmPart) := goodIn_app (goodIn_of _ (by decide +kernel)) ggX5_shareOf_X5_filmPart
theorem dX5_shareOf_0 : decode cX5_shareOf 0 = .ok (.aload_n 0, 1) := by decide +kernel
theorem dX5_shareOf_1 : decode cX5_shareOf 1 = .ok (.iload_n 1, 1) := by decide +kernel
theorem dX5_shareOf_2 : decode cX5_shareOf 2 = .ok (.iconst 3, 1) := by decide +kernel
theorem dX5_shareOf_3 : decode cX5_shareOf 3 = .ok (.invokevirtual 58, 3) := by decide +kernel
theorem dX5_shareOf_6 : decode cX5_shareOf 6 = .ok (.bipush 10, 2) := by decide +kernel
theorem dX5_shareOf_8 : decode cX5_shareOf 8 = .ok (.iload_n 2, 1) := by decide +kernel
theorem dX5_shareOf_9 : decode cX5_shareOf 9 = .ok (.imul, 1) := by decide +kernel
theorem dX5_shareOf_10 : decode cX5_shareOf 10 = .ok (.isub, 1) := by decide +kernel
theorem dX5_shareOf_11 : decode cX5_shareOf 11 = .ok (.istore_n 3, 1) := by decide +kernel
theorem dX5_shareOf_12 : decode cX5_shareOf 12 = .ok (.iload_n 3, 1) := by decide +kernel
theorem dX5_shareOf_13 : decode cX5_shareOf 13 = .ok (.bipush 20, 2) := by decide +kernel
theorem dX5_shareOf_15 : decode cX5_shareOf 15 = .ok (.if_icmp .le 7, 3) := by decide +kernel
theorem dX5_shareOf_18 : decode cX5_shareOf 18 = .ok (.iload_n 3, 1) := by decide +kernel
theorem dX5_shareOf_19 : decode cX5_shareOf 19 = .ok (.goto 5, 3) := by decide +kernel
theorem dX5_shareOf_22 : decode cX5_shareOf 22 = .ok (.bipush 20, 2) := by decide +kernel
theorem dX5_shareOf_24 : decode cX5_shareOf 24 = .ok (.ireturn, 1) := by decide +kernel
theorem dX5_shareOfTakings_0 : decode cX5_shareOfTakings 0 = .ok (.aload_n 0, 1) := by decide +kernel
theorem dX5_shareOfTakings_1 : decode cX5_shareOfTakings 1 = .ok (.getfield 40, 3) := by decide +kernel
theorem dX5_shareOfTakings_4 : decode cX5_shareOfTakings 4 = .ok (.iload_n 1, 1) := by decide +kernel
theorem dX5_shareOfTakings_5 : decode cX5_shareOfTakings 5 = .ok (.iaload, 1) := by decide +kernel
theorem dX5_shareOfTakings_6 : decode cX5_shareOfTakings 6 = .ok (.bipush (-6), 2) := by decide +kernel
theorem dX5_shareOfTakings_8 : decode cX5_shareOfTakings 8 = .ok (.if_icmp .ne 7, 3) := by decide +kernel
theorem dX5_shareOfTakings_11 : decode cX5_shareOfTakings 11 = .ok (.iconst 0, 1) := by decide +kernel
theorem dX5_shareOfTakings_12 : decode cX5_shareOfTakings 12 = .ok (.goto 19, 3) := by decide +kernel
theorem dX5_shareOfTakings_15 : decode cX5_shareOfTakings 15 = .ok (.aload_n 0, 1) := by decide +kernel
theorem dX5_shareOfTakings_16 : decode cX5_shareOfTakings 16 = .ok (.getfield 37, 3) := by decide +kernel
theorem dX5_shareOfTakings_19 : decode cX5_shareOfTakings 19 = .ok (.iload_n 1, 1) := by decide +kernel
theorem dX5_shareOfTakings_20 : decode cX5_shareOfTakings 20 = .ok (.iaload, 1) := by decide +kernel
theorem dX5_shareOfTakings_21 : decode cX5_shareOfTakings 21 = .ok (.aload_n 0, 1) := by decide +kernel
theorem dX5_shareOfTakings_22 : decode cX5_shareOfTakings 22 = .ok (.getfield 40, 3) := by decide +kernel
theorem dX5_shareOfTakings_25 : decode cX5_shareOfTakings 25 = .ok (.iload_n 1, 1) := by decide +kernel
theorem dX5_shareOfTakings_26 : decode cX5_shareOfTakings 26 = .ok (.iaload, 1) := by decide +kernel
theorem dX5_shareOfTakings_27 : decode cX5_shareOfTakings 27 = .ok (.imul, 1) := by decide +kernel
theorem dX5_shareOfTakings_28 : decode cX5_shareOfTakings 28 = .ok (.bipush 100, 2) := by decide +kernel
theorem dX5_shareOfTakings_30 : decode cX5_shareOfTakings 30 = .ok (.idiv, 1) := by decide +kernel
theorem dX5_shareOfTakings_31 : decode cX5_shareOfTakings 31 = .ok (.ireturn, 1) := by decide +kernel
set_option maxRecDepth 20000 in
theorem ggX5_findDues_X5_shareOf : GoodIn wsX5_findDues wsX5_shareOf := goodIn_r _ [8, 9, 10, 11, 7, 12, 13, 19, 20, 21, 22, 23, 24, 25, 26, 27, 28, 29, 30, 31, 32, 33, 34, 35, 36] (by decide +kernel) (by decide +kernel)
set_option maxRecDepth 20000 in
theorem gX5_findDues_X5_shareOf : GoodIn wsX5_findDues (wsV RX5 66 RX5 yX5_shareOf wsX5_shareOf) := goodIn_app (goodIn_of _ (by decide +kernel)) ggX5_findDues_X5_shareOf
set_option maxRecDepth 20000 in
theorem ggX5_findDues_X5_shareOfTakings : GoodIn wsX5_findDues wsX5_shareOfTakings := goodIn_r _ [17, 2, 18, 19, 20, 21, 22, 23, 24, 25, 26, 27, 28, 29, 30, 31, 32, 33, 34, 35, 36] (by decide +kernel) (by decide +kernel)
set_option maxRecDepth 20000 in
theorem gX5_findDues_X5_shareOfTakings : GoodIn wsX5_findDues (wsV RX5 69 RX5 yX5_shareOfTakings wsX5_shareOfTakings) := goodIn_app (goodIn_of _ (by decide +kernel)) ggX5_findDues_X5_shareOfTakings
set_option maxRecDepth 20000 in
theorem ggX5_findDues_X5_filmPart : GoodIn wsX5_findDues wsX5_filmPart := goodIn_r _ [12, 13, 19, 20, 21, 22, 23, 24, 25, 26, 27, 28, 29, 30, 31, 32, 33, 34, 35, 36] (by decide +kernel) (by decide +kernel)
set_option maxRecDepth 20000 in
theorem gX5_findDues_X5_filmPart : GoodIn wsX5_findDues (wsV RX5 58 RX5 yX5_filmPart wsX5_filmPart) := goodIn_app (goodIn_of _ (by decide +kernel)) ggX5_findDues_X5_filmPart
theorem dX5_findDues_0 : decode cX5_findDues 0 = .ok (.iconst 0, 1) := by decide +kernel
theorem dX5_findDues_1 : decode cX5_findDues 1 = .ok (.istore_n 1, 1) := by decide +kernel
theorem dX5_findDues_2 : decode cX5_findDues 2 = .ok (.iload_n 1, 1) := by decide +kernel
theorem dX5_findDues_3 : decode cX5_findDues 3 = .ok (.bipush 8, 2) := by decide +kernel
theorem dX5_findDues_5 : decode cX5_findDues 5 = .ok (.if_icmp .ge 131, 3) := by decide +kernel
theorem dX5_findDues_8 : decode cX5_findDues 8 = .ok (.bipush (-6), 2) := by decide +kernel
theorem dX5_findDues_10 : decode cX5_findDues 10 = .ok (.istore_n 2, 1) := by decide +kernel
theorem dX5_findDues_11 : decode cX5_findDues 11 = .ok (.iconst 0, 1) := by decide +kernel
theorem dX5_findDues_12 : decode cX5_findDues 12 = .ok (.istore_n 3, 1) := by decide +kernel
theorem dX5_findDues_13 : decode cX5_findDues 13 = .ok (.iload_n 3, 1) := by decide +kernel
theorem dX5_findDues_14 : decode cX5_findDues 14 = .ok (.iconst 5, 1) := by decide +kernel
theorem dX5_findDues_15 : decode cX5_findDues 15 = .ok (.if_icmp .ge 115, 3) := by decide +kernel
theorem dX5_findDues_18 : decode cX5_findDues 18 = .ok (.iconst 5, 1) := by decide +kernel
theorem dX5_findDues_19 : decode cX5_findDues 19 = .ok (.iload_n 1, 1) := by decide +kernel
theorem dX5_findDues_20 : decode cX5_findDues 20 = .ok (.imul, 1) := by decide +kernel
theorem dX5_findDues_21 : decode cX5_findDues 21 = .ok (.iload_n 3, 1) := by decide +kernel
theorem dX5_findDues_22 : decode cX5_findDues 22 = .ok (.iadd, 1) := by decide +kernel
theorem dX5_findDues_23 : decode cX5_findDues 23 = .ok (.istore 4, 2) := by decide +kernel
theorem dX5_findDues_25 : decode cX5_findDues 25 = .ok (.iload_n 2, 1) := by decide +kernel
theorem dX5_findDues_26 : decode cX5_findDues 26 = .ok (.bipush (-6), 2) := by decide +kernel
theorem dX5_findDues_28 : decode cX5_findDues 28 = .ok (.if_icmp .ne 17, 3) := by decide +kernel
theorem dX5_findDues_31 : decode cX5_findDues 31 = .ok (.aload_n 0, 1) := by decide +kernel
theorem dX5_findDues_32 : decode cX5_findDues 32 = .ok (.getfield 34, 3) := by decide +kernel
theorem dX5_findDues_35 : decode cX5_findDues 35 = .ok (.iload 4, 2) := by decide +kernel
theorem dX5_findDues_37 : decode cX5_findDues 37 = .ok (.iaload, 1) := by decide +kernel
theorem dX5_findDues_38 : decode cX5_findDues 38 = .ok (.ifCond .le 7, 3) := by decide +kernel
theorem dX5_findDues_41 : decode cX5_findDues 41 = .ok (.iload_n 3, 1) := by decide +kernel
theorem dX5_findDues_42 : decode cX5_findDues 42 = .ok (.goto 4, 3) := by decide +kernel
theorem dX5_findDues_45 : decode cX5_findDues 45 = .ok (.iload_n 2, 1) := by decide +kernel
theorem dX5_findDues_46 : decode cX5_findDues 46 = .ok (.istore_n 2, 1) := by decide +kernel
theorem dX5_findDues_47 : decode cX5_findDues 47 = .ok (.aload_n 0, 1) := by decide +kernel
theorem dX5_findDues_48 : decode cX5_findDues 48 = .ok (.getfield 40, 3) := by decide +kernel
theorem dX5_findDues_51 : decode cX5_findDues 51 = .ok (.iload 4, 2) := by decide +kernel
theorem dX5_findDues_53 : decode cX5_findDues 53 = .ok (.iload_n 2, 1) := by decide +kernel
theorem dX5_findDues_54 : decode cX5_findDues 54 = .ok (.bipush (-6), 2) := by decide +kernel
theorem dX5_findDues_56 : decode cX5_findDues 56 = .ok (.if_icmp .ne 8, 3) := by decide +kernel
theorem dX5_findDues_59 : decode cX5_findDues 59 = .ok (.bipush (-6), 2) := by decide +kernel
theorem dX5_findDues_61 : decode cX5_findDues 61 = .ok (.goto 11, 3) := by decide +kernel
theorem dX5_findDues_64 : decode cX5_findDues 64 = .ok (.aload_n 0, 1) := by decide +kernel
theorem dX5_findDues_65 : decode cX5_findDues 65 = .ok (.iload_n 1, 1) := by decide +kernel
theorem dX5_findDues_66 : decode cX5_findDues 66 = .ok (.iload_n 3, 1) := by decide +kernel
theorem dX5_findDues_67 : decode cX5_findDues 67 = .ok (.iload_n 2, 1) := by decide +kernel
theorem dX5_findDues_68 : decode cX5_findDues 68 = .ok (.isub, 1) := by decide +kernel
theorem dX5_findDues_69 : decode cX5_findDues 69 = .ok (.invokevirtual 66, 3) := by decide +kernel
theorem dX5_findDues_72 : decode cX5_findDues 72 = .ok (.iastore, 1) := by decide +kernel
theorem dX5_findDues_73 : decode cX5_findDues 73 = .ok (.aload_n 0, 1) := by decide +kernel
theorem dX5_findDues_74 : decode cX5_findDues 74 = .ok (.iload 4, 2) := by decide +kernel
theorem dX5_findDues_76 : decode cX5_findDues 76 = .ok (.invokevirtual 69, 3) := by decide +kernel
theorem dX5_findDues_79 : decode cX5_findDues 79 = .ok (.istore 5, 2) := by decide +kernel
theorem dX5_findDues_81 : decode cX5_findDues 81 = .ok (.aload_n 0, 1) := by decide +kernel
theorem dX5_findDues_82 : decode cX5_findDues 82 = .ok (.getfield 43, 3) := by decide +kernel
theorem dX5_findDues_85 : decode cX5_findDues 85 = .ok (.iload 4, 2) := by decide +kernel
theorem dX5_findDues_87 : decode cX5_findDues 87 = .ok (.aload_n 0, 1) := by decide +kernel
theorem dX5_findDues_88 : decode cX5_findDues 88 = .ok (.getfield 34, 3) := by decide +kernel
theorem dX5_findDues_91 : decode cX5_findDues 91 = .ok (.iload 4, 2) := by decide +kernel
theorem dX5_findDues_93 : decode cX5_findDues 93 = .ok (.iaload, 1) := by decide +kernel
theorem dX5_findDues_94 : decode cX5_findDues 94 = .ok (.ifCond .ne 7, 3) := by decide +kernel
theorem dX5_findDues_97 : decode cX5_findDues 97 = .ok (.iconst 0, 1) := by decide +kernel
theorem dX5_findDues_98 : decode cX5_findDues 98 = .ok (.goto 25, 3) := by decide +kernel
theorem dX5_findDues_101 : decode cX5_findDues 101 = .ok (.iload 5, 2) := by decide +kernel
theorem dX5_findDues_103 : decode cX5_findDues 103 = .ok (.aload_n 0, 1) := by decide +kernel
theorem dX5_findDues_104 : decode cX5_findDues 104 = .ok (.iload_n 1, 1) := by decide +kernel
theorem dX5_findDues_105 : decode cX5_findDues 105 = .ok (.iconst 2, 1) := by decide +kernel
theorem dX5_findDues_106 : decode cX5_findDues 106 = .ok (.invokevirtual 58, 3) := by decide +kernel
theorem dX5_findDues_109 : decode cX5_findDues 109 = .ok (.if_icmp .le 8, 3) := by decide +kernel
theorem dX5_findDues_112 : decode cX5_findDues 112 = .ok (.iload 5, 2) := by decide +kernel
theorem dX5_findDues_114 : decode cX5_findDues 114 = .ok (.goto 9, 3) := by decide +kernel
theorem dX5_findDues_117 : decode cX5_findDues 117 = .ok (.aload_n 0, 1) := by decide +kernel
theorem dX5_findDues_118 : decode cX5_findDues 118 = .ok (.iload_n 1, 1) := by decide +kernel
theorem dX5_findDues_119 : decode cX5_findDues 119 = .ok (.iconst 2, 1) := by decide +kernel
theorem dX5_findDues_120 : decode cX5_findDues 120 = .ok (.invokevirtual 58, 3) := by decide +kernel
theorem dX5_findDues_123 : decode cX5_findDues 123 = .ok (.iastore, 1) := by decide +kernel
theorem dX5_findDues_124 : decode cX5_findDues 124 = .ok (.iinc 3 1, 3) := by decide +kernel
theorem dX5_findDues_127 : decode cX5_findDues 127 = .ok (.goto (-114), 3) := by decide +kernel
theorem dX5_findDues_130 : decode cX5_findDues 130 = .ok (.iinc 1 1, 3) := by decide +kernel
theorem dX5_findDues_133 : decode cX5_findDues 133 = .ok (.goto (-131), 3) := by decide +kernel
theorem dX5_findDues_136 : decode cX5_findDues 136 = .ok (.return_, 1) := by decide +kernel
set_option maxRecDepth 20000 in
theorem ggX5_reckon_X5_findPeople : GoodIn wsX5_reckon wsX5_findPeople := goodIn_r _ [5, 6, 7, 8, 9, 10, 11, 12, 4, 13, 14, 15, 16, 17, 38, 39, 40, 41, 42, 43, 44, 45, 46, 47, 48, 49, 50, 51, 52, 53, 54, 55] (by decide +kernel) (by decide +kernel)
set_option maxRecDepth 20000 in
theorem gX5_reckon_X5_findPeople : GoodIn wsX5_reckon (wsV RX5 73 RX5 yX5_findPeople wsX5_findPeople) := goodIn_app (goodIn_of _ (by decide +kernel)) ggX5_reckon_X5_findPeople
set_option maxRecDepth 20000 in
theorem ggX5_reckon_X5_findTakings : GoodIn wsX5_reckon wsX5_findTakings := goodIn_r _ [21, 22, 23, 7, 8, 38, 39, 40, 41, 42, 43, 44, 45, 46, 47, 48, 49, 50, 51, 52, 53, 54, 55] (by decide +kernel) (by decide +kernel)
set_option maxRecDepth 20000 in
theorem gX5_reckon_X5_findTakings : GoodIn wsX5_reckon (wsV RX5 76 RX5 yX5_findTakings wsX5_findTakings) := goodIn_app (goodIn_of _ (by decide +kernel)) ggX5_reckon_X5_findTakings
set_option maxRecDepth 20000 in
theorem ggX5_reckon_X5_findDues : GoodIn wsX5_reckon wsX5_findDues := goodIn_r _ [27, 22, 28, 29, 30, 31, 32, 4, 33, 10, 11, 12, 13, 7, 34, 35, 36, 37, 23, 38, 39, 40, 41, 42, 43, 44, 45, 46, 47, 48, 49, 50, 51, 52, 53, 54, 55] (by decide +kernel) (by decide +kernel)
set_option maxRecDepth 20000 in
theorem gX5_reckon_X5_findDues : GoodIn wsX5_reckon (wsV RX5 79 RX5 yX5_findDues wsX5_findDues) := goodIn_app (goodIn_of _ (by decide +kernel)) ggX5_reckon_X5_findDues
theorem dX5_reckon_0 : decode cX5_reckon 0 = .ok (.aload_n 0, 1) := by decide +kernel
theorem dX5_reckon_1 : decode cX5_reckon 1 = .ok (.invokevirtual 73, 3) := by decide +kernel
theorem dX5_reckon_4 : decode cX5_reckon 4 = .ok (.aload_n 0, 1) := by decide +kernel
theorem dX5_reckon_5 : decode cX5_reckon 5 = .ok (.invokevirtual 76, 3) := by decide +kernel
theorem dX5_reckon_8 : decode cX5_reckon 8 = .ok (.aload_n 0, 1) := by decide +kernel
theorem dX5_reckon_9 : decode cX5_reckon 9 = .ok (.invokevirtual 79, 3) := by decide +kernel
theorem dX5_reckon_12 : decode cX5_reckon 12 = .ok (.return_, 1) := by decide +kernel
theorem dX5_sumOf_0 : decode cX5_sumOf 0 = .ok (.iconst 0, 1) := by decide +kernel
theorem dX5_sumOf_1 : decode cX5_sumOf 1 = .ok (.istore_n 2, 1) := by decide +kernel
theorem dX5_sumOf_2 : decode cX5_sumOf 2 = .ok (.iconst 0, 1) := by decide +kernel
theorem dX5_sumOf_3 : decode cX5_sumOf 3 = .ok (.istore_n 3, 1) := by decide +kernel
theorem dX5_sumOf_4 : decode cX5_sumOf 4 = .ok (.iload_n 3, 1) := by decide +kernel
theorem dX5_sumOf_5 : decode cX5_sumOf 5 = .ok (.bipush 40, 2) := by decide +kernel
theorem dX5_sumOf_7 : decode cX5_sumOf 7 = .ok (.if_icmp .ge 30, 3) := by decide +kernel
theorem dX5_sumOf_10 : decode cX5_sumOf 10 = .ok (.iload_n 2, 1) := by decide +kernel
theorem dX5_sumOf_11 : decode cX5_sumOf 11 = .ok (.iload_n 1, 1) := by decide +kernel
theorem dX5_sumOf_12 : decode cX5_sumOf 12 = .ok (.ifCond .lt 10, 3) := by decide +kernel
theorem dX5_sumOf_15 : decode cX5_sumOf 15 = .ok (.iload_n 3, 1) := by decide +kernel
theorem dX5_sumOf_16 : decode cX5_sumOf 16 = .ok (.iconst 5, 1) := by decide +kernel
theorem dX5_sumOf_17 : decode cX5_sumOf 17 = .ok (.irem, 1) := by decide +kernel
theorem dX5_sumOf_18 : decode cX5_sumOf 18 = .ok (.iload_n 1, 1) := by decide +kernel
theorem dX5_sumOf_19 : decode cX5_sumOf 19 = .ok (.if_icmp .ne 9, 3) := by decide +kernel
theorem dX5_sumOf_22 : decode cX5_sumOf 22 = .ok (.aload_n 0, 1) := by decide +kernel
theorem dX5_sumOf_23 : decode cX5_sumOf 23 = .ok (.iload_n 3, 1) := by decide +kernel
theorem dX5_sumOf_24 : decode cX5_sumOf 24 = .ok (.iaload, 1) := by decide +kernel
theorem dX5_sumOf_25 : decode cX5_sumOf 25 = .ok (.goto 4, 3) := by decide +kernel
theorem dX5_sumOf_28 : decode cX5_sumOf 28 = .ok (.iconst 0, 1) := by decide +kernel
theorem dX5_sumOf_29 : decode cX5_sumOf 29 = .ok (.iadd, 1) := by decide +kernel
theorem dX5_sumOf_30 : decode cX5_sumOf 30 = .ok (.istore_n 2, 1) := by decide +kernel
theorem dX5_sumOf_31 : decode cX5_sumOf 31 = .ok (.iinc 3 1, 3) := by decide +kernel
theorem dX5_sumOf_34 : decode cX5_sumOf 34 = .ok (.goto (-30), 3) := by decide +kernel
theorem dX5_sumOf_37 : decode cX5_sumOf 37 = .ok (.iload_n 2, 1) := by decide +kernel
theorem dX5_sumOf_38 : decode cX5_sumOf 38 = .ok (.ireturn, 1) := by decide +kernel
theorem dX5_sumOfFilm_0 : decode cX5_sumOfFilm 0 = .ok (.iconst 0, 1) := by decide +kernel
theorem dX5_sumOfFilm_1 : decode cX5_sumOfFilm 1 = .ok (.istore_n 2, 1) := by decide +kernel
theorem dX5_sumOfFilm_2 : decode cX5_sumOfFilm 2 = .ok (.iconst 0, 1) := by decide +kernel
theorem dX5_sumOfFilm_3 : decode cX5_sumOfFilm 3 = .ok (.istore_n 3, 1) := by decide +kernel
theorem dX5_sumOfFilm_4 : decode cX5_sumOfFilm 4 = .ok (.iload_n 3, 1) := by decide +kernel
theorem dX5_sumOfFilm_5 : decode cX5_sumOfFilm 5 = .ok (.iconst 5, 1) := by decide +kernel
theorem dX5_sumOfFilm_6 : decode cX5_sumOfFilm 6 = .ok (.if_icmp .ge 19, 3) := by decide +kernel
theorem dX5_sumOfFilm_9 : decode cX5_sumOfFilm 9 = .ok (.iload_n 2, 1) := by decide +kernel
theorem dX5_sumOfFilm_10 : decode cX5_sumOfFilm 10 = .ok (.aload_n 0, 1) := by decide +kernel
theorem dX5_sumOfFilm_11 : decode cX5_sumOfFilm 11 = .ok (.iconst 5, 1) := by decide +kernel
theorem dX5_sumOfFilm_12 : decode cX5_sumOfFilm 12 = .ok (.iload_n 1, 1) := by decide +kernel
theorem dX5_sumOfFilm_13 : decode cX5_sumOfFilm 13 = .ok (.imul, 1) := by decide +kernel
theorem dX5_sumOfFilm_14 : decode cX5_sumOfFilm 14 = .ok (.iload_n 3, 1) := by decide +kernel
theorem dX5_sumOfFilm_15 : decode cX5_sumOfFilm 15 = .ok (.iadd, 1) := by decide +kernel
theorem dX5_sumOfFilm_16 : decode cX5_sumOfFilm 16 = .ok (.iaload, 1) := by decide +kernel
theorem dX5_sumOfFilm_17 : decode cX5_sumOfFilm 17 = .ok (.iadd, 1) := by decide +kernel
theorem dX5_sumOfFilm_18 : decode cX5_sumOfFilm 18 = .ok (.istore_n 2, 1) := by decide +kernel
theorem dX5_sumOfFilm_19 : decode cX5_sumOfFilm 19 = .ok (.iinc 3 1, 3) := by decide +kernel
theorem dX5_sumOfFilm_22 : decode cX5_sumOfFilm 22 = .ok (.goto (-18), 3) := by decide +kernel
theorem dX5_sumOfFilm_25 : decode cX5_sumOfFilm 25 = .ok (.iload_n 2, 1) := by decide +kernel
theorem dX5_sumOfFilm_26 : decode cX5_sumOfFilm 26 = .ok (.ireturn, 1) := by decide +kernel
theorem dX5_rentsOf_0 : decode cX5_rentsOf 0 = .ok (.iconst 0, 1) := by decide +kernel
theorem dX5_rentsOf_1 : decode cX5_rentsOf 1 = .ok (.istore_n 2, 1) := by decide +kernel
theorem dX5_rentsOf_2 : decode cX5_rentsOf 2 = .ok (.iconst 0, 1) := by decide +kernel
theorem dX5_rentsOf_3 : decode cX5_rentsOf 3 = .ok (.istore_n 3, 1) := by decide +kernel
theorem dX5_rentsOf_4 : decode cX5_rentsOf 4 = .ok (.iload_n 3, 1) := by decide +kernel
theorem dX5_rentsOf_5 : decode cX5_rentsOf 5 = .ok (.bipush 35, 2) := by decide +kernel
theorem dX5_rentsOf_7 : decode cX5_rentsOf 7 = .ok (.if_icmp .ge 37, 3) := by decide +kernel
theorem dX5_rentsOf_10 : decode cX5_rentsOf 10 = .ok (.iload_n 2, 1) := by decide +kernel
theorem dX5_rentsOf_11 : decode cX5_rentsOf 11 = .ok (.iload_n 1, 1) := by decide +kernel
theorem dX5_rentsOf_12 : decode cX5_rentsOf 12 = .ok (.ifCond .lt 11, 3) := by decide +kernel
theorem dX5_rentsOf_15 : decode cX5_rentsOf 15 = .ok (.iload_n 3, 1) := by decide +kernel
theorem dX5_rentsOf_16 : decode cX5_rentsOf 16 = .ok (.bipush 7, 2) := by decide +kernel
theorem dX5_rentsOf_18 : decode cX5_rentsOf 18 = .ok (.idiv, 1) := by decide +kernel
theorem dX5_rentsOf_19 : decode cX5_rentsOf 19 = .ok (.iload_n 1, 1) := by decide +kernel
theorem dX5_rentsOf_20 : decode cX5_rentsOf 20 = .ok (.if_icmp .ne 15, 3) := by decide +kernel
theorem dX5_rentsOf_23 : decode cX5_rentsOf 23 = .ok (.aload_n 0, 1) := by decide +kernel
theorem dX5_rentsOf_24 : decode cX5_rentsOf 24 = .ok (.getfield 7, 3) := by decide +kernel
theorem dX5_rentsOf_27 : decode cX5_rentsOf 27 = .ok (.bipush 116, 2) := by decide +kernel
theorem dX5_rentsOf_29 : decode cX5_rentsOf 29 = .ok (.iload_n 3, 1) := by decide +kernel
theorem dX5_rentsOf_30 : decode cX5_rentsOf 30 = .ok (.iadd, 1) := by decide +kernel
theorem dX5_rentsOf_31 : decode cX5_rentsOf 31 = .ok (.iaload, 1) := by decide +kernel
theorem dX5_rentsOf_32 : decode cX5_rentsOf 32 = .ok (.goto 4, 3) := by decide +kernel
theorem dX5_rentsOf_35 : decode cX5_rentsOf 35 = .ok (.iconst 0, 1) := by decide +kernel
theorem dX5_rentsOf_36 : decode cX5_rentsOf 36 = .ok (.iadd, 1) := by decide +kernel
theorem dX5_rentsOf_37 : decode cX5_rentsOf 37 = .ok (.istore_n 2, 1) := by decide +kernel
theorem dX5_rentsOf_38 : decode cX5_rentsOf 38 = .ok (.iinc 3 1, 3) := by decide +kernel
theorem dX5_rentsOf_41 : decode cX5_rentsOf 41 = .ok (.goto (-37), 3) := by decide +kernel
theorem dX5_rentsOf_44 : decode cX5_rentsOf 44 = .ok (.iload_n 2, 1) := by decide +kernel
theorem dX5_rentsOf_45 : decode cX5_rentsOf 45 = .ok (.ireturn, 1) := by decide +kernel
theorem dX5_peopleIn_0 : decode cX5_peopleIn 0 = .ok (.iconst 0, 1) := by decide +kernel
theorem dX5_peopleIn_1 : decode cX5_peopleIn 1 = .ok (.istore_n 2, 1) := by decide +kernel
theorem dX5_peopleIn_2 : decode cX5_peopleIn 2 = .ok (.iconst 0, 1) := by decide +kernel
theorem dX5_peopleIn_3 : decode cX5_peopleIn 3 = .ok (.istore_n 3, 1) := by decide +kernel
theorem dX5_peopleIn_4 : decode cX5_peopleIn 4 = .ok (.iload_n 3, 1) := by decide +kernel
theorem dX5_peopleIn_5 : decode cX5_peopleIn 5 = .ok (.bipush 70, 2) := by decide +kernel
theorem dX5_peopleIn_7 : decode cX5_peopleIn 7 = .ok (.if_icmp .ge 34, 3) := by decide +kernel
theorem dX5_peopleIn_10 : decode cX5_peopleIn 10 = .ok (.iload_n 2, 1) := by decide +kernel
theorem dX5_peopleIn_11 : decode cX5_peopleIn 11 = .ok (.iload_n 1, 1) := by decide +kernel
theorem dX5_peopleIn_12 : decode cX5_peopleIn 12 = .ok (.ifCond .lt 11, 3) := by decide +kernel
theorem dX5_peopleIn_15 : decode cX5_peopleIn 15 = .ok (.iload_n 3, 1) := by decide +kernel
theorem dX5_peopleIn_16 : decode cX5_peopleIn 16 = .ok (.bipush 14, 2) := by decide +kernel
theorem dX5_peopleIn_18 : decode cX5_peopleIn 18 = .ok (.idiv, 1) := by decide +kernel
theorem dX5_peopleIn_19 : decode cX5_peopleIn 19 = .ok (.iload_n 1, 1) := by decide +kernel
theorem dX5_peopleIn_20 : decode cX5_peopleIn 20 = .ok (.if_icmp .ne 12, 3) := by decide +kernel
theorem dX5_peopleIn_23 : decode cX5_peopleIn 23 = .ok (.aload_n 0, 1) := by decide +kernel
theorem dX5_peopleIn_24 : decode cX5_peopleIn 24 = .ok (.getfield 25, 3) := by decide +kernel
theorem dX5_peopleIn_27 : decode cX5_peopleIn 27 = .ok (.iload_n 3, 1) := by decide +kernel
theorem dX5_peopleIn_28 : decode cX5_peopleIn 28 = .ok (.iaload, 1) := by decide +kernel
theorem dX5_peopleIn_29 : decode cX5_peopleIn 29 = .ok (.goto 4, 3) := by decide +kernel
theorem dX5_peopleIn_32 : decode cX5_peopleIn 32 = .ok (.iconst 0, 1) := by decide +kernel
theorem dX5_peopleIn_33 : decode cX5_peopleIn 33 = .ok (.iadd, 1) := by decide +kernel
theorem dX5_peopleIn_34 : decode cX5_peopleIn 34 = .ok (.istore_n 2, 1) := by decide +kernel
theorem dX5_peopleIn_35 : decode cX5_peopleIn 35 = .ok (.iinc 3 1, 3) := by decide +kernel
theorem dX5_peopleIn_38 : decode cX5_peopleIn 38 = .ok (.goto (-34), 3) := by decide +kernel
theorem dX5_peopleIn_41 : decode cX5_peopleIn 41 = .ok (.iload_n 2, 1) := by decide +kernel
theorem dX5_peopleIn_42 : decode cX5_peopleIn 42 = .ok (.ireturn, 1) := by decide +kernel
set_option maxRecDepth 20000 in
theorem ggX5_leftOf_X5_sumOf : GoodIn wsX5_leftOf wsX5_sumOf := goodIn_r _ [8] (by decide +kernel) (by decide +kernel)
set_option maxRecDepth 20000 in
theorem gX5_leftOf_X5_sumOf : GoodIn wsX5_leftOf (va_wsS RX5 82 yX5_sumOf wsX5_sumOf) := goodIn_app (goodIn_of _ (by decide +kernel)) ggX5_leftOf_X5_sumOf
set_option maxRecDepth 20000 in
theorem ggX5_leftOf_X5_rentsOf : GoodIn wsX5_leftOf wsX5_rentsOf := goodIn_r _ [12, 3, 13, 14, 15, 16, 17, 18, 19, 20, 21, 22, 23, 24, 25, 26, 27, 28, 29, 30] (by decide +kernel) (by decide +kernel)
set_option maxRecDepth 20000 in
theorem gX5_leftOf_X5_rentsOf : GoodIn wsX5_leftOf (wsV RX5 86 RX5 yX5_rentsOf wsX5_rentsOf) := goodIn_app (goodIn_of _ (by decide +kernel)) ggX5_leftOf_X5_rentsOf
theorem dX5_leftOf_0 : decode cX5_leftOf 0 = .ok (.aload_n 0, 1) := by decide +kernel
theorem dX5_leftOf_1 : decode cX5_leftOf 1 = .ok (.getfield 37, 3) := by decide +kernel
theorem dX5_leftOf_4 : decode cX5_leftOf 4 = .ok (.iload_n 1, 1) := by decide +kernel
theorem dX5_leftOf_5 : decode cX5_leftOf 5 = .ok (.invokestatic 82, 3) := by decide +kernel
theorem dX5_leftOf_8 : decode cX5_leftOf 8 = .ok (.aload_n 0, 1) := by decide +kernel
theorem dX5_leftOf_9 : decode cX5_leftOf 9 = .ok (.getfield 43, 3) := by decide +kernel
theorem dX5_leftOf_12 : decode cX5_leftOf 12 = .ok (.iload_n 1, 1) := by decide +kernel
theorem dX5_leftOf_13 : decode cX5_leftOf 13 = .ok (.invokestatic 82, 3) := by decide +kernel
theorem dX5_leftOf_16 : decode cX5_leftOf 16 = .ok (.isub, 1) := by decide +kernel
theorem dX5_leftOf_17 : decode cX5_leftOf 17 = .ok (.aload_n 0, 1) := by decide +kernel
theorem dX5_leftOf_18 : decode cX5_leftOf 18 = .ok (.getfield 7, 3) := by decide +kernel
theorem dX5_leftOf_21 : decode cX5_leftOf 21 = .ok (.iconst 2, 1) := by decide +kernel
theorem dX5_leftOf_22 : decode cX5_leftOf 22 = .ok (.iaload, 1) := by decide +kernel
theorem dX5_leftOf_23 : decode cX5_leftOf 23 = .ok (.aload_n 0, 1) := by decide +kernel
theorem dX5_leftOf_24 : decode cX5_leftOf 24 = .ok (.getfield 34, 3) := by decide +kernel
theorem dX5_leftOf_27 : decode cX5_leftOf 27 = .ok (.iload_n 1, 1) := by decide +kernel
theorem dX5_leftOf_28 : decode cX5_leftOf 28 = .ok (.invokestatic 82, 3) := by decide +kernel
theorem dX5_leftOf_31 : decode cX5_leftOf 31 = .ok (.imul, 1) := by decide +kernel
theorem dX5_leftOf_32 : decode cX5_leftOf 32 = .ok (.isub, 1) := by decide +kernel
theorem dX5_leftOf_33 : decode cX5_leftOf 33 = .ok (.aload_n 0, 1) := by decide +kernel
theorem dX5_leftOf_34 : decode cX5_leftOf 34 = .ok (.iload_n 1, 1) := by decide +kernel
theorem dX5_leftOf_35 : decode cX5_leftOf 35 = .ok (.invokevirtual 86, 3) := by decide +kernel
theorem dX5_leftOf_38 : decode cX5_leftOf 38 = .ok (.iadd, 1) := by decide +kernel
theorem dX5_leftOf_39 : decode cX5_leftOf 39 = .ok (.ireturn, 1) := by decide +kernel
set_option maxRecDepth 20000 in
theorem ggX5_leftNow_X5_reckon : GoodIn wsX5_leftNow wsX5_reckon := goodIn_r _ [5, 6, 7, 8, 4, 9, 10, 11, 12, 13, 14, 15, 16, 17, 18, 19, 20, 21, 22, 23, 24, 25, 26, 27, 28, 29, 30, 31, 32, 33, 34, 35, 36, 37, 38, 39, 40, 41, 53, 54, 55, 56, 57, 58, 59, 60, 61, 62, 63, 64, 65, 66, 67, 68, 69, 70] (by decide +kernel) (by decide +kernel)
set_option maxRecDepth 20000 in
theorem gX5_leftNow_X5_reckon : GoodIn wsX5_leftNow (wsV RX5 89 RX5 yX5_reckon wsX5_reckon) := goodIn_app (goodIn_of _ (by decide +kernel)) ggX5_leftNow_X5_reckon
set_option maxRecDepth 20000 in
theorem ggX5_leftNow_X5_leftOf : GoodIn wsX5_leftNow wsX5_leftOf := goodIn_r _ [45, 27, 33, 11, 26, 46, 47, 4, 48, 49, 50, 51, 52, 53, 54, 55, 56, 57, 58, 59, 60, 61, 62, 63, 64, 65, 66, 67, 68, 69, 70] (by decide +kernel) (by decide +kernel)
set_option maxRecDepth 20000 in
theorem gX5_leftNow_X5_leftOf : GoodIn wsX5_leftNow (wsV RX5 92 RX5 yX5_leftOf wsX5_leftOf) := goodIn_app (goodIn_of _ (by decide +kernel)) ggX5_leftNow_X5_leftOf
theorem dX5_leftNow_0 : decode cX5_leftNow 0 = .ok (.aload_n 0, 1) := by decide +kernel
theorem dX5_leftNow_1 : decode cX5_leftNow 1 = .ok (.invokevirtual 89, 3) := by decide +kernel
theorem dX5_leftNow_4 : decode cX5_leftNow 4 = .ok (.aload_n 0, 1) := by decide +kernel
theorem dX5_leftNow_5 : decode cX5_leftNow 5 = .ok (.iconst (-1), 1) := by decide +kernel
theorem dX5_leftNow_6 : decode cX5_leftNow 6 = .ok (.invokevirtual 92, 3) := by decide +kernel
theorem dX5_leftNow_9 : decode cX5_leftNow 9 = .ok (.ireturn, 1) := by decide +kernel
set_option maxRecDepth 20000 in
theorem ggX5_isValue_X5_within : GoodIn wsX5_isValue wsX5_within := goodIn_r _ [4] (by decide +kernel) (by decide +kernel)
set_option maxRecDepth 20000 in
theorem gX5_isValue_X5_within : GoodIn wsX5_isValue (va_wsS RX5 54 yX5_within wsX5_within) := goodIn_app (goodIn_of _ (by decide +kernel)) ggX5_isValue_X5_within
theorem dX5_isValue_0 : decode cX5_isValue 0 = .ok (.iload_n 0, 1) := by decide +kernel
theorem dX5_isValue_1 : decode cX5_isValue 1 = .ok (.tableswitch 70 0 4 #[35, 45, 53, 62, 62], 35) := by decide +kernel
theorem dX5_isValue_36 : decode cX5_isValue 36 = .ok (.iload_n 1, 1) := by decide +kernel
theorem dX5_isValue_37 : decode cX5_isValue 37 = .ok (.bipush 10, 2) := by decide +kernel
theorem dX5_isValue_39 : decode cX5_isValue 39 = .ok (.sipush 300, 3) := by decide +kernel
theorem dX5_isValue_42 : decode cX5_isValue 42 = .ok (.invokestatic 54, 3) := by decide +kernel
theorem dX5_isValue_45 : decode cX5_isValue 45 = .ok (.ireturn, 1) := by decide +kernel
theorem dX5_isValue_46 : decode cX5_isValue 46 = .ok (.iload_n 1, 1) := by decide +kernel
theorem dX5_isValue_47 : decode cX5_isValue 47 = .ok (.iconst 1, 1) := by decide +kernel
theorem dX5_isValue_48 : decode cX5_isValue 48 = .ok (.bipush 20, 2) := by decide +kernel
theorem dX5_isValue_50 : decode cX5_isValue 50 = .ok (.invokestatic 54, 3) := by decide +kernel
theorem dX5_isValue_53 : decode cX5_isValue 53 = .ok (.ireturn, 1) := by decide +kernel
theorem dX5_isValue_54 : decode cX5_isValue 54 = .ok (.iload_n 1, 1) := by decide +kernel
theorem dX5_isValue_55 : decode cX5_isValue 55 = .ok (.iconst 0, 1) := by decide +kernel
theorem dX5_isValue_56 : decode cX5_isValue 56 = .ok (.sipush 200, 3) := by decide +kernel
theorem dX5_isValue_59 : decode cX5_isValue 59 = .ok (.invokestatic 54, 3) := by decide +kernel
theorem dX5_isValue_62 : decode cX5_isValue 62 = .ok (.ireturn, 1) := by decide +kernel
theorem dX5_isValue_63 : decode cX5_isValue 63 = .ok (.iload_n 1, 1) := by decide +kernel
theorem dX5_isValue_64 : decode cX5_isValue 64 = .ok (.iconst 1, 1) := by decide +kernel
theorem dX5_isValue_65 : decode cX5_isValue 65 = .ok (.bipush 100, 2) := by decide +kernel
theorem dX5_isValue_67 : decode cX5_isValue 67 = .ok (.invokestatic 54, 3) := by decide +kernel
theorem dX5_isValue_70 : decode cX5_isValue 70 = .ok (.ireturn, 1) := by decide +kernel
theorem dX5_isValue_71 : decode cX5_isValue 71 = .ok (.iconst 0, 1) := by decide +kernel
theorem dX5_isValue_72 : decode cX5_isValue 72 = .ok (.ireturn, 1) := by decide +kernel
set_option maxRecDepth 20000 in
theorem ggX5_set_X5_isValue : GoodIn wsX5_set wsX5_isValue := goodIn_r _ [5, 6, 7, 4, 8] (by decide +kernel) (by decide +kernel)
set_option maxRecDepth 20000 in
theorem gX5_set_X5_isValue : GoodIn wsX5_set (va_wsS RX5 95 yX5_isValue wsX5_isValue) := goodIn_app (goodIn_of _ (by decide +kernel)) ggX5_set_X5_isValue
set_option maxRecDepth 20000 in
theorem ggX5_set_X5_record : GoodIn wsX5_set wsX5_record := goodIn_r _ [12, 13, 14, 1, 15, 16, 4, 17, 18, 19, 20, 21, 22, 23, 24, 25, 26, 27, 28, 29, 30, 31, 32, 33, 34, 35] (by decide +kernel) (by decide +kernel)
set_option maxRecDepth 20000 in
theorem gX5_set_X5_record : GoodIn wsX5_set (wsV RX5 99 RX5 yX5_record wsX5_record) := goodIn_app (goodIn_of _ (by decide +kernel)) ggX5_set_X5_record
theorem dX5_set_0 : decode cX5_set 0 = .ok (.iload_n 1, 1) := by decide +kernel
theorem dX5_set_1 : decode cX5_set 1 = .ok (.iload_n 2, 1) := by decide +kernel
theorem dX5_set_2 : decode cX5_set 2 = .ok (.invokestatic 95, 3) := by decide +kernel
theorem dX5_set_5 : decode cX5_set 5 = .ok (.ifCond .ne 6, 3) := by decide +kernel
theorem dX5_set_8 : decode cX5_set 8 = .ok (.bipush (-2), 2) := by decide +kernel
theorem dX5_set_10 : decode cX5_set 10 = .ok (.ireturn, 1) := by decide +kernel
theorem dX5_set_11 : decode cX5_set 11 = .ok (.aload_n 0, 1) := by decide +kernel
theorem dX5_set_12 : decode cX5_set 12 = .ok (.invokevirtual 99, 3) := by decide +kernel
theorem dX5_set_15 : decode cX5_set 15 = .ok (.aload_n 0, 1) := by decide +kernel
theorem dX5_set_16 : decode cX5_set 16 = .ok (.getfield 7, 3) := by decide +kernel
theorem dX5_set_19 : decode cX5_set 19 = .ok (.iload_n 1, 1) := by decide +kernel
theorem dX5_set_20 : decode cX5_set 20 = .ok (.iaload, 1) := by decide +kernel
theorem dX5_set_21 : decode cX5_set 21 = .ok (.istore_n 3, 1) := by decide +kernel
theorem dX5_set_22 : decode cX5_set 22 = .ok (.aload_n 0, 1) := by decide +kernel
theorem dX5_set_23 : decode cX5_set 23 = .ok (.getfield 7, 3) := by decide +kernel
theorem dX5_set_26 : decode cX5_set 26 = .ok (.iload_n 1, 1) := by decide +kernel
theorem dX5_set_27 : decode cX5_set 27 = .ok (.iload_n 2, 1) := by decide +kernel
theorem dX5_set_28 : decode cX5_set 28 = .ok (.iastore, 1) := by decide +kernel
theorem dX5_set_29 : decode cX5_set 29 = .ok (.iload_n 3, 1) := by decide +kernel
theorem dX5_set_30 : decode cX5_set 30 = .ok (.ireturn, 1) := by decide +kernel
set_option maxRecDepth 20000 in
theorem ggX5_film_X5_within : GoodIn wsX5_film wsX5_within := goodIn_r _ [5] (by decide +kernel) (by decide +kernel)
set_option maxRecDepth 20000 in
theorem gX5_film_X5_within : GoodIn wsX5_film (va_wsS RX5 54 yX5_within wsX5_within) := goodIn_app (goodIn_of _ (by decide +kernel)) ggX5_film_X5_within
set_option maxRecDepth 20000 in
theorem ggX5_film_X5_record : GoodIn wsX5_film wsX5_record := goodIn_r _ [9, 10, 11, 1, 12, 13, 4, 14, 15, 16, 17, 18, 19, 20, 21, 22, 23, 24, 25, 26, 27, 28, 29, 30, 31, 32] (by decide +kernel) (by decide +kernel)
set_option maxRecDepth 20000 in
theorem gX5_film_X5_record : GoodIn wsX5_film (wsV RX5 99 RX5 yX5_record wsX5_record) := goodIn_app (goodIn_of _ (by decide +kernel)) ggX5_film_X5_record
theorem dX5_film_0 : decode cX5_film 0 = .ok (.iload_n 1, 1) := by decide +kernel
theorem dX5_film_1 : decode cX5_film 1 = .ok (.iconst 0, 1) := by decide +kernel
theorem dX5_film_2 : decode cX5_film 2 = .ok (.iconst 3, 1) := by decide +kernel
theorem dX5_film_3 : decode cX5_film 3 = .ok (.invokestatic 54, 3) := by decide +kernel
theorem dX5_film_6 : decode cX5_film 6 = .ok (.ifCond .eq 48, 3) := by decide +kernel
theorem dX5_film_9 : decode cX5_film 9 = .ok (.iload_n 2, 1) := by decide +kernel
theorem dX5_film_10 : decode cX5_film 10 = .ok (.iconst 1, 1) := by decide +kernel
theorem dX5_film_11 : decode cX5_film 11 = .ok (.sipush 999, 3) := by decide +kernel
theorem dX5_film_14 : decode cX5_film 14 = .ok (.invokestatic 54, 3) := by decide +kernel
theorem dX5_film_17 : decode cX5_film 17 = .ok (.ifCond .eq 37, 3) := by decide +kernel
theorem dX5_film_20 : decode cX5_film 20 = .ok (.iload_n 3, 1) := by decide +kernel
theorem dX5_film_21 : decode cX5_film 21 = .ok (.iconst 0, 1) := by decide +kernel
theorem dX5_film_22 : decode cX5_film 22 = .ok (.sipush 500, 3) := by decide +kernel
theorem dX5_film_25 : decode cX5_film 25 = .ok (.invokestatic 54, 3) := by decide +kernel
theorem dX5_film_28 : decode cX5_film 28 = .ok (.ifCond .eq 26, 3) := by decide +kernel
theorem dX5_film_31 : decode cX5_film 31 = .ok (.iload 4, 2) := by decide +kernel
theorem dX5_film_33 : decode cX5_film 33 = .ok (.bipush 20, 2) := by decide +kernel
theorem dX5_film_35 : decode cX5_film 35 = .ok (.bipush 90, 2) := by decide +kernel
theorem dX5_film_37 : decode cX5_film 37 = .ok (.invokestatic 54, 3) := by decide +kernel
theorem dX5_film_40 : decode cX5_film 40 = .ok (.ifCond .eq 14, 3) := by decide +kernel
theorem dX5_film_43 : decode cX5_film 43 = .ok (.iload 5, 2) := by decide +kernel
theorem dX5_film_45 : decode cX5_film 45 = .ok (.iconst 0, 1) := by decide +kernel
theorem dX5_film_46 : decode cX5_film 46 = .ok (.bipush 34, 2) := by decide +kernel
theorem dX5_film_48 : decode cX5_film 48 = .ok (.invokestatic 54, 3) := by decide +kernel
theorem dX5_film_51 : decode cX5_film 51 = .ok (.ifCond .ne 6, 3) := by decide +kernel
theorem dX5_film_54 : decode cX5_film 54 = .ok (.bipush (-2), 2) := by decide +kernel
theorem dX5_film_56 : decode cX5_film 56 = .ok (.ireturn, 1) := by decide +kernel
theorem dX5_film_57 : decode cX5_film 57 = .ok (.aload_n 0, 1) := by decide +kernel
theorem dX5_film_58 : decode cX5_film 58 = .ok (.getfield 7, 3) := by decide +kernel
theorem dX5_film_61 : decode cX5_film 61 = .ok (.iconst 5, 1) := by decide +kernel
theorem dX5_film_62 : decode cX5_film 62 = .ok (.iaload, 1) := by decide +kernel
theorem dX5_film_63 : decode cX5_film 63 = .ok (.bipush 8, 2) := by decide +kernel
theorem dX5_film_65 : decode cX5_film 65 = .ok (.if_icmp .ne 6, 3) := by decide +kernel
theorem dX5_film_68 : decode cX5_film 68 = .ok (.bipush (-4), 2) := by decide +kernel
theorem dX5_film_70 : decode cX5_film 70 = .ok (.ireturn, 1) := by decide +kernel
theorem dX5_film_71 : decode cX5_film 71 = .ok (.aload_n 0, 1) := by decide +kernel
theorem dX5_film_72 : decode cX5_film 72 = .ok (.invokevirtual 99, 3) := by decide +kernel
theorem dX5_film_75 : decode cX5_film 75 = .ok (.bipush 6, 2) := by decide +kernel
theorem dX5_film_77 : decode cX5_film 77 = .ok (.iconst 5, 1) := by decide +kernel
theorem dX5_film_78 : decode cX5_film 78 = .ok (.aload_n 0, 1) := by decide +kernel
theorem dX5_film_79 : decode cX5_film 79 = .ok (.getfield 7, 3) := by decide +kernel
theorem dX5_film_82 : decode cX5_film 82 = .ok (.iconst 5, 1) := by decide +kernel
theorem dX5_film_83 : decode cX5_film 83 = .ok (.iaload, 1) := by decide +kernel
theorem dX5_film_84 : decode cX5_film 84 = .ok (.imul, 1) := by decide +kernel
theorem dX5_film_85 : decode cX5_film 85 = .ok (.iadd, 1) := by decide +kernel
theorem dX5_film_86 : decode cX5_film 86 = .ok (.istore 6, 2) := by decide +kernel
theorem dX5_film_88 : decode cX5_film 88 = .ok (.aload_n 0, 1) := by decide +kernel
theorem dX5_film_89 : decode cX5_film 89 = .ok (.getfield 7, 3) := by decide +kernel
theorem dX5_film_92 : decode cX5_film 92 = .ok (.iload 6, 2) := by decide +kernel
theorem dX5_film_94 : decode cX5_film 94 = .ok (.iconst 0, 1) := by decide +kernel
theorem dX5_film_95 : decode cX5_film 95 = .ok (.iadd, 1) := by decide +kernel
theorem dX5_film_96 : decode cX5_film 96 = .ok (.iload_n 1, 1) := by decide +kernel
theorem dX5_film_97 : decode cX5_film 97 = .ok (.iastore, 1) := by decide +kernel
theorem dX5_film_98 : decode cX5_film 98 = .ok (.aload_n 0, 1) := by decide +kernel
theorem dX5_film_99 : decode cX5_film 99 = .ok (.getfield 7, 3) := by decide +kernel
theorem dX5_film_102 : decode cX5_film 102 = .ok (.iload 6, 2) := by decide +kernel
theorem dX5_film_104 : decode cX5_film 104 = .ok (.iconst 1, 1) := by decide +kernel
theorem dX5_film_105 : decode cX5_film 105 = .ok (.iadd, 1) := by decide +kernel
theorem dX5_film_106 : decode cX5_film 106 = .ok (.iload_n 2, 1) := by decide +kernel
theorem dX5_film_107 : decode cX5_film 107 = .ok (.iastore, 1) := by decide +kernel
theorem dX5_film_108 : decode cX5_film 108 = .ok (.aload_n 0, 1) := by decide +kernel
theorem dX5_film_109 : decode cX5_film 109 = .ok (.getfield 7, 3) := by decide +kernel
theorem dX5_film_112 : decode cX5_film 112 = .ok (.iload 6, 2) := by decide +kernel
theorem dX5_film_114 : decode cX5_film 114 = .ok (.iconst 2, 1) := by decide +kernel
theorem dX5_film_115 : decode cX5_film 115 = .ok (.iadd, 1) := by decide +kernel
theorem dX5_film_116 : decode cX5_film 116 = .ok (.iload_n 3, 1) := by decide +kernel
theorem dX5_film_117 : decode cX5_film 117 = .ok (.iastore, 1) := by decide +kernel
theorem dX5_film_118 : decode cX5_film 118 = .ok (.aload_n 0, 1) := by decide +kernel
theorem dX5_film_119 : decode cX5_film 119 = .ok (.getfield 7, 3) := by decide +kernel
theorem dX5_film_122 : decode cX5_film 122 = .ok (.iload 6, 2) := by decide +kernel
theorem dX5_film_124 : decode cX5_film 124 = .ok (.iconst 3, 1) := by decide +kernel
theorem dX5_film_125 : decode cX5_film 125 = .ok (.iadd, 1) := by decide +kernel
theorem dX5_film_126 : decode cX5_film 126 = .ok (.iload 4, 2) := by decide +kernel
theorem dX5_film_128 : decode cX5_film 128 = .ok (.iastore, 1) := by decide +kernel
theorem dX5_film_129 : decode cX5_film 129 = .ok (.aload_n 0, 1) := by decide +kernel
theorem dX5_film_130 : decode cX5_film 130 = .ok (.getfield 7, 3) := by decide +kernel
theorem dX5_film_133 : decode cX5_film 133 = .ok (.iload 6, 2) := by decide +kernel
theorem dX5_film_135 : decode cX5_film 135 = .ok (.iconst 4, 1) := by decide +kernel
theorem dX5_film_136 : decode cX5_film 136 = .ok (.iadd, 1) := by decide +kernel
theorem dX5_film_137 : decode cX5_film 137 = .ok (.iload 5, 2) := by decide +kernel
theorem dX5_film_139 : decode cX5_film 139 = .ok (.iastore, 1) := by decide +kernel
theorem dX5_film_140 : decode cX5_film 140 = .ok (.aload_n 0, 1) := by decide +kernel
theorem dX5_film_141 : decode cX5_film 141 = .ok (.getfield 7, 3) := by decide +kernel
theorem dX5_film_144 : decode cX5_film 144 = .ok (.iconst 5, 1) := by decide +kernel
theorem dX5_film_145 : decode cX5_film 145 = .ok (.dup2, 1) := by decide +kernel
theorem dX5_film_146 : decode cX5_film 146 = .ok (.iaload, 1) := by decide +kernel
theorem dX5_film_147 : decode cX5_film 147 = .ok (.iconst 1, 1) := by decide +kernel
theorem dX5_film_148 : decode cX5_film 148 = .ok (.iadd, 1) := by decide +kernel
theorem dX5_film_149 : decode cX5_film 149 = .ok (.iastore, 1) := by decide +kernel
theorem dX5_film_150 : decode cX5_film 150 = .ok (.aload_n 0, 1) := by decide +kernel
theorem dX5_film_151 : decode cX5_film 151 = .ok (.getfield 7, 3) := by decide +kernel
theorem dX5_film_154 : decode cX5_film 154 = .ok (.iconst 5, 1) := by decide +kernel
theorem dX5_film_155 : decode cX5_film 155 = .ok (.iaload, 1) := by decide +kernel
theorem dX5_film_156 : decode cX5_film 156 = .ok (.iconst 1, 1) := by decide +kernel
theorem dX5_film_157 : decode cX5_film 157 = .ok (.isub, 1) := by decide +kernel
theorem dX5_film_158 : decode cX5_film 158 = .ok (.ireturn, 1) := by decide +kernel
set_option maxRecDepth 20000 in
theorem ggX5_canShow_X5_isLet : GoodIn wsX5_canShow wsX5_isLet := goodIn_r _ [5, 6, 11, 12, 13, 14, 15, 16, 17, 18, 19, 20, 21, 22, 23, 24, 25, 26, 27, 28] (by decide +kernel) (by decide +kernel)
set_option maxRecDepth 20000 in
theorem gX5_canShow_X5_isLet : GoodIn wsX5_canShow (wsV RX5 102 RX5 yX5_isLet wsX5_isLet) := goodIn_app (goodIn_of _ (by decide +kernel)) ggX5_canShow_X5_isLet
set_option maxRecDepth 20000 in
theorem ggX5_canShow_X5_filmPart : GoodIn wsX5_canShow wsX5_filmPart := goodIn_r _ [10, 6, 11, 12, 13, 14, 15, 16, 17, 18, 19, 20, 21, 22, 23, 24, 25, 26, 27, 28] (by decide +kernel) (by decide +kernel)
set_option maxRecDepth 20000 in
theorem gX5_canShow_X5_filmPart : GoodIn wsX5_canShow (wsV RX5 58 RX5 yX5_filmPart wsX5_filmPart) := goodIn_app (goodIn_of _ (by decide +kernel)) ggX5_canShow_X5_filmPart
theorem dX5_canShow_0 : decode cX5_canShow 0 = .ok (.aload_n 0, 1) := by decide +kernel
theorem dX5_canShow_1 : decode cX5_canShow 1 = .ok (.iload_n 2, 1) := by decide +kernel
theorem dX5_canShow_2 : decode cX5_canShow 2 = .ok (.invokevirtual 102, 3) := by decide +kernel
theorem dX5_canShow_5 : decode cX5_canShow 5 = .ok (.ifCond .ne 17, 3) := by decide +kernel
theorem dX5_canShow_8 : decode cX5_canShow 8 = .ok (.iload_n 2, 1) := by decide +kernel
theorem dX5_canShow_9 : decode cX5_canShow 9 = .ok (.aload_n 0, 1) := by decide +kernel
theorem dX5_canShow_10 : decode cX5_canShow 10 = .ok (.iload_n 1, 1) := by decide +kernel
theorem dX5_canShow_11 : decode cX5_canShow 11 = .ok (.iconst 4, 1) := by decide +kernel
theorem dX5_canShow_12 : decode cX5_canShow 12 = .ok (.invokevirtual 58, 3) := by decide +kernel
theorem dX5_canShow_15 : decode cX5_canShow 15 = .ok (.if_icmp .lt 7, 3) := by decide +kernel
theorem dX5_canShow_18 : decode cX5_canShow 18 = .ok (.iconst 1, 1) := by decide +kernel
theorem dX5_canShow_19 : decode cX5_canShow 19 = .ok (.goto 4, 3) := by decide +kernel
theorem dX5_canShow_22 : decode cX5_canShow 22 = .ok (.iconst 0, 1) := by decide +kernel
theorem dX5_canShow_23 : decode cX5_canShow 23 = .ok (.ireturn, 1) := by decide +kernel
set_option maxRecDepth 20000 in
theorem ggX5_whyNotShown_X5_isFilm : GoodIn wsX5_whyNotShown wsX5_isFilm := goodIn_r _ [5, 6, 7, 8, 4, 9, 25, 26, 27, 28, 29, 30, 31, 32, 33, 34, 35, 36, 37, 38, 39, 40, 41, 42] (by decide +kernel) (by decide +kernel)
set_option maxRecDepth 20000 in
theorem gX5_whyNotShown_X5_isFilm : GoodIn wsX5_whyNotShown (wsV RX5 106 RX5 yX5_isFilm wsX5_isFilm) := goodIn_app (goodIn_of _ (by decide +kernel)) ggX5_whyNotShown_X5_isFilm
set_option maxRecDepth 20000 in
theorem ggX5_whyNotShown_X5_isPart : GoodIn wsX5_whyNotShown wsX5_isPart := goodIn_r _ [12, 7, 8, 4, 9] (by decide +kernel) (by decide +kernel)
set_option maxRecDepth 20000 in
theorem gX5_whyNotShown_X5_isPart : GoodIn wsX5_whyNotShown (va_wsS RX5 109 yX5_isPart wsX5_isPart) := goodIn_app (goodIn_of _ (by decide +kernel)) ggX5_whyNotShown_X5_isPart
set_option maxRecDepth 20000 in
theorem ggX5_whyNotShown_X5_canShow : GoodIn wsX5_whyNotShown wsX5_canShow := goodIn_r _ [16, 17, 18, 19, 4, 20, 6, 21, 22, 23, 24, 25, 26, 27, 28, 29, 30, 31, 32, 33, 34, 35, 36, 37, 38, 39, 40, 41, 42] (by decide +kernel) (by decide +kernel)
set_option maxRecDepth 20000 in
theorem gX5_whyNotShown_X5_canShow : GoodIn wsX5_whyNotShown (wsV RX5 112 RX5 yX5_canShow wsX5_canShow) := goodIn_app (goodIn_of _ (by decide +kernel)) ggX5_whyNotShown_X5_canShow
theorem dX5_whyNotShown_0 : decode cX5_whyNotShown 0 = .ok (.aload_n 0, 1) := by decide +kernel
theorem dX5_whyNotShown_1 : decode cX5_whyNotShown 1 = .ok (.iload_n 1, 1) := by decide +kernel
theorem dX5_whyNotShown_2 : decode cX5_whyNotShown 2 = .ok (.invokevirtual 106, 3) := by decide +kernel
theorem dX5_whyNotShown_5 : decode cX5_whyNotShown 5 = .ok (.ifCond .ne 5, 3) := by decide +kernel
theorem dX5_whyNotShown_8 : decode cX5_whyNotShown 8 = .ok (.iconst (-1), 1) := by decide +kernel
theorem dX5_whyNotShown_9 : decode cX5_whyNotShown 9 = .ok (.ireturn, 1) := by decide +kernel
theorem dX5_whyNotShown_10 : decode cX5_whyNotShown 10 = .ok (.iload_n 2, 1) := by decide +kernel
theorem dX5_whyNotShown_11 : decode cX5_whyNotShown 11 = .ok (.iload_n 3, 1) := by decide +kernel
theorem dX5_whyNotShown_12 : decode cX5_whyNotShown 12 = .ok (.invokestatic 109, 3) := by decide +kernel
theorem dX5_whyNotShown_15 : decode cX5_whyNotShown 15 = .ok (.ifCond .ne 8, 3) := by decide +kernel
theorem dX5_whyNotShown_18 : decode cX5_whyNotShown 18 = .ok (.bipush (-2), 2) := by decide +kernel
theorem dX5_whyNotShown_20 : decode cX5_whyNotShown 20 = .ok (.goto 18, 3) := by decide +kernel
theorem dX5_whyNotShown_23 : decode cX5_whyNotShown 23 = .ok (.aload_n 0, 1) := by decide +kernel
theorem dX5_whyNotShown_24 : decode cX5_whyNotShown 24 = .ok (.iload_n 1, 1) := by decide +kernel
theorem dX5_whyNotShown_25 : decode cX5_whyNotShown 25 = .ok (.iload_n 2, 1) := by decide +kernel
theorem dX5_whyNotShown_26 : decode cX5_whyNotShown 26 = .ok (.invokevirtual 112, 3) := by decide +kernel
theorem dX5_whyNotShown_29 : decode cX5_whyNotShown 29 = .ok (.ifCond .eq 7, 3) := by decide +kernel
theorem dX5_whyNotShown_32 : decode cX5_whyNotShown 32 = .ok (.iconst 0, 1) := by decide +kernel
theorem dX5_whyNotShown_33 : decode cX5_whyNotShown 33 = .ok (.goto 5, 3) := by decide +kernel
theorem dX5_whyNotShown_36 : decode cX5_whyNotShown 36 = .ok (.bipush (-5), 2) := by decide +kernel
theorem dX5_whyNotShown_38 : decode cX5_whyNotShown 38 = .ok (.ireturn, 1) := by decide +kernel
set_option maxRecDepth 20000 in
theorem ggX5_show_X5_whyNotShown : GoodIn wsX5_show wsX5_whyNotShown := goodIn_r _ [6, 7, 8, 9, 5, 10, 1, 11, 12, 13, 14, 15, 16, 17, 18, 19, 20, 21, 22, 23, 24, 25, 26, 27, 28, 42, 43, 44, 45, 46, 47, 48, 49, 50, 51, 52, 53, 54, 55, 56, 57, 58, 59] (by decide +kernel) (by decide +kernel)
set_option maxRecDepth 20000 in
theorem gX5_show_X5_whyNotShown : GoodIn wsX5_show (wsV RX5 115 RX5 yX5_whyNotShown wsX5_whyNotShown) := goodIn_app (goodIn_of _ (by decide +kernel)) ggX5_show_X5_whyNotShown
set_option maxRecDepth 20000 in
theorem ggX5_show_X5_record : GoodIn wsX5_show wsX5_record := goodIn_r _ [32, 33, 34, 1, 35, 36, 5, 37, 42, 43, 44, 45, 46, 47, 48, 49, 50, 51, 52, 53, 54, 55, 56, 57, 58, 59] (by decide +kernel) (by decide +kernel)
set_option maxRecDepth 20000 in
theorem gX5_show_X5_record : GoodIn wsX5_show (wsV RX5 99 RX5 yX5_record wsX5_record) := goodIn_app (goodIn_of _ (by decide +kernel)) ggX5_show_X5_record
set_option maxRecDepth 20000 in
theorem ggX5_show_X5_showAt : GoodIn wsX5_show wsX5_showAt := goodIn_r _ [41, 1, 42, 43, 44, 45, 46, 47, 48, 49, 50, 51, 52, 53, 54, 55, 56, 57, 58, 59] (by decide +kernel) (by decide +kernel)
set_option maxRecDepth 20000 in
theorem gX5_show_X5_showAt : GoodIn wsX5_show (wsV RX5 119 RX5 yX5_showAt wsX5_showAt) := goodIn_app (goodIn_of _ (by decide +kernel)) ggX5_show_X5_showAt
theorem dX5_show_0 : decode cX5_show 0 = .ok (.aload_n 0, 1) := by decide +kernel
theorem dX5_show_1 : decode cX5_show 1 = .ok (.iload_n 1, 1) := by decide +kernel
theorem dX5_show_2 : decode cX5_show 2 = .ok (.iload_n 2, 1) := by decide +kernel
theorem dX5_show_3 : decode cX5_show 3 = .ok (.iload_n 3, 1) := by decide +kernel
theorem dX5_show_4 : decode cX5_show 4 = .ok (.invokevirtual 115, 3) := by decide +kernel
theorem dX5_show_7 : decode cX5_show 7 = .ok (.istore 4, 2) := by decide +kernel
theorem dX5_show_9 : decode cX5_show 9 = .ok (.iload 4, 2) := by decide +kernel
theorem dX5_show_11 : decode cX5_show 11 = .ok (.ifCond .ge 6, 3) := by decide +kernel
theorem dX5_show_14 : decode cX5_show 14 = .ok (.iload 4, 2) := by decide +kernel
theorem dX5_show_16 : decode cX5_show 16 = .ok (.ireturn, 1) := by decide +kernel
theorem dX5_show_17 : decode cX5_show 17 = .ok (.aload_n 0, 1) := by decide +kernel
theorem dX5_show_18 : decode cX5_show 18 = .ok (.invokevirtual 99, 3) := by decide +kernel
theorem dX5_show_21 : decode cX5_show 21 = .ok (.aload_n 0, 1) := by decide +kernel
theorem dX5_show_22 : decode cX5_show 22 = .ok (.iload_n 2, 1) := by decide +kernel
theorem dX5_show_23 : decode cX5_show 23 = .ok (.iload_n 3, 1) := by decide +kernel
theorem dX5_show_24 : decode cX5_show 24 = .ok (.invokevirtual 119, 3) := by decide +kernel
theorem dX5_show_27 : decode cX5_show 27 = .ok (.istore 5, 2) := by decide +kernel
theorem dX5_show_29 : decode cX5_show 29 = .ok (.aload_n 0, 1) := by decide +kernel
theorem dX5_show_30 : decode cX5_show 30 = .ok (.getfield 7, 3) := by decide +kernel
theorem dX5_show_33 : decode cX5_show 33 = .ok (.bipush 46, 2) := by decide +kernel
theorem dX5_show_35 : decode cX5_show 35 = .ok (.iconst 2, 1) := by decide +kernel
theorem dX5_show_36 : decode cX5_show 36 = .ok (.iload_n 2, 1) := by decide +kernel
theorem dX5_show_37 : decode cX5_show 37 = .ok (.imul, 1) := by decide +kernel
theorem dX5_show_38 : decode cX5_show 38 = .ok (.iadd, 1) := by decide +kernel
theorem dX5_show_39 : decode cX5_show 39 = .ok (.iload_n 3, 1) := by decide +kernel
theorem dX5_show_40 : decode cX5_show 40 = .ok (.iadd, 1) := by decide +kernel
theorem dX5_show_41 : decode cX5_show 41 = .ok (.iload_n 1, 1) := by decide +kernel
theorem dX5_show_42 : decode cX5_show 42 = .ok (.iastore, 1) := by decide +kernel
theorem dX5_show_43 : decode cX5_show 43 = .ok (.iload 5, 2) := by decide +kernel
theorem dX5_show_45 : decode cX5_show 45 = .ok (.ireturn, 1) := by decide +kernel
set_option maxRecDepth 20000 in
theorem ggX5_drop_X5_isPart : GoodIn wsX5_drop wsX5_isPart := goodIn_r _ [5, 6, 7, 4, 8] (by decide +kernel) (by decide +kernel)
set_option maxRecDepth 20000 in
theorem gX5_drop_X5_isPart : GoodIn wsX5_drop (va_wsS RX5 109 yX5_isPart wsX5_isPart) := goodIn_app (goodIn_of _ (by decide +kernel)) ggX5_drop_X5_isPart
set_option maxRecDepth 20000 in
theorem ggX5_drop_X5_showAt : GoodIn wsX5_drop wsX5_showAt := goodIn_r _ [12, 1, 22, 23, 24, 25, 26, 27, 28, 29, 30, 31, 32, 33, 34, 35, 36, 37, 38, 39] (by decide +kernel) (by decide +kernel)
set_option maxRecDepth 20000 in
theorem gX5_drop_X5_showAt : GoodIn wsX5_drop (wsV RX5 119 RX5 yX5_showAt wsX5_showAt) := goodIn_app (goodIn_of _ (by decide +kernel)) ggX5_drop_X5_showAt
set_option maxRecDepth 20000 in
theorem ggX5_drop_X5_record : GoodIn wsX5_drop wsX5_record := goodIn_r _ [16, 17, 18, 1, 19, 20, 4, 21, 22, 23, 24, 25, 26, 27, 28, 29, 30, 31, 32, 33, 34, 35, 36, 37, 38, 39] (by decide +kernel) (by decide +kernel)
set_option maxRecDepth 20000 in
theorem gX5_drop_X5_record : GoodIn wsX5_drop (wsV RX5 99 RX5 yX5_record wsX5_record) := goodIn_app (goodIn_of _ (by decide +kernel)) ggX5_drop_X5_record
theorem dX5_drop_0 : decode cX5_drop 0 = .ok (.iload_n 1, 1) := by decide +kernel
theorem dX5_drop_1 : decode cX5_drop 1 = .ok (.iload_n 2, 1) := by decide +kernel
theorem dX5_drop_2 : decode cX5_drop 2 = .ok (.invokestatic 109, 3) := by decide +kernel
theorem dX5_drop_5 : decode cX5_drop 5 = .ok (.ifCond .ne 6, 3) := by decide +kernel
theorem dX5_drop_8 : decode cX5_drop 8 = .ok (.bipush (-2), 2) := by decide +kernel
theorem dX5_drop_10 : decode cX5_drop 10 = .ok (.ireturn, 1) := by decide +kernel
theorem dX5_drop_11 : decode cX5_drop 11 = .ok (.aload_n 0, 1) := by decide +kernel
theorem dX5_drop_12 : decode cX5_drop 12 = .ok (.iload_n 1, 1) := by decide +kernel
theorem dX5_drop_13 : decode cX5_drop 13 = .ok (.iload_n 2, 1) := by decide +kernel
theorem dX5_drop_14 : decode cX5_drop 14 = .ok (.invokevirtual 119, 3) := by decide +kernel
theorem dX5_drop_17 : decode cX5_drop 17 = .ok (.istore_n 3, 1) := by decide +kernel
theorem dX5_drop_18 : decode cX5_drop 18 = .ok (.iload_n 3, 1) := by decide +kernel
theorem dX5_drop_19 : decode cX5_drop 19 = .ok (.bipush (-6), 2) := by decide +kernel
theorem dX5_drop_21 : decode cX5_drop 21 = .ok (.if_icmp .ne 6, 3) := by decide +kernel
theorem dX5_drop_24 : decode cX5_drop 24 = .ok (.bipush (-5), 2) := by decide +kernel
theorem dX5_drop_26 : decode cX5_drop 26 = .ok (.ireturn, 1) := by decide +kernel
theorem dX5_drop_27 : decode cX5_drop 27 = .ok (.aload_n 0, 1) := by decide +kernel
theorem dX5_drop_28 : decode cX5_drop 28 = .ok (.invokevirtual 99, 3) := by decide +kernel
theorem dX5_drop_31 : decode cX5_drop 31 = .ok (.aload_n 0, 1) := by decide +kernel
theorem dX5_drop_32 : decode cX5_drop 32 = .ok (.getfield 7, 3) := by decide +kernel
theorem dX5_drop_35 : decode cX5_drop 35 = .ok (.bipush 46, 2) := by decide +kernel
theorem dX5_drop_37 : decode cX5_drop 37 = .ok (.iconst 2, 1) := by decide +kernel
theorem dX5_drop_38 : decode cX5_drop 38 = .ok (.iload_n 1, 1) := by decide +kernel
theorem dX5_drop_39 : decode cX5_drop 39 = .ok (.imul, 1) := by decide +kernel
theorem dX5_drop_40 : decode cX5_drop 40 = .ok (.iadd, 1) := by decide +kernel
theorem dX5_drop_41 : decode cX5_drop 41 = .ok (.iload_n 2, 1) := by decide +kernel
theorem dX5_drop_42 : decode cX5_drop 42 = .ok (.iadd, 1) := by decide +kernel
theorem dX5_drop_43 : decode cX5_drop 43 = .ok (.bipush (-6), 2) := by decide +kernel
theorem dX5_drop_45 : decode cX5_drop 45 = .ok (.iastore, 1) := by decide +kernel
theorem dX5_drop_46 : decode cX5_drop 46 = .ok (.iload_n 3, 1) := by decide +kernel
theorem dX5_drop_47 : decode cX5_drop 47 = .ok (.ireturn, 1) := by decide +kernel
set_option maxRecDepth 20000 in
theorem ggX5_canBe_X5_isLet : GoodIn wsX5_canBe wsX5_isLet := goodIn_r _ [5, 6, 11, 12, 13, 14, 15, 16, 17, 18, 19, 20, 21, 22, 23, 24, 25, 26, 27, 28] (by decide +kernel) (by decide +kernel)
set_option maxRecDepth 20000 in
theorem gX5_canBe_X5_isLet : GoodIn wsX5_canBe (wsV RX5 102 RX5 yX5_isLet wsX5_isLet) := goodIn_app (goodIn_of _ (by decide +kernel)) ggX5_canBe_X5_isLet
set_option maxRecDepth 20000 in
theorem ggX5_canBe_X5_filmPart : GoodIn wsX5_canBe wsX5_filmPart := goodIn_r _ [10, 6, 11, 12, 13, 14, 15, 16, 17, 18, 19, 20, 21, 22, 23, 24, 25, 26, 27, 28] (by decide +kernel) (by decide +kernel)
set_option maxRecDepth 20000 in
theorem gX5_canBe_X5_filmPart : GoodIn wsX5_canBe (wsV RX5 58 RX5 yX5_filmPart wsX5_filmPart) := goodIn_app (goodIn_of _ (by decide +kernel)) ggX5_canBe_X5_filmPart
theorem dX5_canBe_0 : decode cX5_canBe 0 = .ok (.aload_n 0, 1) := by decide +kernel
theorem dX5_canBe_1 : decode cX5_canBe 1 = .ok (.iload_n 2, 1) := by decide +kernel
theorem dX5_canBe_2 : decode cX5_canBe 2 = .ok (.invokevirtual 102, 3) := by decide +kernel
theorem dX5_canBe_5 : decode cX5_canBe 5 = .ok (.ifCond .ne 23, 3) := by decide +kernel
theorem dX5_canBe_8 : decode cX5_canBe 8 = .ok (.iload_n 1, 1) := by decide +kernel
theorem dX5_canBe_9 : decode cX5_canBe 9 = .ok (.bipush (-6), 2) := by decide +kernel
theorem dX5_canBe_11 : decode cX5_canBe 11 = .ok (.if_icmp .eq 13, 3) := by decide +kernel
theorem dX5_canBe_14 : decode cX5_canBe 14 = .ok (.iload_n 2, 1) := by decide +kernel
theorem dX5_canBe_15 : decode cX5_canBe 15 = .ok (.aload_n 0, 1) := by decide +kernel
theorem dX5_canBe_16 : decode cX5_canBe 16 = .ok (.iload_n 1, 1) := by decide +kernel
theorem dX5_canBe_17 : decode cX5_canBe 17 = .ok (.iconst 4, 1) := by decide +kernel
theorem dX5_canBe_18 : decode cX5_canBe 18 = .ok (.invokevirtual 58, 3) := by decide +kernel
theorem dX5_canBe_21 : decode cX5_canBe 21 = .ok (.if_icmp .lt 7, 3) := by decide +kernel
theorem dX5_canBe_24 : decode cX5_canBe 24 = .ok (.iconst 1, 1) := by decide +kernel
theorem dX5_canBe_25 : decode cX5_canBe 25 = .ok (.goto 4, 3) := by decide +kernel
theorem dX5_canBe_28 : decode cX5_canBe 28 = .ok (.iconst 0, 1) := by decide +kernel
theorem dX5_canBe_29 : decode cX5_canBe 29 = .ok (.ireturn, 1) := by decide +kernel
set_option maxRecDepth 20000 in
theorem ggX5_exchange_X5_isPart : GoodIn wsX5_exchange wsX5_isPart := goodIn_r _ [6, 7, 8, 5, 9] (by decide +kernel) (by decide +kernel)
set_option maxRecDepth 20000 in
theorem gX5_exchange_X5_isPart : GoodIn wsX5_exchange (va_wsS RX5 109 yX5_isPart wsX5_isPart) := goodIn_app (goodIn_of _ (by decide +kernel)) ggX5_exchange_X5_isPart
set_option maxRecDepth 20000 in
theorem ggX5_exchange_X5_showAt : GoodIn wsX5_exchange wsX5_showAt := goodIn_r _ [13, 1, 85, 86, 87, 88, 89, 90, 91, 92, 93, 94, 95, 96, 97, 98, 99, 100, 101, 102] (by decide +kernel) (by decide +kernel)
set_option maxRecDepth 20000 in
theorem gX5_exchange_X5_showAt : GoodIn wsX5_exchange (wsV RX5 119 RX5 yX5_showAt wsX5_showAt) := goodIn_app (goodIn_of _ (by decide +kernel)) ggX5_exchange_X5_showAt
set_option maxRecDepth 20000 in
theorem ggX5_exchange_X5_canBe : GoodIn wsX5_exchange wsX5_canBe := goodIn_r _ [17, 18, 19, 20, 5, 21, 1, 22, 23, 24, 25, 85, 86, 87, 88, 89, 90, 91, 92, 93, 94, 95, 96, 97, 98, 99, 100, 101, 102] (by decide +kernel) (by decide +kernel)
set_option maxRecDepth 20000 in
theorem gX5_exchange_X5_canBe : GoodIn wsX5_exchange (wsV RX5 122 RX5 yX5_canBe wsX5_canBe) := goodIn_app (goodIn_of _ (by decide +kernel)) ggX5_exchange_X5_canBe
set_option maxRecDepth 20000 in
theorem ggX5_exchange_X5_record : GoodIn wsX5_exchange wsX5_record := goodIn_r _ [29, 30, 31, 1, 32, 33, 5, 34, 85, 86, 87, 88, 89, 90, 91, 92, 93, 94, 95, 96, 97, 98, 99, 100, 101, 102] (by decide +kernel) (by decide +kernel)
set_option maxRecDepth 20000 in
theorem gX5_exchange_X5_record : GoodIn wsX5_exchange (wsV RX5 99 RX5 yX5_record wsX5_record) := goodIn_app (goodIn_of _ (by decide +kernel)) ggX5_exchange_X5_record
set_option maxRecDepth 20000 in
theorem ggX5_exchange_X5_leftNow : GoodIn wsX5_exchange wsX5_leftNow := goodIn_r _ [38, 39, 40, 41, 5, 42, 43, 44, 45, 46, 47, 1, 48, 49, 22, 23, 24, 25, 50, 51, 52, 53, 54, 55, 56, 57, 58, 59, 60, 61, 62, 63, 64, 65, 66, 67, 68, 69, 70, 71, 72, 73, 74, 75, 76, 77, 78, 79, 80, 81, 82, 83, 84, 85, 86, 87, 88, 89, 90, 91, 92, 93, 94, 95, 96, 97, 98, 99, 100, 101, 102] (by decide +kernel) (by decide +kernel)
set_option maxRecDepth 20000 in
theorem gX5_exchange_X5_leftNow : GoodIn wsX5_exchange (wsV RX5 125 RX5 yX5_leftNow wsX5_leftNow) := goodIn_app (goodIn_of _ (by decide +kernel)) ggX5_exchange_X5_leftNow
theorem dX5_exchange_0 : decode cX5_exchange 0 = .ok (.iload_n 1, 1) := by decide +kernel
theorem dX5_exchange_1 : decode cX5_exchange 1 = .ok (.iload_n 2, 1) := by decide +kernel
theorem dX5_exchange_2 : decode cX5_exchange 2 = .ok (.invokestatic 109, 3) := by decide +kernel
theorem dX5_exchange_5 : decode cX5_exchange 5 = .ok (.ifCond .eq 12, 3) := by decide +kernel
theorem dX5_exchange_8 : decode cX5_exchange 8 = .ok (.iload_n 3, 1) := by decide +kernel
theorem dX5_exchange_9 : decode cX5_exchange 9 = .ok (.iload 4, 2) := by decide +kernel
theorem dX5_exchange_11 : decode cX5_exchange 11 = .ok (.invokestatic 109, 3) := by decide +kernel
theorem dX5_exchange_14 : decode cX5_exchange 14 = .ok (.ifCond .ne 6, 3) := by decide +kernel
theorem dX5_exchange_17 : decode cX5_exchange 17 = .ok (.bipush (-2), 2) := by decide +kernel
theorem dX5_exchange_19 : decode cX5_exchange 19 = .ok (.ireturn, 1) := by decide +kernel
theorem dX5_exchange_20 : decode cX5_exchange 20 = .ok (.aload_n 0, 1) := by decide +kernel
theorem dX5_exchange_21 : decode cX5_exchange 21 = .ok (.iload_n 1, 1) := by decide +kernel
theorem dX5_exchange_22 : decode cX5_exchange 22 = .ok (.iload_n 2, 1) := by decide +kernel
theorem dX5_exchange_23 : decode cX5_exchange 23 = .ok (.invokevirtual 119, 3) := by decide +kernel
theorem dX5_exchange_26 : decode cX5_exchange 26 = .ok (.istore 5, 2) := by decide +kernel
theorem dX5_exchange_28 : decode cX5_exchange 28 = .ok (.aload_n 0, 1) := by decide +kernel
theorem dX5_exchange_29 : decode cX5_exchange 29 = .ok (.iload_n 3, 1) := by decide +kernel
theorem dX5_exchange_30 : decode cX5_exchange 30 = .ok (.iload 4, 2) := by decide +kernel
theorem dX5_exchange_32 : decode cX5_exchange 32 = .ok (.invokevirtual 119, 3) := by decide +kernel
theorem dX5_exchange_35 : decode cX5_exchange 35 = .ok (.istore 6, 2) := by decide +kernel
theorem dX5_exchange_37 : decode cX5_exchange 37 = .ok (.aload_n 0, 1) := by decide +kernel
theorem dX5_exchange_38 : decode cX5_exchange 38 = .ok (.iload 6, 2) := by decide +kernel
theorem dX5_exchange_40 : decode cX5_exchange 40 = .ok (.iload_n 1, 1) := by decide +kernel
theorem dX5_exchange_41 : decode cX5_exchange 41 = .ok (.invokevirtual 122, 3) := by decide +kernel
theorem dX5_exchange_44 : decode cX5_exchange 44 = .ok (.ifCond .eq 13, 3) := by decide +kernel
theorem dX5_exchange_47 : decode cX5_exchange 47 = .ok (.aload_n 0, 1) := by decide +kernel
theorem dX5_exchange_48 : decode cX5_exchange 48 = .ok (.iload 5, 2) := by decide +kernel
theorem dX5_exchange_50 : decode cX5_exchange 50 = .ok (.iload_n 3, 1) := by decide +kernel
theorem dX5_exchange_51 : decode cX5_exchange 51 = .ok (.invokevirtual 122, 3) := by decide +kernel
theorem dX5_exchange_54 : decode cX5_exchange 54 = .ok (.ifCond .ne 6, 3) := by decide +kernel
theorem dX5_exchange_57 : decode cX5_exchange 57 = .ok (.bipush (-5), 2) := by decide +kernel
theorem dX5_exchange_59 : decode cX5_exchange 59 = .ok (.ireturn, 1) := by decide +kernel
theorem dX5_exchange_60 : decode cX5_exchange 60 = .ok (.aload_n 0, 1) := by decide +kernel
theorem dX5_exchange_61 : decode cX5_exchange 61 = .ok (.invokevirtual 99, 3) := by decide +kernel
theorem dX5_exchange_64 : decode cX5_exchange 64 = .ok (.aload_n 0, 1) := by decide +kernel
theorem dX5_exchange_65 : decode cX5_exchange 65 = .ok (.invokevirtual 125, 3) := by decide +kernel
theorem dX5_exchange_68 : decode cX5_exchange 68 = .ok (.istore 7, 2) := by decide +kernel
theorem dX5_exchange_70 : decode cX5_exchange 70 = .ok (.aload_n 0, 1) := by decide +kernel
theorem dX5_exchange_71 : decode cX5_exchange 71 = .ok (.getfield 7, 3) := by decide +kernel
theorem dX5_exchange_74 : decode cX5_exchange 74 = .ok (.bipush 46, 2) := by decide +kernel
theorem dX5_exchange_76 : decode cX5_exchange 76 = .ok (.iconst 2, 1) := by decide +kernel
theorem dX5_exchange_77 : decode cX5_exchange 77 = .ok (.iload_n 1, 1) := by decide +kernel
theorem dX5_exchange_78 : decode cX5_exchange 78 = .ok (.imul, 1) := by decide +kernel
theorem dX5_exchange_79 : decode cX5_exchange 79 = .ok (.iadd, 1) := by decide +kernel
theorem dX5_exchange_80 : decode cX5_exchange 80 = .ok (.iload_n 2, 1) := by decide +kernel
theorem dX5_exchange_81 : decode cX5_exchange 81 = .ok (.iadd, 1) := by decide +kernel
theorem dX5_exchange_82 : decode cX5_exchange 82 = .ok (.iload 6, 2) := by decide +kernel
theorem dX5_exchange_84 : decode cX5_exchange 84 = .ok (.iastore, 1) := by decide +kernel
theorem dX5_exchange_85 : decode cX5_exchange 85 = .ok (.aload_n 0, 1) := by decide +kernel
theorem dX5_exchange_86 : decode cX5_exchange 86 = .ok (.getfield 7, 3) := by decide +kernel
theorem dX5_exchange_89 : decode cX5_exchange 89 = .ok (.bipush 46, 2) := by decide +kernel
theorem dX5_exchange_91 : decode cX5_exchange 91 = .ok (.iconst 2, 1) := by decide +kernel
theorem dX5_exchange_92 : decode cX5_exchange 92 = .ok (.iload_n 3, 1) := by decide +kernel
theorem dX5_exchange_93 : decode cX5_exchange 93 = .ok (.imul, 1) := by decide +kernel
theorem dX5_exchange_94 : decode cX5_exchange 94 = .ok (.iadd, 1) := by decide +kernel
theorem dX5_exchange_95 : decode cX5_exchange 95 = .ok (.iload 4, 2) := by decide +kernel
theorem dX5_exchange_97 : decode cX5_exchange 97 = .ok (.iadd, 1) := by decide +kernel
theorem dX5_exchange_98 : decode cX5_exchange 98 = .ok (.iload 5, 2) := by decide +kernel
theorem dX5_exchange_100 : decode cX5_exchange 100 = .ok (.iastore, 1) := by decide +kernel
theorem dX5_exchange_101 : decode cX5_exchange 101 = .ok (.aload_n 0, 1) := by decide +kernel
theorem dX5_exchange_102 : decode cX5_exchange 102 = .ok (.invokevirtual 125, 3) := by decide +kernel
theorem dX5_exchange_105 : decode cX5_exchange 105 = .ok (.iload 7, 2) := by decide +kernel
theorem dX5_exchange_107 : decode cX5_exchange 107 = .ok (.isub, 1) := by decide +kernel
theorem dX5_exchange_108 : decode cX5_exchange 108 = .ok (.ldc 129, 2) := by decide +kernel
theorem dX5_exchange_110 : decode cX5_exchange 110 = .ok (.iadd, 1) := by decide +kernel
theorem dX5_exchange_111 : decode cX5_exchange 111 = .ok (.ireturn, 1) := by decide +kernel
set_option maxRecDepth 20000 in
theorem ggX5_let_X5_within : GoodIn wsX5_let wsX5_within := goodIn_r _ [5] (by decide +kernel) (by decide +kernel)
set_option maxRecDepth 20000 in
theorem gX5_let_X5_within : GoodIn wsX5_let (va_wsS RX5 54 yX5_within wsX5_within) := goodIn_app (goodIn_of _ (by decide +kernel)) ggX5_let_X5_within
set_option maxRecDepth 20000 in
theorem ggX5_let_X5_record : GoodIn wsX5_let wsX5_record := goodIn_r _ [9, 10, 11, 1, 12, 13, 4, 14, 19, 20, 21, 22, 23, 24, 25, 26, 27, 28, 29, 30, 31, 32, 33, 34, 35, 36] (by decide +kernel) (by decide +kernel)
set_option maxRecDepth 20000 in
theorem gX5_let_X5_record : GoodIn wsX5_let (wsV RX5 99 RX5 yX5_record wsX5_record) := goodIn_app (goodIn_of _ (by decide +kernel)) ggX5_let_X5_record
set_option maxRecDepth 20000 in
theorem ggX5_let_X5_showAt : GoodIn wsX5_let wsX5_showAt := goodIn_r _ [18, 1, 19, 20, 21, 22, 23, 24, 25, 26, 27, 28, 29, 30, 31, 32, 33, 34, 35, 36] (by decide +kernel) (by decide +kernel)
set_option maxRecDepth 20000 in
theorem gX5_let_X5_showAt : GoodIn wsX5_let (wsV RX5 119 RX5 yX5_showAt wsX5_showAt) := goodIn_app (goodIn_of _ (by decide +kernel)) ggX5_let_X5_showAt
theorem dX5_let_0 : decode cX5_let 0 = .ok (.iload_n 1, 1) := by decide +kernel
theorem dX5_let_1 : decode cX5_let 1 = .ok (.iconst 0, 1) := by decide +kernel
theorem dX5_let_2 : decode cX5_let 2 = .ok (.bipush 34, 2) := by decide +kernel
theorem dX5_let_4 : decode cX5_let 4 = .ok (.invokestatic 54, 3) := by decide +kernel
theorem dX5_let_7 : decode cX5_let 7 = .ok (.ifCond .eq 14, 3) := by decide +kernel
theorem dX5_let_10 : decode cX5_let 10 = .ok (.iload_n 2, 1) := by decide +kernel
theorem dX5_let_11 : decode cX5_let 11 = .ok (.iconst 0, 1) := by decide +kernel
theorem dX5_let_12 : decode cX5_let 12 = .ok (.sipush 999, 3) := by decide +kernel
theorem dX5_let_15 : decode cX5_let 15 = .ok (.invokestatic 54, 3) := by decide +kernel
theorem dX5_let_18 : decode cX5_let 18 = .ok (.ifCond .ne 6, 3) := by decide +kernel
theorem dX5_let_21 : decode cX5_let 21 = .ok (.bipush (-2), 2) := by decide +kernel
theorem dX5_let_23 : decode cX5_let 23 = .ok (.ireturn, 1) := by decide +kernel
theorem dX5_let_24 : decode cX5_let 24 = .ok (.aload_n 0, 1) := by decide +kernel
theorem dX5_let_25 : decode cX5_let 25 = .ok (.invokevirtual 99, 3) := by decide +kernel
theorem dX5_let_28 : decode cX5_let 28 = .ok (.iconst 0, 1) := by decide +kernel
theorem dX5_let_29 : decode cX5_let 29 = .ok (.istore_n 3, 1) := by decide +kernel
theorem dX5_let_30 : decode cX5_let 30 = .ok (.iconst 0, 1) := by decide +kernel
theorem dX5_let_31 : decode cX5_let 31 = .ok (.istore 4, 2) := by decide +kernel
theorem dX5_let_33 : decode cX5_let 33 = .ok (.iload 4, 2) := by decide +kernel
theorem dX5_let_35 : decode cX5_let 35 = .ok (.iconst 2, 1) := by decide +kernel
theorem dX5_let_36 : decode cX5_let 36 = .ok (.if_icmp .ge 49, 3) := by decide +kernel
theorem dX5_let_39 : decode cX5_let 39 = .ok (.iload_n 2, 1) := by decide +kernel
theorem dX5_let_40 : decode cX5_let 40 = .ok (.ifCond .le 45, 3) := by decide +kernel
theorem dX5_let_43 : decode cX5_let 43 = .ok (.iload_n 3, 1) := by decide +kernel
theorem dX5_let_44 : decode cX5_let 44 = .ok (.aload_n 0, 1) := by decide +kernel
theorem dX5_let_45 : decode cX5_let 45 = .ok (.iload_n 1, 1) := by decide +kernel
theorem dX5_let_46 : decode cX5_let 46 = .ok (.iload 4, 2) := by decide +kernel
theorem dX5_let_48 : decode cX5_let 48 = .ok (.invokevirtual 119, 3) := by decide +kernel
theorem dX5_let_51 : decode cX5_let 51 = .ok (.bipush (-6), 2) := by decide +kernel
theorem dX5_let_53 : decode cX5_let 53 = .ok (.if_icmp .ne 7, 3) := by decide +kernel
theorem dX5_let_56 : decode cX5_let 56 = .ok (.iconst 0, 1) := by decide +kernel
theorem dX5_let_57 : decode cX5_let 57 = .ok (.goto 4, 3) := by decide +kernel
theorem dX5_let_60 : decode cX5_let 60 = .ok (.iconst 1, 1) := by decide +kernel
theorem dX5_let_61 : decode cX5_let 61 = .ok (.iadd, 1) := by decide +kernel
theorem dX5_let_62 : decode cX5_let 62 = .ok (.istore_n 3, 1) := by decide +kernel
theorem dX5_let_63 : decode cX5_let 63 = .ok (.aload_n 0, 1) := by decide +kernel
theorem dX5_let_64 : decode cX5_let 64 = .ok (.getfield 7, 3) := by decide +kernel
theorem dX5_let_67 : decode cX5_let 67 = .ok (.bipush 46, 2) := by decide +kernel
theorem dX5_let_69 : decode cX5_let 69 = .ok (.iconst 2, 1) := by decide +kernel
theorem dX5_let_70 : decode cX5_let 70 = .ok (.iload_n 1, 1) := by decide +kernel
theorem dX5_let_71 : decode cX5_let 71 = .ok (.imul, 1) := by decide +kernel
theorem dX5_let_72 : decode cX5_let 72 = .ok (.iadd, 1) := by decide +kernel
theorem dX5_let_73 : decode cX5_let 73 = .ok (.iload 4, 2) := by decide +kernel
theorem dX5_let_75 : decode cX5_let 75 = .ok (.iadd, 1) := by decide +kernel
theorem dX5_let_76 : decode cX5_let 76 = .ok (.bipush (-6), 2) := by decide +kernel
theorem dX5_let_78 : decode cX5_let 78 = .ok (.iastore, 1) := by decide +kernel
theorem dX5_let_79 : decode cX5_let 79 = .ok (.iinc 4 1, 3) := by decide +kernel
theorem dX5_let_82 : decode cX5_let 82 = .ok (.goto (-49), 3) := by decide +kernel
theorem dX5_let_85 : decode cX5_let 85 = .ok (.aload_n 0, 1) := by decide +kernel
theorem dX5_let_86 : decode cX5_let 86 = .ok (.getfield 7, 3) := by decide +kernel
theorem dX5_let_89 : decode cX5_let 89 = .ok (.bipush 116, 2) := by decide +kernel
theorem dX5_let_91 : decode cX5_let 91 = .ok (.iload_n 1, 1) := by decide +kernel
theorem dX5_let_92 : decode cX5_let 92 = .ok (.iadd, 1) := by decide +kernel
theorem dX5_let_93 : decode cX5_let 93 = .ok (.iload_n 2, 1) := by decide +kernel
theorem dX5_let_94 : decode cX5_let 94 = .ok (.iastore, 1) := by decide +kernel
theorem dX5_let_95 : decode cX5_let 95 = .ok (.iload_n 3, 1) := by decide +kernel
theorem dX5_let_96 : decode cX5_let 96 = .ok (.ireturn, 1) := by decide +kernel
set_option maxRecDepth 20000 in
theorem ggX5_at_X5_isPart : GoodIn wsX5_at wsX5_isPart := goodIn_r _ [7, 8, 9, 6, 10] (by decide +kernel) (by decide +kernel)
set_option maxRecDepth 20000 in
theorem gX5_at_X5_isPart : GoodIn wsX5_at (va_wsS RX5 109 yX5_isPart wsX5_isPart) := goodIn_app (goodIn_of _ (by decide +kernel)) ggX5_at_X5_isPart
set_option maxRecDepth 20000 in
theorem ggX5_at_X5_reckon : GoodIn wsX5_at wsX5_reckon := goodIn_r _ [14, 15, 16, 17, 6, 18, 19, 1, 2, 3, 20, 21, 22, 23, 24, 25, 26, 27, 28, 29, 30, 31, 32, 33, 34, 35, 36, 37, 38, 39, 40, 41, 42, 43, 44, 45, 46, 47, 48, 49, 50, 51, 52, 53, 54, 55, 56, 57, 58, 59, 60, 61, 62, 63, 64, 65] (by decide +kernel) (by decide +kernel)
set_option maxRecDepth 20000 in
theorem gX5_at_X5_reckon : GoodIn wsX5_at (wsV RX5 89 RX5 yX5_reckon wsX5_reckon) := goodIn_app (goodIn_of _ (by decide +kernel)) ggX5_at_X5_reckon
theorem dX5_at_0 : decode cX5_at 0 = .ok (.iload_n 1, 1) := by decide +kernel
theorem dX5_at_1 : decode cX5_at 1 = .ok (.iload_n 2, 1) := by decide +kernel
theorem dX5_at_2 : decode cX5_at 2 = .ok (.invokestatic 109, 3) := by decide +kernel
theorem dX5_at_5 : decode cX5_at 5 = .ok (.ifCond .ne 6, 3) := by decide +kernel
theorem dX5_at_8 : decode cX5_at 8 = .ok (.bipush (-2), 2) := by decide +kernel
theorem dX5_at_10 : decode cX5_at 10 = .ok (.ireturn, 1) := by decide +kernel
theorem dX5_at_11 : decode cX5_at 11 = .ok (.aload_n 0, 1) := by decide +kernel
theorem dX5_at_12 : decode cX5_at 12 = .ok (.invokevirtual 89, 3) := by decide +kernel
theorem dX5_at_15 : decode cX5_at 15 = .ok (.iconst 2, 1) := by decide +kernel
theorem dX5_at_16 : decode cX5_at 16 = .ok (.iload_n 1, 1) := by decide +kernel
theorem dX5_at_17 : decode cX5_at 17 = .ok (.imul, 1) := by decide +kernel
theorem dX5_at_18 : decode cX5_at 18 = .ok (.iload_n 2, 1) := by decide +kernel
theorem dX5_at_19 : decode cX5_at 19 = .ok (.iadd, 1) := by decide +kernel
theorem dX5_at_20 : decode cX5_at 20 = .ok (.istore 4, 2) := by decide +kernel
theorem dX5_at_22 : decode cX5_at 22 = .ok (.iload_n 3, 1) := by decide +kernel
theorem dX5_at_23 : decode cX5_at 23 = .ok (.tableswitch 71 0 3 #[29, 40, 48, 63], 29) := by decide +kernel
theorem dX5_at_52 : decode cX5_at 52 = .ok (.aload_n 0, 1) := by decide +kernel
theorem dX5_at_53 : decode cX5_at 53 = .ok (.getfield 7, 3) := by decide +kernel
theorem dX5_at_56 : decode cX5_at 56 = .ok (.bipush 46, 2) := by decide +kernel
theorem dX5_at_58 : decode cX5_at 58 = .ok (.iload 4, 2) := by decide +kernel
theorem dX5_at_60 : decode cX5_at 60 = .ok (.iadd, 1) := by decide +kernel
theorem dX5_at_61 : decode cX5_at 61 = .ok (.iaload, 1) := by decide +kernel
theorem dX5_at_62 : decode cX5_at 62 = .ok (.ireturn, 1) := by decide +kernel
theorem dX5_at_63 : decode cX5_at 63 = .ok (.aload_n 0, 1) := by decide +kernel
theorem dX5_at_64 : decode cX5_at 64 = .ok (.getfield 25, 3) := by decide +kernel
theorem dX5_at_67 : decode cX5_at 67 = .ok (.iload 4, 2) := by decide +kernel
theorem dX5_at_69 : decode cX5_at 69 = .ok (.iaload, 1) := by decide +kernel
theorem dX5_at_70 : decode cX5_at 70 = .ok (.ireturn, 1) := by decide +kernel
theorem dX5_at_71 : decode cX5_at 71 = .ok (.aload_n 0, 1) := by decide +kernel
theorem dX5_at_72 : decode cX5_at 72 = .ok (.getfield 25, 3) := by decide +kernel
theorem dX5_at_75 : decode cX5_at 75 = .ok (.iload 4, 2) := by decide +kernel
theorem dX5_at_77 : decode cX5_at 77 = .ok (.iaload, 1) := by decide +kernel
theorem dX5_at_78 : decode cX5_at 78 = .ok (.aload_n 0, 1) := by decide +kernel
theorem dX5_at_79 : decode cX5_at 79 = .ok (.getfield 7, 3) := by decide +kernel
theorem dX5_at_82 : decode cX5_at 82 = .ok (.iconst 1, 1) := by decide +kernel
theorem dX5_at_83 : decode cX5_at 83 = .ok (.iaload, 1) := by decide +kernel
theorem dX5_at_84 : decode cX5_at 84 = .ok (.imul, 1) := by decide +kernel
theorem dX5_at_85 : decode cX5_at 85 = .ok (.ireturn, 1) := by decide +kernel
theorem dX5_at_86 : decode cX5_at 86 = .ok (.aload_n 0, 1) := by decide +kernel
theorem dX5_at_87 : decode cX5_at 87 = .ok (.getfield 28, 3) := by decide +kernel
theorem dX5_at_90 : decode cX5_at 90 = .ok (.iload 4, 2) := by decide +kernel
theorem dX5_at_92 : decode cX5_at 92 = .ok (.iaload, 1) := by decide +kernel
theorem dX5_at_93 : decode cX5_at 93 = .ok (.ireturn, 1) := by decide +kernel
theorem dX5_at_94 : decode cX5_at 94 = .ok (.bipush (-2), 2) := by decide +kernel
theorem dX5_at_96 : decode cX5_at 96 = .ok (.ireturn, 1) := by decide +kernel
theorem dX5_peopleOf_0 : decode cX5_peopleOf 0 = .ok (.iconst 0, 1) := by decide +kernel
theorem dX5_peopleOf_1 : decode cX5_peopleOf 1 = .ok (.istore_n 2, 1) := by decide +kernel
theorem dX5_peopleOf_2 : decode cX5_peopleOf 2 = .ok (.iconst 0, 1) := by decide +kernel
theorem dX5_peopleOf_3 : decode cX5_peopleOf 3 = .ok (.istore_n 3, 1) := by decide +kernel
theorem dX5_peopleOf_4 : decode cX5_peopleOf 4 = .ok (.iload_n 3, 1) := by decide +kernel
theorem dX5_peopleOf_5 : decode cX5_peopleOf 5 = .ok (.bipush 70, 2) := by decide +kernel
theorem dX5_peopleOf_7 : decode cX5_peopleOf 7 = .ok (.if_icmp .ge 35, 3) := by decide +kernel
theorem dX5_peopleOf_10 : decode cX5_peopleOf 10 = .ok (.iload_n 2, 1) := by decide +kernel
theorem dX5_peopleOf_11 : decode cX5_peopleOf 11 = .ok (.aload_n 0, 1) := by decide +kernel
theorem dX5_peopleOf_12 : decode cX5_peopleOf 12 = .ok (.getfield 7, 3) := by decide +kernel
theorem dX5_peopleOf_15 : decode cX5_peopleOf 15 = .ok (.bipush 46, 2) := by decide +kernel
theorem dX5_peopleOf_17 : decode cX5_peopleOf 17 = .ok (.iload_n 3, 1) := by decide +kernel
theorem dX5_peopleOf_18 : decode cX5_peopleOf 18 = .ok (.iadd, 1) := by decide +kernel
theorem dX5_peopleOf_19 : decode cX5_peopleOf 19 = .ok (.iaload, 1) := by decide +kernel
theorem dX5_peopleOf_20 : decode cX5_peopleOf 20 = .ok (.iload_n 1, 1) := by decide +kernel
theorem dX5_peopleOf_21 : decode cX5_peopleOf 21 = .ok (.if_icmp .ne 12, 3) := by decide +kernel
theorem dX5_peopleOf_24 : decode cX5_peopleOf 24 = .ok (.aload_n 0, 1) := by decide +kernel
theorem dX5_peopleOf_25 : decode cX5_peopleOf 25 = .ok (.getfield 25, 3) := by decide +kernel
theorem dX5_peopleOf_28 : decode cX5_peopleOf 28 = .ok (.iload_n 3, 1) := by decide +kernel
theorem dX5_peopleOf_29 : decode cX5_peopleOf 29 = .ok (.iaload, 1) := by decide +kernel
theorem dX5_peopleOf_30 : decode cX5_peopleOf 30 = .ok (.goto 4, 3) := by decide +kernel
theorem dX5_peopleOf_33 : decode cX5_peopleOf 33 = .ok (.iconst 0, 1) := by decide +kernel
theorem dX5_peopleOf_34 : decode cX5_peopleOf 34 = .ok (.iadd, 1) := by decide +kernel
theorem dX5_peopleOf_35 : decode cX5_peopleOf 35 = .ok (.istore_n 2, 1) := by decide +kernel
theorem dX5_peopleOf_36 : decode cX5_peopleOf 36 = .ok (.iinc 3 1, 3) := by decide +kernel
theorem dX5_peopleOf_39 : decode cX5_peopleOf 39 = .ok (.goto (-35), 3) := by decide +kernel
theorem dX5_peopleOf_42 : decode cX5_peopleOf 42 = .ok (.iload_n 2, 1) := by decide +kernel
theorem dX5_peopleOf_43 : decode cX5_peopleOf 43 = .ok (.ireturn, 1) := by decide +kernel
theorem dX5_firstShow_0 : decode cX5_firstShow 0 = .ok (.bipush (-6), 2) := by decide +kernel
theorem dX5_firstShow_2 : decode cX5_firstShow 2 = .ok (.istore_n 2, 1) := by decide +kernel
theorem dX5_firstShow_3 : decode cX5_firstShow 3 = .ok (.bipush 69, 2) := by decide +kernel
theorem dX5_firstShow_5 : decode cX5_firstShow 5 = .ok (.istore_n 3, 1) := by decide +kernel
theorem dX5_firstShow_6 : decode cX5_firstShow 6 = .ok (.iload_n 3, 1) := by decide +kernel
theorem dX5_firstShow_7 : decode cX5_firstShow 7 = .ok (.ifCond .lt 30, 3) := by decide +kernel
theorem dX5_firstShow_10 : decode cX5_firstShow 10 = .ok (.aload_n 0, 1) := by decide +kernel
theorem dX5_firstShow_11 : decode cX5_firstShow 11 = .ok (.getfield 7, 3) := by decide +kernel
theorem dX5_firstShow_14 : decode cX5_firstShow 14 = .ok (.bipush 46, 2) := by decide +kernel
theorem dX5_firstShow_16 : decode cX5_firstShow 16 = .ok (.iload_n 3, 1) := by decide +kernel
theorem dX5_firstShow_17 : decode cX5_firstShow 17 = .ok (.iadd, 1) := by decide +kernel
theorem dX5_firstShow_18 : decode cX5_firstShow 18 = .ok (.iaload, 1) := by decide +kernel
theorem dX5_firstShow_19 : decode cX5_firstShow 19 = .ok (.iload_n 1, 1) := by decide +kernel
theorem dX5_firstShow_20 : decode cX5_firstShow 20 = .ok (.if_icmp .ne 9, 3) := by decide +kernel
theorem dX5_firstShow_23 : decode cX5_firstShow 23 = .ok (.iload_n 3, 1) := by decide +kernel
theorem dX5_firstShow_24 : decode cX5_firstShow 24 = .ok (.iconst 2, 1) := by decide +kernel
theorem dX5_firstShow_25 : decode cX5_firstShow 25 = .ok (.idiv, 1) := by decide +kernel
theorem dX5_firstShow_26 : decode cX5_firstShow 26 = .ok (.goto 4, 3) := by decide +kernel
theorem dX5_firstShow_29 : decode cX5_firstShow 29 = .ok (.iload_n 2, 1) := by decide +kernel
theorem dX5_firstShow_30 : decode cX5_firstShow 30 = .ok (.istore_n 2, 1) := by decide +kernel
theorem dX5_firstShow_31 : decode cX5_firstShow 31 = .ok (.iinc 3 (-1), 3) := by decide +kernel
theorem dX5_firstShow_34 : decode cX5_firstShow 34 = .ok (.goto (-28), 3) := by decide +kernel
theorem dX5_firstShow_37 : decode cX5_firstShow 37 = .ok (.iload_n 2, 1) := by decide +kernel
theorem dX5_firstShow_38 : decode cX5_firstShow 38 = .ok (.ireturn, 1) := by decide +kernel
set_option maxRecDepth 20000 in
theorem ggX5_of_X5_isFilm : GoodIn wsX5_of wsX5_isFilm := goodIn_r _ [9, 10, 11, 12, 8, 13, 60, 61, 62, 63, 64, 65, 66, 67, 68, 69, 70, 71, 72, 73, 74, 75, 76, 77] (by decide +kernel) (by decide +kernel)
set_option maxRecDepth 20000 in
theorem gX5_of_X5_isFilm : GoodIn wsX5_of (wsV RX5 106 RX5 yX5_isFilm wsX5_isFilm) := goodIn_app (goodIn_of _ (by decide +kernel)) ggX5_of_X5_isFilm
set_option maxRecDepth 20000 in
theorem ggX5_of_X5_reckon : GoodIn wsX5_of wsX5_reckon := goodIn_r _ [17, 18, 19, 20, 8, 21, 4, 10, 22, 23, 24, 25, 26, 27, 28, 29, 30, 31, 32, 33, 34, 35, 1, 2, 36, 37, 38, 39, 40, 3, 41, 42, 43, 44, 45, 46, 47, 48, 60, 61, 62, 63, 64, 65, 66, 67, 68, 69, 70, 71, 72, 73, 74, 75, 76, 77] (by decide +kernel) (by decide +kernel)
set_option maxRecDepth 20000 in
theorem gX5_of_X5_reckon : GoodIn wsX5_of (wsV RX5 89 RX5 yX5_reckon wsX5_reckon) := goodIn_app (goodIn_of _ (by decide +kernel)) ggX5_of_X5_reckon
set_option maxRecDepth 20000 in
theorem ggX5_of_X5_filmPart : GoodIn wsX5_of wsX5_filmPart := goodIn_r _ [27, 10, 60, 61, 62, 63, 64, 65, 66, 67, 68, 69, 70, 71, 72, 73, 74, 75, 76, 77] (by decide +kernel) (by decide +kernel)
set_option maxRecDepth 20000 in
theorem gX5_of_X5_filmPart : GoodIn wsX5_of (wsV RX5 58 RX5 yX5_filmPart wsX5_filmPart) := goodIn_app (goodIn_of _ (by decide +kernel)) ggX5_of_X5_filmPart
set_option maxRecDepth 20000 in
theorem ggX5_of_X5_sumOfFilm : GoodIn wsX5_of wsX5_sumOfFilm := goodIn_r _ [51] (by decide +kernel) (by decide +kernel)
set_option maxRecDepth 20000 in
theorem gX5_of_X5_sumOfFilm : GoodIn wsX5_of (va_wsS RX5 130 yX5_sumOfFilm wsX5_sumOfFilm) := goodIn_app (goodIn_of _ (by decide +kernel)) ggX5_of_X5_sumOfFilm
set_option maxRecDepth 20000 in
theorem ggX5_of_X5_peopleOf : GoodIn wsX5_of wsX5_peopleOf := goodIn_r _ [55, 10, 22, 60, 61, 62, 63, 64, 65, 66, 67, 68, 69, 70, 71, 72, 73, 74, 75, 76, 77] (by decide +kernel) (by decide +kernel)
set_option maxRecDepth 20000 in
theorem gX5_of_X5_peopleOf : GoodIn wsX5_of (wsV RX5 133 RX5 yX5_peopleOf wsX5_peopleOf) := goodIn_app (goodIn_of _ (by decide +kernel)) ggX5_of_X5_peopleOf
set_option maxRecDepth 20000 in
theorem ggX5_of_X5_firstShow : GoodIn wsX5_of wsX5_firstShow := goodIn_r _ [59, 10, 60, 61, 62, 63, 64, 65, 66, 67, 68, 69, 70, 71, 72, 73, 74, 75, 76, 77] (by decide +kernel) (by decide +kernel)
set_option maxRecDepth 20000 in
theorem gX5_of_X5_firstShow : GoodIn wsX5_of (wsV RX5 136 RX5 yX5_firstShow wsX5_firstShow) := goodIn_app (goodIn_of _ (by decide +kernel)) ggX5_of_X5_firstShow
theorem dX5_of_0 : decode cX5_of 0 = .ok (.aload_n 0, 1) := by decide +kernel
theorem dX5_of_1 : decode cX5_of 1 = .ok (.iload_n 1, 1) := by decide +kernel
theorem dX5_of_2 : decode cX5_of 2 = .ok (.invokevirtual 106, 3) := by decide +kernel
theorem dX5_of_5 : decode cX5_of 5 = .ok (.ifCond .ne 5, 3) := by decide +kernel
theorem dX5_of_8 : decode cX5_of 8 = .ok (.iconst (-1), 1) := by decide +kernel
theorem dX5_of_9 : decode cX5_of 9 = .ok (.ireturn, 1) := by decide +kernel
theorem dX5_of_10 : decode cX5_of 10 = .ok (.aload_n 0, 1) := by decide +kernel
theorem dX5_of_11 : decode cX5_of 11 = .ok (.invokevirtual 89, 3) := by decide +kernel
theorem dX5_of_14 : decode cX5_of 14 = .ok (.iload_n 2, 1) := by decide +kernel
theorem dX5_of_15 : decode cX5_of 15 = .ok (.tableswitch 110 0 10 #[57, 57, 57, 57, 57, 64, 73, 79, 88, 97, 104], 57) := by decide +kernel
theorem dX5_of_72 : decode cX5_of 72 = .ok (.aload_n 0, 1) := by decide +kernel
theorem dX5_of_73 : decode cX5_of 73 = .ok (.iload_n 1, 1) := by decide +kernel
theorem dX5_of_74 : decode cX5_of 74 = .ok (.iload_n 2, 1) := by decide +kernel
theorem dX5_of_75 : decode cX5_of 75 = .ok (.invokevirtual 58, 3) := by decide +kernel
theorem dX5_of_78 : decode cX5_of 78 = .ok (.ireturn, 1) := by decide +kernel
theorem dX5_of_79 : decode cX5_of 79 = .ok (.aload_n 0, 1) := by decide +kernel
theorem dX5_of_80 : decode cX5_of 80 = .ok (.getfield 34, 3) := by decide +kernel
theorem dX5_of_83 : decode cX5_of 83 = .ok (.iload_n 1, 1) := by decide +kernel
theorem dX5_of_84 : decode cX5_of 84 = .ok (.invokestatic 130, 3) := by decide +kernel
theorem dX5_of_87 : decode cX5_of 87 = .ok (.ireturn, 1) := by decide +kernel
theorem dX5_of_88 : decode cX5_of 88 = .ok (.aload_n 0, 1) := by decide +kernel
theorem dX5_of_89 : decode cX5_of 89 = .ok (.iload_n 1, 1) := by decide +kernel
theorem dX5_of_90 : decode cX5_of 90 = .ok (.invokevirtual 133, 3) := by decide +kernel
theorem dX5_of_93 : decode cX5_of 93 = .ok (.ireturn, 1) := by decide +kernel
theorem dX5_of_94 : decode cX5_of 94 = .ok (.aload_n 0, 1) := by decide +kernel
theorem dX5_of_95 : decode cX5_of 95 = .ok (.getfield 37, 3) := by decide +kernel
theorem dX5_of_98 : decode cX5_of 98 = .ok (.iload_n 1, 1) := by decide +kernel
theorem dX5_of_99 : decode cX5_of 99 = .ok (.invokestatic 130, 3) := by decide +kernel
theorem dX5_of_102 : decode cX5_of 102 = .ok (.ireturn, 1) := by decide +kernel
theorem dX5_of_103 : decode cX5_of 103 = .ok (.aload_n 0, 1) := by decide +kernel
theorem dX5_of_104 : decode cX5_of 104 = .ok (.getfield 43, 3) := by decide +kernel
theorem dX5_of_107 : decode cX5_of 107 = .ok (.iload_n 1, 1) := by decide +kernel
theorem dX5_of_108 : decode cX5_of 108 = .ok (.invokestatic 130, 3) := by decide +kernel
theorem dX5_of_111 : decode cX5_of 111 = .ok (.ireturn, 1) := by decide +kernel
theorem dX5_of_112 : decode cX5_of 112 = .ok (.aload_n 0, 1) := by decide +kernel
theorem dX5_of_113 : decode cX5_of 113 = .ok (.getfield 31, 3) := by decide +kernel
theorem dX5_of_116 : decode cX5_of 116 = .ok (.iload_n 1, 1) := by decide +kernel
theorem dX5_of_117 : decode cX5_of 117 = .ok (.iaload, 1) := by decide +kernel
theorem dX5_of_118 : decode cX5_of 118 = .ok (.ireturn, 1) := by decide +kernel
theorem dX5_of_119 : decode cX5_of 119 = .ok (.aload_n 0, 1) := by decide +kernel
theorem dX5_of_120 : decode cX5_of 120 = .ok (.iload_n 1, 1) := by decide +kernel
theorem dX5_of_121 : decode cX5_of 121 = .ok (.invokevirtual 136, 3) := by decide +kernel
theorem dX5_of_124 : decode cX5_of 124 = .ok (.ireturn, 1) := by decide +kernel
theorem dX5_of_125 : decode cX5_of 125 = .ok (.bipush (-2), 2) := by decide +kernel
theorem dX5_of_127 : decode cX5_of 127 = .ok (.ireturn, 1) := by decide +kernel
set_option maxRecDepth 20000 in
theorem ggX5_inWeek_X5_isFilm : GoodIn wsX5_inWeek wsX5_isFilm := goodIn_r _ [8, 9, 10, 11, 7, 12, 49, 50, 51, 52, 53, 54, 55, 56, 57, 58, 59, 60, 61, 62, 63, 64, 65, 66] (by decide +kernel) (by decide +kernel)
set_option maxRecDepth 20000 in
theorem gX5_inWeek_X5_isFilm : GoodIn wsX5_inWeek (wsV RX5 106 RX5 yX5_isFilm wsX5_isFilm) := goodIn_app (goodIn_of _ (by decide +kernel)) ggX5_inWeek_X5_isFilm
set_option maxRecDepth 20000 in
theorem ggX5_inWeek_X5_within : GoodIn wsX5_inWeek wsX5_within := goodIn_r _ [12] (by decide +kernel) (by decide +kernel)
set_option maxRecDepth 20000 in
theorem gX5_inWeek_X5_within : GoodIn wsX5_inWeek (va_wsS RX5 54 yX5_within wsX5_within) := goodIn_app (goodIn_of _ (by decide +kernel)) ggX5_inWeek_X5_within
set_option maxRecDepth 20000 in
theorem ggX5_inWeek_X5_reckon : GoodIn wsX5_inWeek wsX5_reckon := goodIn_r _ [16, 17, 18, 19, 7, 20, 21, 9, 22, 23, 24, 25, 26, 27, 28, 29, 30, 31, 32, 33, 34, 35, 36, 1, 37, 38, 39, 40, 2, 3, 41, 42, 43, 44, 45, 46, 47, 48, 49, 50, 51, 52, 53, 54, 55, 56, 57, 58, 59, 60, 61, 62, 63, 64, 65, 66] (by decide +kernel) (by decide +kernel)
set_option maxRecDepth 20000 in
theorem gX5_inWeek_X5_reckon : GoodIn wsX5_inWeek (wsV RX5 89 RX5 yX5_reckon wsX5_reckon) := goodIn_app (goodIn_of _ (by decide +kernel)) ggX5_inWeek_X5_reckon
set_option maxRecDepth 20000 in
theorem ggX5_inWeek_X5_shareOfTakings : GoodIn wsX5_inWeek wsX5_shareOfTakings := goodIn_r _ [48, 2, 1, 49, 50, 51, 52, 53, 54, 55, 56, 57, 58, 59, 60, 61, 62, 63, 64, 65, 66] (by decide +kernel) (by decide +kernel)
set_option maxRecDepth 20000 in
theorem gX5_inWeek_X5_shareOfTakings : GoodIn wsX5_inWeek (wsV RX5 69 RX5 yX5_shareOfTakings wsX5_shareOfTakings) := goodIn_app (goodIn_of _ (by decide +kernel)) ggX5_inWeek_X5_shareOfTakings
theorem dX5_inWeek_0 : decode cX5_inWeek 0 = .ok (.aload_n 0, 1) := by decide +kernel
theorem dX5_inWeek_1 : decode cX5_inWeek 1 = .ok (.iload_n 1, 1) := by decide +kernel
theorem dX5_inWeek_2 : decode cX5_inWeek 2 = .ok (.invokevirtual 106, 3) := by decide +kernel
theorem dX5_inWeek_5 : decode cX5_inWeek 5 = .ok (.ifCond .ne 5, 3) := by decide +kernel
theorem dX5_inWeek_8 : decode cX5_inWeek 8 = .ok (.iconst (-1), 1) := by decide +kernel
theorem dX5_inWeek_9 : decode cX5_inWeek 9 = .ok (.ireturn, 1) := by decide +kernel
theorem dX5_inWeek_10 : decode cX5_inWeek 10 = .ok (.iload_n 2, 1) := by decide +kernel
theorem dX5_inWeek_11 : decode cX5_inWeek 11 = .ok (.iconst 0, 1) := by decide +kernel
theorem dX5_inWeek_12 : decode cX5_inWeek 12 = .ok (.iconst 4, 1) := by decide +kernel
theorem dX5_inWeek_13 : decode cX5_inWeek 13 = .ok (.invokestatic 54, 3) := by decide +kernel
theorem dX5_inWeek_16 : decode cX5_inWeek 16 = .ok (.ifCond .ne 6, 3) := by decide +kernel
theorem dX5_inWeek_19 : decode cX5_inWeek 19 = .ok (.bipush (-2), 2) := by decide +kernel
theorem dX5_inWeek_21 : decode cX5_inWeek 21 = .ok (.ireturn, 1) := by decide +kernel
theorem dX5_inWeek_22 : decode cX5_inWeek 22 = .ok (.aload_n 0, 1) := by decide +kernel
theorem dX5_inWeek_23 : decode cX5_inWeek 23 = .ok (.invokevirtual 89, 3) := by decide +kernel
theorem dX5_inWeek_26 : decode cX5_inWeek 26 = .ok (.iconst 5, 1) := by decide +kernel
theorem dX5_inWeek_27 : decode cX5_inWeek 27 = .ok (.iload_n 1, 1) := by decide +kernel
theorem dX5_inWeek_28 : decode cX5_inWeek 28 = .ok (.imul, 1) := by decide +kernel
theorem dX5_inWeek_29 : decode cX5_inWeek 29 = .ok (.iload_n 2, 1) := by decide +kernel
theorem dX5_inWeek_30 : decode cX5_inWeek 30 = .ok (.iadd, 1) := by decide +kernel
theorem dX5_inWeek_31 : decode cX5_inWeek 31 = .ok (.istore 4, 2) := by decide +kernel
theorem dX5_inWeek_33 : decode cX5_inWeek 33 = .ok (.iload_n 3, 1) := by decide +kernel
theorem dX5_inWeek_34 : decode cX5_inWeek 34 = .ok (.tableswitch 69 0 3 #[30, 38, 46, 54], 30) := by decide +kernel
theorem dX5_inWeek_64 : decode cX5_inWeek 64 = .ok (.aload_n 0, 1) := by decide +kernel
theorem dX5_inWeek_65 : decode cX5_inWeek 65 = .ok (.getfield 37, 3) := by decide +kernel
theorem dX5_inWeek_68 : decode cX5_inWeek 68 = .ok (.iload 4, 2) := by decide +kernel
theorem dX5_inWeek_70 : decode cX5_inWeek 70 = .ok (.iaload, 1) := by decide +kernel
theorem dX5_inWeek_71 : decode cX5_inWeek 71 = .ok (.ireturn, 1) := by decide +kernel
theorem dX5_inWeek_72 : decode cX5_inWeek 72 = .ok (.aload_n 0, 1) := by decide +kernel
theorem dX5_inWeek_73 : decode cX5_inWeek 73 = .ok (.getfield 40, 3) := by decide +kernel
theorem dX5_inWeek_76 : decode cX5_inWeek 76 = .ok (.iload 4, 2) := by decide +kernel
theorem dX5_inWeek_78 : decode cX5_inWeek 78 = .ok (.iaload, 1) := by decide +kernel
theorem dX5_inWeek_79 : decode cX5_inWeek 79 = .ok (.ireturn, 1) := by decide +kernel
theorem dX5_inWeek_80 : decode cX5_inWeek 80 = .ok (.aload_n 0, 1) := by decide +kernel
theorem dX5_inWeek_81 : decode cX5_inWeek 81 = .ok (.getfield 43, 3) := by decide +kernel
theorem dX5_inWeek_84 : decode cX5_inWeek 84 = .ok (.iload 4, 2) := by decide +kernel
theorem dX5_inWeek_86 : decode cX5_inWeek 86 = .ok (.iaload, 1) := by decide +kernel
theorem dX5_inWeek_87 : decode cX5_inWeek 87 = .ok (.ireturn, 1) := by decide +kernel
theorem dX5_inWeek_88 : decode cX5_inWeek 88 = .ok (.aload_n 0, 1) := by decide +kernel
theorem dX5_inWeek_89 : decode cX5_inWeek 89 = .ok (.getfield 43, 3) := by decide +kernel
theorem dX5_inWeek_92 : decode cX5_inWeek 92 = .ok (.iload 4, 2) := by decide +kernel
theorem dX5_inWeek_94 : decode cX5_inWeek 94 = .ok (.iaload, 1) := by decide +kernel
theorem dX5_inWeek_95 : decode cX5_inWeek 95 = .ok (.aload_n 0, 1) := by decide +kernel
theorem dX5_inWeek_96 : decode cX5_inWeek 96 = .ok (.iload 4, 2) := by decide +kernel
theorem dX5_inWeek_98 : decode cX5_inWeek 98 = .ok (.invokevirtual 69, 3) := by decide +kernel
theorem dX5_inWeek_101 : decode cX5_inWeek 101 = .ok (.isub, 1) := by decide +kernel
theorem dX5_inWeek_102 : decode cX5_inWeek 102 = .ok (.ireturn, 1) := by decide +kernel
theorem dX5_inWeek_103 : decode cX5_inWeek 103 = .ok (.bipush (-2), 2) := by decide +kernel
theorem dX5_inWeek_105 : decode cX5_inWeek 105 = .ok (.ireturn, 1) := by decide +kernel
set_option maxRecDepth 20000 in
theorem ggX5_week_X5_within : GoodIn wsX5_week wsX5_within := goodIn_r _ [8] (by decide +kernel) (by decide +kernel)
set_option maxRecDepth 20000 in
theorem gX5_week_X5_within : GoodIn wsX5_week (va_wsS RX5 54 yX5_within wsX5_within) := goodIn_app (goodIn_of _ (by decide +kernel)) ggX5_week_X5_within
set_option maxRecDepth 20000 in
theorem ggX5_week_X5_reckon : GoodIn wsX5_week wsX5_reckon := goodIn_r _ [12, 13, 14, 15, 7, 16, 17, 18, 19, 20, 21, 22, 23, 24, 25, 26, 27, 28, 29, 30, 31, 32, 1, 2, 33, 34, 35, 36, 37, 3, 38, 39, 40, 41, 42, 43, 44, 45, 61, 62, 63, 64, 65, 66, 67, 68, 69, 70, 71, 72, 73, 74, 75, 76, 77, 78] (by decide +kernel) (by decide +kernel)
set_option maxRecDepth 20000 in
theorem gX5_week_X5_reckon : GoodIn wsX5_week (wsV RX5 89 RX5 yX5_reckon wsX5_reckon) := goodIn_app (goodIn_of _ (by decide +kernel)) ggX5_week_X5_reckon
set_option maxRecDepth 20000 in
theorem ggX5_week_X5_sumOf : GoodIn wsX5_week wsX5_sumOf := goodIn_r _ [48] (by decide +kernel) (by decide +kernel)
set_option maxRecDepth 20000 in
theorem gX5_week_X5_sumOf : GoodIn wsX5_week (va_wsS RX5 82 yX5_sumOf wsX5_sumOf) := goodIn_app (goodIn_of _ (by decide +kernel)) ggX5_week_X5_sumOf
set_option maxRecDepth 20000 in
theorem ggX5_week_X5_peopleIn : GoodIn wsX5_week wsX5_peopleIn := goodIn_r _ [52, 19, 61, 62, 63, 64, 65, 66, 67, 68, 69, 70, 71, 72, 73, 74, 75, 76, 77, 78] (by decide +kernel) (by decide +kernel)
set_option maxRecDepth 20000 in
theorem gX5_week_X5_peopleIn : GoodIn wsX5_week (wsV RX5 139 RX5 yX5_peopleIn wsX5_peopleIn) := goodIn_app (goodIn_of _ (by decide +kernel)) ggX5_week_X5_peopleIn
set_option maxRecDepth 20000 in
theorem ggX5_week_X5_leftOf : GoodIn wsX5_week wsX5_leftOf := goodIn_r _ [56, 2, 3, 18, 1, 46, 47, 7, 48, 57, 58, 59, 60, 61, 62, 63, 64, 65, 66, 67, 68, 69, 70, 71, 72, 73, 74, 75, 76, 77, 78] (by decide +kernel) (by decide +kernel)
set_option maxRecDepth 20000 in
theorem gX5_week_X5_leftOf : GoodIn wsX5_week (wsV RX5 92 RX5 yX5_leftOf wsX5_leftOf) := goodIn_app (goodIn_of _ (by decide +kernel)) ggX5_week_X5_leftOf
theorem dX5_week_0 : decode cX5_week 0 = .ok (.iload_n 1, 1) := by decide +kernel
theorem dX5_week_1 : decode cX5_week 1 = .ok (.iconst 0, 1) := by decide +kernel
theorem dX5_week_2 : decode cX5_week 2 = .ok (.iconst 4, 1) := by decide +kernel
theorem dX5_week_3 : decode cX5_week 3 = .ok (.invokestatic 54, 3) := by decide +kernel
theorem dX5_week_6 : decode cX5_week 6 = .ok (.ifCond .ne 6, 3) := by decide +kernel
theorem dX5_week_9 : decode cX5_week 9 = .ok (.bipush (-2), 2) := by decide +kernel
theorem dX5_week_11 : decode cX5_week 11 = .ok (.ireturn, 1) := by decide +kernel
theorem dX5_week_12 : decode cX5_week 12 = .ok (.aload_n 0, 1) := by decide +kernel
theorem dX5_week_13 : decode cX5_week 13 = .ok (.invokevirtual 89, 3) := by decide +kernel
theorem dX5_week_16 : decode cX5_week 16 = .ok (.iload_n 2, 1) := by decide +kernel
theorem dX5_week_17 : decode cX5_week 17 = .ok (.tableswitch 77 0 4 #[35, 44, 50, 59, 68], 35) := by decide +kernel
theorem dX5_week_52 : decode cX5_week 52 = .ok (.aload_n 0, 1) := by decide +kernel
theorem dX5_week_53 : decode cX5_week 53 = .ok (.getfield 34, 3) := by decide +kernel
theorem dX5_week_56 : decode cX5_week 56 = .ok (.iload_n 1, 1) := by decide +kernel
theorem dX5_week_57 : decode cX5_week 57 = .ok (.invokestatic 82, 3) := by decide +kernel
theorem dX5_week_60 : decode cX5_week 60 = .ok (.ireturn, 1) := by decide +kernel
theorem dX5_week_61 : decode cX5_week 61 = .ok (.aload_n 0, 1) := by decide +kernel
theorem dX5_week_62 : decode cX5_week 62 = .ok (.iload_n 1, 1) := by decide +kernel
theorem dX5_week_63 : decode cX5_week 63 = .ok (.invokevirtual 139, 3) := by decide +kernel
theorem dX5_week_66 : decode cX5_week 66 = .ok (.ireturn, 1) := by decide +kernel
theorem dX5_week_67 : decode cX5_week 67 = .ok (.aload_n 0, 1) := by decide +kernel
theorem dX5_week_68 : decode cX5_week 68 = .ok (.getfield 37, 3) := by decide +kernel
theorem dX5_week_71 : decode cX5_week 71 = .ok (.iload_n 1, 1) := by decide +kernel
theorem dX5_week_72 : decode cX5_week 72 = .ok (.invokestatic 82, 3) := by decide +kernel
theorem dX5_week_75 : decode cX5_week 75 = .ok (.ireturn, 1) := by decide +kernel
theorem dX5_week_76 : decode cX5_week 76 = .ok (.aload_n 0, 1) := by decide +kernel
theorem dX5_week_77 : decode cX5_week 77 = .ok (.getfield 43, 3) := by decide +kernel
theorem dX5_week_80 : decode cX5_week 80 = .ok (.iload_n 1, 1) := by decide +kernel
theorem dX5_week_81 : decode cX5_week 81 = .ok (.invokestatic 82, 3) := by decide +kernel
theorem dX5_week_84 : decode cX5_week 84 = .ok (.ireturn, 1) := by decide +kernel
theorem dX5_week_85 : decode cX5_week 85 = .ok (.aload_n 0, 1) := by decide +kernel
theorem dX5_week_86 : decode cX5_week 86 = .ok (.iload_n 1, 1) := by decide +kernel
theorem dX5_week_87 : decode cX5_week 87 = .ok (.invokevirtual 92, 3) := by decide +kernel
theorem dX5_week_90 : decode cX5_week 90 = .ok (.ldc 129, 2) := by decide +kernel
theorem dX5_week_92 : decode cX5_week 92 = .ok (.iadd, 1) := by decide +kernel
theorem dX5_week_93 : decode cX5_week 93 = .ok (.ireturn, 1) := by decide +kernel
theorem dX5_week_94 : decode cX5_week 94 = .ok (.bipush (-2), 2) := by decide +kernel
theorem dX5_week_96 : decode cX5_week 96 = .ok (.ireturn, 1) := by decide +kernel
set_option maxRecDepth 20000 in
theorem ggX5_distributor_X5_within : GoodIn wsX5_distributor wsX5_within := goodIn_r _ [7] (by decide +kernel) (by decide +kernel)
set_option maxRecDepth 20000 in
theorem gX5_distributor_X5_within : GoodIn wsX5_distributor (va_wsS RX5 54 yX5_within wsX5_within) := goodIn_app (goodIn_of _ (by decide +kernel)) ggX5_distributor_X5_within
set_option maxRecDepth 20000 in
theorem ggX5_distributor_X5_reckon : GoodIn wsX5_distributor wsX5_reckon := goodIn_r _ [11, 12, 13, 14, 6, 15, 16, 1, 17, 18, 19, 20, 21, 22, 23, 24, 25, 26, 27, 28, 29, 30, 2, 31, 32, 33, 34, 35, 36, 3, 37, 38, 39, 40, 41, 42, 43, 44, 48, 49, 50, 51, 52, 53, 54, 55, 56, 57, 58, 59, 60, 61, 62, 63, 64, 65] (by decide +kernel) (by decide +kernel)
set_option maxRecDepth 20000 in
theorem gX5_distributor_X5_reckon : GoodIn wsX5_distributor (wsV RX5 89 RX5 yX5_reckon wsX5_reckon) := goodIn_app (goodIn_of _ (by decide +kernel)) ggX5_distributor_X5_reckon
set_option maxRecDepth 20000 in
theorem ggX5_distributor_X5_sumOfFilm : GoodIn wsX5_distributor wsX5_sumOfFilm := goodIn_r _ [47] (by decide +kernel) (by decide +kernel)
set_option maxRecDepth 20000 in
theorem gX5_distributor_X5_sumOfFilm : GoodIn wsX5_distributor (va_wsS RX5 130 yX5_sumOfFilm wsX5_sumOfFilm) := goodIn_app (goodIn_of _ (by decide +kernel)) ggX5_distributor_X5_sumOfFilm
set_option maxRecDepth 20000 in
theorem ggX5_distributor_X5_filmPart : GoodIn wsX5_distributor wsX5_filmPart := goodIn_r _ [22, 1, 48, 49, 50, 51, 52, 53, 54, 55, 56, 57, 58, 59, 60, 61, 62, 63, 64, 65] (by decide +kernel) (by decide +kernel)
set_option maxRecDepth 20000 in
theorem gX5_distributor_X5_filmPart : GoodIn wsX5_distributor (wsV RX5 58 RX5 yX5_filmPart wsX5_filmPart) := goodIn_app (goodIn_of _ (by decide +kernel)) ggX5_distributor_X5_filmPart
theorem dX5_distributor_0 : decode cX5_distributor 0 = .ok (.iload_n 1, 1) := by decide +kernel
theorem dX5_distributor_1 : decode cX5_distributor 1 = .ok (.iconst 0, 1) := by decide +kernel
theorem dX5_distributor_2 : decode cX5_distributor 2 = .ok (.iconst 3, 1) := by decide +kernel
theorem dX5_distributor_3 : decode cX5_distributor 3 = .ok (.invokestatic 54, 3) := by decide +kernel
theorem dX5_distributor_6 : decode cX5_distributor 6 = .ok (.ifCond .eq 12, 3) := by decide +kernel
theorem dX5_distributor_9 : decode cX5_distributor 9 = .ok (.iload_n 2, 1) := by decide +kernel
theorem dX5_distributor_10 : decode cX5_distributor 10 = .ok (.iconst 0, 1) := by decide +kernel
theorem dX5_distributor_11 : decode cX5_distributor 11 = .ok (.iconst 2, 1) := by decide +kernel
theorem dX5_distributor_12 : decode cX5_distributor 12 = .ok (.invokestatic 54, 3) := by decide +kernel
theorem dX5_distributor_15 : decode cX5_distributor 15 = .ok (.ifCond .ne 6, 3) := by decide +kernel
theorem dX5_distributor_18 : decode cX5_distributor 18 = .ok (.bipush (-2), 2) := by decide +kernel
theorem dX5_distributor_20 : decode cX5_distributor 20 = .ok (.ireturn, 1) := by decide +kernel
theorem dX5_distributor_21 : decode cX5_distributor 21 = .ok (.aload_n 0, 1) := by decide +kernel
theorem dX5_distributor_22 : decode cX5_distributor 22 = .ok (.invokevirtual 89, 3) := by decide +kernel
theorem dX5_distributor_25 : decode cX5_distributor 25 = .ok (.iconst 0, 1) := by decide +kernel
theorem dX5_distributor_26 : decode cX5_distributor 26 = .ok (.istore_n 3, 1) := by decide +kernel
theorem dX5_distributor_27 : decode cX5_distributor 27 = .ok (.iconst 0, 1) := by decide +kernel
theorem dX5_distributor_28 : decode cX5_distributor 28 = .ok (.istore 4, 2) := by decide +kernel
theorem dX5_distributor_30 : decode cX5_distributor 30 = .ok (.iload 4, 2) := by decide +kernel
theorem dX5_distributor_32 : decode cX5_distributor 32 = .ok (.aload_n 0, 1) := by decide +kernel
theorem dX5_distributor_33 : decode cX5_distributor 33 = .ok (.getfield 7, 3) := by decide +kernel
theorem dX5_distributor_36 : decode cX5_distributor 36 = .ok (.iconst 5, 1) := by decide +kernel
theorem dX5_distributor_37 : decode cX5_distributor 37 = .ok (.iaload, 1) := by decide +kernel
theorem dX5_distributor_38 : decode cX5_distributor 38 = .ok (.if_icmp .ge 60, 3) := by decide +kernel
theorem dX5_distributor_41 : decode cX5_distributor 41 = .ok (.iload_n 2, 1) := by decide +kernel
theorem dX5_distributor_42 : decode cX5_distributor 42 = .ok (.ifCond .ne 7, 3) := by decide +kernel
theorem dX5_distributor_45 : decode cX5_distributor 45 = .ok (.iconst 1, 1) := by decide +kernel
theorem dX5_distributor_46 : decode cX5_distributor 46 = .ok (.goto 24, 3) := by decide +kernel
theorem dX5_distributor_49 : decode cX5_distributor 49 = .ok (.iload_n 2, 1) := by decide +kernel
theorem dX5_distributor_50 : decode cX5_distributor 50 = .ok (.iconst 1, 1) := by decide +kernel
theorem dX5_distributor_51 : decode cX5_distributor 51 = .ok (.if_icmp .ne 10, 3) := by decide +kernel
theorem dX5_distributor_54 : decode cX5_distributor 54 = .ok (.aload_n 0, 1) := by decide +kernel
theorem dX5_distributor_55 : decode cX5_distributor 55 = .ok (.getfield 34, 3) := by decide +kernel
theorem dX5_distributor_58 : decode cX5_distributor 58 = .ok (.goto 7, 3) := by decide +kernel
theorem dX5_distributor_61 : decode cX5_distributor 61 = .ok (.aload_n 0, 1) := by decide +kernel
theorem dX5_distributor_62 : decode cX5_distributor 62 = .ok (.getfield 43, 3) := by decide +kernel
theorem dX5_distributor_65 : decode cX5_distributor 65 = .ok (.iload 4, 2) := by decide +kernel
theorem dX5_distributor_67 : decode cX5_distributor 67 = .ok (.invokestatic 130, 3) := by decide +kernel
theorem dX5_distributor_70 : decode cX5_distributor 70 = .ok (.istore 5, 2) := by decide +kernel
theorem dX5_distributor_72 : decode cX5_distributor 72 = .ok (.iload_n 3, 1) := by decide +kernel
theorem dX5_distributor_73 : decode cX5_distributor 73 = .ok (.aload_n 0, 1) := by decide +kernel
theorem dX5_distributor_74 : decode cX5_distributor 74 = .ok (.iload 4, 2) := by decide +kernel
theorem dX5_distributor_76 : decode cX5_distributor 76 = .ok (.iconst 0, 1) := by decide +kernel
theorem dX5_distributor_77 : decode cX5_distributor 77 = .ok (.invokevirtual 58, 3) := by decide +kernel
theorem dX5_distributor_80 : decode cX5_distributor 80 = .ok (.iload_n 1, 1) := by decide +kernel
theorem dX5_distributor_81 : decode cX5_distributor 81 = .ok (.if_icmp .ne 8, 3) := by decide +kernel
theorem dX5_distributor_84 : decode cX5_distributor 84 = .ok (.iload 5, 2) := by decide +kernel
theorem dX5_distributor_86 : decode cX5_distributor 86 = .ok (.goto 4, 3) := by decide +kernel
theorem dX5_distributor_89 : decode cX5_distributor 89 = .ok (.iconst 0, 1) := by decide +kernel
theorem dX5_distributor_90 : decode cX5_distributor 90 = .ok (.iadd, 1) := by decide +kernel
theorem dX5_distributor_91 : decode cX5_distributor 91 = .ok (.istore_n 3, 1) := by decide +kernel
theorem dX5_distributor_92 : decode cX5_distributor 92 = .ok (.iinc 4 1, 3) := by decide +kernel
theorem dX5_distributor_95 : decode cX5_distributor 95 = .ok (.goto (-65), 3) := by decide +kernel
theorem dX5_distributor_98 : decode cX5_distributor 98 = .ok (.iload_n 3, 1) := by decide +kernel
theorem dX5_distributor_99 : decode cX5_distributor 99 = .ok (.ireturn, 1) := by decide +kernel
set_option maxRecDepth 20000 in
theorem ggX5_rent_X5_within : GoodIn wsX5_rent wsX5_within := goodIn_r _ [5] (by decide +kernel) (by decide +kernel)
set_option maxRecDepth 20000 in
theorem gX5_rent_X5_within : GoodIn wsX5_rent (va_wsS RX5 54 yX5_within wsX5_within) := goodIn_app (goodIn_of _ (by decide +kernel)) ggX5_rent_X5_within
theorem dX5_rent_0 : decode cX5_rent 0 = .ok (.iload_n 1, 1) := by decide +kernel
theorem dX5_rent_1 : decode cX5_rent 1 = .ok (.iconst 0, 1) := by decide +kernel
theorem dX5_rent_2 : decode cX5_rent 2 = .ok (.bipush 34, 2) := by decide +kernel
theorem dX5_rent_4 : decode cX5_rent 4 = .ok (.invokestatic 54, 3) := by decide +kernel
theorem dX5_rent_7 : decode cX5_rent 7 = .ok (.ifCond .eq 15, 3) := by decide +kernel
theorem dX5_rent_10 : decode cX5_rent 10 = .ok (.aload_n 0, 1) := by decide +kernel
theorem dX5_rent_11 : decode cX5_rent 11 = .ok (.getfield 7, 3) := by decide +kernel
theorem dX5_rent_14 : decode cX5_rent 14 = .ok (.bipush 116, 2) := by decide +kernel
theorem dX5_rent_16 : decode cX5_rent 16 = .ok (.iload_n 1, 1) := by decide +kernel
theorem dX5_rent_17 : decode cX5_rent 17 = .ok (.iadd, 1) := by decide +kernel
theorem dX5_rent_18 : decode cX5_rent 18 = .ok (.iaload, 1) := by decide +kernel
theorem dX5_rent_19 : decode cX5_rent 19 = .ok (.goto 5, 3) := by decide +kernel
theorem dX5_rent_22 : decode cX5_rent 22 = .ok (.bipush (-2), 2) := by decide +kernel
theorem dX5_rent_24 : decode cX5_rent 24 = .ok (.ireturn, 1) := by decide +kernel
theorem dX5_fullShows_0 : decode cX5_fullShows 0 = .ok (.iconst 0, 1) := by decide +kernel
theorem dX5_fullShows_1 : decode cX5_fullShows 1 = .ok (.istore_n 1, 1) := by decide +kernel
theorem dX5_fullShows_2 : decode cX5_fullShows 2 = .ok (.iconst 0, 1) := by decide +kernel
theorem dX5_fullShows_3 : decode cX5_fullShows 3 = .ok (.istore_n 2, 1) := by decide +kernel
theorem dX5_fullShows_4 : decode cX5_fullShows 4 = .ok (.iload_n 2, 1) := by decide +kernel
theorem dX5_fullShows_5 : decode cX5_fullShows 5 = .ok (.bipush 70, 2) := by decide +kernel
theorem dX5_fullShows_7 : decode cX5_fullShows 7 = .ok (.if_icmp .ge 46, 3) := by decide +kernel
theorem dX5_fullShows_10 : decode cX5_fullShows 10 = .ok (.iload_n 1, 1) := by decide +kernel
theorem dX5_fullShows_11 : decode cX5_fullShows 11 = .ok (.aload_n 0, 1) := by decide +kernel
theorem dX5_fullShows_12 : decode cX5_fullShows 12 = .ok (.getfield 7, 3) := by decide +kernel
theorem dX5_fullShows_15 : decode cX5_fullShows 15 = .ok (.bipush 46, 2) := by decide +kernel
theorem dX5_fullShows_17 : decode cX5_fullShows 17 = .ok (.iload_n 2, 1) := by decide +kernel
theorem dX5_fullShows_18 : decode cX5_fullShows 18 = .ok (.iadd, 1) := by decide +kernel
theorem dX5_fullShows_19 : decode cX5_fullShows 19 = .ok (.iaload, 1) := by decide +kernel
theorem dX5_fullShows_20 : decode cX5_fullShows 20 = .ok (.bipush (-6), 2) := by decide +kernel
theorem dX5_fullShows_22 : decode cX5_fullShows 22 = .ok (.if_icmp .eq 22, 3) := by decide +kernel
theorem dX5_fullShows_25 : decode cX5_fullShows 25 = .ok (.aload_n 0, 1) := by decide +kernel
theorem dX5_fullShows_26 : decode cX5_fullShows 26 = .ok (.getfield 25, 3) := by decide +kernel
theorem dX5_fullShows_29 : decode cX5_fullShows 29 = .ok (.iload_n 2, 1) := by decide +kernel
theorem dX5_fullShows_30 : decode cX5_fullShows 30 = .ok (.iaload, 1) := by decide +kernel
theorem dX5_fullShows_31 : decode cX5_fullShows 31 = .ok (.aload_n 0, 1) := by decide +kernel
theorem dX5_fullShows_32 : decode cX5_fullShows 32 = .ok (.getfield 7, 3) := by decide +kernel
theorem dX5_fullShows_35 : decode cX5_fullShows 35 = .ok (.iconst 0, 1) := by decide +kernel
theorem dX5_fullShows_36 : decode cX5_fullShows 36 = .ok (.iaload, 1) := by decide +kernel
theorem dX5_fullShows_37 : decode cX5_fullShows 37 = .ok (.if_icmp .ne 7, 3) := by decide +kernel
theorem dX5_fullShows_40 : decode cX5_fullShows 40 = .ok (.iconst 1, 1) := by decide +kernel
theorem dX5_fullShows_41 : decode cX5_fullShows 41 = .ok (.goto 4, 3) := by decide +kernel
theorem dX5_fullShows_44 : decode cX5_fullShows 44 = .ok (.iconst 0, 1) := by decide +kernel
theorem dX5_fullShows_45 : decode cX5_fullShows 45 = .ok (.iadd, 1) := by decide +kernel
theorem dX5_fullShows_46 : decode cX5_fullShows 46 = .ok (.istore_n 1, 1) := by decide +kernel
theorem dX5_fullShows_47 : decode cX5_fullShows 47 = .ok (.iinc 2 1, 3) := by decide +kernel
theorem dX5_fullShows_50 : decode cX5_fullShows 50 = .ok (.goto (-46), 3) := by decide +kernel
theorem dX5_fullShows_53 : decode cX5_fullShows 53 = .ok (.iload_n 1, 1) := by decide +kernel
theorem dX5_fullShows_54 : decode cX5_fullShows 54 = .ok (.ireturn, 1) := by decide +kernel
set_option maxRecDepth 20000 in
theorem ggX5_count_X5_reckon : GoodIn wsX5_count wsX5_reckon := goodIn_r _ [12, 13, 14, 15, 11, 16, 17, 1, 18, 19, 20, 21, 22, 23, 24, 25, 26, 27, 28, 29, 30, 31, 2, 3, 32, 33, 34, 35, 36, 4, 37, 38, 39, 40, 41, 42, 43, 44, 64, 65, 66, 67, 68, 69, 70, 71, 72, 73, 74, 75, 76, 77, 78, 79, 80, 81] (by decide +kernel) (by decide +kernel)
set_option maxRecDepth 20000 in
theorem gX5_count_X5_reckon : GoodIn wsX5_count (wsV RX5 89 RX5 yX5_reckon wsX5_reckon) := goodIn_app (goodIn_of _ (by decide +kernel)) ggX5_count_X5_reckon
set_option maxRecDepth 20000 in
theorem ggX5_count_X5_sumOf : GoodIn wsX5_count wsX5_sumOf := goodIn_r _ [47] (by decide +kernel) (by decide +kernel)
set_option maxRecDepth 20000 in
theorem gX5_count_X5_sumOf : GoodIn wsX5_count (va_wsS RX5 82 yX5_sumOf wsX5_sumOf) := goodIn_app (goodIn_of _ (by decide +kernel)) ggX5_count_X5_sumOf
set_option maxRecDepth 20000 in
theorem ggX5_count_X5_peopleIn : GoodIn wsX5_count wsX5_peopleIn := goodIn_r _ [51, 18, 64, 65, 66, 67, 68, 69, 70, 71, 72, 73, 74, 75, 76, 77, 78, 79, 80, 81] (by decide +kernel) (by decide +kernel)
set_option maxRecDepth 20000 in
theorem gX5_count_X5_peopleIn : GoodIn wsX5_count (wsV RX5 139 RX5 yX5_peopleIn wsX5_peopleIn) := goodIn_app (goodIn_of _ (by decide +kernel)) ggX5_count_X5_peopleIn
set_option maxRecDepth 20000 in
theorem ggX5_count_X5_leftOf : GoodIn wsX5_count wsX5_leftOf := goodIn_r _ [55, 3, 4, 1, 2, 45, 46, 11, 47, 56, 57, 58, 59, 64, 65, 66, 67, 68, 69, 70, 71, 72, 73, 74, 75, 76, 77, 78, 79, 80, 81] (by decide +kernel) (by decide +kernel)
set_option maxRecDepth 20000 in
theorem gX5_count_X5_leftOf : GoodIn wsX5_count (wsV RX5 92 RX5 yX5_leftOf wsX5_leftOf) := goodIn_app (goodIn_of _ (by decide +kernel)) ggX5_count_X5_leftOf
set_option maxRecDepth 20000 in
theorem ggX5_count_X5_rentsOf : GoodIn wsX5_count wsX5_rentsOf := goodIn_r _ [59, 1, 64, 65, 66, 67, 68, 69, 70, 71, 72, 73, 74, 75, 76, 77, 78, 79, 80, 81] (by decide +kernel) (by decide +kernel)
set_option maxRecDepth 20000 in
theorem gX5_count_X5_rentsOf : GoodIn wsX5_count (wsV RX5 86 RX5 yX5_rentsOf wsX5_rentsOf) := goodIn_app (goodIn_of _ (by decide +kernel)) ggX5_count_X5_rentsOf
set_option maxRecDepth 20000 in
theorem ggX5_count_X5_fullShows : GoodIn wsX5_count wsX5_fullShows := goodIn_r _ [63, 1, 18, 64, 65, 66, 67, 68, 69, 70, 71, 72, 73, 74, 75, 76, 77, 78, 79, 80, 81] (by decide +kernel) (by decide +kernel)
set_option maxRecDepth 20000 in
theorem gX5_count_X5_fullShows : GoodIn wsX5_count (wsV RX5 142 RX5 yX5_fullShows wsX5_fullShows) := goodIn_app (goodIn_of _ (by decide +kernel)) ggX5_count_X5_fullShows
theorem dX5_count_0 : decode cX5_count 0 = .ok (.aload_n 0, 1) := by decide +kernel
theorem dX5_count_1 : decode cX5_count 1 = .ok (.invokevirtual 89, 3) := by decide +kernel
theorem dX5_count_4 : decode cX5_count 4 = .ok (.iload_n 1, 1) := by decide +kernel
theorem dX5_count_5 : decode cX5_count 5 = .ok (.tableswitch 155 0 14 #[75, 82, 91, 97, 106, 115, 124, 130, 135, 135, 135, 135, 135, 145, 150], 75) := by decide +kernel
theorem dX5_count_80 : decode cX5_count 80 = .ok (.aload_n 0, 1) := by decide +kernel
theorem dX5_count_81 : decode cX5_count 81 = .ok (.getfield 7, 3) := by decide +kernel
theorem dX5_count_84 : decode cX5_count 84 = .ok (.iconst 5, 1) := by decide +kernel
theorem dX5_count_85 : decode cX5_count 85 = .ok (.iaload, 1) := by decide +kernel
theorem dX5_count_86 : decode cX5_count 86 = .ok (.ireturn, 1) := by decide +kernel
theorem dX5_count_87 : decode cX5_count 87 = .ok (.aload_n 0, 1) := by decide +kernel
theorem dX5_count_88 : decode cX5_count 88 = .ok (.getfield 34, 3) := by decide +kernel
theorem dX5_count_91 : decode cX5_count 91 = .ok (.iconst (-1), 1) := by decide +kernel
theorem dX5_count_92 : decode cX5_count 92 = .ok (.invokestatic 82, 3) := by decide +kernel
theorem dX5_count_95 : decode cX5_count 95 = .ok (.ireturn, 1) := by decide +kernel
theorem dX5_count_96 : decode cX5_count 96 = .ok (.aload_n 0, 1) := by decide +kernel
theorem dX5_count_97 : decode cX5_count 97 = .ok (.iconst (-1), 1) := by decide +kernel
theorem dX5_count_98 : decode cX5_count 98 = .ok (.invokevirtual 139, 3) := by decide +kernel
theorem dX5_count_101 : decode cX5_count 101 = .ok (.ireturn, 1) := by decide +kernel
theorem dX5_count_102 : decode cX5_count 102 = .ok (.aload_n 0, 1) := by decide +kernel
theorem dX5_count_103 : decode cX5_count 103 = .ok (.getfield 37, 3) := by decide +kernel
theorem dX5_count_106 : decode cX5_count 106 = .ok (.iconst (-1), 1) := by decide +kernel
theorem dX5_count_107 : decode cX5_count 107 = .ok (.invokestatic 82, 3) := by decide +kernel
theorem dX5_count_110 : decode cX5_count 110 = .ok (.ireturn, 1) := by decide +kernel
theorem dX5_count_111 : decode cX5_count 111 = .ok (.aload_n 0, 1) := by decide +kernel
theorem dX5_count_112 : decode cX5_count 112 = .ok (.getfield 43, 3) := by decide +kernel
theorem dX5_count_115 : decode cX5_count 115 = .ok (.iconst (-1), 1) := by decide +kernel
theorem dX5_count_116 : decode cX5_count 116 = .ok (.invokestatic 82, 3) := by decide +kernel
theorem dX5_count_119 : decode cX5_count 119 = .ok (.ireturn, 1) := by decide +kernel
theorem dX5_count_120 : decode cX5_count 120 = .ok (.aload_n 0, 1) := by decide +kernel
theorem dX5_count_121 : decode cX5_count 121 = .ok (.iconst (-1), 1) := by decide +kernel
theorem dX5_count_122 : decode cX5_count 122 = .ok (.invokevirtual 92, 3) := by decide +kernel
theorem dX5_count_125 : decode cX5_count 125 = .ok (.ldc 129, 2) := by decide +kernel
theorem dX5_count_127 : decode cX5_count 127 = .ok (.iadd, 1) := by decide +kernel
theorem dX5_count_128 : decode cX5_count 128 = .ok (.ireturn, 1) := by decide +kernel
theorem dX5_count_129 : decode cX5_count 129 = .ok (.aload_n 0, 1) := by decide +kernel
theorem dX5_count_130 : decode cX5_count 130 = .ok (.iconst (-1), 1) := by decide +kernel
theorem dX5_count_131 : decode cX5_count 131 = .ok (.invokevirtual 86, 3) := by decide +kernel
theorem dX5_count_134 : decode cX5_count 134 = .ok (.ireturn, 1) := by decide +kernel
theorem dX5_count_135 : decode cX5_count 135 = .ok (.aload_n 0, 1) := by decide +kernel
theorem dX5_count_136 : decode cX5_count 136 = .ok (.invokevirtual 142, 3) := by decide +kernel
theorem dX5_count_139 : decode cX5_count 139 = .ok (.ireturn, 1) := by decide +kernel
theorem dX5_count_140 : decode cX5_count 140 = .ok (.aload_n 0, 1) := by decide +kernel
theorem dX5_count_141 : decode cX5_count 141 = .ok (.getfield 7, 3) := by decide +kernel
theorem dX5_count_144 : decode cX5_count 144 = .ok (.iload_n 1, 1) := by decide +kernel
theorem dX5_count_145 : decode cX5_count 145 = .ok (.bipush 8, 2) := by decide +kernel
theorem dX5_count_147 : decode cX5_count 147 = .ok (.isub, 1) := by decide +kernel
theorem dX5_count_148 : decode cX5_count 148 = .ok (.iaload, 1) := by decide +kernel
theorem dX5_count_149 : decode cX5_count 149 = .ok (.ireturn, 1) := by decide +kernel
theorem dX5_count_150 : decode cX5_count 150 = .ok (.aload_n 0, 1) := by decide +kernel
theorem dX5_count_151 : decode cX5_count 151 = .ok (.getfield 145, 3) := by decide +kernel
theorem dX5_count_154 : decode cX5_count 154 = .ok (.ireturn, 1) := by decide +kernel
theorem dX5_count_155 : decode cX5_count 155 = .ok (.aload_n 0, 1) := by decide +kernel
theorem dX5_count_156 : decode cX5_count 156 = .ok (.getfield 46, 3) := by decide +kernel
theorem dX5_count_159 : decode cX5_count 159 = .ok (.ireturn, 1) := by decide +kernel
theorem dX5_count_160 : decode cX5_count 160 = .ok (.bipush (-2), 2) := by decide +kernel
theorem dX5_count_162 : decode cX5_count 162 = .ok (.ireturn, 1) := by decide +kernel
set_option maxRecDepth 20000 in
theorem ggX5_moreWith_X5_leftNow : GoodIn wsX5_moreWith wsX5_leftNow := goodIn_r _ [6, 7, 8, 9, 5, 10, 11, 12, 13, 14, 15, 1, 16, 17, 18, 19, 20, 21, 22, 23, 24, 25, 26, 27, 28, 29, 30, 31, 32, 33, 34, 35, 36, 37, 38, 39, 40, 41, 42, 43, 44, 45, 46, 47, 48, 49, 50, 51, 52, 53, 54, 55, 56, 57, 58, 59, 60, 61, 62, 63, 64, 65, 66, 67, 68, 69, 70, 71, 72, 73, 74] (by decide +kernel) (by decide +kernel)
set_option maxRecDepth 20000 in
theorem gX5_moreWith_X5_leftNow : GoodIn wsX5_moreWith (wsV RX5 125 RX5 yX5_leftNow wsX5_leftNow) := goodIn_app (goodIn_of _ (by decide +kernel)) ggX5_moreWith_X5_leftNow
theorem dX5_moreWith_0 : decode cX5_moreWith 0 = .ok (.aload_n 0, 1) := by decide +kernel
theorem dX5_moreWith_1 : decode cX5_moreWith 1 = .ok (.getfield 7, 3) := by decide +kernel
theorem dX5_moreWith_4 : decode cX5_moreWith 4 = .ok (.bipush 46, 2) := by decide +kernel
theorem dX5_moreWith_6 : decode cX5_moreWith 6 = .ok (.iload_n 2, 1) := by decide +kernel
theorem dX5_moreWith_7 : decode cX5_moreWith 7 = .ok (.iadd, 1) := by decide +kernel
theorem dX5_moreWith_8 : decode cX5_moreWith 8 = .ok (.iaload, 1) := by decide +kernel
theorem dX5_moreWith_9 : decode cX5_moreWith 9 = .ok (.istore_n 3, 1) := by decide +kernel
theorem dX5_moreWith_10 : decode cX5_moreWith 10 = .ok (.aload_n 0, 1) := by decide +kernel
theorem dX5_moreWith_11 : decode cX5_moreWith 11 = .ok (.invokevirtual 125, 3) := by decide +kernel
theorem dX5_moreWith_14 : decode cX5_moreWith 14 = .ok (.istore 4, 2) := by decide +kernel
theorem dX5_moreWith_16 : decode cX5_moreWith 16 = .ok (.aload_n 0, 1) := by decide +kernel
theorem dX5_moreWith_17 : decode cX5_moreWith 17 = .ok (.getfield 7, 3) := by decide +kernel
theorem dX5_moreWith_20 : decode cX5_moreWith 20 = .ok (.bipush 46, 2) := by decide +kernel
theorem dX5_moreWith_22 : decode cX5_moreWith 22 = .ok (.iload_n 2, 1) := by decide +kernel
theorem dX5_moreWith_23 : decode cX5_moreWith 23 = .ok (.iadd, 1) := by decide +kernel
theorem dX5_moreWith_24 : decode cX5_moreWith 24 = .ok (.iload_n 1, 1) := by decide +kernel
theorem dX5_moreWith_25 : decode cX5_moreWith 25 = .ok (.iastore, 1) := by decide +kernel
theorem dX5_moreWith_26 : decode cX5_moreWith 26 = .ok (.aload_n 0, 1) := by decide +kernel
theorem dX5_moreWith_27 : decode cX5_moreWith 27 = .ok (.invokevirtual 125, 3) := by decide +kernel
theorem dX5_moreWith_30 : decode cX5_moreWith 30 = .ok (.iload 4, 2) := by decide +kernel
theorem dX5_moreWith_32 : decode cX5_moreWith 32 = .ok (.isub, 1) := by decide +kernel
theorem dX5_moreWith_33 : decode cX5_moreWith 33 = .ok (.istore 5, 2) := by decide +kernel
theorem dX5_moreWith_35 : decode cX5_moreWith 35 = .ok (.aload_n 0, 1) := by decide +kernel
theorem dX5_moreWith_36 : decode cX5_moreWith 36 = .ok (.getfield 7, 3) := by decide +kernel
theorem dX5_moreWith_39 : decode cX5_moreWith 39 = .ok (.bipush 46, 2) := by decide +kernel
theorem dX5_moreWith_41 : decode cX5_moreWith 41 = .ok (.iload_n 2, 1) := by decide +kernel
theorem dX5_moreWith_42 : decode cX5_moreWith 42 = .ok (.iadd, 1) := by decide +kernel
theorem dX5_moreWith_43 : decode cX5_moreWith 43 = .ok (.iload_n 3, 1) := by decide +kernel
theorem dX5_moreWith_44 : decode cX5_moreWith 44 = .ok (.iastore, 1) := by decide +kernel
theorem dX5_moreWith_45 : decode cX5_moreWith 45 = .ok (.iload 5, 2) := by decide +kernel
theorem dX5_moreWith_47 : decode cX5_moreWith 47 = .ok (.ireturn, 1) := by decide +kernel
set_option maxRecDepth 20000 in
theorem ggX5_ifShown_X5_whyNotShown : GoodIn wsX5_ifShown wsX5_whyNotShown := goodIn_r _ [6, 7, 8, 9, 5, 10, 11, 12, 13, 14, 15, 16, 17, 18, 19, 20, 21, 22, 23, 24, 25, 26, 27, 28, 29, 84, 85, 86, 87, 88, 89, 90, 91, 92, 93, 94, 95, 96, 97, 98, 99, 100, 101] (by decide +kernel) (by decide +kernel)
set_option maxRecDepth 20000 in
theorem gX5_ifShown_X5_whyNotShown : GoodIn wsX5_ifShown (wsV RX5 115 RX5 yX5_whyNotShown wsX5_whyNotShown) := goodIn_app (goodIn_of _ (by decide +kernel)) ggX5_ifShown_X5_whyNotShown
set_option maxRecDepth 20000 in
theorem ggX5_ifShown_X5_moreWith : GoodIn wsX5_ifShown wsX5_moreWith := goodIn_r _ [33, 11, 34, 35, 36, 5, 37, 38, 39, 40, 41, 42, 43, 44, 45, 46, 47, 48, 26, 27, 28, 29, 49, 50, 51, 52, 53, 54, 55, 56, 57, 58, 59, 60, 61, 62, 63, 64, 65, 66, 67, 68, 69, 70, 71, 72, 73, 74, 75, 76, 77, 78, 79, 80, 81, 82, 83, 84, 85, 86, 87, 88, 89, 90, 91, 92, 93, 94, 95, 96, 97, 98, 99, 100, 101] (by decide +kernel) (by decide +kernel)
set_option maxRecDepth 20000 in
theorem gX5_ifShown_X5_moreWith : GoodIn wsX5_ifShown (wsV RX5 148 RX5 yX5_moreWith wsX5_moreWith) := goodIn_app (goodIn_of _ (by decide +kernel)) ggX5_ifShown_X5_moreWith
theorem dX5_ifShown_0 : decode cX5_ifShown 0 = .ok (.aload_n 0, 1) := by decide +kernel
theorem dX5_ifShown_1 : decode cX5_ifShown 1 = .ok (.iload_n 1, 1) := by decide +kernel
theorem dX5_ifShown_2 : decode cX5_ifShown 2 = .ok (.iload_n 2, 1) := by decide +kernel
theorem dX5_ifShown_3 : decode cX5_ifShown 3 = .ok (.iload_n 3, 1) := by decide +kernel
theorem dX5_ifShown_4 : decode cX5_ifShown 4 = .ok (.invokevirtual 115, 3) := by decide +kernel
theorem dX5_ifShown_7 : decode cX5_ifShown 7 = .ok (.istore 4, 2) := by decide +kernel
theorem dX5_ifShown_9 : decode cX5_ifShown 9 = .ok (.iload 4, 2) := by decide +kernel
theorem dX5_ifShown_11 : decode cX5_ifShown 11 = .ok (.ifCond .ge 8, 3) := by decide +kernel
theorem dX5_ifShown_14 : decode cX5_ifShown 14 = .ok (.iload 4, 2) := by decide +kernel
theorem dX5_ifShown_16 : decode cX5_ifShown 16 = .ok (.goto 16, 3) := by decide +kernel
theorem dX5_ifShown_19 : decode cX5_ifShown 19 = .ok (.aload_n 0, 1) := by decide +kernel
theorem dX5_ifShown_20 : decode cX5_ifShown 20 = .ok (.iload_n 1, 1) := by decide +kernel
theorem dX5_ifShown_21 : decode cX5_ifShown 21 = .ok (.iconst 2, 1) := by decide +kernel
theorem dX5_ifShown_22 : decode cX5_ifShown 22 = .ok (.iload_n 2, 1) := by decide +kernel
theorem dX5_ifShown_23 : decode cX5_ifShown 23 = .ok (.imul, 1) := by decide +kernel
theorem dX5_ifShown_24 : decode cX5_ifShown 24 = .ok (.iload_n 3, 1) := by decide +kernel
theorem dX5_ifShown_25 : decode cX5_ifShown 25 = .ok (.iadd, 1) := by decide +kernel
theorem dX5_ifShown_26 : decode cX5_ifShown 26 = .ok (.invokevirtual 148, 3) := by decide +kernel
theorem dX5_ifShown_29 : decode cX5_ifShown 29 = .ok (.ldc 129, 2) := by decide +kernel
theorem dX5_ifShown_31 : decode cX5_ifShown 31 = .ok (.iadd, 1) := by decide +kernel
theorem dX5_ifShown_32 : decode cX5_ifShown 32 = .ok (.ireturn, 1) := by decide +kernel
set_option maxRecDepth 20000 in
theorem ggX5_bestFilm_X5_isPart : GoodIn wsX5_bestFilm wsX5_isPart := goodIn_r _ [6, 7, 8, 5, 9] (by decide +kernel) (by decide +kernel)
set_option maxRecDepth 20000 in
theorem gX5_bestFilm_X5_isPart : GoodIn wsX5_bestFilm (va_wsS RX5 109 yX5_isPart wsX5_isPart) := goodIn_app (goodIn_of _ (by decide +kernel)) ggX5_bestFilm_X5_isPart
set_option maxRecDepth 20000 in
theorem ggX5_bestFilm_X5_within : GoodIn wsX5_bestFilm wsX5_within := goodIn_r _ [9] (by decide +kernel) (by decide +kernel)
set_option maxRecDepth 20000 in
theorem gX5_bestFilm_X5_within : GoodIn wsX5_bestFilm (va_wsS RX5 54 yX5_within wsX5_within) := goodIn_app (goodIn_of _ (by decide +kernel)) ggX5_bestFilm_X5_within
set_option maxRecDepth 20000 in
theorem ggX5_bestFilm_X5_isLet : GoodIn wsX5_bestFilm wsX5_isLet := goodIn_r _ [13, 1, 76, 77, 78, 79, 80, 81, 82, 83, 84, 85, 86, 87, 88, 89, 90, 91, 92, 93] (by decide +kernel) (by decide +kernel)
set_option maxRecDepth 20000 in
theorem gX5_bestFilm_X5_isLet : GoodIn wsX5_bestFilm (wsV RX5 102 RX5 yX5_isLet wsX5_isLet) := goodIn_app (goodIn_of _ (by decide +kernel)) ggX5_bestFilm_X5_isLet
set_option maxRecDepth 20000 in
theorem ggX5_bestFilm_X5_canShow : GoodIn wsX5_bestFilm wsX5_canShow := goodIn_r _ [17, 10, 11, 12, 5, 13, 1, 18, 19, 20, 21, 76, 77, 78, 79, 80, 81, 82, 83, 84, 85, 86, 87, 88, 89, 90, 91, 92, 93] (by decide +kernel) (by decide +kernel)
set_option maxRecDepth 20000 in
theorem gX5_bestFilm_X5_canShow : GoodIn wsX5_bestFilm (wsV RX5 112 RX5 yX5_canShow wsX5_canShow) := goodIn_app (goodIn_of _ (by decide +kernel)) ggX5_bestFilm_X5_canShow
set_option maxRecDepth 20000 in
theorem ggX5_bestFilm_X5_moreWith : GoodIn wsX5_bestFilm wsX5_moreWith := goodIn_r _ [25, 1, 26, 27, 28, 5, 29, 30, 31, 32, 33, 34, 35, 36, 37, 38, 39, 40, 18, 19, 20, 21, 41, 42, 43, 44, 45, 46, 47, 48, 49, 50, 51, 52, 53, 54, 55, 56, 57, 58, 59, 60, 61, 62, 63, 64, 65, 66, 67, 68, 69, 70, 71, 72, 73, 74, 75, 76, 77, 78, 79, 80, 81, 82, 83, 84, 85, 86, 87, 88, 89, 90, 91, 92, 93] (by decide +kernel) (by decide +kernel)
set_option maxRecDepth 20000 in
theorem gX5_bestFilm_X5_moreWith : GoodIn wsX5_bestFilm (wsV RX5 148 RX5 yX5_moreWith wsX5_moreWith) := goodIn_app (goodIn_of _ (by decide +kernel)) ggX5_bestFilm_X5_moreWith
theorem dX5_bestFilm_0 : decode cX5_bestFilm 0 = .ok (.iload_n 1, 1) := by decide +kernel
theorem dX5_bestFilm_1 : decode cX5_bestFilm 1 = .ok (.iload_n 2, 1) := by decide +kernel
theorem dX5_bestFilm_2 : decode cX5_bestFilm 2 = .ok (.invokestatic 109, 3) := by decide +kernel
theorem dX5_bestFilm_5 : decode cX5_bestFilm 5 = .ok (.ifCond .eq 12, 3) := by decide +kernel
theorem dX5_bestFilm_8 : decode cX5_bestFilm 8 = .ok (.iload_n 3, 1) := by decide +kernel
theorem dX5_bestFilm_9 : decode cX5_bestFilm 9 = .ok (.iconst 0, 1) := by decide +kernel
theorem dX5_bestFilm_10 : decode cX5_bestFilm 10 = .ok (.iconst 1, 1) := by decide +kernel
theorem dX5_bestFilm_11 : decode cX5_bestFilm 11 = .ok (.invokestatic 54, 3) := by decide +kernel
theorem dX5_bestFilm_14 : decode cX5_bestFilm 14 = .ok (.ifCond .ne 6, 3) := by decide +kernel
theorem dX5_bestFilm_17 : decode cX5_bestFilm 17 = .ok (.bipush (-2), 2) := by decide +kernel
theorem dX5_bestFilm_19 : decode cX5_bestFilm 19 = .ok (.ireturn, 1) := by decide +kernel
theorem dX5_bestFilm_20 : decode cX5_bestFilm 20 = .ok (.aload_n 0, 1) := by decide +kernel
theorem dX5_bestFilm_21 : decode cX5_bestFilm 21 = .ok (.iload_n 1, 1) := by decide +kernel
theorem dX5_bestFilm_22 : decode cX5_bestFilm 22 = .ok (.invokevirtual 102, 3) := by decide +kernel
theorem dX5_bestFilm_25 : decode cX5_bestFilm 25 = .ok (.ifCond .eq 6, 3) := by decide +kernel
theorem dX5_bestFilm_28 : decode cX5_bestFilm 28 = .ok (.bipush (-5), 2) := by decide +kernel
theorem dX5_bestFilm_30 : decode cX5_bestFilm 30 = .ok (.ireturn, 1) := by decide +kernel
theorem dX5_bestFilm_31 : decode cX5_bestFilm 31 = .ok (.bipush (-6), 2) := by decide +kernel
theorem dX5_bestFilm_33 : decode cX5_bestFilm 33 = .ok (.istore 4, 2) := by decide +kernel
theorem dX5_bestFilm_35 : decode cX5_bestFilm 35 = .ok (.iconst 0, 1) := by decide +kernel
theorem dX5_bestFilm_36 : decode cX5_bestFilm 36 = .ok (.istore 5, 2) := by decide +kernel
theorem dX5_bestFilm_38 : decode cX5_bestFilm 38 = .ok (.iconst 0, 1) := by decide +kernel
theorem dX5_bestFilm_39 : decode cX5_bestFilm 39 = .ok (.istore 6, 2) := by decide +kernel
theorem dX5_bestFilm_41 : decode cX5_bestFilm 41 = .ok (.iload 6, 2) := by decide +kernel
theorem dX5_bestFilm_43 : decode cX5_bestFilm 43 = .ok (.aload_n 0, 1) := by decide +kernel
theorem dX5_bestFilm_44 : decode cX5_bestFilm 44 = .ok (.getfield 7, 3) := by decide +kernel
theorem dX5_bestFilm_47 : decode cX5_bestFilm 47 = .ok (.iconst 5, 1) := by decide +kernel
theorem dX5_bestFilm_48 : decode cX5_bestFilm 48 = .ok (.iaload, 1) := by decide +kernel
theorem dX5_bestFilm_49 : decode cX5_bestFilm 49 = .ok (.if_icmp .ge 81, 3) := by decide +kernel
theorem dX5_bestFilm_52 : decode cX5_bestFilm 52 = .ok (.aload_n 0, 1) := by decide +kernel
theorem dX5_bestFilm_53 : decode cX5_bestFilm 53 = .ok (.iload 6, 2) := by decide +kernel
theorem dX5_bestFilm_55 : decode cX5_bestFilm 55 = .ok (.iload_n 1, 1) := by decide +kernel
theorem dX5_bestFilm_56 : decode cX5_bestFilm 56 = .ok (.invokevirtual 112, 3) := by decide +kernel
theorem dX5_bestFilm_59 : decode cX5_bestFilm 59 = .ok (.ifCond .eq 65, 3) := by decide +kernel
theorem dX5_bestFilm_62 : decode cX5_bestFilm 62 = .ok (.aload_n 0, 1) := by decide +kernel
theorem dX5_bestFilm_63 : decode cX5_bestFilm 63 = .ok (.iload 6, 2) := by decide +kernel
theorem dX5_bestFilm_65 : decode cX5_bestFilm 65 = .ok (.iconst 2, 1) := by decide +kernel
theorem dX5_bestFilm_66 : decode cX5_bestFilm 66 = .ok (.iload_n 1, 1) := by decide +kernel
theorem dX5_bestFilm_67 : decode cX5_bestFilm 67 = .ok (.imul, 1) := by decide +kernel
theorem dX5_bestFilm_68 : decode cX5_bestFilm 68 = .ok (.iload_n 2, 1) := by decide +kernel
theorem dX5_bestFilm_69 : decode cX5_bestFilm 69 = .ok (.iadd, 1) := by decide +kernel
theorem dX5_bestFilm_70 : decode cX5_bestFilm 70 = .ok (.invokevirtual 148, 3) := by decide +kernel
theorem dX5_bestFilm_73 : decode cX5_bestFilm 73 = .ok (.istore 7, 2) := by decide +kernel
theorem dX5_bestFilm_75 : decode cX5_bestFilm 75 = .ok (.iload 4, 2) := by decide +kernel
theorem dX5_bestFilm_77 : decode cX5_bestFilm 77 = .ok (.bipush (-6), 2) := by decide +kernel
theorem dX5_bestFilm_79 : decode cX5_bestFilm 79 = .ok (.if_icmp .eq 10, 3) := by decide +kernel
theorem dX5_bestFilm_82 : decode cX5_bestFilm 82 = .ok (.iload 7, 2) := by decide +kernel
theorem dX5_bestFilm_84 : decode cX5_bestFilm 84 = .ok (.iload 5, 2) := by decide +kernel
theorem dX5_bestFilm_86 : decode cX5_bestFilm 86 = .ok (.if_icmp .le 7, 3) := by decide +kernel
theorem dX5_bestFilm_89 : decode cX5_bestFilm 89 = .ok (.iconst 1, 1) := by decide +kernel
theorem dX5_bestFilm_90 : decode cX5_bestFilm 90 = .ok (.goto 4, 3) := by decide +kernel
theorem dX5_bestFilm_93 : decode cX5_bestFilm 93 = .ok (.iconst 0, 1) := by decide +kernel
theorem dX5_bestFilm_94 : decode cX5_bestFilm 94 = .ok (.istore 8, 2) := by decide +kernel
theorem dX5_bestFilm_96 : decode cX5_bestFilm 96 = .ok (.iload 8, 2) := by decide +kernel
theorem dX5_bestFilm_98 : decode cX5_bestFilm 98 = .ok (.ifCond .eq 8, 3) := by decide +kernel
theorem dX5_bestFilm_101 : decode cX5_bestFilm 101 = .ok (.iload 6, 2) := by decide +kernel
theorem dX5_bestFilm_103 : decode cX5_bestFilm 103 = .ok (.goto 5, 3) := by decide +kernel
theorem dX5_bestFilm_106 : decode cX5_bestFilm 106 = .ok (.iload 4, 2) := by decide +kernel
theorem dX5_bestFilm_108 : decode cX5_bestFilm 108 = .ok (.istore 4, 2) := by decide +kernel
theorem dX5_bestFilm_110 : decode cX5_bestFilm 110 = .ok (.iload 8, 2) := by decide +kernel
theorem dX5_bestFilm_112 : decode cX5_bestFilm 112 = .ok (.ifCond .eq 8, 3) := by decide +kernel
theorem dX5_bestFilm_115 : decode cX5_bestFilm 115 = .ok (.iload 7, 2) := by decide +kernel
theorem dX5_bestFilm_117 : decode cX5_bestFilm 117 = .ok (.goto 5, 3) := by decide +kernel
theorem dX5_bestFilm_120 : decode cX5_bestFilm 120 = .ok (.iload 5, 2) := by decide +kernel
theorem dX5_bestFilm_122 : decode cX5_bestFilm 122 = .ok (.istore 5, 2) := by decide +kernel
theorem dX5_bestFilm_124 : decode cX5_bestFilm 124 = .ok (.iinc 6 1, 3) := by decide +kernel
theorem dX5_bestFilm_127 : decode cX5_bestFilm 127 = .ok (.goto (-86), 3) := by decide +kernel
theorem dX5_bestFilm_130 : decode cX5_bestFilm 130 = .ok (.iload 4, 2) := by decide +kernel
theorem dX5_bestFilm_132 : decode cX5_bestFilm 132 = .ok (.bipush (-6), 2) := by decide +kernel
theorem dX5_bestFilm_134 : decode cX5_bestFilm 134 = .ok (.if_icmp .eq 7, 3) := by decide +kernel
theorem dX5_bestFilm_137 : decode cX5_bestFilm 137 = .ok (.iload_n 3, 1) := by decide +kernel
theorem dX5_bestFilm_138 : decode cX5_bestFilm 138 = .ok (.ifCond .ne 8, 3) := by decide +kernel
theorem dX5_bestFilm_141 : decode cX5_bestFilm 141 = .ok (.iload 4, 2) := by decide +kernel
theorem dX5_bestFilm_143 : decode cX5_bestFilm 143 = .ok (.goto 8, 3) := by decide +kernel
theorem dX5_bestFilm_146 : decode cX5_bestFilm 146 = .ok (.iload 5, 2) := by decide +kernel
theorem dX5_bestFilm_148 : decode cX5_bestFilm 148 = .ok (.ldc 129, 2) := by decide +kernel
theorem dX5_bestFilm_150 : decode cX5_bestFilm 150 = .ok (.iadd, 1) := by decide +kernel
theorem dX5_bestFilm_151 : decode cX5_bestFilm 151 = .ok (.ireturn, 1) := by decide +kernel
set_option maxRecDepth 20000 in
theorem ggX5_worstShow_X5_within : GoodIn wsX5_worstShow wsX5_within := goodIn_r _ [6] (by decide +kernel) (by decide +kernel)
set_option maxRecDepth 20000 in
theorem gX5_worstShow_X5_within : GoodIn wsX5_worstShow (va_wsS RX5 54 yX5_within wsX5_within) := goodIn_app (goodIn_of _ (by decide +kernel)) ggX5_worstShow_X5_within
set_option maxRecDepth 20000 in
theorem ggX5_worstShow_X5_moreWith : GoodIn wsX5_worstShow wsX5_moreWith := goodIn_r _ [10, 1, 11, 12, 13, 5, 14, 15, 16, 17, 18, 19, 20, 21, 22, 23, 24, 25, 26, 27, 28, 29, 30, 31, 32, 33, 34, 35, 36, 37, 38, 39, 40, 41, 42, 43, 44, 45, 46, 47, 48, 49, 50, 51, 52, 53, 54, 55, 56, 57, 58, 59, 60, 61, 62, 63, 64, 65, 66, 67, 68, 69, 70, 71, 72, 73, 74, 75, 76, 77, 78, 79, 80, 81, 82] (by decide +kernel) (by decide +kernel)
set_option maxRecDepth 20000 in
theorem gX5_worstShow_X5_moreWith : GoodIn wsX5_worstShow (wsV RX5 148 RX5 yX5_moreWith wsX5_moreWith) := goodIn_app (goodIn_of _ (by decide +kernel)) ggX5_worstShow_X5_moreWith
theorem dX5_worstShow_0 : decode cX5_worstShow 0 = .ok (.iload_n 1, 1) := by decide +kernel
theorem dX5_worstShow_1 : decode cX5_worstShow 1 = .ok (.iconst 0, 1) := by decide +kernel
theorem dX5_worstShow_2 : decode cX5_worstShow 2 = .ok (.iconst 2, 1) := by decide +kernel
theorem dX5_worstShow_3 : decode cX5_worstShow 3 = .ok (.invokestatic 54, 3) := by decide +kernel
theorem dX5_worstShow_6 : decode cX5_worstShow 6 = .ok (.ifCond .ne 6, 3) := by decide +kernel
theorem dX5_worstShow_9 : decode cX5_worstShow 9 = .ok (.bipush (-2), 2) := by decide +kernel
theorem dX5_worstShow_11 : decode cX5_worstShow 11 = .ok (.ireturn, 1) := by decide +kernel
theorem dX5_worstShow_12 : decode cX5_worstShow 12 = .ok (.bipush (-6), 2) := by decide +kernel
theorem dX5_worstShow_14 : decode cX5_worstShow 14 = .ok (.istore_n 2, 1) := by decide +kernel
theorem dX5_worstShow_15 : decode cX5_worstShow 15 = .ok (.iconst 0, 1) := by decide +kernel
theorem dX5_worstShow_16 : decode cX5_worstShow 16 = .ok (.istore_n 3, 1) := by decide +kernel
theorem dX5_worstShow_17 : decode cX5_worstShow 17 = .ok (.iconst 0, 1) := by decide +kernel
theorem dX5_worstShow_18 : decode cX5_worstShow 18 = .ok (.istore 4, 2) := by decide +kernel
theorem dX5_worstShow_20 : decode cX5_worstShow 20 = .ok (.iload 4, 2) := by decide +kernel
theorem dX5_worstShow_22 : decode cX5_worstShow 22 = .ok (.bipush 70, 2) := by decide +kernel
theorem dX5_worstShow_24 : decode cX5_worstShow 24 = .ok (.if_icmp .ge 77, 3) := by decide +kernel
theorem dX5_worstShow_27 : decode cX5_worstShow 27 = .ok (.aload_n 0, 1) := by decide +kernel
theorem dX5_worstShow_28 : decode cX5_worstShow 28 = .ok (.getfield 7, 3) := by decide +kernel
theorem dX5_worstShow_31 : decode cX5_worstShow 31 = .ok (.bipush 46, 2) := by decide +kernel
theorem dX5_worstShow_33 : decode cX5_worstShow 33 = .ok (.iload 4, 2) := by decide +kernel
theorem dX5_worstShow_35 : decode cX5_worstShow 35 = .ok (.iadd, 1) := by decide +kernel
theorem dX5_worstShow_36 : decode cX5_worstShow 36 = .ok (.iaload, 1) := by decide +kernel
theorem dX5_worstShow_37 : decode cX5_worstShow 37 = .ok (.bipush (-6), 2) := by decide +kernel
theorem dX5_worstShow_39 : decode cX5_worstShow 39 = .ok (.if_icmp .eq 56, 3) := by decide +kernel
theorem dX5_worstShow_42 : decode cX5_worstShow 42 = .ok (.aload_n 0, 1) := by decide +kernel
theorem dX5_worstShow_43 : decode cX5_worstShow 43 = .ok (.bipush (-6), 2) := by decide +kernel
theorem dX5_worstShow_45 : decode cX5_worstShow 45 = .ok (.iload 4, 2) := by decide +kernel
theorem dX5_worstShow_47 : decode cX5_worstShow 47 = .ok (.invokevirtual 148, 3) := by decide +kernel
theorem dX5_worstShow_50 : decode cX5_worstShow 50 = .ok (.istore 5, 2) := by decide +kernel
theorem dX5_worstShow_52 : decode cX5_worstShow 52 = .ok (.iload_n 2, 1) := by decide +kernel
theorem dX5_worstShow_53 : decode cX5_worstShow 53 = .ok (.bipush (-6), 2) := by decide +kernel
theorem dX5_worstShow_55 : decode cX5_worstShow 55 = .ok (.if_icmp .eq 9, 3) := by decide +kernel
theorem dX5_worstShow_58 : decode cX5_worstShow 58 = .ok (.iload 5, 2) := by decide +kernel
theorem dX5_worstShow_60 : decode cX5_worstShow 60 = .ok (.iload_n 3, 1) := by decide +kernel
theorem dX5_worstShow_61 : decode cX5_worstShow 61 = .ok (.if_icmp .le 7, 3) := by decide +kernel
theorem dX5_worstShow_64 : decode cX5_worstShow 64 = .ok (.iconst 1, 1) := by decide +kernel
theorem dX5_worstShow_65 : decode cX5_worstShow 65 = .ok (.goto 4, 3) := by decide +kernel
theorem dX5_worstShow_68 : decode cX5_worstShow 68 = .ok (.iconst 0, 1) := by decide +kernel
theorem dX5_worstShow_69 : decode cX5_worstShow 69 = .ok (.istore 6, 2) := by decide +kernel
theorem dX5_worstShow_71 : decode cX5_worstShow 71 = .ok (.iload 6, 2) := by decide +kernel
theorem dX5_worstShow_73 : decode cX5_worstShow 73 = .ok (.ifCond .eq 8, 3) := by decide +kernel
theorem dX5_worstShow_76 : decode cX5_worstShow 76 = .ok (.iload 4, 2) := by decide +kernel
theorem dX5_worstShow_78 : decode cX5_worstShow 78 = .ok (.goto 4, 3) := by decide +kernel
theorem dX5_worstShow_81 : decode cX5_worstShow 81 = .ok (.iload_n 2, 1) := by decide +kernel
theorem dX5_worstShow_82 : decode cX5_worstShow 82 = .ok (.istore_n 2, 1) := by decide +kernel
theorem dX5_worstShow_83 : decode cX5_worstShow 83 = .ok (.iload 6, 2) := by decide +kernel
theorem dX5_worstShow_85 : decode cX5_worstShow 85 = .ok (.ifCond .eq 8, 3) := by decide +kernel
theorem dX5_worstShow_88 : decode cX5_worstShow 88 = .ok (.iload 5, 2) := by decide +kernel
theorem dX5_worstShow_90 : decode cX5_worstShow 90 = .ok (.goto 4, 3) := by decide +kernel
theorem dX5_worstShow_93 : decode cX5_worstShow 93 = .ok (.iload_n 3, 1) := by decide +kernel
theorem dX5_worstShow_94 : decode cX5_worstShow 94 = .ok (.istore_n 3, 1) := by decide +kernel
theorem dX5_worstShow_95 : decode cX5_worstShow 95 = .ok (.iinc 4 1, 3) := by decide +kernel
theorem dX5_worstShow_98 : decode cX5_worstShow 98 = .ok (.goto (-78), 3) := by decide +kernel
theorem dX5_worstShow_101 : decode cX5_worstShow 101 = .ok (.iload_n 2, 1) := by decide +kernel
theorem dX5_worstShow_102 : decode cX5_worstShow 102 = .ok (.bipush (-6), 2) := by decide +kernel
theorem dX5_worstShow_104 : decode cX5_worstShow 104 = .ok (.if_icmp .ne 8, 3) := by decide +kernel
theorem dX5_worstShow_107 : decode cX5_worstShow 107 = .ok (.bipush (-6), 2) := by decide +kernel
theorem dX5_worstShow_109 : decode cX5_worstShow 109 = .ok (.goto 28, 3) := by decide +kernel
theorem dX5_worstShow_112 : decode cX5_worstShow 112 = .ok (.iload_n 1, 1) := by decide +kernel
theorem dX5_worstShow_113 : decode cX5_worstShow 113 = .ok (.ifCond .ne 9, 3) := by decide +kernel
theorem dX5_worstShow_116 : decode cX5_worstShow 116 = .ok (.iload_n 2, 1) := by decide +kernel
theorem dX5_worstShow_117 : decode cX5_worstShow 117 = .ok (.iconst 2, 1) := by decide +kernel
theorem dX5_worstShow_118 : decode cX5_worstShow 118 = .ok (.idiv, 1) := by decide +kernel
theorem dX5_worstShow_119 : decode cX5_worstShow 119 = .ok (.goto 18, 3) := by decide +kernel
theorem dX5_worstShow_122 : decode cX5_worstShow 122 = .ok (.iload_n 1, 1) := by decide +kernel
theorem dX5_worstShow_123 : decode cX5_worstShow 123 = .ok (.iconst 1, 1) := by decide +kernel
theorem dX5_worstShow_124 : decode cX5_worstShow 124 = .ok (.if_icmp .ne 9, 3) := by decide +kernel
theorem dX5_worstShow_127 : decode cX5_worstShow 127 = .ok (.iload_n 2, 1) := by decide +kernel
theorem dX5_worstShow_128 : decode cX5_worstShow 128 = .ok (.iconst 2, 1) := by decide +kernel
theorem dX5_worstShow_129 : decode cX5_worstShow 129 = .ok (.irem, 1) := by decide +kernel
theorem dX5_worstShow_130 : decode cX5_worstShow 130 = .ok (.goto 7, 3) := by decide +kernel
theorem dX5_worstShow_133 : decode cX5_worstShow 133 = .ok (.iload_n 3, 1) := by decide +kernel
theorem dX5_worstShow_134 : decode cX5_worstShow 134 = .ok (.ldc 129, 2) := by decide +kernel
theorem dX5_worstShow_136 : decode cX5_worstShow 136 = .ok (.iadd, 1) := by decide +kernel
theorem dX5_worstShow_137 : decode cX5_worstShow 137 = .ok (.ireturn, 1) := by decide +kernel
set_option maxRecDepth 20000 in
theorem ggX5_priceFor_X5_isPart : GoodIn wsX5_priceFor wsX5_isPart := goodIn_r _ [5, 6, 7, 4, 8] (by decide +kernel) (by decide +kernel)
set_option maxRecDepth 20000 in
theorem gX5_priceFor_X5_isPart : GoodIn wsX5_priceFor (va_wsS RX5 109 yX5_isPart wsX5_isPart) := goodIn_app (goodIn_of _ (by decide +kernel)) ggX5_priceFor_X5_isPart
set_option maxRecDepth 20000 in
theorem ggX5_priceFor_X5_within : GoodIn wsX5_priceFor wsX5_within := goodIn_r _ [8] (by decide +kernel) (by decide +kernel)
set_option maxRecDepth 20000 in
theorem gX5_priceFor_X5_within : GoodIn wsX5_priceFor (va_wsS RX5 54 yX5_within wsX5_within) := goodIn_app (goodIn_of _ (by decide +kernel)) ggX5_priceFor_X5_within
set_option maxRecDepth 20000 in
theorem ggX5_priceFor_X5_showAt : GoodIn wsX5_priceFor wsX5_showAt := goodIn_r _ [12, 13, 52, 53, 54, 55, 56, 57, 58, 59, 60, 61, 62, 63, 64, 65, 66, 67, 68, 69] (by decide +kernel) (by decide +kernel)
set_option maxRecDepth 20000 in
theorem gX5_priceFor_X5_showAt : GoodIn wsX5_priceFor (wsV RX5 119 RX5 yX5_showAt wsX5_showAt) := goodIn_app (goodIn_of _ (by decide +kernel)) ggX5_priceFor_X5_showAt
set_option maxRecDepth 20000 in
theorem ggX5_priceFor_X5_reckon : GoodIn wsX5_priceFor wsX5_reckon := goodIn_r _ [17, 18, 19, 20, 4, 21, 22, 13, 1, 23, 24, 25, 26, 27, 28, 29, 30, 31, 32, 33, 34, 35, 36, 37, 38, 39, 40, 41, 42, 43, 44, 45, 46, 47, 48, 49, 50, 51, 52, 53, 54, 55, 56, 57, 58, 59, 60, 61, 62, 63, 64, 65, 66, 67, 68, 69] (by decide +kernel) (by decide +kernel)
set_option maxRecDepth 20000 in
theorem gX5_priceFor_X5_reckon : GoodIn wsX5_priceFor (wsV RX5 89 RX5 yX5_reckon wsX5_reckon) := goodIn_app (goodIn_of _ (by decide +kernel)) ggX5_priceFor_X5_reckon
theorem dX5_priceFor_0 : decode cX5_priceFor 0 = .ok (.iload_n 1, 1) := by decide +kernel
theorem dX5_priceFor_1 : decode cX5_priceFor 1 = .ok (.iload_n 2, 1) := by decide +kernel
theorem dX5_priceFor_2 : decode cX5_priceFor 2 = .ok (.invokestatic 109, 3) := by decide +kernel
theorem dX5_priceFor_5 : decode cX5_priceFor 5 = .ok (.ifCond .eq 14, 3) := by decide +kernel
theorem dX5_priceFor_8 : decode cX5_priceFor 8 = .ok (.iload_n 3, 1) := by decide +kernel
theorem dX5_priceFor_9 : decode cX5_priceFor 9 = .ok (.iconst 1, 1) := by decide +kernel
theorem dX5_priceFor_10 : decode cX5_priceFor 10 = .ok (.sipush 5000, 3) := by decide +kernel
theorem dX5_priceFor_13 : decode cX5_priceFor 13 = .ok (.invokestatic 54, 3) := by decide +kernel
theorem dX5_priceFor_16 : decode cX5_priceFor 16 = .ok (.ifCond .ne 6, 3) := by decide +kernel
theorem dX5_priceFor_19 : decode cX5_priceFor 19 = .ok (.bipush (-2), 2) := by decide +kernel
theorem dX5_priceFor_21 : decode cX5_priceFor 21 = .ok (.ireturn, 1) := by decide +kernel
theorem dX5_priceFor_22 : decode cX5_priceFor 22 = .ok (.aload_n 0, 1) := by decide +kernel
theorem dX5_priceFor_23 : decode cX5_priceFor 23 = .ok (.iload_n 1, 1) := by decide +kernel
theorem dX5_priceFor_24 : decode cX5_priceFor 24 = .ok (.iload_n 2, 1) := by decide +kernel
theorem dX5_priceFor_25 : decode cX5_priceFor 25 = .ok (.invokevirtual 119, 3) := by decide +kernel
theorem dX5_priceFor_28 : decode cX5_priceFor 28 = .ok (.bipush (-6), 2) := by decide +kernel
theorem dX5_priceFor_30 : decode cX5_priceFor 30 = .ok (.if_icmp .ne 6, 3) := by decide +kernel
theorem dX5_priceFor_33 : decode cX5_priceFor 33 = .ok (.bipush (-5), 2) := by decide +kernel
theorem dX5_priceFor_35 : decode cX5_priceFor 35 = .ok (.ireturn, 1) := by decide +kernel
theorem dX5_priceFor_36 : decode cX5_priceFor 36 = .ok (.aload_n 0, 1) := by decide +kernel
theorem dX5_priceFor_37 : decode cX5_priceFor 37 = .ok (.invokevirtual 89, 3) := by decide +kernel
theorem dX5_priceFor_40 : decode cX5_priceFor 40 = .ok (.bipush (-6), 2) := by decide +kernel
theorem dX5_priceFor_42 : decode cX5_priceFor 42 = .ok (.istore 4, 2) := by decide +kernel
theorem dX5_priceFor_44 : decode cX5_priceFor 44 = .ok (.bipush 20, 2) := by decide +kernel
theorem dX5_priceFor_46 : decode cX5_priceFor 46 = .ok (.istore 5, 2) := by decide +kernel
theorem dX5_priceFor_48 : decode cX5_priceFor 48 = .ok (.iload 5, 2) := by decide +kernel
theorem dX5_priceFor_50 : decode cX5_priceFor 50 = .ok (.iconst 1, 1) := by decide +kernel
theorem dX5_priceFor_51 : decode cX5_priceFor 51 = .ok (.if_icmp .lt 35, 3) := by decide +kernel
theorem dX5_priceFor_54 : decode cX5_priceFor 54 = .ok (.aload_n 0, 1) := by decide +kernel
theorem dX5_priceFor_55 : decode cX5_priceFor 55 = .ok (.getfield 25, 3) := by decide +kernel
theorem dX5_priceFor_58 : decode cX5_priceFor 58 = .ok (.iconst 2, 1) := by decide +kernel
theorem dX5_priceFor_59 : decode cX5_priceFor 59 = .ok (.iload_n 1, 1) := by decide +kernel
theorem dX5_priceFor_60 : decode cX5_priceFor 60 = .ok (.imul, 1) := by decide +kernel
theorem dX5_priceFor_61 : decode cX5_priceFor 61 = .ok (.iload_n 2, 1) := by decide +kernel
theorem dX5_priceFor_62 : decode cX5_priceFor 62 = .ok (.iadd, 1) := by decide +kernel
theorem dX5_priceFor_63 : decode cX5_priceFor 63 = .ok (.iaload, 1) := by decide +kernel
theorem dX5_priceFor_64 : decode cX5_priceFor 64 = .ok (.iload 5, 2) := by decide +kernel
theorem dX5_priceFor_66 : decode cX5_priceFor 66 = .ok (.imul, 1) := by decide +kernel
theorem dX5_priceFor_67 : decode cX5_priceFor 67 = .ok (.iload_n 3, 1) := by decide +kernel
theorem dX5_priceFor_68 : decode cX5_priceFor 68 = .ok (.if_icmp .lt 8, 3) := by decide +kernel
theorem dX5_priceFor_71 : decode cX5_priceFor 71 = .ok (.iload 5, 2) := by decide +kernel
theorem dX5_priceFor_73 : decode cX5_priceFor 73 = .ok (.goto 5, 3) := by decide +kernel
theorem dX5_priceFor_76 : decode cX5_priceFor 76 = .ok (.iload 4, 2) := by decide +kernel
theorem dX5_priceFor_78 : decode cX5_priceFor 78 = .ok (.istore 4, 2) := by decide +kernel
theorem dX5_priceFor_80 : decode cX5_priceFor 80 = .ok (.iinc 5 (-1), 3) := by decide +kernel
theorem dX5_priceFor_83 : decode cX5_priceFor 83 = .ok (.goto (-35), 3) := by decide +kernel
theorem dX5_priceFor_86 : decode cX5_priceFor 86 = .ok (.iload 4, 2) := by decide +kernel
theorem dX5_priceFor_88 : decode cX5_priceFor 88 = .ok (.ireturn, 1) := by decide +kernel
set_option maxRecDepth 20000 in
theorem ggX5_put_X5_within : GoodIn wsX5_put wsX5_within := goodIn_r _ [7] (by decide +kernel) (by decide +kernel)
set_option maxRecDepth 20000 in
theorem gX5_put_X5_within : GoodIn wsX5_put (va_wsS RX5 54 yX5_within wsX5_within) := goodIn_app (goodIn_of _ (by decide +kernel)) ggX5_put_X5_within
theorem dX5_put_0 : decode cX5_put 0 = .ok (.iconst 0, 1) := by decide +kernel
theorem dX5_put_1 : decode cX5_put 1 = .ok (.istore_n 3, 1) := by decide +kernel
theorem dX5_put_2 : decode cX5_put 2 = .ok (.lload_n 1, 1) := by decide +kernel
theorem dX5_put_3 : decode cX5_put 3 = .ok (.lstore 4, 2) := by decide +kernel
theorem dX5_put_5 : decode cX5_put 5 = .ok (.iconst 1, 1) := by decide +kernel
theorem dX5_put_6 : decode cX5_put 6 = .ok (.istore 6, 2) := by decide +kernel
theorem dX5_put_8 : decode cX5_put 8 = .ok (.iload_n 3, 1) := by decide +kernel
theorem dX5_put_9 : decode cX5_put 9 = .ok (.bipush 8, 2) := by decide +kernel
theorem dX5_put_11 : decode cX5_put 11 = .ok (.if_icmp .ge 56, 3) := by decide +kernel
theorem dX5_put_14 : decode cX5_put 14 = .ok (.lload 4, 2) := by decide +kernel
theorem dX5_put_16 : decode cX5_put 16 = .ok (.ldc2_w 151, 3) := by decide +kernel
theorem dX5_put_19 : decode cX5_put 19 = .ok (.land, 1) := by decide +kernel
theorem dX5_put_20 : decode cX5_put 20 = .ok (.lconst 0, 1) := by decide +kernel
theorem dX5_put_21 : decode cX5_put 21 = .ok (.lcmp, 1) := by decide +kernel
theorem dX5_put_22 : decode cX5_put 22 = .ok (.ifCond .eq 45, 3) := by decide +kernel
theorem dX5_put_25 : decode cX5_put 25 = .ok (.iload 6, 2) := by decide +kernel
theorem dX5_put_27 : decode cX5_put 27 = .ok (.ifCond .eq 24, 3) := by decide +kernel
theorem dX5_put_30 : decode cX5_put 30 = .ok (.lload 4, 2) := by decide +kernel
theorem dX5_put_32 : decode cX5_put 32 = .ok (.ldc2_w 151, 3) := by decide +kernel
theorem dX5_put_35 : decode cX5_put 35 = .ok (.land, 1) := by decide +kernel
theorem dX5_put_36 : decode cX5_put 36 = .ok (.l2i, 1) := by decide +kernel
theorem dX5_put_37 : decode cX5_put 37 = .ok (.bipush 33, 2) := by decide +kernel
theorem dX5_put_39 : decode cX5_put 39 = .ok (.bipush 126, 2) := by decide +kernel
theorem dX5_put_41 : decode cX5_put 41 = .ok (.invokestatic 54, 3) := by decide +kernel
theorem dX5_put_44 : decode cX5_put 44 = .ok (.ifCond .eq 7, 3) := by decide +kernel
theorem dX5_put_47 : decode cX5_put 47 = .ok (.iconst 1, 1) := by decide +kernel
theorem dX5_put_48 : decode cX5_put 48 = .ok (.goto 4, 3) := by decide +kernel
theorem dX5_put_51 : decode cX5_put 51 = .ok (.iconst 0, 1) := by decide +kernel
theorem dX5_put_52 : decode cX5_put 52 = .ok (.istore 6, 2) := by decide +kernel
theorem dX5_put_54 : decode cX5_put 54 = .ok (.lload 4, 2) := by decide +kernel
theorem dX5_put_56 : decode cX5_put 56 = .ok (.bipush 8, 2) := by decide +kernel
theorem dX5_put_58 : decode cX5_put 58 = .ok (.lushr, 1) := by decide +kernel
theorem dX5_put_59 : decode cX5_put 59 = .ok (.lstore 4, 2) := by decide +kernel
theorem dX5_put_61 : decode cX5_put 61 = .ok (.iinc 3 1, 3) := by decide +kernel
theorem dX5_put_64 : decode cX5_put 64 = .ok (.goto (-56), 3) := by decide +kernel
theorem dX5_put_67 : decode cX5_put 67 = .ok (.iload_n 3, 1) := by decide +kernel
theorem dX5_put_68 : decode cX5_put 68 = .ok (.ifCond .eq 15, 3) := by decide +kernel
theorem dX5_put_71 : decode cX5_put 71 = .ok (.iload 6, 2) := by decide +kernel
theorem dX5_put_73 : decode cX5_put 73 = .ok (.ifCond .eq 10, 3) := by decide +kernel
theorem dX5_put_76 : decode cX5_put 76 = .ok (.lload 4, 2) := by decide +kernel
theorem dX5_put_78 : decode cX5_put 78 = .ok (.lconst 0, 1) := by decide +kernel
theorem dX5_put_79 : decode cX5_put 79 = .ok (.lcmp, 1) := by decide +kernel
theorem dX5_put_80 : decode cX5_put 80 = .ok (.ifCond .eq 6, 3) := by decide +kernel
theorem dX5_put_83 : decode cX5_put 83 = .ok (.bipush (-2), 2) := by decide +kernel
theorem dX5_put_85 : decode cX5_put 85 = .ok (.ireturn, 1) := by decide +kernel
theorem dX5_put_86 : decode cX5_put 86 = .ok (.aload_n 0, 1) := by decide +kernel
theorem dX5_put_87 : decode cX5_put 87 = .ok (.getfield 145, 3) := by decide +kernel
theorem dX5_put_90 : decode cX5_put 90 = .ok (.iload_n 3, 1) := by decide +kernel
theorem dX5_put_91 : decode cX5_put 91 = .ok (.iadd, 1) := by decide +kernel
theorem dX5_put_92 : decode cX5_put 92 = .ok (.bipush 60, 2) := by decide +kernel
theorem dX5_put_94 : decode cX5_put 94 = .ok (.if_icmp .le 6, 3) := by decide +kernel
theorem dX5_put_97 : decode cX5_put 97 = .ok (.bipush (-4), 2) := by decide +kernel
theorem dX5_put_99 : decode cX5_put 99 = .ok (.ireturn, 1) := by decide +kernel
theorem dX5_put_100 : decode cX5_put 100 = .ok (.iload_n 3, 1) := by decide +kernel
theorem dX5_put_101 : decode cX5_put 101 = .ok (.iconst 1, 1) := by decide +kernel
theorem dX5_put_102 : decode cX5_put 102 = .ok (.isub, 1) := by decide +kernel
theorem dX5_put_103 : decode cX5_put 103 = .ok (.istore 7, 2) := by decide +kernel
theorem dX5_put_105 : decode cX5_put 105 = .ok (.iload 7, 2) := by decide +kernel
theorem dX5_put_107 : decode cX5_put 107 = .ok (.ifCond .lt 40, 3) := by decide +kernel
theorem dX5_put_110 : decode cX5_put 110 = .ok (.aload_n 0, 1) := by decide +kernel
theorem dX5_put_111 : decode cX5_put 111 = .ok (.getfield 22, 3) := by decide +kernel
theorem dX5_put_114 : decode cX5_put 114 = .ok (.aload_n 0, 1) := by decide +kernel
theorem dX5_put_115 : decode cX5_put 115 = .ok (.getfield 145, 3) := by decide +kernel
theorem dX5_put_118 : decode cX5_put 118 = .ok (.lload_n 1, 1) := by decide +kernel
theorem dX5_put_119 : decode cX5_put 119 = .ok (.bipush 8, 2) := by decide +kernel
theorem dX5_put_121 : decode cX5_put 121 = .ok (.iload 7, 2) := by decide +kernel
theorem dX5_put_123 : decode cX5_put 123 = .ok (.imul, 1) := by decide +kernel
theorem dX5_put_124 : decode cX5_put 124 = .ok (.lushr, 1) := by decide +kernel
theorem dX5_put_125 : decode cX5_put 125 = .ok (.ldc2_w 151, 3) := by decide +kernel
theorem dX5_put_128 : decode cX5_put 128 = .ok (.land, 1) := by decide +kernel
theorem dX5_put_129 : decode cX5_put 129 = .ok (.l2i, 1) := by decide +kernel
theorem dX5_put_130 : decode cX5_put 130 = .ok (.iastore, 1) := by decide +kernel
theorem dX5_put_131 : decode cX5_put 131 = .ok (.aload_n 0, 1) := by decide +kernel
theorem dX5_put_132 : decode cX5_put 132 = .ok (.dup, 1) := by decide +kernel
theorem dX5_put_133 : decode cX5_put 133 = .ok (.getfield 145, 3) := by decide +kernel
theorem dX5_put_136 : decode cX5_put 136 = .ok (.iconst 1, 1) := by decide +kernel
theorem dX5_put_137 : decode cX5_put 137 = .ok (.iadd, 1) := by decide +kernel
theorem dX5_put_138 : decode cX5_put 138 = .ok (.putfield 145, 3) := by decide +kernel
theorem dX5_put_141 : decode cX5_put 141 = .ok (.iinc 7 (-1), 3) := by decide +kernel
theorem dX5_put_144 : decode cX5_put 144 = .ok (.goto (-39), 3) := by decide +kernel
theorem dX5_put_147 : decode cX5_put 147 = .ok (.aload_n 0, 1) := by decide +kernel
theorem dX5_put_148 : decode cX5_put 148 = .ok (.getfield 145, 3) := by decide +kernel
theorem dX5_put_151 : decode cX5_put 151 = .ok (.ireturn, 1) := by decide +kernel
theorem dX5_wipe_0 : decode cX5_wipe 0 = .ok (.aload_n 0, 1) := by decide +kernel
theorem dX5_wipe_1 : decode cX5_wipe 1 = .ok (.getfield 145, 3) := by decide +kernel
theorem dX5_wipe_4 : decode cX5_wipe 4 = .ok (.istore_n 1, 1) := by decide +kernel
theorem dX5_wipe_5 : decode cX5_wipe 5 = .ok (.aload_n 0, 1) := by decide +kernel
theorem dX5_wipe_6 : decode cX5_wipe 6 = .ok (.iconst 0, 1) := by decide +kernel
theorem dX5_wipe_7 : decode cX5_wipe 7 = .ok (.putfield 145, 3) := by decide +kernel
theorem dX5_wipe_10 : decode cX5_wipe 10 = .ok (.iload_n 1, 1) := by decide +kernel
theorem dX5_wipe_11 : decode cX5_wipe 11 = .ok (.ireturn, 1) := by decide +kernel
theorem dX5_character_0 : decode cX5_character 0 = .ok (.iload_n 1, 1) := by decide +kernel
theorem dX5_character_1 : decode cX5_character 1 = .ok (.aload_n 0, 1) := by decide +kernel
theorem dX5_character_2 : decode cX5_character 2 = .ok (.getfield 145, 3) := by decide +kernel
theorem dX5_character_5 : decode cX5_character 5 = .ok (.if_icmp .ge 12, 3) := by decide +kernel
theorem dX5_character_8 : decode cX5_character 8 = .ok (.aload_n 0, 1) := by decide +kernel
theorem dX5_character_9 : decode cX5_character 9 = .ok (.getfield 22, 3) := by decide +kernel
theorem dX5_character_12 : decode cX5_character 12 = .ok (.iload_n 1, 1) := by decide +kernel
theorem dX5_character_13 : decode cX5_character 13 = .ok (.iaload, 1) := by decide +kernel
theorem dX5_character_14 : decode cX5_character 14 = .ok (.goto 4, 3) := by decide +kernel
theorem dX5_character_17 : decode cX5_character 17 = .ok (.iconst (-1), 1) := by decide +kernel
theorem dX5_character_18 : decode cX5_character 18 = .ok (.ireturn, 1) := by decide +kernel
set_option maxRecDepth 20000 in
theorem ggX5_takeDigit_X5_character : GoodIn wsX5_takeDigit wsX5_character := goodIn_r _ [6, 7, 8, 12, 13, 14, 15, 16, 17, 18, 19, 20, 21, 22, 23, 24, 25, 26, 27, 28, 29] (by decide +kernel) (by decide +kernel)
set_option maxRecDepth 20000 in
theorem gX5_takeDigit_X5_character : GoodIn wsX5_takeDigit (wsV RX5 156 RX5 yX5_character wsX5_character) := goodIn_app (goodIn_of _ (by decide +kernel)) ggX5_takeDigit_X5_character
set_option maxRecDepth 20000 in
theorem ggX5_takeDigit_X5_within : GoodIn wsX5_takeDigit wsX5_within := goodIn_r _ [11] (by decide +kernel) (by decide +kernel)
set_option maxRecDepth 20000 in
theorem gX5_takeDigit_X5_within : GoodIn wsX5_takeDigit (va_wsS RX5 54 yX5_within wsX5_within) := goodIn_app (goodIn_of _ (by decide +kernel)) ggX5_takeDigit_X5_within
theorem dX5_takeDigit_0 : decode cX5_takeDigit 0 = .ok (.aload_n 0, 1) := by decide +kernel
theorem dX5_takeDigit_1 : decode cX5_takeDigit 1 = .ok (.aload_n 0, 1) := by decide +kernel
theorem dX5_takeDigit_2 : decode cX5_takeDigit 2 = .ok (.getfield 153, 3) := by decide +kernel
theorem dX5_takeDigit_5 : decode cX5_takeDigit 5 = .ok (.invokevirtual 156, 3) := by decide +kernel
theorem dX5_takeDigit_8 : decode cX5_takeDigit 8 = .ok (.bipush 48, 2) := by decide +kernel
theorem dX5_takeDigit_10 : decode cX5_takeDigit 10 = .ok (.isub, 1) := by decide +kernel
theorem dX5_takeDigit_11 : decode cX5_takeDigit 11 = .ok (.istore_n 2, 1) := by decide +kernel
theorem dX5_takeDigit_12 : decode cX5_takeDigit 12 = .ok (.iload_n 2, 1) := by decide +kernel
theorem dX5_takeDigit_13 : decode cX5_takeDigit 13 = .ok (.iconst 0, 1) := by decide +kernel
theorem dX5_takeDigit_14 : decode cX5_takeDigit 14 = .ok (.iload_n 1, 1) := by decide +kernel
theorem dX5_takeDigit_15 : decode cX5_takeDigit 15 = .ok (.invokestatic 54, 3) := by decide +kernel
theorem dX5_takeDigit_18 : decode cX5_takeDigit 18 = .ok (.ifCond .ne 5, 3) := by decide +kernel
theorem dX5_takeDigit_21 : decode cX5_takeDigit 21 = .ok (.iconst (-1), 1) := by decide +kernel
theorem dX5_takeDigit_22 : decode cX5_takeDigit 22 = .ok (.ireturn, 1) := by decide +kernel
theorem dX5_takeDigit_23 : decode cX5_takeDigit 23 = .ok (.aload_n 0, 1) := by decide +kernel
theorem dX5_takeDigit_24 : decode cX5_takeDigit 24 = .ok (.dup, 1) := by decide +kernel
theorem dX5_takeDigit_25 : decode cX5_takeDigit 25 = .ok (.getfield 153, 3) := by decide +kernel
theorem dX5_takeDigit_28 : decode cX5_takeDigit 28 = .ok (.iconst 1, 1) := by decide +kernel
theorem dX5_takeDigit_29 : decode cX5_takeDigit 29 = .ok (.iadd, 1) := by decide +kernel
theorem dX5_takeDigit_30 : decode cX5_takeDigit 30 = .ok (.putfield 153, 3) := by decide +kernel
theorem dX5_takeDigit_33 : decode cX5_takeDigit 33 = .ok (.iload_n 2, 1) := by decide +kernel
theorem dX5_takeDigit_34 : decode cX5_takeDigit 34 = .ok (.ireturn, 1) := by decide +kernel
set_option maxRecDepth 20000 in
theorem ggX5_takePart_X5_character : GoodIn wsX5_takePart wsX5_character := goodIn_r _ [6, 7, 8, 9, 10, 11, 12, 13, 14, 15, 16, 17, 18, 19, 20, 21, 22, 23, 24, 25, 26] (by decide +kernel) (by decide +kernel)
set_option maxRecDepth 20000 in
theorem gX5_takePart_X5_character : GoodIn wsX5_takePart (wsV RX5 156 RX5 yX5_character wsX5_character) := goodIn_app (goodIn_of _ (by decide +kernel)) ggX5_takePart_X5_character
theorem dX5_takePart_0 : decode cX5_takePart 0 = .ok (.aload_n 0, 1) := by decide +kernel
theorem dX5_takePart_1 : decode cX5_takePart 1 = .ok (.aload_n 0, 1) := by decide +kernel
theorem dX5_takePart_2 : decode cX5_takePart 2 = .ok (.getfield 153, 3) := by decide +kernel
theorem dX5_takePart_5 : decode cX5_takePart 5 = .ok (.invokevirtual 156, 3) := by decide +kernel
theorem dX5_takePart_8 : decode cX5_takePart 8 = .ok (.istore_n 1, 1) := by decide +kernel
theorem dX5_takePart_9 : decode cX5_takePart 9 = .ok (.iload_n 1, 1) := by decide +kernel
theorem dX5_takePart_10 : decode cX5_takePart 10 = .ok (.bipush 97, 2) := by decide +kernel
theorem dX5_takePart_12 : decode cX5_takePart 12 = .ok (.if_icmp .eq 11, 3) := by decide +kernel
theorem dX5_takePart_15 : decode cX5_takePart 15 = .ok (.iload_n 1, 1) := by decide +kernel
theorem dX5_takePart_16 : decode cX5_takePart 16 = .ok (.bipush 101, 2) := by decide +kernel
theorem dX5_takePart_18 : decode cX5_takePart 18 = .ok (.if_icmp .eq 5, 3) := by decide +kernel
theorem dX5_takePart_21 : decode cX5_takePart 21 = .ok (.iconst (-1), 1) := by decide +kernel
theorem dX5_takePart_22 : decode cX5_takePart 22 = .ok (.ireturn, 1) := by decide +kernel
theorem dX5_takePart_23 : decode cX5_takePart 23 = .ok (.aload_n 0, 1) := by decide +kernel
theorem dX5_takePart_24 : decode cX5_takePart 24 = .ok (.dup, 1) := by decide +kernel
theorem dX5_takePart_25 : decode cX5_takePart 25 = .ok (.getfield 153, 3) := by decide +kernel
theorem dX5_takePart_28 : decode cX5_takePart 28 = .ok (.iconst 1, 1) := by decide +kernel
theorem dX5_takePart_29 : decode cX5_takePart 29 = .ok (.iadd, 1) := by decide +kernel
theorem dX5_takePart_30 : decode cX5_takePart 30 = .ok (.putfield 153, 3) := by decide +kernel
theorem dX5_takePart_33 : decode cX5_takePart 33 = .ok (.iload_n 1, 1) := by decide +kernel
theorem dX5_takePart_34 : decode cX5_takePart 34 = .ok (.bipush 97, 2) := by decide +kernel
theorem dX5_takePart_36 : decode cX5_takePart 36 = .ok (.if_icmp .ne 7, 3) := by decide +kernel
theorem dX5_takePart_39 : decode cX5_takePart 39 = .ok (.iconst 0, 1) := by decide +kernel
theorem dX5_takePart_40 : decode cX5_takePart 40 = .ok (.goto 4, 3) := by decide +kernel
theorem dX5_takePart_43 : decode cX5_takePart 43 = .ok (.iconst 1, 1) := by decide +kernel
theorem dX5_takePart_44 : decode cX5_takePart 44 = .ok (.ireturn, 1) := by decide +kernel
set_option maxRecDepth 20000 in
theorem ggX5_takeDay_X5_takeDigit : GoodIn wsX5_takeDay wsX5_takeDigit := goodIn_r _ [6, 1, 7, 8, 9, 5, 10, 11, 12, 13, 14, 15, 16, 17, 18, 19, 20, 21, 22, 23, 24, 25, 26, 27, 28, 29, 30, 31, 32, 33] (by decide +kernel) (by decide +kernel)
set_option maxRecDepth 20000 in
theorem gX5_takeDay_X5_takeDigit : GoodIn wsX5_takeDay (wsV RX5 159 RX5 yX5_takeDigit wsX5_takeDigit) := goodIn_app (goodIn_of _ (by decide +kernel)) ggX5_takeDay_X5_takeDigit
set_option maxRecDepth 20000 in
theorem ggX5_takeDay_X5_character : GoodIn wsX5_takeDay wsX5_character := goodIn_r _ [10, 11, 12, 16, 17, 18, 19, 20, 21, 22, 23, 24, 25, 26, 27, 28, 29, 30, 31, 32, 33] (by decide +kernel) (by decide +kernel)
set_option maxRecDepth 20000 in
theorem gX5_takeDay_X5_character : GoodIn wsX5_takeDay (wsV RX5 156 RX5 yX5_character wsX5_character) := goodIn_app (goodIn_of _ (by decide +kernel)) ggX5_takeDay_X5_character
set_option maxRecDepth 20000 in
theorem ggX5_takeDay_X5_within : GoodIn wsX5_takeDay wsX5_within := goodIn_r _ [15] (by decide +kernel) (by decide +kernel)
set_option maxRecDepth 20000 in
theorem gX5_takeDay_X5_within : GoodIn wsX5_takeDay (va_wsS RX5 54 yX5_within wsX5_within) := goodIn_app (goodIn_of _ (by decide +kernel)) ggX5_takeDay_X5_within
theorem dX5_takeDay_0 : decode cX5_takeDay 0 = .ok (.aload_n 0, 1) := by decide +kernel
theorem dX5_takeDay_1 : decode cX5_takeDay 1 = .ok (.bipush 9, 2) := by decide +kernel
theorem dX5_takeDay_3 : decode cX5_takeDay 3 = .ok (.invokevirtual 159, 3) := by decide +kernel
theorem dX5_takeDay_6 : decode cX5_takeDay 6 = .ok (.istore_n 1, 1) := by decide +kernel
theorem dX5_takeDay_7 : decode cX5_takeDay 7 = .ok (.aload_n 0, 1) := by decide +kernel
theorem dX5_takeDay_8 : decode cX5_takeDay 8 = .ok (.aload_n 0, 1) := by decide +kernel
theorem dX5_takeDay_9 : decode cX5_takeDay 9 = .ok (.getfield 153, 3) := by decide +kernel
theorem dX5_takeDay_12 : decode cX5_takeDay 12 = .ok (.invokevirtual 156, 3) := by decide +kernel
theorem dX5_takeDay_15 : decode cX5_takeDay 15 = .ok (.bipush 48, 2) := by decide +kernel
theorem dX5_takeDay_17 : decode cX5_takeDay 17 = .ok (.isub, 1) := by decide +kernel
theorem dX5_takeDay_18 : decode cX5_takeDay 18 = .ok (.istore_n 2, 1) := by decide +kernel
theorem dX5_takeDay_19 : decode cX5_takeDay 19 = .ok (.iload_n 1, 1) := by decide +kernel
theorem dX5_takeDay_20 : decode cX5_takeDay 20 = .ok (.ifCond .le 41, 3) := by decide +kernel
theorem dX5_takeDay_23 : decode cX5_takeDay 23 = .ok (.iload_n 2, 1) := by decide +kernel
theorem dX5_takeDay_24 : decode cX5_takeDay 24 = .ok (.iconst 0, 1) := by decide +kernel
theorem dX5_takeDay_25 : decode cX5_takeDay 25 = .ok (.bipush 9, 2) := by decide +kernel
theorem dX5_takeDay_27 : decode cX5_takeDay 27 = .ok (.invokestatic 54, 3) := by decide +kernel
theorem dX5_takeDay_30 : decode cX5_takeDay 30 = .ok (.ifCond .eq 31, 3) := by decide +kernel
theorem dX5_takeDay_33 : decode cX5_takeDay 33 = .ok (.bipush 10, 2) := by decide +kernel
theorem dX5_takeDay_35 : decode cX5_takeDay 35 = .ok (.iload_n 1, 1) := by decide +kernel
theorem dX5_takeDay_36 : decode cX5_takeDay 36 = .ok (.imul, 1) := by decide +kernel
theorem dX5_takeDay_37 : decode cX5_takeDay 37 = .ok (.iload_n 2, 1) := by decide +kernel
theorem dX5_takeDay_38 : decode cX5_takeDay 38 = .ok (.iadd, 1) := by decide +kernel
theorem dX5_takeDay_39 : decode cX5_takeDay 39 = .ok (.bipush 35, 2) := by decide +kernel
theorem dX5_takeDay_41 : decode cX5_takeDay 41 = .ok (.if_icmp .ge 20, 3) := by decide +kernel
theorem dX5_takeDay_44 : decode cX5_takeDay 44 = .ok (.aload_n 0, 1) := by decide +kernel
theorem dX5_takeDay_45 : decode cX5_takeDay 45 = .ok (.dup, 1) := by decide +kernel
theorem dX5_takeDay_46 : decode cX5_takeDay 46 = .ok (.getfield 153, 3) := by decide +kernel
theorem dX5_takeDay_49 : decode cX5_takeDay 49 = .ok (.iconst 1, 1) := by decide +kernel
theorem dX5_takeDay_50 : decode cX5_takeDay 50 = .ok (.iadd, 1) := by decide +kernel
theorem dX5_takeDay_51 : decode cX5_takeDay 51 = .ok (.putfield 153, 3) := by decide +kernel
theorem dX5_takeDay_54 : decode cX5_takeDay 54 = .ok (.bipush 10, 2) := by decide +kernel
theorem dX5_takeDay_56 : decode cX5_takeDay 56 = .ok (.iload_n 1, 1) := by decide +kernel
theorem dX5_takeDay_57 : decode cX5_takeDay 57 = .ok (.imul, 1) := by decide +kernel
theorem dX5_takeDay_58 : decode cX5_takeDay 58 = .ok (.iload_n 2, 1) := by decide +kernel
theorem dX5_takeDay_59 : decode cX5_takeDay 59 = .ok (.iadd, 1) := by decide +kernel
theorem dX5_takeDay_60 : decode cX5_takeDay 60 = .ok (.istore_n 1, 1) := by decide +kernel
theorem dX5_takeDay_61 : decode cX5_takeDay 61 = .ok (.iload_n 1, 1) := by decide +kernel
theorem dX5_takeDay_62 : decode cX5_takeDay 62 = .ok (.ireturn, 1) := by decide +kernel
set_option maxRecDepth 20000 in
theorem ggX5_readsShow_X5_takeDigit : GoodIn wsX5_readsShow wsX5_takeDigit := goodIn_r _ [8, 9, 10, 11, 12, 7, 13, 14, 15, 16, 17, 18, 27, 28, 29, 30, 31, 32, 33, 34, 35, 36, 37, 38, 39, 40, 41, 42, 43, 44] (by decide +kernel) (by decide +kernel)
set_option maxRecDepth 20000 in
theorem gX5_readsShow_X5_takeDigit : GoodIn wsX5_readsShow (wsV RX5 159 RX5 yX5_takeDigit wsX5_takeDigit) := goodIn_app (goodIn_of _ (by decide +kernel)) ggX5_readsShow_X5_takeDigit
set_option maxRecDepth 20000 in
theorem ggX5_readsShow_X5_takePart : GoodIn wsX5_readsShow wsX5_takePart := goodIn_r _ [22, 9, 10, 11, 12, 7, 13, 14, 15, 27, 28, 29, 30, 31, 32, 33, 34, 35, 36, 37, 38, 39, 40, 41, 42, 43, 44] (by decide +kernel) (by decide +kernel)
set_option maxRecDepth 20000 in
theorem gX5_readsShow_X5_takePart : GoodIn wsX5_readsShow (wsV RX5 165 RX5 yX5_takePart wsX5_takePart) := goodIn_app (goodIn_of _ (by decide +kernel)) ggX5_readsShow_X5_takePart
set_option maxRecDepth 20000 in
theorem ggX5_readsShow_X5_takeDay : GoodIn wsX5_readsShow wsX5_takeDay := goodIn_r _ [26, 9, 4, 5, 6, 7, 8, 10, 11, 12, 13, 14, 15, 16, 17, 18, 27, 28, 29, 30, 31, 32, 33, 34, 35, 36, 37, 38, 39, 40, 41, 42, 43, 44] (by decide +kernel) (by decide +kernel)
set_option maxRecDepth 20000 in
theorem gX5_readsShow_X5_takeDay : GoodIn wsX5_readsShow (wsV RX5 171 RX5 yX5_takeDay wsX5_takeDay) := goodIn_app (goodIn_of _ (by decide +kernel)) ggX5_readsShow_X5_takeDay
theorem dX5_readsShow_0 : decode cX5_readsShow 0 = .ok (.aload_n 0, 1) := by decide +kernel
theorem dX5_readsShow_1 : decode cX5_readsShow 1 = .ok (.aload_n 0, 1) := by decide +kernel
theorem dX5_readsShow_2 : decode cX5_readsShow 2 = .ok (.bipush 7, 2) := by decide +kernel
theorem dX5_readsShow_4 : decode cX5_readsShow 4 = .ok (.invokevirtual 159, 3) := by decide +kernel
theorem dX5_readsShow_7 : decode cX5_readsShow 7 = .ok (.putfield 162, 3) := by decide +kernel
theorem dX5_readsShow_10 : decode cX5_readsShow 10 = .ok (.aload_n 0, 1) := by decide +kernel
theorem dX5_readsShow_11 : decode cX5_readsShow 11 = .ok (.aload_n 0, 1) := by decide +kernel
theorem dX5_readsShow_12 : decode cX5_readsShow 12 = .ok (.getfield 162, 3) := by decide +kernel
theorem dX5_readsShow_15 : decode cX5_readsShow 15 = .ok (.ifCond .ge 7, 3) := by decide +kernel
theorem dX5_readsShow_18 : decode cX5_readsShow 18 = .ok (.iconst (-1), 1) := by decide +kernel
theorem dX5_readsShow_19 : decode cX5_readsShow 19 = .ok (.goto 7, 3) := by decide +kernel
theorem dX5_readsShow_22 : decode cX5_readsShow 22 = .ok (.aload_n 0, 1) := by decide +kernel
theorem dX5_readsShow_23 : decode cX5_readsShow 23 = .ok (.invokevirtual 165, 3) := by decide +kernel
theorem dX5_readsShow_26 : decode cX5_readsShow 26 = .ok (.putfield 168, 3) := by decide +kernel
theorem dX5_readsShow_29 : decode cX5_readsShow 29 = .ok (.aload_n 0, 1) := by decide +kernel
theorem dX5_readsShow_30 : decode cX5_readsShow 30 = .ok (.aload_n 0, 1) := by decide +kernel
theorem dX5_readsShow_31 : decode cX5_readsShow 31 = .ok (.getfield 168, 3) := by decide +kernel
theorem dX5_readsShow_34 : decode cX5_readsShow 34 = .ok (.ifCond .ge 7, 3) := by decide +kernel
theorem dX5_readsShow_37 : decode cX5_readsShow 37 = .ok (.iconst (-1), 1) := by decide +kernel
theorem dX5_readsShow_38 : decode cX5_readsShow 38 = .ok (.goto 7, 3) := by decide +kernel
theorem dX5_readsShow_41 : decode cX5_readsShow 41 = .ok (.aload_n 0, 1) := by decide +kernel
theorem dX5_readsShow_42 : decode cX5_readsShow 42 = .ok (.invokevirtual 171, 3) := by decide +kernel
theorem dX5_readsShow_45 : decode cX5_readsShow 45 = .ok (.putfield 174, 3) := by decide +kernel
theorem dX5_readsShow_48 : decode cX5_readsShow 48 = .ok (.aload_n 0, 1) := by decide +kernel
theorem dX5_readsShow_49 : decode cX5_readsShow 49 = .ok (.getfield 174, 3) := by decide +kernel
theorem dX5_readsShow_52 : decode cX5_readsShow 52 = .ok (.ifCond .lt 7, 3) := by decide +kernel
theorem dX5_readsShow_55 : decode cX5_readsShow 55 = .ok (.iconst 1, 1) := by decide +kernel
theorem dX5_readsShow_56 : decode cX5_readsShow 56 = .ok (.goto 4, 3) := by decide +kernel
theorem dX5_readsShow_59 : decode cX5_readsShow 59 = .ok (.iconst 0, 1) := by decide +kernel
theorem dX5_readsShow_60 : decode cX5_readsShow 60 = .ok (.ireturn, 1) := by decide +kernel
set_option maxRecDepth 20000 in
theorem ggX5_isNext_X5_character : GoodIn wsX5_isNext wsX5_character := goodIn_r _ [6, 7, 8, 9, 10, 11, 12, 13, 14, 15, 16, 17, 18, 19, 20, 21, 22, 23, 24, 25, 26] (by decide +kernel) (by decide +kernel)
set_option maxRecDepth 20000 in
theorem gX5_isNext_X5_character : GoodIn wsX5_isNext (wsV RX5 156 RX5 yX5_character wsX5_character) := goodIn_app (goodIn_of _ (by decide +kernel)) ggX5_isNext_X5_character
theorem dX5_isNext_0 : decode cX5_isNext 0 = .ok (.aload_n 0, 1) := by decide +kernel
theorem dX5_isNext_1 : decode cX5_isNext 1 = .ok (.aload_n 0, 1) := by decide +kernel
theorem dX5_isNext_2 : decode cX5_isNext 2 = .ok (.getfield 153, 3) := by decide +kernel
theorem dX5_isNext_5 : decode cX5_isNext 5 = .ok (.invokevirtual 156, 3) := by decide +kernel
theorem dX5_isNext_8 : decode cX5_isNext 8 = .ok (.bipush 44, 2) := by decide +kernel
theorem dX5_isNext_10 : decode cX5_isNext 10 = .ok (.if_icmp .ne 7, 3) := by decide +kernel
theorem dX5_isNext_13 : decode cX5_isNext 13 = .ok (.iconst 1, 1) := by decide +kernel
theorem dX5_isNext_14 : decode cX5_isNext 14 = .ok (.goto 4, 3) := by decide +kernel
theorem dX5_isNext_17 : decode cX5_isNext 17 = .ok (.iconst 0, 1) := by decide +kernel
theorem dX5_isNext_18 : decode cX5_isNext 18 = .ok (.istore_n 1, 1) := by decide +kernel
theorem dX5_isNext_19 : decode cX5_isNext 19 = .ok (.aload_n 0, 1) := by decide +kernel
theorem dX5_isNext_20 : decode cX5_isNext 20 = .ok (.dup, 1) := by decide +kernel
theorem dX5_isNext_21 : decode cX5_isNext 21 = .ok (.getfield 153, 3) := by decide +kernel
theorem dX5_isNext_24 : decode cX5_isNext 24 = .ok (.iload_n 1, 1) := by decide +kernel
theorem dX5_isNext_25 : decode cX5_isNext 25 = .ok (.ifCond .eq 7, 3) := by decide +kernel
theorem dX5_isNext_28 : decode cX5_isNext 28 = .ok (.iconst 1, 1) := by decide +kernel
theorem dX5_isNext_29 : decode cX5_isNext 29 = .ok (.goto 4, 3) := by decide +kernel
theorem dX5_isNext_32 : decode cX5_isNext 32 = .ok (.iconst 0, 1) := by decide +kernel
theorem dX5_isNext_33 : decode cX5_isNext 33 = .ok (.iadd, 1) := by decide +kernel
theorem dX5_isNext_34 : decode cX5_isNext 34 = .ok (.putfield 153, 3) := by decide +kernel
theorem dX5_isNext_37 : decode cX5_isNext 37 = .ok (.iload_n 1, 1) := by decide +kernel
theorem dX5_isNext_38 : decode cX5_isNext 38 = .ok (.ireturn, 1) := by decide +kernel
set_option maxRecDepth 20000 in
theorem ggX5_findFault_X5_readsShow : GoodIn wsX5_findFault wsX5_readsShow := goodIn_r _ [7, 8, 9, 10, 11, 12, 13, 6, 14, 1, 15, 16, 17, 18, 2, 19, 20, 21, 22, 23, 24, 25, 26, 27, 28, 29, 30, 35, 36, 37, 38, 39, 40, 41, 42, 43, 44, 45, 46, 47, 48, 49, 50, 51, 52] (by decide +kernel) (by decide +kernel)
set_option maxRecDepth 20000 in
theorem gX5_findFault_X5_readsShow : GoodIn wsX5_findFault (wsV RX5 177 RX5 yX5_readsShow wsX5_readsShow) := goodIn_app (goodIn_of _ (by decide +kernel)) ggX5_findFault_X5_readsShow
set_option maxRecDepth 20000 in
theorem ggX5_findFault_X5_isNext : GoodIn wsX5_findFault wsX5_isNext := goodIn_r _ [34, 1, 15, 16, 17, 6, 18, 2, 19, 35, 36, 37, 38, 39, 40, 41, 42, 43, 44, 45, 46, 47, 48, 49, 50, 51, 52] (by decide +kernel) (by decide +kernel)
set_option maxRecDepth 20000 in
theorem gX5_findFault_X5_isNext : GoodIn wsX5_findFault (wsV RX5 181 RX5 yX5_isNext wsX5_isNext) := goodIn_app (goodIn_of _ (by decide +kernel)) ggX5_findFault_X5_isNext
theorem dX5_findFault_0 : decode cX5_findFault 0 = .ok (.aload_n 0, 1) := by decide +kernel
theorem dX5_findFault_1 : decode cX5_findFault 1 = .ok (.iconst 0, 1) := by decide +kernel
theorem dX5_findFault_2 : decode cX5_findFault 2 = .ok (.putfield 153, 3) := by decide +kernel
theorem dX5_findFault_5 : decode cX5_findFault 5 = .ok (.aload_n 0, 1) := by decide +kernel
theorem dX5_findFault_6 : decode cX5_findFault 6 = .ok (.invokevirtual 177, 3) := by decide +kernel
theorem dX5_findFault_9 : decode cX5_findFault 9 = .ok (.ifCond .ne 8, 3) := by decide +kernel
theorem dX5_findFault_12 : decode cX5_findFault 12 = .ok (.aload_n 0, 1) := by decide +kernel
theorem dX5_findFault_13 : decode cX5_findFault 13 = .ok (.getfield 153, 3) := by decide +kernel
theorem dX5_findFault_16 : decode cX5_findFault 16 = .ok (.ireturn, 1) := by decide +kernel
theorem dX5_findFault_17 : decode cX5_findFault 17 = .ok (.aload_n 0, 1) := by decide +kernel
theorem dX5_findFault_18 : decode cX5_findFault 18 = .ok (.getfield 153, 3) := by decide +kernel
theorem dX5_findFault_21 : decode cX5_findFault 21 = .ok (.aload_n 0, 1) := by decide +kernel
theorem dX5_findFault_22 : decode cX5_findFault 22 = .ok (.getfield 145, 3) := by decide +kernel
theorem dX5_findFault_25 : decode cX5_findFault 25 = .ok (.if_icmp .ne 6, 3) := by decide +kernel
theorem dX5_findFault_28 : decode cX5_findFault 28 = .ok (.bipush (-6), 2) := by decide +kernel
theorem dX5_findFault_30 : decode cX5_findFault 30 = .ok (.ireturn, 1) := by decide +kernel
theorem dX5_findFault_31 : decode cX5_findFault 31 = .ok (.aload_n 0, 1) := by decide +kernel
theorem dX5_findFault_32 : decode cX5_findFault 32 = .ok (.invokevirtual 181, 3) := by decide +kernel
theorem dX5_findFault_35 : decode cX5_findFault 35 = .ok (.ifCond .ne (-30), 3) := by decide +kernel
theorem dX5_findFault_38 : decode cX5_findFault 38 = .ok (.aload_n 0, 1) := by decide +kernel
theorem dX5_findFault_39 : decode cX5_findFault 39 = .ok (.getfield 153, 3) := by decide +kernel
theorem dX5_findFault_42 : decode cX5_findFault 42 = .ok (.ireturn, 1) := by decide +kernel
set_option maxRecDepth 20000 in
theorem ggX5_fault_X5_findFault : GoodIn wsX5_fault wsX5_findFault := goodIn_r _ [5, 6, 7, 8, 9, 10, 4, 11, 12, 13, 14, 15, 16, 17, 18, 19, 20, 21, 22, 23, 24, 25, 26, 27, 28, 29, 30, 31, 32, 33, 34, 35, 36, 37, 38, 39, 40, 41, 42, 43, 44, 45, 46, 47, 48, 49, 50, 51, 52, 53, 54, 55, 56] (by decide +kernel) (by decide +kernel)
set_option maxRecDepth 20000 in
theorem gX5_fault_X5_findFault : GoodIn wsX5_fault (wsV RX5 184 RX5 yX5_findFault wsX5_findFault) := goodIn_app (goodIn_of _ (by decide +kernel)) ggX5_fault_X5_findFault
theorem dX5_fault_0 : decode cX5_fault 0 = .ok (.aload_n 0, 1) := by decide +kernel
theorem dX5_fault_1 : decode cX5_fault 1 = .ok (.invokevirtual 184, 3) := by decide +kernel
theorem dX5_fault_4 : decode cX5_fault 4 = .ok (.ireturn, 1) := by decide +kernel
set_option maxRecDepth 20000 in
theorem ggX5_carryOut_X5_findFault : GoodIn wsX5_carryOut wsX5_findFault := goodIn_r _ [11, 1, 2, 12, 13, 14, 10, 15, 3, 5, 4, 16, 17, 18, 19, 20, 21, 22, 23, 24, 25, 26, 27, 28, 29, 30, 31, 32, 33, 34, 35, 36, 37, 38, 39, 72, 73, 74, 75, 76, 77, 78, 79, 80, 81, 82, 83, 84, 85, 86, 87, 88, 89] (by decide +kernel) (by decide +kernel)
set_option maxRecDepth 20000 in
theorem gX5_carryOut_X5_findFault : GoodIn wsX5_carryOut (wsV RX5 184 RX5 yX5_findFault wsX5_findFault) := goodIn_app (goodIn_of _ (by decide +kernel)) ggX5_carryOut_X5_findFault
set_option maxRecDepth 20000 in
theorem ggX5_carryOut_X5_record : GoodIn wsX5_carryOut wsX5_record := goodIn_r _ [43, 44, 45, 6, 46, 47, 10, 48, 72, 73, 74, 75, 76, 77, 78, 79, 80, 81, 82, 83, 84, 85, 86, 87, 88, 89] (by decide +kernel) (by decide +kernel)
set_option maxRecDepth 20000 in
theorem gX5_carryOut_X5_record : GoodIn wsX5_carryOut (wsV RX5 99 RX5 yX5_record wsX5_record) := goodIn_app (goodIn_of _ (by decide +kernel)) ggX5_carryOut_X5_record
set_option maxRecDepth 20000 in
theorem ggX5_carryOut_X5_readsShow : GoodIn wsX5_carryOut wsX5_readsShow := goodIn_r _ [15, 3, 5, 4, 16, 17, 18, 10, 19, 1, 20, 21, 22, 23, 2, 24, 25, 26, 27, 28, 29, 30, 31, 32, 33, 34, 35, 72, 73, 74, 75, 76, 77, 78, 79, 80, 81, 82, 83, 84, 85, 86, 87, 88, 89] (by decide +kernel) (by decide +kernel)
set_option maxRecDepth 20000 in
theorem gX5_carryOut_X5_readsShow : GoodIn wsX5_carryOut (wsV RX5 177 RX5 yX5_readsShow wsX5_readsShow) := goodIn_app (goodIn_of _ (by decide +kernel)) ggX5_carryOut_X5_readsShow
set_option maxRecDepth 20000 in
theorem ggX5_carryOut_X5_isNext : GoodIn wsX5_carryOut wsX5_isNext := goodIn_r _ [39, 1, 20, 21, 22, 10, 23, 2, 24, 72, 73, 74, 75, 76, 77, 78, 79, 80, 81, 82, 83, 84, 85, 86, 87, 88, 89] (by decide +kernel) (by decide +kernel)
set_option maxRecDepth 20000 in
theorem gX5_carryOut_X5_isNext : GoodIn wsX5_carryOut (wsV RX5 181 RX5 yX5_isNext wsX5_isNext) := goodIn_app (goodIn_of _ (by decide +kernel)) ggX5_carryOut_X5_isNext
set_option maxRecDepth 20000 in
theorem ggX5_carryOut_X5_whyNotShown : GoodIn wsX5_carryOut wsX5_whyNotShown := goodIn_r _ [52, 53, 54, 55, 10, 56, 6, 25, 26, 27, 57, 58, 59, 60, 61, 62, 63, 64, 65, 66, 67, 68, 69, 70, 71, 72, 73, 74, 75, 76, 77, 78, 79, 80, 81, 82, 83, 84, 85, 86, 87, 88, 89] (by decide +kernel) (by decide +kernel)
set_option maxRecDepth 20000 in
theorem gX5_carryOut_X5_whyNotShown : GoodIn wsX5_carryOut (wsV RX5 115 RX5 yX5_whyNotShown wsX5_whyNotShown) := goodIn_app (goodIn_of _ (by decide +kernel)) ggX5_carryOut_X5_whyNotShown
theorem dX5_carryOut_0 : decode cX5_carryOut 0 = .ok (.aload_n 0, 1) := by decide +kernel
theorem dX5_carryOut_1 : decode cX5_carryOut 1 = .ok (.invokevirtual 184, 3) := by decide +kernel
theorem dX5_carryOut_4 : decode cX5_carryOut 4 = .ok (.bipush (-6), 2) := by decide +kernel
theorem dX5_carryOut_6 : decode cX5_carryOut 6 = .ok (.if_icmp .eq 6, 3) := by decide +kernel
theorem dX5_carryOut_9 : decode cX5_carryOut 9 = .ok (.bipush (-3), 2) := by decide +kernel
theorem dX5_carryOut_11 : decode cX5_carryOut 11 = .ok (.ireturn, 1) := by decide +kernel
theorem dX5_carryOut_12 : decode cX5_carryOut 12 = .ok (.aload_n 0, 1) := by decide +kernel
theorem dX5_carryOut_13 : decode cX5_carryOut 13 = .ok (.invokevirtual 99, 3) := by decide +kernel
theorem dX5_carryOut_16 : decode cX5_carryOut 16 = .ok (.iconst 0, 1) := by decide +kernel
theorem dX5_carryOut_17 : decode cX5_carryOut 17 = .ok (.istore_n 1, 1) := by decide +kernel
theorem dX5_carryOut_18 : decode cX5_carryOut 18 = .ok (.aload_n 0, 1) := by decide +kernel
theorem dX5_carryOut_19 : decode cX5_carryOut 19 = .ok (.iconst 0, 1) := by decide +kernel
theorem dX5_carryOut_20 : decode cX5_carryOut 20 = .ok (.putfield 153, 3) := by decide +kernel
theorem dX5_carryOut_23 : decode cX5_carryOut 23 = .ok (.iconst 1, 1) := by decide +kernel
theorem dX5_carryOut_24 : decode cX5_carryOut 24 = .ok (.istore_n 2, 1) := by decide +kernel
theorem dX5_carryOut_25 : decode cX5_carryOut 25 = .ok (.iload_n 2, 1) := by decide +kernel
theorem dX5_carryOut_26 : decode cX5_carryOut 26 = .ok (.ifCond .eq 82, 3) := by decide +kernel
theorem dX5_carryOut_29 : decode cX5_carryOut 29 = .ok (.aload_n 0, 1) := by decide +kernel
theorem dX5_carryOut_30 : decode cX5_carryOut 30 = .ok (.getfield 153, 3) := by decide +kernel
theorem dX5_carryOut_33 : decode cX5_carryOut 33 = .ok (.aload_n 0, 1) := by decide +kernel
theorem dX5_carryOut_34 : decode cX5_carryOut 34 = .ok (.getfield 145, 3) := by decide +kernel
theorem dX5_carryOut_37 : decode cX5_carryOut 37 = .ok (.if_icmp .ge 71, 3) := by decide +kernel
theorem dX5_carryOut_40 : decode cX5_carryOut 40 = .ok (.aload_n 0, 1) := by decide +kernel
theorem dX5_carryOut_41 : decode cX5_carryOut 41 = .ok (.invokevirtual 177, 3) := by decide +kernel
theorem dX5_carryOut_44 : decode cX5_carryOut 44 = .ok (.pop, 1) := by decide +kernel
theorem dX5_carryOut_45 : decode cX5_carryOut 45 = .ok (.aload_n 0, 1) := by decide +kernel
theorem dX5_carryOut_46 : decode cX5_carryOut 46 = .ok (.invokevirtual 181, 3) := by decide +kernel
theorem dX5_carryOut_49 : decode cX5_carryOut 49 = .ok (.pop, 1) := by decide +kernel
theorem dX5_carryOut_50 : decode cX5_carryOut 50 = .ok (.aload_n 0, 1) := by decide +kernel
theorem dX5_carryOut_51 : decode cX5_carryOut 51 = .ok (.aload_n 0, 1) := by decide +kernel
theorem dX5_carryOut_52 : decode cX5_carryOut 52 = .ok (.getfield 162, 3) := by decide +kernel
theorem dX5_carryOut_55 : decode cX5_carryOut 55 = .ok (.aload_n 0, 1) := by decide +kernel
theorem dX5_carryOut_56 : decode cX5_carryOut 56 = .ok (.getfield 174, 3) := by decide +kernel
theorem dX5_carryOut_59 : decode cX5_carryOut 59 = .ok (.aload_n 0, 1) := by decide +kernel
theorem dX5_carryOut_60 : decode cX5_carryOut 60 = .ok (.getfield 168, 3) := by decide +kernel
theorem dX5_carryOut_63 : decode cX5_carryOut 63 = .ok (.invokevirtual 115, 3) := by decide +kernel
theorem dX5_carryOut_66 : decode cX5_carryOut 66 = .ok (.ifCond .ne 7, 3) := by decide +kernel
theorem dX5_carryOut_69 : decode cX5_carryOut 69 = .ok (.iconst 1, 1) := by decide +kernel
theorem dX5_carryOut_70 : decode cX5_carryOut 70 = .ok (.goto 4, 3) := by decide +kernel
theorem dX5_carryOut_73 : decode cX5_carryOut 73 = .ok (.iconst 0, 1) := by decide +kernel
theorem dX5_carryOut_74 : decode cX5_carryOut 74 = .ok (.istore_n 2, 1) := by decide +kernel
theorem dX5_carryOut_75 : decode cX5_carryOut 75 = .ok (.iload_n 2, 1) := by decide +kernel
theorem dX5_carryOut_76 : decode cX5_carryOut 76 = .ok (.ifCond .eq (-51), 3) := by decide +kernel
theorem dX5_carryOut_79 : decode cX5_carryOut 79 = .ok (.aload_n 0, 1) := by decide +kernel
theorem dX5_carryOut_80 : decode cX5_carryOut 80 = .ok (.getfield 7, 3) := by decide +kernel
theorem dX5_carryOut_83 : decode cX5_carryOut 83 = .ok (.bipush 46, 2) := by decide +kernel
theorem dX5_carryOut_85 : decode cX5_carryOut 85 = .ok (.iconst 2, 1) := by decide +kernel
theorem dX5_carryOut_86 : decode cX5_carryOut 86 = .ok (.aload_n 0, 1) := by decide +kernel
theorem dX5_carryOut_87 : decode cX5_carryOut 87 = .ok (.getfield 174, 3) := by decide +kernel
theorem dX5_carryOut_90 : decode cX5_carryOut 90 = .ok (.imul, 1) := by decide +kernel
theorem dX5_carryOut_91 : decode cX5_carryOut 91 = .ok (.iadd, 1) := by decide +kernel
theorem dX5_carryOut_92 : decode cX5_carryOut 92 = .ok (.aload_n 0, 1) := by decide +kernel
theorem dX5_carryOut_93 : decode cX5_carryOut 93 = .ok (.getfield 168, 3) := by decide +kernel
theorem dX5_carryOut_96 : decode cX5_carryOut 96 = .ok (.iadd, 1) := by decide +kernel
theorem dX5_carryOut_97 : decode cX5_carryOut 97 = .ok (.aload_n 0, 1) := by decide +kernel
theorem dX5_carryOut_98 : decode cX5_carryOut 98 = .ok (.getfield 162, 3) := by decide +kernel
theorem dX5_carryOut_101 : decode cX5_carryOut 101 = .ok (.iastore, 1) := by decide +kernel
theorem dX5_carryOut_102 : decode cX5_carryOut 102 = .ok (.iinc 1 1, 3) := by decide +kernel
theorem dX5_carryOut_105 : decode cX5_carryOut 105 = .ok (.goto (-80), 3) := by decide +kernel
theorem dX5_carryOut_108 : decode cX5_carryOut 108 = .ok (.aload_n 0, 1) := by decide +kernel
theorem dX5_carryOut_109 : decode cX5_carryOut 109 = .ok (.iconst 0, 1) := by decide +kernel
theorem dX5_carryOut_110 : decode cX5_carryOut 110 = .ok (.putfield 145, 3) := by decide +kernel
theorem dX5_carryOut_113 : decode cX5_carryOut 113 = .ok (.iload_n 1, 1) := by decide +kernel
theorem dX5_carryOut_114 : decode cX5_carryOut 114 = .ok (.ireturn, 1) := by decide +kernel
set_option maxRecDepth 20000 in
theorem ggX5_undo_X5_moves : GoodIn wsX5_undo wsX5_moves := goodIn_r _ [7] (by decide +kernel) (by decide +kernel)
set_option maxRecDepth 20000 in
theorem gX5_undo_X5_moves : GoodIn wsX5_undo (va_wsS RX5 50 yX5_moves wsX5_moves) := goodIn_app (goodIn_of _ (by decide +kernel)) ggX5_undo_X5_moves
theorem dX5_undo_0 : decode cX5_undo 0 = .ok (.aload_n 0, 1) := by decide +kernel
theorem dX5_undo_1 : decode cX5_undo 1 = .ok (.getfield 46, 3) := by decide +kernel
theorem dX5_undo_4 : decode cX5_undo 4 = .ok (.ifCond .ne 6, 3) := by decide +kernel
theorem dX5_undo_7 : decode cX5_undo 7 = .ok (.bipush (-5), 2) := by decide +kernel
theorem dX5_undo_9 : decode cX5_undo 9 = .ok (.ireturn, 1) := by decide +kernel
theorem dX5_undo_10 : decode cX5_undo 10 = .ok (.aload_n 0, 1) := by decide +kernel
theorem dX5_undo_11 : decode cX5_undo 11 = .ok (.dup, 1) := by decide +kernel
theorem dX5_undo_12 : decode cX5_undo 12 = .ok (.getfield 46, 3) := by decide +kernel
theorem dX5_undo_15 : decode cX5_undo 15 = .ok (.iconst 1, 1) := by decide +kernel
theorem dX5_undo_16 : decode cX5_undo 16 = .ok (.isub, 1) := by decide +kernel
theorem dX5_undo_17 : decode cX5_undo 17 = .ok (.putfield 46, 3) := by decide +kernel
theorem dX5_undo_20 : decode cX5_undo 20 = .ok (.aload_n 0, 1) := by decide +kernel
theorem dX5_undo_21 : decode cX5_undo 21 = .ok (.getfield 13, 3) := by decide +kernel
theorem dX5_undo_24 : decode cX5_undo 24 = .ok (.aload_n 0, 1) := by decide +kernel
theorem dX5_undo_25 : decode cX5_undo 25 = .ok (.getfield 46, 3) := by decide +kernel
theorem dX5_undo_28 : decode cX5_undo 28 = .ok (.sipush 151, 3) := by decide +kernel
theorem dX5_undo_31 : decode cX5_undo 31 = .ok (.imul, 1) := by decide +kernel
theorem dX5_undo_32 : decode cX5_undo 32 = .ok (.aload_n 0, 1) := by decide +kernel
theorem dX5_undo_33 : decode cX5_undo 33 = .ok (.getfield 7, 3) := by decide +kernel
theorem dX5_undo_36 : decode cX5_undo 36 = .ok (.iconst 0, 1) := by decide +kernel
theorem dX5_undo_37 : decode cX5_undo 37 = .ok (.invokestatic 50, 3) := by decide +kernel
theorem dX5_undo_40 : decode cX5_undo 40 = .ok (.aload_n 0, 1) := by decide +kernel
theorem dX5_undo_41 : decode cX5_undo 41 = .ok (.getfield 46, 3) := by decide +kernel
theorem dX5_undo_44 : decode cX5_undo 44 = .ok (.ireturn, 1) := by decide +kernel
theorem dX5_showsMany_0 : decode cX5_showsMany 0 = .ok (.iconst 0, 1) := by decide +kernel
theorem dX5_showsMany_1 : decode cX5_showsMany 1 = .ok (.istore_n 1, 1) := by decide +kernel
theorem dX5_showsMany_2 : decode cX5_showsMany 2 = .ok (.iconst 0, 1) := by decide +kernel
theorem dX5_showsMany_3 : decode cX5_showsMany 3 = .ok (.istore_n 2, 1) := by decide +kernel
theorem dX5_showsMany_4 : decode cX5_showsMany 4 = .ok (.iload_n 2, 1) := by decide +kernel
theorem dX5_showsMany_5 : decode cX5_showsMany 5 = .ok (.bipush 70, 2) := by decide +kernel
theorem dX5_showsMany_7 : decode cX5_showsMany 7 = .ok (.if_icmp .ge 31, 3) := by decide +kernel
theorem dX5_showsMany_10 : decode cX5_showsMany 10 = .ok (.iload_n 1, 1) := by decide +kernel
theorem dX5_showsMany_11 : decode cX5_showsMany 11 = .ok (.aload_n 0, 1) := by decide +kernel
theorem dX5_showsMany_12 : decode cX5_showsMany 12 = .ok (.getfield 7, 3) := by decide +kernel
theorem dX5_showsMany_15 : decode cX5_showsMany 15 = .ok (.bipush 46, 2) := by decide +kernel
theorem dX5_showsMany_17 : decode cX5_showsMany 17 = .ok (.iload_n 2, 1) := by decide +kernel
theorem dX5_showsMany_18 : decode cX5_showsMany 18 = .ok (.iadd, 1) := by decide +kernel
theorem dX5_showsMany_19 : decode cX5_showsMany 19 = .ok (.iaload, 1) := by decide +kernel
theorem dX5_showsMany_20 : decode cX5_showsMany 20 = .ok (.bipush (-6), 2) := by decide +kernel
theorem dX5_showsMany_22 : decode cX5_showsMany 22 = .ok (.if_icmp .ne 7, 3) := by decide +kernel
theorem dX5_showsMany_25 : decode cX5_showsMany 25 = .ok (.iconst 0, 1) := by decide +kernel
theorem dX5_showsMany_26 : decode cX5_showsMany 26 = .ok (.goto 4, 3) := by decide +kernel
theorem dX5_showsMany_29 : decode cX5_showsMany 29 = .ok (.iconst 1, 1) := by decide +kernel
theorem dX5_showsMany_30 : decode cX5_showsMany 30 = .ok (.iadd, 1) := by decide +kernel
theorem dX5_showsMany_31 : decode cX5_showsMany 31 = .ok (.istore_n 1, 1) := by decide +kernel
theorem dX5_showsMany_32 : decode cX5_showsMany 32 = .ok (.iinc 2 1, 3) := by decide +kernel
theorem dX5_showsMany_35 : decode cX5_showsMany 35 = .ok (.goto (-31), 3) := by decide +kernel
theorem dX5_showsMany_38 : decode cX5_showsMany 38 = .ok (.iload_n 1, 1) := by decide +kernel
theorem dX5_showsMany_39 : decode cX5_showsMany 39 = .ok (.ireturn, 1) := by decide +kernel
set_option maxRecDepth 20000 in
theorem ggX5_save_X5_within : GoodIn wsX5_save wsX5_within := goodIn_r _ [7] (by decide +kernel) (by decide +kernel)
set_option maxRecDepth 20000 in
theorem gX5_save_X5_within : GoodIn wsX5_save (va_wsS RX5 54 yX5_within wsX5_within) := goodIn_app (goodIn_of _ (by decide +kernel)) ggX5_save_X5_within
set_option maxRecDepth 20000 in
theorem ggX5_save_X5_moves : GoodIn wsX5_save wsX5_moves := goodIn_r _ [10] (by decide +kernel) (by decide +kernel)
set_option maxRecDepth 20000 in
theorem gX5_save_X5_moves : GoodIn wsX5_save (va_wsS RX5 50 yX5_moves wsX5_moves) := goodIn_app (goodIn_of _ (by decide +kernel)) ggX5_save_X5_moves
set_option maxRecDepth 20000 in
theorem ggX5_save_X5_showsMany : GoodIn wsX5_save wsX5_showsMany := goodIn_r _ [14, 1, 15, 16, 17, 18, 19, 20, 21, 22, 23, 24, 25, 26, 27, 28, 29, 30, 31, 32] (by decide +kernel) (by decide +kernel)
set_option maxRecDepth 20000 in
theorem gX5_save_X5_showsMany : GoodIn wsX5_save (wsV RX5 187 RX5 yX5_showsMany wsX5_showsMany) := goodIn_app (goodIn_of _ (by decide +kernel)) ggX5_save_X5_showsMany
theorem dX5_save_0 : decode cX5_save 0 = .ok (.iload_n 1, 1) := by decide +kernel
theorem dX5_save_1 : decode cX5_save 1 = .ok (.iconst 0, 1) := by decide +kernel
theorem dX5_save_2 : decode cX5_save 2 = .ok (.iconst 1, 1) := by decide +kernel
theorem dX5_save_3 : decode cX5_save 3 = .ok (.invokestatic 54, 3) := by decide +kernel
theorem dX5_save_6 : decode cX5_save 6 = .ok (.ifCond .ne 6, 3) := by decide +kernel
theorem dX5_save_9 : decode cX5_save 9 = .ok (.bipush (-2), 2) := by decide +kernel
theorem dX5_save_11 : decode cX5_save 11 = .ok (.ireturn, 1) := by decide +kernel
theorem dX5_save_12 : decode cX5_save 12 = .ok (.aload_n 0, 1) := by decide +kernel
theorem dX5_save_13 : decode cX5_save 13 = .ok (.getfield 7, 3) := by decide +kernel
theorem dX5_save_16 : decode cX5_save 16 = .ok (.iconst 0, 1) := by decide +kernel
theorem dX5_save_17 : decode cX5_save 17 = .ok (.aload_n 0, 1) := by decide +kernel
theorem dX5_save_18 : decode cX5_save 18 = .ok (.getfield 16, 3) := by decide +kernel
theorem dX5_save_21 : decode cX5_save 21 = .ok (.sipush 151, 3) := by decide +kernel
theorem dX5_save_24 : decode cX5_save 24 = .ok (.iload_n 1, 1) := by decide +kernel
theorem dX5_save_25 : decode cX5_save 25 = .ok (.imul, 1) := by decide +kernel
theorem dX5_save_26 : decode cX5_save 26 = .ok (.invokestatic 50, 3) := by decide +kernel
theorem dX5_save_29 : decode cX5_save 29 = .ok (.aload_n 0, 1) := by decide +kernel
theorem dX5_save_30 : decode cX5_save 30 = .ok (.getfield 19, 3) := by decide +kernel
theorem dX5_save_33 : decode cX5_save 33 = .ok (.iload_n 1, 1) := by decide +kernel
theorem dX5_save_34 : decode cX5_save 34 = .ok (.iconst 1, 1) := by decide +kernel
theorem dX5_save_35 : decode cX5_save 35 = .ok (.iastore, 1) := by decide +kernel
theorem dX5_save_36 : decode cX5_save 36 = .ok (.aload_n 0, 1) := by decide +kernel
theorem dX5_save_37 : decode cX5_save 37 = .ok (.invokevirtual 187, 3) := by decide +kernel
theorem dX5_save_40 : decode cX5_save 40 = .ok (.ireturn, 1) := by decide +kernel
set_option maxRecDepth 20000 in
theorem ggX5_restore_X5_within : GoodIn wsX5_restore wsX5_within := goodIn_r _ [7] (by decide +kernel) (by decide +kernel)
set_option maxRecDepth 20000 in
theorem gX5_restore_X5_within : GoodIn wsX5_restore (va_wsS RX5 54 yX5_within wsX5_within) := goodIn_app (goodIn_of _ (by decide +kernel)) ggX5_restore_X5_within
set_option maxRecDepth 20000 in
theorem ggX5_restore_X5_record : GoodIn wsX5_restore wsX5_record := goodIn_r _ [11, 12, 13, 3, 14, 15, 6, 16, 21, 22, 23, 24, 25, 26, 27, 28, 29, 30, 31, 32, 33, 34, 35, 36, 37, 38] (by decide +kernel) (by decide +kernel)
set_option maxRecDepth 20000 in
theorem gX5_restore_X5_record : GoodIn wsX5_restore (wsV RX5 99 RX5 yX5_record wsX5_record) := goodIn_app (goodIn_of _ (by decide +kernel)) ggX5_restore_X5_record
set_option maxRecDepth 20000 in
theorem ggX5_restore_X5_moves : GoodIn wsX5_restore wsX5_moves := goodIn_r _ [16] (by decide +kernel) (by decide +kernel)
set_option maxRecDepth 20000 in
theorem gX5_restore_X5_moves : GoodIn wsX5_restore (va_wsS RX5 50 yX5_moves wsX5_moves) := goodIn_app (goodIn_of _ (by decide +kernel)) ggX5_restore_X5_moves
set_option maxRecDepth 20000 in
theorem ggX5_restore_X5_showsMany : GoodIn wsX5_restore wsX5_showsMany := goodIn_r _ [20, 3, 21, 22, 23, 24, 25, 26, 27, 28, 29, 30, 31, 32, 33, 34, 35, 36, 37, 38] (by decide +kernel) (by decide +kernel)
set_option maxRecDepth 20000 in
theorem gX5_restore_X5_showsMany : GoodIn wsX5_restore (wsV RX5 187 RX5 yX5_showsMany wsX5_showsMany) := goodIn_app (goodIn_of _ (by decide +kernel)) ggX5_restore_X5_showsMany
theorem dX5_restore_0 : decode cX5_restore 0 = .ok (.iload_n 1, 1) := by decide +kernel
theorem dX5_restore_1 : decode cX5_restore 1 = .ok (.iconst 0, 1) := by decide +kernel
theorem dX5_restore_2 : decode cX5_restore 2 = .ok (.iconst 1, 1) := by decide +kernel
theorem dX5_restore_3 : decode cX5_restore 3 = .ok (.invokestatic 54, 3) := by decide +kernel
theorem dX5_restore_6 : decode cX5_restore 6 = .ok (.ifCond .ne 6, 3) := by decide +kernel
theorem dX5_restore_9 : decode cX5_restore 9 = .ok (.bipush (-2), 2) := by decide +kernel
theorem dX5_restore_11 : decode cX5_restore 11 = .ok (.ireturn, 1) := by decide +kernel
theorem dX5_restore_12 : decode cX5_restore 12 = .ok (.aload_n 0, 1) := by decide +kernel
theorem dX5_restore_13 : decode cX5_restore 13 = .ok (.getfield 19, 3) := by decide +kernel
theorem dX5_restore_16 : decode cX5_restore 16 = .ok (.iload_n 1, 1) := by decide +kernel
theorem dX5_restore_17 : decode cX5_restore 17 = .ok (.iaload, 1) := by decide +kernel
theorem dX5_restore_18 : decode cX5_restore 18 = .ok (.ifCond .ne 6, 3) := by decide +kernel
theorem dX5_restore_21 : decode cX5_restore 21 = .ok (.bipush (-5), 2) := by decide +kernel
theorem dX5_restore_23 : decode cX5_restore 23 = .ok (.ireturn, 1) := by decide +kernel
theorem dX5_restore_24 : decode cX5_restore 24 = .ok (.aload_n 0, 1) := by decide +kernel
theorem dX5_restore_25 : decode cX5_restore 25 = .ok (.invokevirtual 99, 3) := by decide +kernel
theorem dX5_restore_28 : decode cX5_restore 28 = .ok (.aload_n 0, 1) := by decide +kernel
theorem dX5_restore_29 : decode cX5_restore 29 = .ok (.getfield 16, 3) := by decide +kernel
theorem dX5_restore_32 : decode cX5_restore 32 = .ok (.sipush 151, 3) := by decide +kernel
theorem dX5_restore_35 : decode cX5_restore 35 = .ok (.iload_n 1, 1) := by decide +kernel
theorem dX5_restore_36 : decode cX5_restore 36 = .ok (.imul, 1) := by decide +kernel
theorem dX5_restore_37 : decode cX5_restore 37 = .ok (.aload_n 0, 1) := by decide +kernel
theorem dX5_restore_38 : decode cX5_restore 38 = .ok (.getfield 7, 3) := by decide +kernel
theorem dX5_restore_41 : decode cX5_restore 41 = .ok (.iconst 0, 1) := by decide +kernel
theorem dX5_restore_42 : decode cX5_restore 42 = .ok (.invokestatic 50, 3) := by decide +kernel
theorem dX5_restore_45 : decode cX5_restore 45 = .ok (.aload_n 0, 1) := by decide +kernel
theorem dX5_restore_46 : decode cX5_restore 46 = .ok (.invokevirtual 187, 3) := by decide +kernel
theorem dX5_restore_49 : decode cX5_restore 49 = .ok (.ireturn, 1) := by decide +kernel

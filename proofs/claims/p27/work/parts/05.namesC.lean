theorem dX4_at_120 : decode cX4_at 120 = .ok (.ireturn, 1) := by decide +kernel
theorem dX4_at_121 : decode cX4_at 121 = .ok (.aload_n 0, 1) := by decide +kernel
theorem dX4_at_122 : decode cX4_at 122 = .ok (.getfield 19, 3) := by decide +kernel
theorem dX4_at_125 : decode cX4_at 125 = .ok (.iload 4, 2) := by decide +kernel
theorem dX4_at_127 : decode cX4_at 127 = .ok (.invokevirtual 125, 3) := by decide +kernel
theorem dX4_at_130 : decode cX4_at 130 = .ok (.aload_n 0, 1) := by decide +kernel
theorem dX4_at_131 : decode cX4_at 131 = .ok (.getfield 12, 3) := by decide +kernel
theorem dX4_at_134 : decode cX4_at 134 = .ok (.iconst 1, 1) := by decide +kernel
theorem dX4_at_135 : decode cX4_at 135 = .ok (.invokevirtual 128, 3) := by decide +kernel
theorem dX4_at_138 : decode cX4_at 138 = .ok (.imul, 1) := by decide +kernel
theorem dX4_at_139 : decode cX4_at 139 = .ok (.ireturn, 1) := by decide +kernel
theorem dX4_at_140 : decode cX4_at 140 = .ok (.aload_n 0, 1) := by decide +kernel
theorem dX4_at_141 : decode cX4_at 141 = .ok (.getfield 19, 3) := by decide +kernel
theorem dX4_at_144 : decode cX4_at 144 = .ok (.iload 4, 2) := by decide +kernel
theorem dX4_at_146 : decode cX4_at 146 = .ok (.invokevirtual 131, 3) := by decide +kernel
theorem dX4_at_149 : decode cX4_at 149 = .ok (.ireturn, 1) := by decide +kernel
set_option maxRecDepth 20000 in
theorem ggX4_of_X1_hasFilm : GoodIn wsX4_of wsX1_hasFilm := goodIn_r _ [7, 8, 9, 10, 6, 11, 12, 89] (by decide +kernel) (by decide +kernel)
set_option maxRecDepth 20000 in
theorem gX4_of_X1_hasFilm : GoodIn wsX4_of (wsV RX4 118 RX1 yX1_hasFilm wsX1_hasFilm) := goodIn_app (goodIn_of _ (by decide +kernel)) ggX4_of_X1_hasFilm
set_option maxRecDepth 20000 in
theorem ggX4_of_X4_isWithin : GoodIn wsX4_of wsX4_isWithin := goodIn_r _ [16] (by decide +kernel) (by decide +kernel)
set_option maxRecDepth 20000 in
theorem gX4_of_X4_isWithin : GoodIn wsX4_of (va_wsS RX4 46 yX4_isWithin wsX4_isWithin) := goodIn_app (goodIn_of _ (by decide +kernel)) ggX4_of_X4_isWithin
set_option maxRecDepth 20000 in
theorem ggX4_of_X1_fact : GoodIn wsX4_of wsX1_fact := goodIn_r _ [20, 12, 89] (by decide +kernel) (by decide +kernel)
set_option maxRecDepth 20000 in
theorem gX4_of_X1_fact : GoodIn wsX4_of (wsV RX4 134 RX1 yX1_fact wsX1_fact) := goodIn_app (goodIn_of _ (by decide +kernel)) ggX4_of_X1_fact
set_option maxRecDepth 20000 in
theorem ggX4_of_X1_firstDayShown : GoodIn wsX4_of wsX1_firstDayShown := goodIn_r _ [24, 25, 26, 27, 6, 28, 12, 89] (by decide +kernel) (by decide +kernel)
set_option maxRecDepth 20000 in
theorem gX4_of_X1_firstDayShown : GoodIn wsX4_of (wsV RX4 137 RX1 yX1_firstDayShown wsX1_firstDayShown) := goodIn_app (goodIn_of _ (by decide +kernel)) ggX4_of_X1_firstDayShown
set_option maxRecDepth 20000 in
theorem ggX4_of_X0_follow : GoodIn wsX4_of wsX0_follow := goodIn_r _ [33, 34, 35, 36, 37, 18, 19, 6, 20, 12, 38, 39, 40, 32, 41, 42, 43, 44, 45, 26, 27, 28, 46, 47, 48, 49, 50, 51, 52, 53, 54, 55, 56, 57, 58, 59, 60, 61, 62, 63, 64, 65, 66, 67, 68, 69, 70, 71, 72, 73, 74, 90, 91, 92, 93, 94, 95, 89] (by decide +kernel) (by decide +kernel)
set_option maxRecDepth 20000 in
theorem gX4_of_X0_follow : GoodIn wsX4_of (wsV RX4 121 RX0 yX0_follow wsX0_follow) := goodIn_app (goodIn_of _ (by decide +kernel)) ggX4_of_X0_follow
set_option maxRecDepth 20000 in
theorem ggX4_of_X0_leftAtEnd : GoodIn wsX4_of wsX0_leftAtEnd := goodIn_r _ [78, 36, 90, 91, 92, 93, 94, 95] (by decide +kernel) (by decide +kernel)
set_option maxRecDepth 20000 in
theorem gX4_of_X0_leftAtEnd : GoodIn wsX4_of (wsV RX4 140 RX0 yX0_leftAtEnd wsX0_leftAtEnd) := goodIn_app (goodIn_of _ (by decide +kernel)) ggX4_of_X0_leftAtEnd
set_option maxRecDepth 20000 in
theorem ggX4_of_X0_sum : GoodIn wsX4_of wsX0_sum := goodIn_r _ [82, 57, 58, 59, 32, 60, 44, 90, 91, 92, 93, 94, 95] (by decide +kernel) (by decide +kernel)
set_option maxRecDepth 20000 in
theorem gX4_of_X0_sum : GoodIn wsX4_of (wsV RX4 143 RX0 yX0_sum wsX0_sum) := goodIn_app (goodIn_of _ (by decide +kernel)) ggX4_of_X0_sum
theorem dX4_of_0 : decode cX4_of 0 = .ok (.aload_n 0, 1) := by decide +kernel
theorem dX4_of_1 : decode cX4_of 1 = .ok (.getfield 12, 3) := by decide +kernel
theorem dX4_of_4 : decode cX4_of 4 = .ok (.iload_n 1, 1) := by decide +kernel
theorem dX4_of_5 : decode cX4_of 5 = .ok (.invokevirtual 118, 3) := by decide +kernel
theorem dX4_of_8 : decode cX4_of 8 = .ok (.ifCond .ne 5, 3) := by decide +kernel
theorem dX4_of_11 : decode cX4_of 11 = .ok (.iconst (-1), 1) := by decide +kernel
theorem dX4_of_12 : decode cX4_of 12 = .ok (.ireturn, 1) := by decide +kernel
theorem dX4_of_13 : decode cX4_of 13 = .ok (.iload_n 2, 1) := by decide +kernel
theorem dX4_of_14 : decode cX4_of 14 = .ok (.iconst 0, 1) := by decide +kernel
theorem dX4_of_15 : decode cX4_of 15 = .ok (.bipush 10, 2) := by decide +kernel
theorem dX4_of_17 : decode cX4_of 17 = .ok (.invokestatic 46, 3) := by decide +kernel
theorem dX4_of_20 : decode cX4_of 20 = .ok (.ifCond .ne 6, 3) := by decide +kernel
theorem dX4_of_23 : decode cX4_of 23 = .ok (.bipush (-2), 2) := by decide +kernel
theorem dX4_of_25 : decode cX4_of 25 = .ok (.ireturn, 1) := by decide +kernel
theorem dX4_of_26 : decode cX4_of 26 = .ok (.iload_n 2, 1) := by decide +kernel
theorem dX4_of_27 : decode cX4_of 27 = .ok (.iconst 5, 1) := by decide +kernel
theorem dX4_of_28 : decode cX4_of 28 = .ok (.if_icmp .ge 13, 3) := by decide +kernel
theorem dX4_of_31 : decode cX4_of 31 = .ok (.aload_n 0, 1) := by decide +kernel
theorem dX4_of_32 : decode cX4_of 32 = .ok (.getfield 12, 3) := by decide +kernel
theorem dX4_of_35 : decode cX4_of 35 = .ok (.iload_n 1, 1) := by decide +kernel
theorem dX4_of_36 : decode cX4_of 36 = .ok (.iload_n 2, 1) := by decide +kernel
theorem dX4_of_37 : decode cX4_of 37 = .ok (.invokevirtual 134, 3) := by decide +kernel
theorem dX4_of_40 : decode cX4_of 40 = .ok (.ireturn, 1) := by decide +kernel
theorem dX4_of_41 : decode cX4_of 41 = .ok (.iload_n 2, 1) := by decide +kernel
theorem dX4_of_42 : decode cX4_of 42 = .ok (.bipush 10, 2) := by decide +kernel
theorem dX4_of_44 : decode cX4_of 44 = .ok (.if_icmp .ne 12, 3) := by decide +kernel
theorem dX4_of_47 : decode cX4_of 47 = .ok (.aload_n 0, 1) := by decide +kernel
theorem dX4_of_48 : decode cX4_of 48 = .ok (.getfield 12, 3) := by decide +kernel
theorem dX4_of_51 : decode cX4_of 51 = .ok (.iload_n 1, 1) := by decide +kernel
theorem dX4_of_52 : decode cX4_of 52 = .ok (.invokevirtual 137, 3) := by decide +kernel
theorem dX4_of_55 : decode cX4_of 55 = .ok (.ireturn, 1) := by decide +kernel
theorem dX4_of_56 : decode cX4_of 56 = .ok (.aload_n 0, 1) := by decide +kernel
theorem dX4_of_57 : decode cX4_of 57 = .ok (.getfield 19, 3) := by decide +kernel
theorem dX4_of_60 : decode cX4_of 60 = .ok (.aload_n 0, 1) := by decide +kernel
theorem dX4_of_61 : decode cX4_of 61 = .ok (.getfield 12, 3) := by decide +kernel
theorem dX4_of_64 : decode cX4_of 64 = .ok (.iload_n 1, 1) := by decide +kernel
theorem dX4_of_65 : decode cX4_of 65 = .ok (.invokevirtual 121, 3) := by decide +kernel
theorem dX4_of_68 : decode cX4_of 68 = .ok (.iload_n 2, 1) := by decide +kernel
theorem dX4_of_69 : decode cX4_of 69 = .ok (.bipush 9, 2) := by decide +kernel
theorem dX4_of_71 : decode cX4_of 71 = .ok (.if_icmp .ne 13, 3) := by decide +kernel
theorem dX4_of_74 : decode cX4_of 74 = .ok (.aload_n 0, 1) := by decide +kernel
theorem dX4_of_75 : decode cX4_of 75 = .ok (.getfield 19, 3) := by decide +kernel
theorem dX4_of_78 : decode cX4_of 78 = .ok (.invokevirtual 140, 3) := by decide +kernel
theorem dX4_of_81 : decode cX4_of 81 = .ok (.goto 13, 3) := by decide +kernel
theorem dX4_of_84 : decode cX4_of 84 = .ok (.aload_n 0, 1) := by decide +kernel
theorem dX4_of_85 : decode cX4_of 85 = .ok (.getfield 19, 3) := by decide +kernel
theorem dX4_of_88 : decode cX4_of 88 = .ok (.iload_n 2, 1) := by decide +kernel
theorem dX4_of_89 : decode cX4_of 89 = .ok (.iconst 5, 1) := by decide +kernel
theorem dX4_of_90 : decode cX4_of 90 = .ok (.isub, 1) := by decide +kernel
theorem dX4_of_91 : decode cX4_of 91 = .ok (.invokevirtual 143, 3) := by decide +kernel
theorem dX4_of_94 : decode cX4_of 94 = .ok (.ireturn, 1) := by decide +kernel
set_option maxRecDepth 20000 in
theorem ggX4_inWeek_X1_hasFilm : GoodIn wsX4_inWeek wsX1_hasFilm := goodIn_r _ [7, 8, 9, 10, 6, 11, 12, 87] (by decide +kernel) (by decide +kernel)
set_option maxRecDepth 20000 in
theorem gX4_inWeek_X1_hasFilm : GoodIn wsX4_inWeek (wsV RX4 118 RX1 yX1_hasFilm wsX1_hasFilm) := goodIn_app (goodIn_of _ (by decide +kernel)) ggX4_inWeek_X1_hasFilm
set_option maxRecDepth 20000 in
theorem ggX4_inWeek_X4_isWeek : GoodIn wsX4_inWeek wsX4_isWeek := goodIn_r _ [16, 17, 18, 15, 19] (by decide +kernel) (by decide +kernel)
set_option maxRecDepth 20000 in
theorem gX4_inWeek_X4_isWeek : GoodIn wsX4_inWeek (va_wsS RX4 146 yX4_isWeek wsX4_isWeek) := goodIn_app (goodIn_of _ (by decide +kernel)) ggX4_inWeek_X4_isWeek
set_option maxRecDepth 20000 in
theorem ggX4_inWeek_X4_isWithin : GoodIn wsX4_inWeek wsX4_isWithin := goodIn_r _ [19] (by decide +kernel) (by decide +kernel)
set_option maxRecDepth 20000 in
theorem gX4_inWeek_X4_isWithin : GoodIn wsX4_inWeek (va_wsS RX4 46 yX4_isWithin wsX4_isWithin) := goodIn_app (goodIn_of _ (by decide +kernel)) ggX4_inWeek_X4_isWithin
set_option maxRecDepth 20000 in
theorem ggX4_inWeek_X0_follow : GoodIn wsX4_inWeek wsX0_follow := goodIn_r _ [24, 25, 26, 27, 28, 29, 30, 6, 31, 12, 32, 33, 34, 23, 35, 36, 37, 38, 39, 40, 41, 42, 43, 44, 45, 46, 47, 48, 49, 50, 51, 52, 53, 54, 55, 56, 57, 58, 59, 60, 61, 62, 63, 64, 65, 66, 67, 68, 69, 70, 71, 88, 89, 90, 91, 92, 93, 87] (by decide +kernel) (by decide +kernel)
set_option maxRecDepth 20000 in
theorem gX4_inWeek_X0_follow : GoodIn wsX4_inWeek (wsV RX4 121 RX0 yX0_follow wsX0_follow) := goodIn_app (goodIn_of _ (by decide +kernel)) ggX4_inWeek_X0_follow
set_option maxRecDepth 20000 in
theorem ggX4_inWeek_X0_sumOfWeek : GoodIn wsX4_inWeek wsX0_sumOfWeek := goodIn_r _ [57, 38, 88, 89, 90, 91, 92, 93] (by decide +kernel) (by decide +kernel)
set_option maxRecDepth 20000 in
theorem gX4_inWeek_X0_sumOfWeek : GoodIn wsX4_inWeek (wsV RX4 149 RX0 yX0_sumOfWeek wsX0_sumOfWeek) := goodIn_app (goodIn_of _ (by decide +kernel)) ggX4_inWeek_X0_sumOfWeek
set_option maxRecDepth 20000 in
theorem ggX4_inWeek_X0_shareIn : GoodIn wsX4_inWeek wsX0_shareIn := goodIn_r _ [76, 26, 88, 89, 90, 91, 92, 93] (by decide +kernel) (by decide +kernel)
set_option maxRecDepth 20000 in
theorem gX4_inWeek_X0_shareIn : GoodIn wsX4_inWeek (wsV RX4 152 RX0 yX0_shareIn wsX0_shareIn) := goodIn_app (goodIn_of _ (by decide +kernel)) ggX4_inWeek_X0_shareIn
set_option maxRecDepth 20000 in
theorem ggX4_inWeek_X0_dueAboveShare : GoodIn wsX4_inWeek wsX0_dueAboveShare := goodIn_r _ [80, 54, 55, 56, 23, 57, 38, 68, 69, 70, 71, 26, 88, 89, 90, 91, 92, 93] (by decide +kernel) (by decide +kernel)
set_option maxRecDepth 20000 in
theorem gX4_inWeek_X0_dueAboveShare : GoodIn wsX4_inWeek (wsV RX4 155 RX0 yX0_dueAboveShare wsX0_dueAboveShare) := goodIn_app (goodIn_of _ (by decide +kernel)) ggX4_inWeek_X0_dueAboveShare
theorem dX4_inWeek_0 : decode cX4_inWeek 0 = .ok (.aload_n 0, 1) := by decide +kernel
theorem dX4_inWeek_1 : decode cX4_inWeek 1 = .ok (.getfield 12, 3) := by decide +kernel
theorem dX4_inWeek_4 : decode cX4_inWeek 4 = .ok (.iload_n 1, 1) := by decide +kernel
theorem dX4_inWeek_5 : decode cX4_inWeek 5 = .ok (.invokevirtual 118, 3) := by decide +kernel
theorem dX4_inWeek_8 : decode cX4_inWeek 8 = .ok (.ifCond .ne 5, 3) := by decide +kernel
theorem dX4_inWeek_11 : decode cX4_inWeek 11 = .ok (.iconst (-1), 1) := by decide +kernel
theorem dX4_inWeek_12 : decode cX4_inWeek 12 = .ok (.ireturn, 1) := by decide +kernel
theorem dX4_inWeek_13 : decode cX4_inWeek 13 = .ok (.iload_n 2, 1) := by decide +kernel
theorem dX4_inWeek_14 : decode cX4_inWeek 14 = .ok (.invokestatic 146, 3) := by decide +kernel
theorem dX4_inWeek_17 : decode cX4_inWeek 17 = .ok (.ifCond .eq 12, 3) := by decide +kernel
theorem dX4_inWeek_20 : decode cX4_inWeek 20 = .ok (.iload_n 3, 1) := by decide +kernel
theorem dX4_inWeek_21 : decode cX4_inWeek 21 = .ok (.iconst 0, 1) := by decide +kernel
theorem dX4_inWeek_22 : decode cX4_inWeek 22 = .ok (.iconst 3, 1) := by decide +kernel
theorem dX4_inWeek_23 : decode cX4_inWeek 23 = .ok (.invokestatic 46, 3) := by decide +kernel
theorem dX4_inWeek_26 : decode cX4_inWeek 26 = .ok (.ifCond .ne 6, 3) := by decide +kernel
theorem dX4_inWeek_29 : decode cX4_inWeek 29 = .ok (.bipush (-2), 2) := by decide +kernel
theorem dX4_inWeek_31 : decode cX4_inWeek 31 = .ok (.ireturn, 1) := by decide +kernel
theorem dX4_inWeek_32 : decode cX4_inWeek 32 = .ok (.aload_n 0, 1) := by decide +kernel
theorem dX4_inWeek_33 : decode cX4_inWeek 33 = .ok (.getfield 19, 3) := by decide +kernel
theorem dX4_inWeek_36 : decode cX4_inWeek 36 = .ok (.aload_n 0, 1) := by decide +kernel
theorem dX4_inWeek_37 : decode cX4_inWeek 37 = .ok (.getfield 12, 3) := by decide +kernel
theorem dX4_inWeek_40 : decode cX4_inWeek 40 = .ok (.iload_n 1, 1) := by decide +kernel
theorem dX4_inWeek_41 : decode cX4_inWeek 41 = .ok (.invokevirtual 121, 3) := by decide +kernel
theorem dX4_inWeek_44 : decode cX4_inWeek 44 = .ok (.iload_n 3, 1) := by decide +kernel
theorem dX4_inWeek_45 : decode cX4_inWeek 45 = .ok (.tableswitch 56 0 2 #[27, 37, 46], 27) := by decide +kernel
theorem dX4_inWeek_72 : decode cX4_inWeek 72 = .ok (.aload_n 0, 1) := by decide +kernel
theorem dX4_inWeek_73 : decode cX4_inWeek 73 = .ok (.getfield 19, 3) := by decide +kernel
theorem dX4_inWeek_76 : decode cX4_inWeek 76 = .ok (.iload_n 2, 1) := by decide +kernel
theorem dX4_inWeek_77 : decode cX4_inWeek 77 = .ok (.iconst 2, 1) := by decide +kernel
theorem dX4_inWeek_78 : decode cX4_inWeek 78 = .ok (.invokevirtual 149, 3) := by decide +kernel
theorem dX4_inWeek_81 : decode cX4_inWeek 81 = .ok (.ireturn, 1) := by decide +kernel
theorem dX4_inWeek_82 : decode cX4_inWeek 82 = .ok (.aload_n 0, 1) := by decide +kernel
theorem dX4_inWeek_83 : decode cX4_inWeek 83 = .ok (.getfield 19, 3) := by decide +kernel
theorem dX4_inWeek_86 : decode cX4_inWeek 86 = .ok (.iload_n 2, 1) := by decide +kernel
theorem dX4_inWeek_87 : decode cX4_inWeek 87 = .ok (.invokevirtual 152, 3) := by decide +kernel
theorem dX4_inWeek_90 : decode cX4_inWeek 90 = .ok (.ireturn, 1) := by decide +kernel
theorem dX4_inWeek_91 : decode cX4_inWeek 91 = .ok (.aload_n 0, 1) := by decide +kernel
theorem dX4_inWeek_92 : decode cX4_inWeek 92 = .ok (.getfield 19, 3) := by decide +kernel
theorem dX4_inWeek_95 : decode cX4_inWeek 95 = .ok (.iload_n 2, 1) := by decide +kernel
theorem dX4_inWeek_96 : decode cX4_inWeek 96 = .ok (.iconst 3, 1) := by decide +kernel
theorem dX4_inWeek_97 : decode cX4_inWeek 97 = .ok (.invokevirtual 149, 3) := by decide +kernel
theorem dX4_inWeek_100 : decode cX4_inWeek 100 = .ok (.ireturn, 1) := by decide +kernel
theorem dX4_inWeek_101 : decode cX4_inWeek 101 = .ok (.aload_n 0, 1) := by decide +kernel
theorem dX4_inWeek_102 : decode cX4_inWeek 102 = .ok (.getfield 19, 3) := by decide +kernel
theorem dX4_inWeek_105 : decode cX4_inWeek 105 = .ok (.iload_n 2, 1) := by decide +kernel
theorem dX4_inWeek_106 : decode cX4_inWeek 106 = .ok (.invokevirtual 155, 3) := by decide +kernel
theorem dX4_inWeek_109 : decode cX4_inWeek 109 = .ok (.ireturn, 1) := by decide +kernel
set_option maxRecDepth 20000 in
theorem ggX4_week_X4_isWeek : GoodIn wsX4_week wsX4_isWeek := goodIn_r _ [6, 7, 8, 5, 9] (by decide +kernel) (by decide +kernel)
set_option maxRecDepth 20000 in
theorem gX4_week_X4_isWeek : GoodIn wsX4_week (va_wsS RX4 146 yX4_isWeek wsX4_isWeek) := goodIn_app (goodIn_of _ (by decide +kernel)) ggX4_week_X4_isWeek
set_option maxRecDepth 20000 in
theorem ggX4_week_X4_isWithin : GoodIn wsX4_week wsX4_isWithin := goodIn_r _ [9] (by decide +kernel) (by decide +kernel)
set_option maxRecDepth 20000 in
theorem gX4_week_X4_isWithin : GoodIn wsX4_week (va_wsS RX4 46 yX4_isWithin wsX4_isWithin) := goodIn_app (goodIn_of _ (by decide +kernel)) ggX4_week_X4_isWithin
set_option maxRecDepth 20000 in
theorem ggX4_week_X4_sumOfFilmsInWeek : GoodIn wsX4_week wsX4_sumOfFilmsInWeek := goodIn_r _ [13, 1, 14, 15, 16, 17, 18, 19, 20, 21, 22, 23, 24, 25, 26, 27, 28, 29, 30, 31, 32, 33, 34, 35, 36, 37, 38, 39, 40, 41, 42, 43, 44, 45, 46, 47, 48, 49, 50, 51, 52, 53, 54, 55, 56, 57, 58, 59, 60, 61, 62, 63, 64, 65, 66, 67, 68, 69, 70, 71, 72, 73, 82, 83, 84, 85, 86, 87, 88, 89, 90, 91, 92, 93, 94] (by decide +kernel) (by decide +kernel)
set_option maxRecDepth 20000 in
theorem gX4_week_X4_sumOfFilmsInWeek : GoodIn wsX4_week (wsV RX4 158 RX4 yX4_sumOfFilmsInWeek wsX4_sumOfFilmsInWeek) := goodIn_app (goodIn_of _ (by decide +kernel)) ggX4_week_X4_sumOfFilmsInWeek
set_option maxRecDepth 20000 in
theorem ggX4_week_X1_rentsOf : GoodIn wsX4_week wsX1_rentsOf := goodIn_r _ [77, 78, 79, 80, 18, 81, 20, 88] (by decide +kernel) (by decide +kernel)
set_option maxRecDepth 20000 in
theorem gX4_week_X1_rentsOf : GoodIn wsX4_week (wsV RX4 161 RX1 yX1_rentsOf wsX1_rentsOf) := goodIn_app (goodIn_of _ (by decide +kernel)) ggX4_week_X1_rentsOf
theorem dX4_week_0 : decode cX4_week 0 = .ok (.iload_n 1, 1) := by decide +kernel
theorem dX4_week_1 : decode cX4_week 1 = .ok (.invokestatic 146, 3) := by decide +kernel
theorem dX4_week_4 : decode cX4_week 4 = .ok (.ifCond .eq 12, 3) := by decide +kernel
theorem dX4_week_7 : decode cX4_week 7 = .ok (.iload_n 2, 1) := by decide +kernel
theorem dX4_week_8 : decode cX4_week 8 = .ok (.iconst 0, 1) := by decide +kernel
theorem dX4_week_9 : decode cX4_week 9 = .ok (.iconst 4, 1) := by decide +kernel
theorem dX4_week_10 : decode cX4_week 10 = .ok (.invokestatic 46, 3) := by decide +kernel
theorem dX4_week_13 : decode cX4_week 13 = .ok (.ifCond .ne 6, 3) := by decide +kernel
theorem dX4_week_16 : decode cX4_week 16 = .ok (.bipush (-2), 2) := by decide +kernel
theorem dX4_week_18 : decode cX4_week 18 = .ok (.ireturn, 1) := by decide +kernel
theorem dX4_week_19 : decode cX4_week 19 = .ok (.aload_n 0, 1) := by decide +kernel
theorem dX4_week_20 : decode cX4_week 20 = .ok (.iload_n 1, 1) := by decide +kernel
theorem dX4_week_21 : decode cX4_week 21 = .ok (.iload_n 2, 1) := by decide +kernel
theorem dX4_week_22 : decode cX4_week 22 = .ok (.invokevirtual 158, 3) := by decide +kernel
theorem dX4_week_25 : decode cX4_week 25 = .ok (.istore_n 3, 1) := by decide +kernel
theorem dX4_week_26 : decode cX4_week 26 = .ok (.iload_n 2, 1) := by decide +kernel
theorem dX4_week_27 : decode cX4_week 27 = .ok (.iconst 4, 1) := by decide +kernel
theorem dX4_week_28 : decode cX4_week 28 = .ok (.if_icmp .eq 5, 3) := by decide +kernel
theorem dX4_week_31 : decode cX4_week 31 = .ok (.iload_n 3, 1) := by decide +kernel
theorem dX4_week_32 : decode cX4_week 32 = .ok (.ireturn, 1) := by decide +kernel
theorem dX4_week_33 : decode cX4_week 33 = .ok (.iload_n 1, 1) := by decide +kernel
theorem dX4_week_34 : decode cX4_week 34 = .ok (.bipush 7, 2) := by decide +kernel
theorem dX4_week_36 : decode cX4_week 36 = .ok (.imul, 1) := by decide +kernel
theorem dX4_week_37 : decode cX4_week 37 = .ok (.istore 4, 2) := by decide +kernel
theorem dX4_week_39 : decode cX4_week 39 = .ok (.iload_n 3, 1) := by decide +kernel
theorem dX4_week_40 : decode cX4_week 40 = .ok (.aload_n 0, 1) := by decide +kernel
theorem dX4_week_41 : decode cX4_week 41 = .ok (.getfield 12, 3) := by decide +kernel
theorem dX4_week_44 : decode cX4_week 44 = .ok (.iload 4, 2) := by decide +kernel
theorem dX4_week_46 : decode cX4_week 46 = .ok (.iload 4, 2) := by decide +kernel
theorem dX4_week_48 : decode cX4_week 48 = .ok (.bipush 7, 2) := by decide +kernel
theorem dX4_week_50 : decode cX4_week 50 = .ok (.iadd, 1) := by decide +kernel
theorem dX4_week_51 : decode cX4_week 51 = .ok (.invokevirtual 161, 3) := by decide +kernel
theorem dX4_week_54 : decode cX4_week 54 = .ok (.iadd, 1) := by decide +kernel
theorem dX4_week_55 : decode cX4_week 55 = .ok (.ldc 101, 2) := by decide +kernel
theorem dX4_week_57 : decode cX4_week 57 = .ok (.iadd, 1) := by decide +kernel
theorem dX4_week_58 : decode cX4_week 58 = .ok (.ireturn, 1) := by decide +kernel
set_option maxRecDepth 20000 in
theorem ggX4_rent_X4_isDay : GoodIn wsX4_rent wsX4_isDay := goodIn_r _ [5, 6, 7, 4, 8] (by decide +kernel) (by decide +kernel)
set_option maxRecDepth 20000 in
theorem gX4_rent_X4_isDay : GoodIn wsX4_rent (va_wsS RX4 65 yX4_isDay wsX4_isDay) := goodIn_app (goodIn_of _ (by decide +kernel)) ggX4_rent_X4_isDay
set_option maxRecDepth 20000 in
theorem ggX4_rent_X1_rentOf : GoodIn wsX4_rent wsX1_rentOf := goodIn_r _ [13, 14, 21] (by decide +kernel) (by decide +kernel)
set_option maxRecDepth 20000 in
theorem gX4_rent_X1_rentOf : GoodIn wsX4_rent (wsV RX4 167 RX1 yX1_rentOf wsX1_rentOf) := goodIn_app (goodIn_of _ (by decide +kernel)) ggX4_rent_X1_rentOf
theorem dX4_rent_0 : decode cX4_rent 0 = .ok (.iload_n 1, 1) := by decide +kernel
theorem dX4_rent_1 : decode cX4_rent 1 = .ok (.invokestatic 65, 3) := by decide +kernel
theorem dX4_rent_4 : decode cX4_rent 4 = .ok (.ifCond .eq 14, 3) := by decide +kernel
theorem dX4_rent_7 : decode cX4_rent 7 = .ok (.aload_n 0, 1) := by decide +kernel
theorem dX4_rent_8 : decode cX4_rent 8 = .ok (.getfield 12, 3) := by decide +kernel
theorem dX4_rent_11 : decode cX4_rent 11 = .ok (.iload_n 1, 1) := by decide +kernel
theorem dX4_rent_12 : decode cX4_rent 12 = .ok (.invokevirtual 167, 3) := by decide +kernel
theorem dX4_rent_15 : decode cX4_rent 15 = .ok (.goto 5, 3) := by decide +kernel
theorem dX4_rent_18 : decode cX4_rent 18 = .ok (.bipush (-2), 2) := by decide +kernel
theorem dX4_rent_20 : decode cX4_rent 20 = .ok (.ireturn, 1) := by decide +kernel
set_option maxRecDepth 20000 in
theorem ggX4_count_X4_isWithin : GoodIn wsX4_count wsX4_isWithin := goodIn_r _ [8] (by decide +kernel) (by decide +kernel)
set_option maxRecDepth 20000 in
theorem gX4_count_X4_isWithin : GoodIn wsX4_count (va_wsS RX4 46 yX4_isWithin wsX4_isWithin) := goodIn_app (goodIn_of _ (by decide +kernel)) ggX4_count_X4_isWithin
set_option maxRecDepth 20000 in
theorem ggX4_count_X1_setting : GoodIn wsX4_count wsX1_setting := goodIn_r _ [13, 14, 115] (by decide +kernel) (by decide +kernel)
set_option maxRecDepth 20000 in
theorem gX4_count_X1_setting : GoodIn wsX4_count (wsV RX4 128 RX1 yX1_setting wsX1_setting) := goodIn_app (goodIn_of _ (by decide +kernel)) ggX4_count_X1_setting
set_option maxRecDepth 20000 in
theorem ggX4_count_X1_films : GoodIn wsX4_count wsX1_films := goodIn_r _ [18, 14, 115] (by decide +kernel) (by decide +kernel)
set_option maxRecDepth 20000 in
theorem gX4_count_X1_films : GoodIn wsX4_count (wsV RX4 69 RX1 yX1_films wsX1_films) := goodIn_app (goodIn_of _ (by decide +kernel)) ggX4_count_X1_films
set_option maxRecDepth 20000 in
theorem ggX4_count_X4_sumOfFilms : GoodIn wsX4_count wsX4_sumOfFilms := goodIn_r _ [22, 1, 15, 16, 17, 12, 18, 14, 23, 24, 25, 7, 26, 27, 28, 29, 30, 31, 32, 33, 34, 35, 36, 37, 38, 39, 40, 41, 42, 43, 44, 45, 46, 47, 48, 49, 50, 51, 52, 53, 54, 55, 56, 57, 58, 10, 11, 13, 59, 60, 61, 62, 63, 64, 65, 66, 67, 68, 69, 70, 71, 72, 73, 74, 75, 76, 77, 78, 79, 80, 109, 110, 111, 112, 113, 114, 115, 116, 117, 118, 119, 120, 121] (by decide +kernel) (by decide +kernel)
set_option maxRecDepth 20000 in
theorem gX4_count_X4_sumOfFilms : GoodIn wsX4_count (wsV RX4 98 RX4 yX4_sumOfFilms wsX4_sumOfFilms) := goodIn_app (goodIn_of _ (by decide +kernel)) ggX4_count_X4_sumOfFilms
set_option maxRecDepth 20000 in
theorem ggX4_count_X1_rentsOf : GoodIn wsX4_count wsX1_rentsOf := goodIn_r _ [84, 85, 86, 87, 12, 88, 14, 115] (by decide +kernel) (by decide +kernel)
set_option maxRecDepth 20000 in
theorem gX4_count_X1_rentsOf : GoodIn wsX4_count (wsV RX4 161 RX1 yX1_rentsOf wsX1_rentsOf) := goodIn_app (goodIn_of _ (by decide +kernel)) ggX4_count_X1_rentsOf
set_option maxRecDepth 20000 in
theorem ggX4_count_X4_fullShows : GoodIn wsX4_count wsX4_fullShows := goodIn_r _ [92, 1, 27, 15, 16, 17, 12, 18, 14, 28, 29, 30, 31, 32, 33, 34, 35, 36, 37, 38, 39, 40, 41, 42, 43, 44, 45, 46, 47, 48, 49, 50, 51, 52, 53, 54, 55, 56, 57, 58, 10, 11, 13, 59, 60, 61, 62, 63, 64, 65, 66, 67, 68, 69, 70, 71, 72, 73, 74, 75, 76, 93, 94, 95, 96, 109, 110, 111, 112, 113, 114, 115, 116, 117, 118, 119, 120, 121] (by decide +kernel) (by decide +kernel)
set_option maxRecDepth 20000 in
theorem gX4_count_X4_fullShows : GoodIn wsX4_count (wsV RX4 170 RX4 yX4_fullShows wsX4_fullShows) := goodIn_app (goodIn_of _ (by decide +kernel)) ggX4_count_X4_fullShows
set_option maxRecDepth 20000 in
theorem ggX4_count_X3_length : GoodIn wsX4_count wsX3_length := goodIn_r _ [101, 102, 122, 123] (by decide +kernel) (by decide +kernel)
set_option maxRecDepth 20000 in
theorem gX4_count_X3_length : GoodIn wsX4_count (wsV RX4 173 RX3 yX3_length wsX3_length) := goodIn_app (goodIn_of _ (by decide +kernel)) ggX4_count_X3_length
set_option maxRecDepth 20000 in
theorem ggX4_count_X2_size : GoodIn wsX4_count wsX2_size := goodIn_r _ [107, 108, 124, 125, 126] (by decide +kernel) (by decide +kernel)
set_option maxRecDepth 20000 in
theorem gX4_count_X2_size : GoodIn wsX4_count (wsV RX4 176 RX2 yX2_size wsX2_size) := goodIn_app (goodIn_of _ (by decide +kernel)) ggX4_count_X2_size
theorem dX4_count_0 : decode cX4_count 0 = .ok (.iload_n 1, 1) := by decide +kernel
theorem dX4_count_1 : decode cX4_count 1 = .ok (.iconst 0, 1) := by decide +kernel
theorem dX4_count_2 : decode cX4_count 2 = .ok (.bipush 14, 2) := by decide +kernel
theorem dX4_count_4 : decode cX4_count 4 = .ok (.invokestatic 46, 3) := by decide +kernel
theorem dX4_count_7 : decode cX4_count 7 = .ok (.ifCond .ne 6, 3) := by decide +kernel
theorem dX4_count_10 : decode cX4_count 10 = .ok (.bipush (-2), 2) := by decide +kernel
theorem dX4_count_12 : decode cX4_count 12 = .ok (.ireturn, 1) := by decide +kernel
theorem dX4_count_13 : decode cX4_count 13 = .ok (.iload_n 1, 1) := by decide +kernel
theorem dX4_count_14 : decode cX4_count 14 = .ok (.bipush 8, 2) := by decide +kernel
theorem dX4_count_16 : decode cX4_count 16 = .ok (.bipush 12, 2) := by decide +kernel
theorem dX4_count_18 : decode cX4_count 18 = .ok (.invokestatic 46, 3) := by decide +kernel
theorem dX4_count_21 : decode cX4_count 21 = .ok (.ifCond .eq 15, 3) := by decide +kernel
theorem dX4_count_24 : decode cX4_count 24 = .ok (.aload_n 0, 1) := by decide +kernel
theorem dX4_count_25 : decode cX4_count 25 = .ok (.getfield 12, 3) := by decide +kernel
theorem dX4_count_28 : decode cX4_count 28 = .ok (.iload_n 1, 1) := by decide +kernel
theorem dX4_count_29 : decode cX4_count 29 = .ok (.bipush 8, 2) := by decide +kernel
theorem dX4_count_31 : decode cX4_count 31 = .ok (.isub, 1) := by decide +kernel
theorem dX4_count_32 : decode cX4_count 32 = .ok (.invokevirtual 128, 3) := by decide +kernel
theorem dX4_count_35 : decode cX4_count 35 = .ok (.ireturn, 1) := by decide +kernel
theorem dX4_count_36 : decode cX4_count 36 = .ok (.iload_n 1, 1) := by decide +kernel
theorem dX4_count_37 : decode cX4_count 37 = .ok (.tableswitch 135 0 14 #[75, 135, 135, 135, 135, 83, 103, 114, 135, 135, 135, 135, 135, 119, 127], 75) := by decide +kernel
theorem dX4_count_112 : decode cX4_count 112 = .ok (.aload_n 0, 1) := by decide +kernel
theorem dX4_count_113 : decode cX4_count 113 = .ok (.getfield 12, 3) := by decide +kernel
theorem dX4_count_116 : decode cX4_count 116 = .ok (.invokevirtual 69, 3) := by decide +kernel
theorem dX4_count_119 : decode cX4_count 119 = .ok (.ireturn, 1) := by decide +kernel
theorem dX4_count_120 : decode cX4_count 120 = .ok (.aload_n 0, 1) := by decide +kernel
theorem dX4_count_121 : decode cX4_count 121 = .ok (.iconst 4, 1) := by decide +kernel
theorem dX4_count_122 : decode cX4_count 122 = .ok (.invokevirtual 98, 3) := by decide +kernel
theorem dX4_count_125 : decode cX4_count 125 = .ok (.aload_n 0, 1) := by decide +kernel
theorem dX4_count_126 : decode cX4_count 126 = .ok (.getfield 12, 3) := by decide +kernel
theorem dX4_count_129 : decode cX4_count 129 = .ok (.iconst 0, 1) := by decide +kernel
theorem dX4_count_130 : decode cX4_count 130 = .ok (.bipush 35, 2) := by decide +kernel
theorem dX4_count_132 : decode cX4_count 132 = .ok (.invokevirtual 161, 3) := by decide +kernel
theorem dX4_count_135 : decode cX4_count 135 = .ok (.iadd, 1) := by decide +kernel
theorem dX4_count_136 : decode cX4_count 136 = .ok (.ldc 101, 2) := by decide +kernel
theorem dX4_count_138 : decode cX4_count 138 = .ok (.iadd, 1) := by decide +kernel
theorem dX4_count_139 : decode cX4_count 139 = .ok (.ireturn, 1) := by decide +kernel
theorem dX4_count_140 : decode cX4_count 140 = .ok (.aload_n 0, 1) := by decide +kernel
theorem dX4_count_141 : decode cX4_count 141 = .ok (.getfield 12, 3) := by decide +kernel
theorem dX4_count_144 : decode cX4_count 144 = .ok (.iconst 0, 1) := by decide +kernel
theorem dX4_count_145 : decode cX4_count 145 = .ok (.bipush 35, 2) := by decide +kernel
theorem dX4_count_147 : decode cX4_count 147 = .ok (.invokevirtual 161, 3) := by decide +kernel
theorem dX4_count_150 : decode cX4_count 150 = .ok (.ireturn, 1) := by decide +kernel
theorem dX4_count_151 : decode cX4_count 151 = .ok (.aload_n 0, 1) := by decide +kernel
theorem dX4_count_152 : decode cX4_count 152 = .ok (.invokevirtual 170, 3) := by decide +kernel
theorem dX4_count_155 : decode cX4_count 155 = .ok (.ireturn, 1) := by decide +kernel
theorem dX4_count_156 : decode cX4_count 156 = .ok (.aload_n 0, 1) := by decide +kernel
theorem dX4_count_157 : decode cX4_count 157 = .ok (.getfield 26, 3) := by decide +kernel
theorem dX4_count_160 : decode cX4_count 160 = .ok (.invokevirtual 173, 3) := by decide +kernel
theorem dX4_count_163 : decode cX4_count 163 = .ok (.ireturn, 1) := by decide +kernel
theorem dX4_count_164 : decode cX4_count 164 = .ok (.aload_n 0, 1) := by decide +kernel
theorem dX4_count_165 : decode cX4_count 165 = .ok (.getfield 33, 3) := by decide +kernel
theorem dX4_count_168 : decode cX4_count 168 = .ok (.invokevirtual 176, 3) := by decide +kernel
theorem dX4_count_171 : decode cX4_count 171 = .ok (.ireturn, 1) := by decide +kernel
theorem dX4_count_172 : decode cX4_count 172 = .ok (.aload_n 0, 1) := by decide +kernel
theorem dX4_count_173 : decode cX4_count 173 = .ok (.iload_n 1, 1) := by decide +kernel
theorem dX4_count_174 : decode cX4_count 174 = .ok (.iconst 1, 1) := by decide +kernel
theorem dX4_count_175 : decode cX4_count 175 = .ok (.isub, 1) := by decide +kernel
theorem dX4_count_176 : decode cX4_count 176 = .ok (.invokevirtual 98, 3) := by decide +kernel
theorem dX4_count_179 : decode cX4_count 179 = .ok (.ireturn, 1) := by decide +kernel
set_option maxRecDepth 20000 in
theorem ggX4_ifShown_X4_errorOfShow : GoodIn wsX4_ifShown wsX4_errorOfShow := goodIn_r _ [6, 7, 8, 9, 10, 11, 12, 13, 14, 15, 16, 17, 18, 19, 5, 20, 21, 22, 23, 24, 25, 26, 27, 28, 29, 30, 31, 32, 33, 34, 35, 36, 37, 38, 39, 110, 111, 112, 113, 114, 115, 116] (by decide +kernel) (by decide +kernel)
set_option maxRecDepth 20000 in
theorem gX4_ifShown_X4_errorOfShow : GoodIn wsX4_ifShown (wsV RX4 77 RX4 yX4_errorOfShow wsX4_errorOfShow) := goodIn_app (goodIn_of _ (by decide +kernel)) ggX4_ifShown_X4_errorOfShow
set_option maxRecDepth 20000 in
theorem ggX4_ifShown_X4_placeOf : GoodIn wsX4_ifShown wsX4_placeOf := goodIn_r _ [42] (by decide +kernel) (by decide +kernel)
set_option maxRecDepth 20000 in
theorem gX4_ifShown_X4_placeOf : GoodIn wsX4_ifShown (va_wsS RX4 81 yX4_placeOf wsX4_placeOf) := goodIn_app (goodIn_of _ (by decide +kernel)) ggX4_ifShown_X4_placeOf
set_option maxRecDepth 20000 in
theorem ggX4_ifShown_X4_gainWith : GoodIn wsX4_ifShown wsX4_gainWith := goodIn_r _ [46, 7, 47, 48, 49, 11, 50, 17, 51, 52, 53, 5, 54, 55, 8, 9, 10, 12, 13, 14, 15, 16, 56, 57, 58, 59, 60, 61, 62, 63, 64, 37, 38, 39, 65, 66, 67, 68, 69, 70, 71, 72, 73, 74, 75, 76, 77, 78, 79, 80, 81, 82, 83, 84, 85, 86, 87, 88, 89, 90, 91, 92, 93, 94, 95, 96, 97, 98, 99, 100, 101, 102, 103, 104, 105, 106, 107, 108, 109, 110, 111, 112, 113, 114, 115, 116, 117, 118, 119, 120, 121, 122] (by decide +kernel) (by decide +kernel)
set_option maxRecDepth 20000 in
theorem gX4_ifShown_X4_gainWith : GoodIn wsX4_ifShown (wsV RX4 179 RX4 yX4_gainWith wsX4_gainWith) := goodIn_app (goodIn_of _ (by decide +kernel)) ggX4_ifShown_X4_gainWith
theorem dX4_ifShown_0 : decode cX4_ifShown 0 = .ok (.aload_n 0, 1) := by decide +kernel
theorem dX4_ifShown_1 : decode cX4_ifShown 1 = .ok (.iload_n 1, 1) := by decide +kernel
theorem dX4_ifShown_2 : decode cX4_ifShown 2 = .ok (.iload_n 2, 1) := by decide +kernel
theorem dX4_ifShown_3 : decode cX4_ifShown 3 = .ok (.iload_n 3, 1) := by decide +kernel
theorem dX4_ifShown_4 : decode cX4_ifShown 4 = .ok (.invokevirtual 77, 3) := by decide +kernel
theorem dX4_ifShown_7 : decode cX4_ifShown 7 = .ok (.istore 4, 2) := by decide +kernel
theorem dX4_ifShown_9 : decode cX4_ifShown 9 = .ok (.iload 4, 2) := by decide +kernel
theorem dX4_ifShown_11 : decode cX4_ifShown 11 = .ok (.ifCond .eq 6, 3) := by decide +kernel
theorem dX4_ifShown_14 : decode cX4_ifShown 14 = .ok (.iload 4, 2) := by decide +kernel
theorem dX4_ifShown_16 : decode cX4_ifShown 16 = .ok (.ireturn, 1) := by decide +kernel
theorem dX4_ifShown_17 : decode cX4_ifShown 17 = .ok (.aload_n 0, 1) := by decide +kernel
theorem dX4_ifShown_18 : decode cX4_ifShown 18 = .ok (.iload_n 2, 1) := by decide +kernel
theorem dX4_ifShown_19 : decode cX4_ifShown 19 = .ok (.iload_n 3, 1) := by decide +kernel
theorem dX4_ifShown_20 : decode cX4_ifShown 20 = .ok (.invokestatic 81, 3) := by decide +kernel
theorem dX4_ifShown_23 : decode cX4_ifShown 23 = .ok (.iload_n 1, 1) := by decide +kernel
theorem dX4_ifShown_24 : decode cX4_ifShown 24 = .ok (.invokevirtual 179, 3) := by decide +kernel
theorem dX4_ifShown_27 : decode cX4_ifShown 27 = .ok (.ldc 101, 2) := by decide +kernel
theorem dX4_ifShown_29 : decode cX4_ifShown 29 = .ok (.iadd, 1) := by decide +kernel
theorem dX4_ifShown_30 : decode cX4_ifShown 30 = .ok (.ireturn, 1) := by decide +kernel
theorem dX4_isWithin_0 : decode cX4_isWithin 0 = .ok (.iload_n 0, 1) := by decide +kernel
theorem dX4_isWithin_1 : decode cX4_isWithin 1 = .ok (.iload_n 1, 1) := by decide +kernel
theorem dX4_isWithin_2 : decode cX4_isWithin 2 = .ok (.if_icmp .lt 12, 3) := by decide +kernel
theorem dX4_isWithin_5 : decode cX4_isWithin 5 = .ok (.iload_n 0, 1) := by decide +kernel
theorem dX4_isWithin_6 : decode cX4_isWithin 6 = .ok (.iload_n 2, 1) := by decide +kernel
theorem dX4_isWithin_7 : decode cX4_isWithin 7 = .ok (.if_icmp .gt 7, 3) := by decide +kernel
theorem dX4_isWithin_10 : decode cX4_isWithin 10 = .ok (.iconst 1, 1) := by decide +kernel
theorem dX4_isWithin_11 : decode cX4_isWithin 11 = .ok (.goto 4, 3) := by decide +kernel
theorem dX4_isWithin_14 : decode cX4_isWithin 14 = .ok (.iconst 0, 1) := by decide +kernel
theorem dX4_isWithin_15 : decode cX4_isWithin 15 = .ok (.ireturn, 1) := by decide +kernel
set_option maxRecDepth 20000 in
theorem ggX4_isDay_X4_isWithin : GoodIn wsX4_isDay wsX4_isWithin := goodIn_r _ [4] (by decide +kernel) (by decide +kernel)
set_option maxRecDepth 20000 in
theorem gX4_isDay_X4_isWithin : GoodIn wsX4_isDay (va_wsS RX4 46 yX4_isWithin wsX4_isWithin) := goodIn_app (goodIn_of _ (by decide +kernel)) ggX4_isDay_X4_isWithin
theorem dX4_isDay_0 : decode cX4_isDay 0 = .ok (.iload_n 0, 1) := by decide +kernel
theorem dX4_isDay_1 : decode cX4_isDay 1 = .ok (.iconst 0, 1) := by decide +kernel
theorem dX4_isDay_2 : decode cX4_isDay 2 = .ok (.bipush 34, 2) := by decide +kernel
theorem dX4_isDay_4 : decode cX4_isDay 4 = .ok (.invokestatic 46, 3) := by decide +kernel
theorem dX4_isDay_7 : decode cX4_isDay 7 = .ok (.ireturn, 1) := by decide +kernel
set_option maxRecDepth 20000 in
theorem ggX4_isWeek_X4_isWithin : GoodIn wsX4_isWeek wsX4_isWithin := goodIn_r _ [4] (by decide +kernel) (by decide +kernel)
set_option maxRecDepth 20000 in
theorem gX4_isWeek_X4_isWithin : GoodIn wsX4_isWeek (va_wsS RX4 46 yX4_isWithin wsX4_isWithin) := goodIn_app (goodIn_of _ (by decide +kernel)) ggX4_isWeek_X4_isWithin
theorem dX4_isWeek_0 : decode cX4_isWeek 0 = .ok (.iload_n 0, 1) := by decide +kernel
theorem dX4_isWeek_1 : decode cX4_isWeek 1 = .ok (.iconst 0, 1) := by decide +kernel
theorem dX4_isWeek_2 : decode cX4_isWeek 2 = .ok (.iconst 4, 1) := by decide +kernel
theorem dX4_isWeek_3 : decode cX4_isWeek 3 = .ok (.invokestatic 46, 3) := by decide +kernel
theorem dX4_isWeek_6 : decode cX4_isWeek 6 = .ok (.ireturn, 1) := by decide +kernel
set_option maxRecDepth 20000 in
theorem ggX4_isPlace_X4_isDay : GoodIn wsX4_isPlace wsX4_isDay := goodIn_r _ [4, 5, 6, 3, 7] (by decide +kernel) (by decide +kernel)
set_option maxRecDepth 20000 in
theorem gX4_isPlace_X4_isDay : GoodIn wsX4_isPlace (va_wsS RX4 65 yX4_isDay wsX4_isDay) := goodIn_app (goodIn_of _ (by decide +kernel)) ggX4_isPlace_X4_isDay
set_option maxRecDepth 20000 in
theorem ggX4_isPlace_X4_isWithin : GoodIn wsX4_isPlace wsX4_isWithin := goodIn_r _ [7] (by decide +kernel) (by decide +kernel)
set_option maxRecDepth 20000 in
theorem gX4_isPlace_X4_isWithin : GoodIn wsX4_isPlace (va_wsS RX4 46 yX4_isWithin wsX4_isWithin) := goodIn_app (goodIn_of _ (by decide +kernel)) ggX4_isPlace_X4_isWithin
theorem dX4_isPlace_0 : decode cX4_isPlace 0 = .ok (.iload_n 0, 1) := by decide +kernel
theorem dX4_isPlace_1 : decode cX4_isPlace 1 = .ok (.invokestatic 65, 3) := by decide +kernel
theorem dX4_isPlace_4 : decode cX4_isPlace 4 = .ok (.ifCond .eq 16, 3) := by decide +kernel
theorem dX4_isPlace_7 : decode cX4_isPlace 7 = .ok (.iload_n 1, 1) := by decide +kernel
theorem dX4_isPlace_8 : decode cX4_isPlace 8 = .ok (.iconst 0, 1) := by decide +kernel
theorem dX4_isPlace_9 : decode cX4_isPlace 9 = .ok (.iconst 1, 1) := by decide +kernel
theorem dX4_isPlace_10 : decode cX4_isPlace 10 = .ok (.invokestatic 46, 3) := by decide +kernel
theorem dX4_isPlace_13 : decode cX4_isPlace 13 = .ok (.ifCond .eq 7, 3) := by decide +kernel
theorem dX4_isPlace_16 : decode cX4_isPlace 16 = .ok (.iconst 1, 1) := by decide +kernel
theorem dX4_isPlace_17 : decode cX4_isPlace 17 = .ok (.goto 4, 3) := by decide +kernel
theorem dX4_isPlace_20 : decode cX4_isPlace 20 = .ok (.iconst 0, 1) := by decide +kernel
theorem dX4_isPlace_21 : decode cX4_isPlace 21 = .ok (.ireturn, 1) := by decide +kernel
theorem dX4_placeOf_0 : decode cX4_placeOf 0 = .ok (.iload_n 0, 1) := by decide +kernel
theorem dX4_placeOf_1 : decode cX4_placeOf 1 = .ok (.iconst 2, 1) := by decide +kernel
theorem dX4_placeOf_2 : decode cX4_placeOf 2 = .ok (.imul, 1) := by decide +kernel
theorem dX4_placeOf_3 : decode cX4_placeOf 3 = .ok (.iload_n 1, 1) := by decide +kernel
theorem dX4_placeOf_4 : decode cX4_placeOf 4 = .ok (.iadd, 1) := by decide +kernel
theorem dX4_placeOf_5 : decode cX4_placeOf 5 = .ok (.ireturn, 1) := by decide +kernel
set_option maxRecDepth 20000 in
theorem ggX4_errorOfShow_X1_hasFilm : GoodIn wsX4_errorOfShow wsX1_hasFilm := goodIn_r _ [6, 7, 8, 9, 5, 10, 11, 41] (by decide +kernel) (by decide +kernel)
set_option maxRecDepth 20000 in
theorem gX4_errorOfShow_X1_hasFilm : GoodIn wsX4_errorOfShow (wsV RX4 118 RX1 yX1_hasFilm wsX1_hasFilm) := goodIn_app (goodIn_of _ (by decide +kernel)) ggX4_errorOfShow_X1_hasFilm
set_option maxRecDepth 20000 in
theorem ggX4_errorOfShow_X4_isPlace : GoodIn wsX4_errorOfShow wsX4_isPlace := goodIn_r _ [15, 16, 17, 14, 18, 19, 20, 21] (by decide +kernel) (by decide +kernel)
set_option maxRecDepth 20000 in
theorem gX4_errorOfShow_X4_isPlace : GoodIn wsX4_errorOfShow (va_wsS RX4 87 yX4_isPlace wsX4_isPlace) := goodIn_app (goodIn_of _ (by decide +kernel)) ggX4_errorOfShow_X4_isPlace
set_option maxRecDepth 20000 in
theorem ggX4_errorOfShow_X1_canHold : GoodIn wsX4_errorOfShow wsX1_canHold := goodIn_r _ [25, 26, 27, 28, 5, 29, 11, 30, 3, 4, 6, 7, 8, 9, 10, 31, 32, 33, 34, 41] (by decide +kernel) (by decide +kernel)
set_option maxRecDepth 20000 in
theorem gX4_errorOfShow_X1_canHold : GoodIn wsX4_errorOfShow (wsV RX4 95 RX1 yX1_canHold wsX1_canHold) := goodIn_app (goodIn_of _ (by decide +kernel)) ggX4_errorOfShow_X1_canHold
theorem dX4_errorOfShow_0 : decode cX4_errorOfShow 0 = .ok (.aload_n 0, 1) := by decide +kernel
theorem dX4_errorOfShow_1 : decode cX4_errorOfShow 1 = .ok (.getfield 12, 3) := by decide +kernel
theorem dX4_errorOfShow_4 : decode cX4_errorOfShow 4 = .ok (.iload_n 1, 1) := by decide +kernel
theorem dX4_errorOfShow_5 : decode cX4_errorOfShow 5 = .ok (.invokevirtual 118, 3) := by decide +kernel
theorem dX4_errorOfShow_8 : decode cX4_errorOfShow 8 = .ok (.ifCond .ne 5, 3) := by decide +kernel
theorem dX4_errorOfShow_11 : decode cX4_errorOfShow 11 = .ok (.iconst (-1), 1) := by decide +kernel
theorem dX4_errorOfShow_12 : decode cX4_errorOfShow 12 = .ok (.ireturn, 1) := by decide +kernel
theorem dX4_errorOfShow_13 : decode cX4_errorOfShow 13 = .ok (.iload_n 2, 1) := by decide +kernel
theorem dX4_errorOfShow_14 : decode cX4_errorOfShow 14 = .ok (.iload_n 3, 1) := by decide +kernel
theorem dX4_errorOfShow_15 : decode cX4_errorOfShow 15 = .ok (.invokestatic 87, 3) := by decide +kernel
theorem dX4_errorOfShow_18 : decode cX4_errorOfShow 18 = .ok (.ifCond .ne 6, 3) := by decide +kernel
theorem dX4_errorOfShow_21 : decode cX4_errorOfShow 21 = .ok (.bipush (-2), 2) := by decide +kernel
theorem dX4_errorOfShow_23 : decode cX4_errorOfShow 23 = .ok (.ireturn, 1) := by decide +kernel
theorem dX4_errorOfShow_24 : decode cX4_errorOfShow 24 = .ok (.aload_n 0, 1) := by decide +kernel
theorem dX4_errorOfShow_25 : decode cX4_errorOfShow 25 = .ok (.getfield 12, 3) := by decide +kernel
theorem dX4_errorOfShow_28 : decode cX4_errorOfShow 28 = .ok (.iload_n 2, 1) := by decide +kernel
theorem dX4_errorOfShow_29 : decode cX4_errorOfShow 29 = .ok (.iload_n 1, 1) := by decide +kernel
theorem dX4_errorOfShow_30 : decode cX4_errorOfShow 30 = .ok (.invokevirtual 95, 3) := by decide +kernel
theorem dX4_errorOfShow_33 : decode cX4_errorOfShow 33 = .ok (.ifCond .eq 7, 3) := by decide +kernel
theorem dX4_errorOfShow_36 : decode cX4_errorOfShow 36 = .ok (.iconst 0, 1) := by decide +kernel
theorem dX4_errorOfShow_37 : decode cX4_errorOfShow 37 = .ok (.goto 5, 3) := by decide +kernel
theorem dX4_errorOfShow_40 : decode cX4_errorOfShow 40 = .ok (.bipush (-5), 2) := by decide +kernel
theorem dX4_errorOfShow_42 : decode cX4_errorOfShow 42 = .ok (.ireturn, 1) := by decide +kernel
set_option maxRecDepth 20000 in
theorem ggX4_dropShowsOfDay_X4_placeOf : GoodIn wsX4_dropShowsOfDay wsX4_placeOf := goodIn_r _ [5] (by decide +kernel) (by decide +kernel)
set_option maxRecDepth 20000 in
theorem gX4_dropShowsOfDay_X4_placeOf : GoodIn wsX4_dropShowsOfDay (va_wsS RX4 81 yX4_placeOf wsX4_placeOf) := goodIn_app (goodIn_of _ (by decide +kernel)) ggX4_dropShowsOfDay_X4_placeOf
set_option maxRecDepth 20000 in
theorem ggX4_dropShowsOfDay_X1_replaceShow : GoodIn wsX4_dropShowsOfDay wsX1_replaceShow := goodIn_r _ [10, 11, 18] (by decide +kernel) (by decide +kernel)
set_option maxRecDepth 20000 in
theorem gX4_dropShowsOfDay_X1_replaceShow : GoodIn wsX4_dropShowsOfDay (wsV RX4 84 RX1 yX1_replaceShow wsX1_replaceShow) := goodIn_app (goodIn_of _ (by decide +kernel)) ggX4_dropShowsOfDay_X1_replaceShow
theorem dX4_dropShowsOfDay_0 : decode cX4_dropShowsOfDay 0 = .ok (.iconst 0, 1) := by decide +kernel
theorem dX4_dropShowsOfDay_1 : decode cX4_dropShowsOfDay 1 = .ok (.istore_n 2, 1) := by decide +kernel
theorem dX4_dropShowsOfDay_2 : decode cX4_dropShowsOfDay 2 = .ok (.iconst 0, 1) := by decide +kernel
theorem dX4_dropShowsOfDay_3 : decode cX4_dropShowsOfDay 3 = .ok (.istore_n 3, 1) := by decide +kernel
theorem dX4_dropShowsOfDay_4 : decode cX4_dropShowsOfDay 4 = .ok (.iload_n 3, 1) := by decide +kernel
theorem dX4_dropShowsOfDay_5 : decode cX4_dropShowsOfDay 5 = .ok (.iconst 2, 1) := by decide +kernel
theorem dX4_dropShowsOfDay_6 : decode cX4_dropShowsOfDay 6 = .ok (.if_icmp .ge 31, 3) := by decide +kernel
theorem dX4_dropShowsOfDay_9 : decode cX4_dropShowsOfDay 9 = .ok (.aload_n 0, 1) := by decide +kernel
theorem dX4_dropShowsOfDay_10 : decode cX4_dropShowsOfDay 10 = .ok (.getfield 12, 3) := by decide +kernel
theorem dX4_dropShowsOfDay_13 : decode cX4_dropShowsOfDay 13 = .ok (.iload_n 1, 1) := by decide +kernel
theorem dX4_dropShowsOfDay_14 : decode cX4_dropShowsOfDay 14 = .ok (.iload_n 3, 1) := by decide +kernel
theorem dX4_dropShowsOfDay_15 : decode cX4_dropShowsOfDay 15 = .ok (.invokestatic 81, 3) := by decide +kernel
theorem dX4_dropShowsOfDay_18 : decode cX4_dropShowsOfDay 18 = .ok (.bipush (-6), 2) := by decide +kernel
theorem dX4_dropShowsOfDay_20 : decode cX4_dropShowsOfDay 20 = .ok (.invokevirtual 84, 3) := by decide +kernel
theorem dX4_dropShowsOfDay_23 : decode cX4_dropShowsOfDay 23 = .ok (.bipush (-6), 2) := by decide +kernel
theorem dX4_dropShowsOfDay_25 : decode cX4_dropShowsOfDay 25 = .ok (.if_icmp .eq 6, 3) := by decide +kernel
theorem dX4_dropShowsOfDay_28 : decode cX4_dropShowsOfDay 28 = .ok (.iinc 2 1, 3) := by decide +kernel
theorem dX4_dropShowsOfDay_31 : decode cX4_dropShowsOfDay 31 = .ok (.iinc 3 1, 3) := by decide +kernel
theorem dX4_dropShowsOfDay_34 : decode cX4_dropShowsOfDay 34 = .ok (.goto (-30), 3) := by decide +kernel
theorem dX4_dropShowsOfDay_37 : decode cX4_dropShowsOfDay 37 = .ok (.iload_n 2, 1) := by decide +kernel
theorem dX4_dropShowsOfDay_38 : decode cX4_dropShowsOfDay 38 = .ok (.ireturn, 1) := by decide +kernel
set_option maxRecDepth 20000 in
theorem ggX4_sumOfFilm_X0_follow : GoodIn wsX4_sumOfFilm wsX0_follow := goodIn_r _ [7, 8, 9, 10, 11, 12, 13, 14, 15, 16, 17, 18, 19, 6, 20, 21, 22, 23, 24, 25, 26, 27, 28, 29, 30, 31, 32, 33, 34, 35, 36, 37, 38, 39, 40, 41, 42, 43, 44, 45, 46, 47, 48, 49, 50, 51, 52, 53, 54, 55, 56, 67, 68, 69, 70, 71, 72, 73] (by decide +kernel) (by decide +kernel)
set_option maxRecDepth 20000 in
theorem gX4_sumOfFilm_X0_follow : GoodIn wsX4_sumOfFilm (wsV RX4 121 RX0 yX0_follow wsX0_follow) := goodIn_app (goodIn_of _ (by decide +kernel)) ggX4_sumOfFilm_X0_follow
set_option maxRecDepth 20000 in
theorem ggX4_sumOfFilm_X0_sum : GoodIn wsX4_sumOfFilm wsX0_sum := goodIn_r _ [60, 39, 40, 41, 6, 42, 23, 67, 68, 69, 70, 71, 72] (by decide +kernel) (by decide +kernel)
set_option maxRecDepth 20000 in
theorem gX4_sumOfFilm_X0_sum : GoodIn wsX4_sumOfFilm (wsV RX4 143 RX0 yX0_sum wsX0_sum) := goodIn_app (goodIn_of _ (by decide +kernel)) ggX4_sumOfFilm_X0_sum
theorem dX4_sumOfFilm_0 : decode cX4_sumOfFilm 0 = .ok (.aload_n 0, 1) := by decide +kernel
theorem dX4_sumOfFilm_1 : decode cX4_sumOfFilm 1 = .ok (.getfield 19, 3) := by decide +kernel
theorem dX4_sumOfFilm_4 : decode cX4_sumOfFilm 4 = .ok (.aload_n 0, 1) := by decide +kernel
theorem dX4_sumOfFilm_5 : decode cX4_sumOfFilm 5 = .ok (.getfield 12, 3) := by decide +kernel
theorem dX4_sumOfFilm_8 : decode cX4_sumOfFilm 8 = .ok (.iload_n 1, 1) := by decide +kernel
theorem dX4_sumOfFilm_9 : decode cX4_sumOfFilm 9 = .ok (.invokevirtual 121, 3) := by decide +kernel
theorem dX4_sumOfFilm_12 : decode cX4_sumOfFilm 12 = .ok (.aload_n 0, 1) := by decide +kernel
theorem dX4_sumOfFilm_13 : decode cX4_sumOfFilm 13 = .ok (.getfield 19, 3) := by decide +kernel
theorem dX4_sumOfFilm_16 : decode cX4_sumOfFilm 16 = .ok (.iload_n 2, 1) := by decide +kernel
theorem dX4_sumOfFilm_17 : decode cX4_sumOfFilm 17 = .ok (.invokevirtual 143, 3) := by decide +kernel
theorem dX4_sumOfFilm_20 : decode cX4_sumOfFilm 20 = .ok (.ireturn, 1) := by decide +kernel
set_option maxRecDepth 20000 in
theorem ggX4_sumOfFilms_X1_films : GoodIn wsX4_sumOfFilms wsX1_films := goodIn_r _ [6, 7, 76] (by decide +kernel) (by decide +kernel)
set_option maxRecDepth 20000 in
theorem gX4_sumOfFilms_X1_films : GoodIn wsX4_sumOfFilms (wsV RX4 69 RX1 yX1_films wsX1_films) := goodIn_app (goodIn_of _ (by decide +kernel)) ggX4_sumOfFilms_X1_films
set_option maxRecDepth 20000 in
theorem ggX4_sumOfFilms_X4_sumOfFilm : GoodIn wsX4_sumOfFilms wsX4_sumOfFilm := goodIn_r _ [12, 13, 1, 14, 15, 16, 17, 18, 19, 20, 21, 22, 23, 24, 5, 25, 7, 26, 27, 28, 29, 30, 31, 32, 33, 34, 35, 36, 37, 38, 39, 40, 41, 42, 43, 44, 45, 46, 47, 48, 49, 50, 51, 52, 53, 54, 55, 56, 57, 58, 59, 60, 61, 62, 63, 64, 65, 66, 67, 68, 69, 70, 71, 72, 73, 74, 75, 77, 78, 79, 80, 81, 82, 76] (by decide +kernel) (by decide +kernel)
set_option maxRecDepth 20000 in
theorem gX4_sumOfFilms_X4_sumOfFilm : GoodIn wsX4_sumOfFilms (wsV RX4 164 RX4 yX4_sumOfFilm wsX4_sumOfFilm) := goodIn_app (goodIn_of _ (by decide +kernel)) ggX4_sumOfFilms_X4_sumOfFilm
theorem dX4_sumOfFilms_0 : decode cX4_sumOfFilms 0 = .ok (.iconst 0, 1) := by decide +kernel
theorem dX4_sumOfFilms_1 : decode cX4_sumOfFilms 1 = .ok (.istore_n 2, 1) := by decide +kernel
theorem dX4_sumOfFilms_2 : decode cX4_sumOfFilms 2 = .ok (.iconst 0, 1) := by decide +kernel
theorem dX4_sumOfFilms_3 : decode cX4_sumOfFilms 3 = .ok (.istore_n 3, 1) := by decide +kernel
theorem dX4_sumOfFilms_4 : decode cX4_sumOfFilms 4 = .ok (.iload_n 3, 1) := by decide +kernel
theorem dX4_sumOfFilms_5 : decode cX4_sumOfFilms 5 = .ok (.aload_n 0, 1) := by decide +kernel
theorem dX4_sumOfFilms_6 : decode cX4_sumOfFilms 6 = .ok (.getfield 12, 3) := by decide +kernel
theorem dX4_sumOfFilms_9 : decode cX4_sumOfFilms 9 = .ok (.invokevirtual 69, 3) := by decide +kernel
theorem dX4_sumOfFilms_12 : decode cX4_sumOfFilms 12 = .ok (.if_icmp .ge 18, 3) := by decide +kernel
theorem dX4_sumOfFilms_15 : decode cX4_sumOfFilms 15 = .ok (.iload_n 2, 1) := by decide +kernel
theorem dX4_sumOfFilms_16 : decode cX4_sumOfFilms 16 = .ok (.aload_n 0, 1) := by decide +kernel
theorem dX4_sumOfFilms_17 : decode cX4_sumOfFilms 17 = .ok (.iload_n 3, 1) := by decide +kernel
theorem dX4_sumOfFilms_18 : decode cX4_sumOfFilms 18 = .ok (.iload_n 1, 1) := by decide +kernel
theorem dX4_sumOfFilms_19 : decode cX4_sumOfFilms 19 = .ok (.invokevirtual 164, 3) := by decide +kernel
theorem dX4_sumOfFilms_22 : decode cX4_sumOfFilms 22 = .ok (.iadd, 1) := by decide +kernel
theorem dX4_sumOfFilms_23 : decode cX4_sumOfFilms 23 = .ok (.istore_n 2, 1) := by decide +kernel
theorem dX4_sumOfFilms_24 : decode cX4_sumOfFilms 24 = .ok (.iinc 3 1, 3) := by decide +kernel
theorem dX4_sumOfFilms_27 : decode cX4_sumOfFilms 27 = .ok (.goto (-23), 3) := by decide +kernel
theorem dX4_sumOfFilms_30 : decode cX4_sumOfFilms 30 = .ok (.iload_n 2, 1) := by decide +kernel
theorem dX4_sumOfFilms_31 : decode cX4_sumOfFilms 31 = .ok (.ireturn, 1) := by decide +kernel
set_option maxRecDepth 20000 in
theorem ggX4_sumOfFilmsInWeek_X1_films : GoodIn wsX4_sumOfFilmsInWeek wsX1_films := goodIn_r _ [7, 8, 68] (by decide +kernel) (by decide +kernel)
set_option maxRecDepth 20000 in
theorem gX4_sumOfFilmsInWeek_X1_films : GoodIn wsX4_sumOfFilmsInWeek (wsV RX4 69 RX1 yX1_films wsX1_films) := goodIn_app (goodIn_of _ (by decide +kernel)) ggX4_sumOfFilmsInWeek_X1_films
set_option maxRecDepth 20000 in
theorem ggX4_sumOfFilmsInWeek_X0_follow : GoodIn wsX4_sumOfFilmsInWeek wsX0_follow := goodIn_r _ [13, 14, 15, 16, 17, 18, 19, 6, 20, 8, 21, 22, 23, 12, 24, 25, 26, 27, 28, 29, 30, 31, 32, 33, 34, 35, 36, 37, 38, 39, 40, 41, 42, 43, 44, 45, 46, 47, 48, 49, 50, 51, 52, 53, 54, 55, 56, 57, 58, 59, 60, 69, 70, 71, 72, 73, 74, 68] (by decide +kernel) (by decide +kernel)
set_option maxRecDepth 20000 in
theorem gX4_sumOfFilmsInWeek_X0_follow : GoodIn wsX4_sumOfFilmsInWeek (wsV RX4 121 RX0 yX0_follow wsX0_follow) := goodIn_app (goodIn_of _ (by decide +kernel)) ggX4_sumOfFilmsInWeek_X0_follow
set_option maxRecDepth 20000 in
theorem ggX4_sumOfFilmsInWeek_X0_sumOfWeek : GoodIn wsX4_sumOfFilmsInWeek wsX0_sumOfWeek := goodIn_r _ [46, 27, 69, 70, 71, 72, 73, 74] (by decide +kernel) (by decide +kernel)
set_option maxRecDepth 20000 in
theorem gX4_sumOfFilmsInWeek_X0_sumOfWeek : GoodIn wsX4_sumOfFilmsInWeek (wsV RX4 149 RX0 yX0_sumOfWeek wsX0_sumOfWeek) := goodIn_app (goodIn_of _ (by decide +kernel)) ggX4_sumOfFilmsInWeek_X0_sumOfWeek
theorem dX4_sumOfFilmsInWeek_0 : decode cX4_sumOfFilmsInWeek 0 = .ok (.iconst 0, 1) := by decide +kernel
theorem dX4_sumOfFilmsInWeek_1 : decode cX4_sumOfFilmsInWeek 1 = .ok (.istore_n 3, 1) := by decide +kernel
theorem dX4_sumOfFilmsInWeek_2 : decode cX4_sumOfFilmsInWeek 2 = .ok (.iconst 0, 1) := by decide +kernel
theorem dX4_sumOfFilmsInWeek_3 : decode cX4_sumOfFilmsInWeek 3 = .ok (.istore 4, 2) := by decide +kernel
theorem dX4_sumOfFilmsInWeek_5 : decode cX4_sumOfFilmsInWeek 5 = .ok (.iload 4, 2) := by decide +kernel
theorem dX4_sumOfFilmsInWeek_7 : decode cX4_sumOfFilmsInWeek 7 = .ok (.aload_n 0, 1) := by decide +kernel
theorem dX4_sumOfFilmsInWeek_8 : decode cX4_sumOfFilmsInWeek 8 = .ok (.getfield 12, 3) := by decide +kernel
theorem dX4_sumOfFilmsInWeek_11 : decode cX4_sumOfFilmsInWeek 11 = .ok (.invokevirtual 69, 3) := by decide +kernel
theorem dX4_sumOfFilmsInWeek_14 : decode cX4_sumOfFilmsInWeek 14 = .ok (.if_icmp .ge 34, 3) := by decide +kernel
theorem dX4_sumOfFilmsInWeek_17 : decode cX4_sumOfFilmsInWeek 17 = .ok (.aload_n 0, 1) := by decide +kernel
theorem dX4_sumOfFilmsInWeek_18 : decode cX4_sumOfFilmsInWeek 18 = .ok (.getfield 19, 3) := by decide +kernel
theorem dX4_sumOfFilmsInWeek_21 : decode cX4_sumOfFilmsInWeek 21 = .ok (.aload_n 0, 1) := by decide +kernel
theorem dX4_sumOfFilmsInWeek_22 : decode cX4_sumOfFilmsInWeek 22 = .ok (.getfield 12, 3) := by decide +kernel
theorem dX4_sumOfFilmsInWeek_25 : decode cX4_sumOfFilmsInWeek 25 = .ok (.iload 4, 2) := by decide +kernel
theorem dX4_sumOfFilmsInWeek_27 : decode cX4_sumOfFilmsInWeek 27 = .ok (.invokevirtual 121, 3) := by decide +kernel
theorem dX4_sumOfFilmsInWeek_30 : decode cX4_sumOfFilmsInWeek 30 = .ok (.iload_n 3, 1) := by decide +kernel
theorem dX4_sumOfFilmsInWeek_31 : decode cX4_sumOfFilmsInWeek 31 = .ok (.aload_n 0, 1) := by decide +kernel
theorem dX4_sumOfFilmsInWeek_32 : decode cX4_sumOfFilmsInWeek 32 = .ok (.getfield 19, 3) := by decide +kernel
theorem dX4_sumOfFilmsInWeek_35 : decode cX4_sumOfFilmsInWeek 35 = .ok (.iload_n 1, 1) := by decide +kernel
theorem dX4_sumOfFilmsInWeek_36 : decode cX4_sumOfFilmsInWeek 36 = .ok (.iload_n 2, 1) := by decide +kernel
theorem dX4_sumOfFilmsInWeek_37 : decode cX4_sumOfFilmsInWeek 37 = .ok (.invokevirtual 149, 3) := by decide +kernel
theorem dX4_sumOfFilmsInWeek_40 : decode cX4_sumOfFilmsInWeek 40 = .ok (.iadd, 1) := by decide +kernel
theorem dX4_sumOfFilmsInWeek_41 : decode cX4_sumOfFilmsInWeek 41 = .ok (.istore_n 3, 1) := by decide +kernel
theorem dX4_sumOfFilmsInWeek_42 : decode cX4_sumOfFilmsInWeek 42 = .ok (.iinc 4 1, 3) := by decide +kernel
theorem dX4_sumOfFilmsInWeek_45 : decode cX4_sumOfFilmsInWeek 45 = .ok (.goto (-40), 3) := by decide +kernel
theorem dX4_sumOfFilmsInWeek_48 : decode cX4_sumOfFilmsInWeek 48 = .ok (.iload_n 3, 1) := by decide +kernel
theorem dX4_sumOfFilmsInWeek_49 : decode cX4_sumOfFilmsInWeek 49 = .ok (.ireturn, 1) := by decide +kernel
set_option maxRecDepth 20000 in
theorem ggX4_fullShows_X1_films : GoodIn wsX4_fullShows wsX1_films := goodIn_r _ [7, 8, 71] (by decide +kernel) (by decide +kernel)
set_option maxRecDepth 20000 in
theorem gX4_fullShows_X1_films : GoodIn wsX4_fullShows (wsV RX4 69 RX1 yX1_films wsX1_films) := goodIn_app (goodIn_of _ (by decide +kernel)) ggX4_fullShows_X1_films
set_option maxRecDepth 20000 in
theorem ggX4_fullShows_X0_follow : GoodIn wsX4_fullShows wsX0_follow := goodIn_r _ [13, 14, 15, 16, 17, 18, 19, 6, 20, 8, 21, 22, 23, 12, 24, 25, 26, 27, 28, 29, 30, 31, 32, 33, 34, 35, 36, 37, 38, 39, 40, 41, 42, 43, 44, 45, 46, 47, 48, 49, 50, 51, 52, 53, 54, 55, 56, 57, 58, 59, 60, 72, 73, 74, 75, 76, 77, 71] (by decide +kernel) (by decide +kernel)
set_option maxRecDepth 20000 in
theorem gX4_fullShows_X0_follow : GoodIn wsX4_fullShows (wsV RX4 121 RX0 yX0_follow wsX0_follow) := goodIn_app (goodIn_of _ (by decide +kernel)) ggX4_fullShows_X0_follow
set_option maxRecDepth 20000 in
theorem ggX4_fullShows_X0_fullShows : GoodIn wsX4_fullShows wsX0_fullShows := goodIn_r _ [64, 14, 72, 73, 74, 75, 76, 77] (by decide +kernel) (by decide +kernel)
set_option maxRecDepth 20000 in
theorem gX4_fullShows_X0_fullShows : GoodIn wsX4_fullShows (wsV RX4 211 RX0 yX0_fullShows wsX0_fullShows) := goodIn_app (goodIn_of _ (by decide +kernel)) ggX4_fullShows_X0_fullShows
theorem dX4_fullShows_0 : decode cX4_fullShows 0 = .ok (.iconst 0, 1) := by decide +kernel
theorem dX4_fullShows_1 : decode cX4_fullShows 1 = .ok (.istore_n 1, 1) := by decide +kernel
theorem dX4_fullShows_2 : decode cX4_fullShows 2 = .ok (.iconst 0, 1) := by decide +kernel
theorem dX4_fullShows_3 : decode cX4_fullShows 3 = .ok (.istore_n 2, 1) := by decide +kernel
theorem dX4_fullShows_4 : decode cX4_fullShows 4 = .ok (.iload_n 2, 1) := by decide +kernel
theorem dX4_fullShows_5 : decode cX4_fullShows 5 = .ok (.aload_n 0, 1) := by decide +kernel
theorem dX4_fullShows_6 : decode cX4_fullShows 6 = .ok (.getfield 12, 3) := by decide +kernel
theorem dX4_fullShows_9 : decode cX4_fullShows 9 = .ok (.invokevirtual 69, 3) := by decide +kernel
theorem dX4_fullShows_12 : decode cX4_fullShows 12 = .ok (.if_icmp .ge 31, 3) := by decide +kernel
theorem dX4_fullShows_15 : decode cX4_fullShows 15 = .ok (.aload_n 0, 1) := by decide +kernel
theorem dX4_fullShows_16 : decode cX4_fullShows 16 = .ok (.getfield 19, 3) := by decide +kernel
theorem dX4_fullShows_19 : decode cX4_fullShows 19 = .ok (.aload_n 0, 1) := by decide +kernel
theorem dX4_fullShows_20 : decode cX4_fullShows 20 = .ok (.getfield 12, 3) := by decide +kernel
theorem dX4_fullShows_23 : decode cX4_fullShows 23 = .ok (.iload_n 2, 1) := by decide +kernel
theorem dX4_fullShows_24 : decode cX4_fullShows 24 = .ok (.invokevirtual 121, 3) := by decide +kernel
theorem dX4_fullShows_27 : decode cX4_fullShows 27 = .ok (.iload_n 1, 1) := by decide +kernel
theorem dX4_fullShows_28 : decode cX4_fullShows 28 = .ok (.aload_n 0, 1) := by decide +kernel
theorem dX4_fullShows_29 : decode cX4_fullShows 29 = .ok (.getfield 19, 3) := by decide +kernel
theorem dX4_fullShows_32 : decode cX4_fullShows 32 = .ok (.invokevirtual 211, 3) := by decide +kernel
theorem dX4_fullShows_35 : decode cX4_fullShows 35 = .ok (.iadd, 1) := by decide +kernel
theorem dX4_fullShows_36 : decode cX4_fullShows 36 = .ok (.istore_n 1, 1) := by decide +kernel
theorem dX4_fullShows_37 : decode cX4_fullShows 37 = .ok (.iinc 2 1, 3) := by decide +kernel
theorem dX4_fullShows_40 : decode cX4_fullShows 40 = .ok (.goto (-36), 3) := by decide +kernel
theorem dX4_fullShows_43 : decode cX4_fullShows 43 = .ok (.iload_n 1, 1) := by decide +kernel
theorem dX4_fullShows_44 : decode cX4_fullShows 44 = .ok (.ireturn, 1) := by decide +kernel
set_option maxRecDepth 20000 in
theorem ggX4_leftOfFilm_X1_hasFilm : GoodIn wsX4_leftOfFilm wsX1_hasFilm := goodIn_r _ [7, 8, 9, 10, 6, 11, 12, 75] (by decide +kernel) (by decide +kernel)
set_option maxRecDepth 20000 in
theorem gX4_leftOfFilm_X1_hasFilm : GoodIn wsX4_leftOfFilm (wsV RX4 118 RX1 yX1_hasFilm wsX1_hasFilm) := goodIn_app (goodIn_of _ (by decide +kernel)) ggX4_leftOfFilm_X1_hasFilm
set_option maxRecDepth 20000 in
theorem ggX4_leftOfFilm_X0_follow : GoodIn wsX4_leftOfFilm wsX0_follow := goodIn_r _ [17, 18, 19, 20, 21, 22, 23, 6, 24, 12, 25, 26, 27, 16, 28, 29, 30, 31, 32, 33, 34, 35, 36, 37, 38, 39, 40, 41, 42, 43, 44, 45, 46, 47, 48, 49, 50, 51, 52, 53, 54, 55, 56, 57, 58, 59, 60, 61, 62, 63, 64, 76, 77, 78, 79, 80, 81, 75] (by decide +kernel) (by decide +kernel)
set_option maxRecDepth 20000 in
theorem gX4_leftOfFilm_X0_follow : GoodIn wsX4_leftOfFilm (wsV RX4 121 RX0 yX0_follow wsX0_follow) := goodIn_app (goodIn_of _ (by decide +kernel)) ggX4_leftOfFilm_X0_follow
set_option maxRecDepth 20000 in
theorem ggX4_leftOfFilm_X0_sum : GoodIn wsX4_leftOfFilm wsX0_sum := goodIn_r _ [68, 47, 48, 49, 16, 50, 31, 76, 77, 78, 79, 80, 81] (by decide +kernel) (by decide +kernel)
set_option maxRecDepth 20000 in
theorem gX4_leftOfFilm_X0_sum : GoodIn wsX4_leftOfFilm (wsV RX4 143 RX0 yX0_sum wsX0_sum) := goodIn_app (goodIn_of _ (by decide +kernel)) ggX4_leftOfFilm_X0_sum
theorem dX4_leftOfFilm_0 : decode cX4_leftOfFilm 0 = .ok (.aload_n 0, 1) := by decide +kernel
theorem dX4_leftOfFilm_1 : decode cX4_leftOfFilm 1 = .ok (.getfield 12, 3) := by decide +kernel
theorem dX4_leftOfFilm_4 : decode cX4_leftOfFilm 4 = .ok (.iload_n 1, 1) := by decide +kernel
theorem dX4_leftOfFilm_5 : decode cX4_leftOfFilm 5 = .ok (.invokevirtual 118, 3) := by decide +kernel
theorem dX4_leftOfFilm_8 : decode cX4_leftOfFilm 8 = .ok (.ifCond .ne 5, 3) := by decide +kernel
theorem dX4_leftOfFilm_11 : decode cX4_leftOfFilm 11 = .ok (.iconst 0, 1) := by decide +kernel
theorem dX4_leftOfFilm_12 : decode cX4_leftOfFilm 12 = .ok (.ireturn, 1) := by decide +kernel
theorem dX4_leftOfFilm_13 : decode cX4_leftOfFilm 13 = .ok (.aload_n 0, 1) := by decide +kernel
theorem dX4_leftOfFilm_14 : decode cX4_leftOfFilm 14 = .ok (.getfield 19, 3) := by decide +kernel
theorem dX4_leftOfFilm_17 : decode cX4_leftOfFilm 17 = .ok (.aload_n 0, 1) := by decide +kernel
theorem dX4_leftOfFilm_18 : decode cX4_leftOfFilm 18 = .ok (.getfield 12, 3) := by decide +kernel
theorem dX4_leftOfFilm_21 : decode cX4_leftOfFilm 21 = .ok (.iload_n 1, 1) := by decide +kernel
theorem dX4_leftOfFilm_22 : decode cX4_leftOfFilm 22 = .ok (.invokevirtual 121, 3) := by decide +kernel
theorem dX4_leftOfFilm_25 : decode cX4_leftOfFilm 25 = .ok (.aload_n 0, 1) := by decide +kernel
theorem dX4_leftOfFilm_26 : decode cX4_leftOfFilm 26 = .ok (.getfield 19, 3) := by decide +kernel
theorem dX4_leftOfFilm_29 : decode cX4_leftOfFilm 29 = .ok (.iconst 4, 1) := by decide +kernel
theorem dX4_leftOfFilm_30 : decode cX4_leftOfFilm 30 = .ok (.invokevirtual 143, 3) := by decide +kernel
theorem dX4_leftOfFilm_33 : decode cX4_leftOfFilm 33 = .ok (.ireturn, 1) := by decide +kernel
set_option maxRecDepth 20000 in
theorem ggX4_gainWith_X1_showAt : GoodIn wsX4_gainWith wsX1_showAt := goodIn_r _ [6, 7, 85] (by decide +kernel) (by decide +kernel)
set_option maxRecDepth 20000 in
theorem gX4_gainWith_X1_showAt : GoodIn wsX4_gainWith (wsV RX4 91 RX1 yX1_showAt wsX1_showAt) := goodIn_app (goodIn_of _ (by decide +kernel)) ggX4_gainWith_X1_showAt
set_option maxRecDepth 20000 in
theorem ggX4_gainWith_X4_leftOfFilm : GoodIn wsX4_gainWith wsX4_leftOfFilm := goodIn_r _ [12, 1, 13, 14, 15, 16, 5, 17, 18, 19, 20, 21, 7, 22, 23, 24, 25, 26, 27, 28, 29, 30, 31, 32, 33, 34, 35, 36, 37, 38, 39, 40, 41, 3, 4, 6, 42, 43, 44, 45, 46, 47, 48, 49, 50, 51, 52, 53, 54, 55, 56, 57, 58, 59, 60, 61, 62, 63, 64, 65, 66, 67, 68, 69, 70, 71, 72, 73, 74, 79, 80, 81, 82, 83, 84, 85, 86, 87, 88, 89, 90, 91] (by decide +kernel) (by decide +kernel)
set_option maxRecDepth 20000 in
theorem gX4_gainWith_X4_leftOfFilm : GoodIn wsX4_gainWith (wsV RX4 212 RX4 yX4_leftOfFilm wsX4_leftOfFilm) := goodIn_app (goodIn_of _ (by decide +kernel)) ggX4_gainWith_X4_leftOfFilm
set_option maxRecDepth 20000 in
theorem ggX4_gainWith_X1_replaceShow : GoodIn wsX4_gainWith wsX1_replaceShow := goodIn_r _ [78, 7, 85] (by decide +kernel) (by decide +kernel)
set_option maxRecDepth 20000 in
theorem gX4_gainWith_X1_replaceShow : GoodIn wsX4_gainWith (wsV RX4 84 RX1 yX1_replaceShow wsX1_replaceShow) := goodIn_app (goodIn_of _ (by decide +kernel)) ggX4_gainWith_X1_replaceShow
theorem dX4_gainWith_0 : decode cX4_gainWith 0 = .ok (.aload_n 0, 1) := by decide +kernel
theorem dX4_gainWith_1 : decode cX4_gainWith 1 = .ok (.getfield 12, 3) := by decide +kernel
theorem dX4_gainWith_4 : decode cX4_gainWith 4 = .ok (.iload_n 1, 1) := by decide +kernel
theorem dX4_gainWith_5 : decode cX4_gainWith 5 = .ok (.invokevirtual 91, 3) := by decide +kernel
theorem dX4_gainWith_8 : decode cX4_gainWith 8 = .ok (.istore_n 3, 1) := by decide +kernel
theorem dX4_gainWith_9 : decode cX4_gainWith 9 = .ok (.aload_n 0, 1) := by decide +kernel
theorem dX4_gainWith_10 : decode cX4_gainWith 10 = .ok (.iload_n 3, 1) := by decide +kernel
theorem dX4_gainWith_11 : decode cX4_gainWith 11 = .ok (.invokevirtual 212, 3) := by decide +kernel
theorem dX4_gainWith_14 : decode cX4_gainWith 14 = .ok (.aload_n 0, 1) := by decide +kernel
theorem dX4_gainWith_15 : decode cX4_gainWith 15 = .ok (.iload_n 2, 1) := by decide +kernel
theorem dX4_gainWith_16 : decode cX4_gainWith 16 = .ok (.invokevirtual 212, 3) := by decide +kernel
theorem dX4_gainWith_19 : decode cX4_gainWith 19 = .ok (.iadd, 1) := by decide +kernel
theorem dX4_gainWith_20 : decode cX4_gainWith 20 = .ok (.istore 4, 2) := by decide +kernel
theorem dX4_gainWith_22 : decode cX4_gainWith 22 = .ok (.aload_n 0, 1) := by decide +kernel
theorem dX4_gainWith_23 : decode cX4_gainWith 23 = .ok (.getfield 12, 3) := by decide +kernel
theorem dX4_gainWith_26 : decode cX4_gainWith 26 = .ok (.iload_n 1, 1) := by decide +kernel
theorem dX4_gainWith_27 : decode cX4_gainWith 27 = .ok (.iload_n 2, 1) := by decide +kernel
theorem dX4_gainWith_28 : decode cX4_gainWith 28 = .ok (.invokevirtual 84, 3) := by decide +kernel
theorem dX4_gainWith_31 : decode cX4_gainWith 31 = .ok (.pop, 1) := by decide +kernel
theorem dX4_gainWith_32 : decode cX4_gainWith 32 = .ok (.aload_n 0, 1) := by decide +kernel
theorem dX4_gainWith_33 : decode cX4_gainWith 33 = .ok (.iload_n 3, 1) := by decide +kernel
theorem dX4_gainWith_34 : decode cX4_gainWith 34 = .ok (.invokevirtual 212, 3) := by decide +kernel
theorem dX4_gainWith_37 : decode cX4_gainWith 37 = .ok (.aload_n 0, 1) := by decide +kernel
theorem dX4_gainWith_38 : decode cX4_gainWith 38 = .ok (.iload_n 2, 1) := by decide +kernel
theorem dX4_gainWith_39 : decode cX4_gainWith 39 = .ok (.invokevirtual 212, 3) := by decide +kernel
theorem dX4_gainWith_42 : decode cX4_gainWith 42 = .ok (.iadd, 1) := by decide +kernel
theorem dX4_gainWith_43 : decode cX4_gainWith 43 = .ok (.istore 5, 2) := by decide +kernel
theorem dX4_gainWith_45 : decode cX4_gainWith 45 = .ok (.aload_n 0, 1) := by decide +kernel
theorem dX4_gainWith_46 : decode cX4_gainWith 46 = .ok (.getfield 12, 3) := by decide +kernel
theorem dX4_gainWith_49 : decode cX4_gainWith 49 = .ok (.iload_n 1, 1) := by decide +kernel
theorem dX4_gainWith_50 : decode cX4_gainWith 50 = .ok (.iload_n 3, 1) := by decide +kernel
theorem dX4_gainWith_51 : decode cX4_gainWith 51 = .ok (.invokevirtual 84, 3) := by decide +kernel
theorem dX4_gainWith_54 : decode cX4_gainWith 54 = .ok (.pop, 1) := by decide +kernel
theorem dX4_gainWith_55 : decode cX4_gainWith 55 = .ok (.iload 5, 2) := by decide +kernel
theorem dX4_gainWith_57 : decode cX4_gainWith 57 = .ok (.iload 4, 2) := by decide +kernel
theorem dX4_gainWith_59 : decode cX4_gainWith 59 = .ok (.isub, 1) := by decide +kernel
theorem dX4_gainWith_60 : decode cX4_gainWith 60 = .ok (.ireturn, 1) := by decide +kernel

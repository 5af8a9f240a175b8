set_option maxRecDepth 20000 in
theorem ggX4_init_X1_init : GoodIn wsX4_init wsX1_init := goodIn_r _ [27, 28, 2, 3, 21, 29, 30, 31, 32, 33, 51] (by decide +kernel) (by decide +kernel)
set_option maxRecDepth 20000 in
theorem gX4_init_X1_init : GoodIn wsX4_init (wsX1_init) := ggX4_init_X1_init
set_option maxRecDepth 20000 in
theorem ggX4_init_X0_init : GoodIn wsX4_init wsX0_init := goodIn_r _ [35, 36, 2, 3, 21, 37, 38, 39, 40, 58, 59, 60, 61, 62, 63] (by decide +kernel) (by decide +kernel)
set_option maxRecDepth 20000 in
theorem gX4_init_X0_init_n18 : GoodIn wsX4_init (wsX0_init) := ggX4_init_X0_init
set_option maxRecDepth 20000 in
theorem ggX4_init_X3_init : GoodIn wsX4_init wsX3_init := goodIn_r _ [42, 43, 2, 3, 44, 45, 64, 65] (by decide +kernel) (by decide +kernel)
set_option maxRecDepth 20000 in
theorem gX4_init_X3_init_n25 : GoodIn wsX4_init (wsX3_init) := ggX4_init_X3_init
set_option maxRecDepth 20000 in
theorem ggX4_init_X2_init : GoodIn wsX4_init wsX2_init := goodIn_r _ [47, 48, 2, 3, 49, 21, 50, 66, 67, 68] (by decide +kernel) (by decide +kernel)
set_option maxRecDepth 20000 in
theorem gX4_init_X2_init_n32 : GoodIn wsX4_init (wsX2_init) := ggX4_init_X2_init
theorem dX4_init_0 : decode cX4_init 0 = .ok (.aload_n 0, 1) := by decide +kernel
theorem dX4_init_1 : decode cX4_init 1 = .ok (.invokespecial 3, 3) := by decide +kernel
theorem dX4_init_4 : decode cX4_init 4 = .ok (.aload_n 0, 1) := by decide +kernel
theorem dX4_init_5 : decode cX4_init 5 = .ok (.new 9, 3) := by decide +kernel
theorem dX4_init_8 : decode cX4_init 8 = .ok (.dup, 1) := by decide +kernel
theorem dX4_init_9 : decode cX4_init 9 = .ok (.invokespecial 11, 3) := by decide +kernel
theorem dX4_init_12 : decode cX4_init 12 = .ok (.putfield 12, 3) := by decide +kernel
theorem dX4_init_15 : decode cX4_init 15 = .ok (.aload_n 0, 1) := by decide +kernel
theorem dX4_init_16 : decode cX4_init 16 = .ok (.new 16, 3) := by decide +kernel
theorem dX4_init_19 : decode cX4_init 19 = .ok (.dup, 1) := by decide +kernel
theorem dX4_init_20 : decode cX4_init 20 = .ok (.invokespecial 18, 3) := by decide +kernel
theorem dX4_init_23 : decode cX4_init 23 = .ok (.putfield 19, 3) := by decide +kernel
theorem dX4_init_26 : decode cX4_init 26 = .ok (.aload_n 0, 1) := by decide +kernel
theorem dX4_init_27 : decode cX4_init 27 = .ok (.new 23, 3) := by decide +kernel
theorem dX4_init_30 : decode cX4_init 30 = .ok (.dup, 1) := by decide +kernel
theorem dX4_init_31 : decode cX4_init 31 = .ok (.invokespecial 25, 3) := by decide +kernel
theorem dX4_init_34 : decode cX4_init 34 = .ok (.putfield 26, 3) := by decide +kernel
theorem dX4_init_37 : decode cX4_init 37 = .ok (.aload_n 0, 1) := by decide +kernel
theorem dX4_init_38 : decode cX4_init 38 = .ok (.new 30, 3) := by decide +kernel
theorem dX4_init_41 : decode cX4_init 41 = .ok (.dup, 1) := by decide +kernel
theorem dX4_init_42 : decode cX4_init 42 = .ok (.invokespecial 32, 3) := by decide +kernel
theorem dX4_init_45 : decode cX4_init 45 = .ok (.putfield 33, 3) := by decide +kernel
theorem dX4_init_48 : decode cX4_init 48 = .ok (.aload_n 0, 1) := by decide +kernel
theorem dX4_init_49 : decode cX4_init 49 = .ok (.iconst 2, 1) := by decide +kernel
theorem dX4_init_50 : decode cX4_init 50 = .ok (.sipush 151, 3) := by decide +kernel
theorem dX4_init_53 : decode cX4_init 53 = .ok (.multianewarray 37 2, 4) := by decide +kernel
theorem dX4_init_57 : decode cX4_init 57 = .ok (.putfield 39, 3) := by decide +kernel
theorem dX4_init_60 : decode cX4_init 60 = .ok (.aload_n 0, 1) := by decide +kernel
theorem dX4_init_61 : decode cX4_init 61 = .ok (.iconst 2, 1) := by decide +kernel
theorem dX4_init_62 : decode cX4_init 62 = .ok (.newarray .boolean, 2) := by decide +kernel
theorem dX4_init_64 : decode cX4_init 64 = .ok (.putfield 42, 3) := by decide +kernel
theorem dX4_init_67 : decode cX4_init 67 = .ok (.return_, 1) := by decide +kernel
set_option maxRecDepth 20000 in
theorem ggX4_set_X4_isWithin : GoodIn wsX4_set wsX4_isWithin := goodIn_r _ [8] (by decide +kernel) (by decide +kernel)
set_option maxRecDepth 20000 in
theorem gX4_set_X4_isWithin : GoodIn wsX4_set (va_wsS RX4 46 yX4_isWithin wsX4_isWithin) := goodIn_app (goodIn_of _ (by decide +kernel)) ggX4_set_X4_isWithin
set_option maxRecDepth 20000 in
theorem ggX4_set_X2_record : GoodIn wsX4_set wsX2_record := goodIn_r _ [13, 14, 15, 16, 17, 18, 19, 20, 21, 22, 23, 24, 25, 26, 37, 38, 39, 40] (by decide +kernel) (by decide +kernel)
set_option maxRecDepth 20000 in
theorem gX4_set_X2_record : GoodIn wsX4_set (wsV RX4 57 RX2 yX2_record wsX2_record) := goodIn_app (goodIn_of _ (by decide +kernel)) ggX4_set_X2_record
set_option maxRecDepth 20000 in
theorem ggX4_set_X1_changeSetting : GoodIn wsX4_set wsX1_changeSetting := goodIn_r _ [30, 22, 40] (by decide +kernel) (by decide +kernel)
set_option maxRecDepth 20000 in
theorem gX4_set_X1_changeSetting : GoodIn wsX4_set (wsV RX4 61 RX1 yX1_changeSetting wsX1_changeSetting) := goodIn_app (goodIn_of _ (by decide +kernel)) ggX4_set_X1_changeSetting
theorem dX4_set_0 : decode cX4_set 0 = .ok (.iload_n 1, 1) := by decide +kernel
theorem dX4_set_1 : decode cX4_set 1 = .ok (.iconst 0, 1) := by decide +kernel
theorem dX4_set_2 : decode cX4_set 2 = .ok (.iconst 4, 1) := by decide +kernel
theorem dX4_set_3 : decode cX4_set 3 = .ok (.invokestatic 46, 3) := by decide +kernel
theorem dX4_set_6 : decode cX4_set 6 = .ok (.ifCond .ne 6, 3) := by decide +kernel
theorem dX4_set_9 : decode cX4_set 9 = .ok (.bipush (-2), 2) := by decide +kernel
theorem dX4_set_11 : decode cX4_set 11 = .ok (.ireturn, 1) := by decide +kernel
theorem dX4_set_12 : decode cX4_set 12 = .ok (.iload_n 2, 1) := by decide +kernel
theorem dX4_set_13 : decode cX4_set 13 = .ok (.getstatic 50, 3) := by decide +kernel
theorem dX4_set_16 : decode cX4_set 16 = .ok (.iload_n 1, 1) := by decide +kernel
theorem dX4_set_17 : decode cX4_set 17 = .ok (.iaload, 1) := by decide +kernel
theorem dX4_set_18 : decode cX4_set 18 = .ok (.getstatic 54, 3) := by decide +kernel
theorem dX4_set_21 : decode cX4_set 21 = .ok (.iload_n 1, 1) := by decide +kernel
theorem dX4_set_22 : decode cX4_set 22 = .ok (.iaload, 1) := by decide +kernel
theorem dX4_set_23 : decode cX4_set 23 = .ok (.invokestatic 46, 3) := by decide +kernel
theorem dX4_set_26 : decode cX4_set 26 = .ok (.ifCond .ne 6, 3) := by decide +kernel
theorem dX4_set_29 : decode cX4_set 29 = .ok (.bipush (-2), 2) := by decide +kernel
theorem dX4_set_31 : decode cX4_set 31 = .ok (.ireturn, 1) := by decide +kernel
theorem dX4_set_32 : decode cX4_set 32 = .ok (.aload_n 0, 1) := by decide +kernel
theorem dX4_set_33 : decode cX4_set 33 = .ok (.getfield 33, 3) := by decide +kernel
theorem dX4_set_36 : decode cX4_set 36 = .ok (.aload_n 0, 1) := by decide +kernel
theorem dX4_set_37 : decode cX4_set 37 = .ok (.getfield 12, 3) := by decide +kernel
theorem dX4_set_40 : decode cX4_set 40 = .ok (.invokevirtual 57, 3) := by decide +kernel
theorem dX4_set_43 : decode cX4_set 43 = .ok (.aload_n 0, 1) := by decide +kernel
theorem dX4_set_44 : decode cX4_set 44 = .ok (.getfield 12, 3) := by decide +kernel
theorem dX4_set_47 : decode cX4_set 47 = .ok (.iload_n 1, 1) := by decide +kernel
theorem dX4_set_48 : decode cX4_set 48 = .ok (.iload_n 2, 1) := by decide +kernel
theorem dX4_set_49 : decode cX4_set 49 = .ok (.invokevirtual 61, 3) := by decide +kernel
theorem dX4_set_52 : decode cX4_set 52 = .ok (.ireturn, 1) := by decide +kernel
set_option maxRecDepth 20000 in
theorem ggX4_film_X4_isWithin : GoodIn wsX4_film wsX4_isWithin := goodIn_r _ [6] (by decide +kernel) (by decide +kernel)
set_option maxRecDepth 20000 in
theorem gX4_film_X4_isWithin : GoodIn wsX4_film (va_wsS RX4 46 yX4_isWithin wsX4_isWithin) := goodIn_app (goodIn_of _ (by decide +kernel)) ggX4_film_X4_isWithin
set_option maxRecDepth 20000 in
theorem ggX4_film_X4_isDay : GoodIn wsX4_film wsX4_isDay := goodIn_r _ [9, 3, 4, 5, 6] (by decide +kernel) (by decide +kernel)
set_option maxRecDepth 20000 in
theorem gX4_film_X4_isDay : GoodIn wsX4_film (va_wsS RX4 65 yX4_isDay wsX4_isDay) := goodIn_app (goodIn_of _ (by decide +kernel)) ggX4_film_X4_isDay
set_option maxRecDepth 20000 in
theorem ggX4_film_X1_films : GoodIn wsX4_film wsX1_films := goodIn_r _ [14, 15, 43] (by decide +kernel) (by decide +kernel)
set_option maxRecDepth 20000 in
theorem gX4_film_X1_films : GoodIn wsX4_film (wsV RX4 69 RX1 yX1_films wsX1_films) := goodIn_app (goodIn_of _ (by decide +kernel)) ggX4_film_X1_films
set_option maxRecDepth 20000 in
theorem ggX4_film_X2_record : GoodIn wsX4_film wsX2_record := goodIn_r _ [20, 21, 22, 23, 24, 25, 26, 13, 27, 15, 28, 29, 30, 31, 44, 45, 46, 43] (by decide +kernel) (by decide +kernel)
set_option maxRecDepth 20000 in
theorem gX4_film_X2_record : GoodIn wsX4_film (wsV RX4 57 RX2 yX2_record wsX2_record) := goodIn_app (goodIn_of _ (by decide +kernel)) ggX4_film_X2_record
set_option maxRecDepth 20000 in
theorem ggX4_film_X1_addFilm : GoodIn wsX4_film wsX1_addFilm := goodIn_r _ [35, 15, 36, 11, 12, 13, 14, 43] (by decide +kernel) (by decide +kernel)
set_option maxRecDepth 20000 in
theorem gX4_film_X1_addFilm : GoodIn wsX4_film (wsV RX4 73 RX1 yX1_addFilm wsX1_addFilm) := goodIn_app (goodIn_of _ (by decide +kernel)) ggX4_film_X1_addFilm
theorem dX4_film_0 : decode cX4_film 0 = .ok (.iload_n 1, 1) := by decide +kernel
theorem dX4_film_1 : decode cX4_film 1 = .ok (.iconst 0, 1) := by decide +kernel
theorem dX4_film_2 : decode cX4_film 2 = .ok (.iconst 3, 1) := by decide +kernel
theorem dX4_film_3 : decode cX4_film 3 = .ok (.invokestatic 46, 3) := by decide +kernel
theorem dX4_film_6 : decode cX4_film 6 = .ok (.ifCond .eq 14, 3) := by decide +kernel
theorem dX4_film_9 : decode cX4_film 9 = .ok (.iload_n 2, 1) := by decide +kernel
theorem dX4_film_10 : decode cX4_film 10 = .ok (.iconst 1, 1) := by decide +kernel
theorem dX4_film_11 : decode cX4_film 11 = .ok (.sipush 999, 3) := by decide +kernel
theorem dX4_film_14 : decode cX4_film 14 = .ok (.invokestatic 46, 3) := by decide +kernel
theorem dX4_film_17 : decode cX4_film 17 = .ok (.ifCond .ne 6, 3) := by decide +kernel
theorem dX4_film_20 : decode cX4_film 20 = .ok (.bipush (-2), 2) := by decide +kernel
theorem dX4_film_22 : decode cX4_film 22 = .ok (.ireturn, 1) := by decide +kernel
theorem dX4_film_23 : decode cX4_film 23 = .ok (.iload_n 3, 1) := by decide +kernel
theorem dX4_film_24 : decode cX4_film 24 = .ok (.iconst 0, 1) := by decide +kernel
theorem dX4_film_25 : decode cX4_film 25 = .ok (.sipush 500, 3) := by decide +kernel
theorem dX4_film_28 : decode cX4_film 28 = .ok (.invokestatic 46, 3) := by decide +kernel
theorem dX4_film_31 : decode cX4_film 31 = .ok (.ifCond .eq 23, 3) := by decide +kernel
theorem dX4_film_34 : decode cX4_film 34 = .ok (.iload 4, 2) := by decide +kernel
theorem dX4_film_36 : decode cX4_film 36 = .ok (.bipush 20, 2) := by decide +kernel
theorem dX4_film_38 : decode cX4_film 38 = .ok (.bipush 90, 2) := by decide +kernel
theorem dX4_film_40 : decode cX4_film 40 = .ok (.invokestatic 46, 3) := by decide +kernel
theorem dX4_film_43 : decode cX4_film 43 = .ok (.ifCond .eq 11, 3) := by decide +kernel
theorem dX4_film_46 : decode cX4_film 46 = .ok (.iload 5, 2) := by decide +kernel
theorem dX4_film_48 : decode cX4_film 48 = .ok (.invokestatic 65, 3) := by decide +kernel
theorem dX4_film_51 : decode cX4_film 51 = .ok (.ifCond .ne 6, 3) := by decide +kernel
theorem dX4_film_54 : decode cX4_film 54 = .ok (.bipush (-2), 2) := by decide +kernel
theorem dX4_film_56 : decode cX4_film 56 = .ok (.ireturn, 1) := by decide +kernel
theorem dX4_film_57 : decode cX4_film 57 = .ok (.aload_n 0, 1) := by decide +kernel
theorem dX4_film_58 : decode cX4_film 58 = .ok (.getfield 12, 3) := by decide +kernel
theorem dX4_film_61 : decode cX4_film 61 = .ok (.invokevirtual 69, 3) := by decide +kernel
theorem dX4_film_64 : decode cX4_film 64 = .ok (.bipush 8, 2) := by decide +kernel
theorem dX4_film_66 : decode cX4_film 66 = .ok (.if_icmp .lt 6, 3) := by decide +kernel
theorem dX4_film_69 : decode cX4_film 69 = .ok (.bipush (-4), 2) := by decide +kernel
theorem dX4_film_71 : decode cX4_film 71 = .ok (.ireturn, 1) := by decide +kernel
theorem dX4_film_72 : decode cX4_film 72 = .ok (.aload_n 0, 1) := by decide +kernel
theorem dX4_film_73 : decode cX4_film 73 = .ok (.getfield 33, 3) := by decide +kernel
theorem dX4_film_76 : decode cX4_film 76 = .ok (.aload_n 0, 1) := by decide +kernel
theorem dX4_film_77 : decode cX4_film 77 = .ok (.getfield 12, 3) := by decide +kernel
theorem dX4_film_80 : decode cX4_film 80 = .ok (.invokevirtual 57, 3) := by decide +kernel
theorem dX4_film_83 : decode cX4_film 83 = .ok (.aload_n 0, 1) := by decide +kernel
theorem dX4_film_84 : decode cX4_film 84 = .ok (.getfield 12, 3) := by decide +kernel
theorem dX4_film_87 : decode cX4_film 87 = .ok (.iload_n 1, 1) := by decide +kernel
theorem dX4_film_88 : decode cX4_film 88 = .ok (.iload_n 2, 1) := by decide +kernel
theorem dX4_film_89 : decode cX4_film 89 = .ok (.iload_n 3, 1) := by decide +kernel
theorem dX4_film_90 : decode cX4_film 90 = .ok (.iload 4, 2) := by decide +kernel
theorem dX4_film_92 : decode cX4_film 92 = .ok (.iload 5, 2) := by decide +kernel
theorem dX4_film_94 : decode cX4_film 94 = .ok (.invokevirtual 73, 3) := by decide +kernel
theorem dX4_film_97 : decode cX4_film 97 = .ok (.ireturn, 1) := by decide +kernel
set_option maxRecDepth 20000 in
theorem ggX4_show_X4_errorOfShow : GoodIn wsX4_show wsX4_errorOfShow := goodIn_r _ [7, 2, 8, 9, 10, 11, 12, 13, 14, 15, 16, 17, 18, 19, 6, 20, 21, 22, 23, 24, 25, 26, 27, 28, 29, 30, 31, 32, 33, 34, 35, 36, 37, 38, 39, 63, 64, 65, 66, 67, 68, 69] (by decide +kernel) (by decide +kernel)
set_option maxRecDepth 20000 in
theorem gX4_show_X4_errorOfShow : GoodIn wsX4_show (wsV RX4 77 RX4 yX4_errorOfShow wsX4_errorOfShow) := goodIn_app (goodIn_of _ (by decide +kernel)) ggX4_show_X4_errorOfShow
set_option maxRecDepth 20000 in
theorem ggX4_show_X2_record : GoodIn wsX4_show wsX2_record := goodIn_r _ [44, 45, 46, 47, 48, 49, 50, 11, 51, 17, 52, 53, 54, 55, 70, 71, 72, 69] (by decide +kernel) (by decide +kernel)
set_option maxRecDepth 20000 in
theorem gX4_show_X2_record : GoodIn wsX4_show (wsV RX4 57 RX2 yX2_record wsX2_record) := goodIn_app (goodIn_of _ (by decide +kernel)) ggX4_show_X2_record
set_option maxRecDepth 20000 in
theorem ggX4_show_X4_placeOf : GoodIn wsX4_show wsX4_placeOf := goodIn_r _ [58] (by decide +kernel) (by decide +kernel)
set_option maxRecDepth 20000 in
theorem gX4_show_X4_placeOf : GoodIn wsX4_show (va_wsS RX4 81 yX4_placeOf wsX4_placeOf) := goodIn_app (goodIn_of _ (by decide +kernel)) ggX4_show_X4_placeOf
set_option maxRecDepth 20000 in
theorem ggX4_show_X1_replaceShow : GoodIn wsX4_show wsX1_replaceShow := goodIn_r _ [62, 17, 69] (by decide +kernel) (by decide +kernel)
set_option maxRecDepth 20000 in
theorem gX4_show_X1_replaceShow : GoodIn wsX4_show (wsV RX4 84 RX1 yX1_replaceShow wsX1_replaceShow) := goodIn_app (goodIn_of _ (by decide +kernel)) ggX4_show_X1_replaceShow
theorem dX4_show_0 : decode cX4_show 0 = .ok (.aload_n 0, 1) := by decide +kernel
theorem dX4_show_1 : decode cX4_show 1 = .ok (.iload_n 1, 1) := by decide +kernel
theorem dX4_show_2 : decode cX4_show 2 = .ok (.iload_n 2, 1) := by decide +kernel
theorem dX4_show_3 : decode cX4_show 3 = .ok (.iload_n 3, 1) := by decide +kernel
theorem dX4_show_4 : decode cX4_show 4 = .ok (.invokevirtual 77, 3) := by decide +kernel
theorem dX4_show_7 : decode cX4_show 7 = .ok (.istore 4, 2) := by decide +kernel
theorem dX4_show_9 : decode cX4_show 9 = .ok (.iload 4, 2) := by decide +kernel
theorem dX4_show_11 : decode cX4_show 11 = .ok (.ifCond .eq 6, 3) := by decide +kernel
theorem dX4_show_14 : decode cX4_show 14 = .ok (.iload 4, 2) := by decide +kernel
theorem dX4_show_16 : decode cX4_show 16 = .ok (.ireturn, 1) := by decide +kernel
theorem dX4_show_17 : decode cX4_show 17 = .ok (.aload_n 0, 1) := by decide +kernel
theorem dX4_show_18 : decode cX4_show 18 = .ok (.getfield 33, 3) := by decide +kernel
theorem dX4_show_21 : decode cX4_show 21 = .ok (.aload_n 0, 1) := by decide +kernel
theorem dX4_show_22 : decode cX4_show 22 = .ok (.getfield 12, 3) := by decide +kernel
theorem dX4_show_25 : decode cX4_show 25 = .ok (.invokevirtual 57, 3) := by decide +kernel
theorem dX4_show_28 : decode cX4_show 28 = .ok (.aload_n 0, 1) := by decide +kernel
theorem dX4_show_29 : decode cX4_show 29 = .ok (.getfield 12, 3) := by decide +kernel
theorem dX4_show_32 : decode cX4_show 32 = .ok (.iload_n 2, 1) := by decide +kernel
theorem dX4_show_33 : decode cX4_show 33 = .ok (.iload_n 3, 1) := by decide +kernel
theorem dX4_show_34 : decode cX4_show 34 = .ok (.invokestatic 81, 3) := by decide +kernel
theorem dX4_show_37 : decode cX4_show 37 = .ok (.iload_n 1, 1) := by decide +kernel
theorem dX4_show_38 : decode cX4_show 38 = .ok (.invokevirtual 84, 3) := by decide +kernel
theorem dX4_show_41 : decode cX4_show 41 = .ok (.ireturn, 1) := by decide +kernel
set_option maxRecDepth 20000 in
theorem ggX4_drop_X4_isPlace : GoodIn wsX4_drop wsX4_isPlace := goodIn_r _ [6, 7, 8, 5, 9, 10, 11, 12] (by decide +kernel) (by decide +kernel)
set_option maxRecDepth 20000 in
theorem gX4_drop_X4_isPlace : GoodIn wsX4_drop (va_wsS RX4 87 yX4_isPlace wsX4_isPlace) := goodIn_app (goodIn_of _ (by decide +kernel)) ggX4_drop_X4_isPlace
set_option maxRecDepth 20000 in
theorem ggX4_drop_X4_placeOf : GoodIn wsX4_drop wsX4_placeOf := goodIn_r _ [15] (by decide +kernel) (by decide +kernel)
set_option maxRecDepth 20000 in
theorem gX4_drop_X4_placeOf : GoodIn wsX4_drop (va_wsS RX4 81 yX4_placeOf wsX4_placeOf) := goodIn_app (goodIn_of _ (by decide +kernel)) ggX4_drop_X4_placeOf
set_option maxRecDepth 20000 in
theorem ggX4_drop_X1_showAt : GoodIn wsX4_drop wsX1_showAt := goodIn_r _ [20, 21, 48] (by decide +kernel) (by decide +kernel)
set_option maxRecDepth 20000 in
theorem gX4_drop_X1_showAt : GoodIn wsX4_drop (wsV RX4 91 RX1 yX1_showAt wsX1_showAt) := goodIn_app (goodIn_of _ (by decide +kernel)) ggX4_drop_X1_showAt
set_option maxRecDepth 20000 in
theorem ggX4_drop_X2_record : GoodIn wsX4_drop wsX2_record := goodIn_r _ [26, 27, 28, 29, 30, 31, 32, 19, 33, 21, 34, 35, 36, 37, 49, 50, 51, 48] (by decide +kernel) (by decide +kernel)
set_option maxRecDepth 20000 in
theorem gX4_drop_X2_record : GoodIn wsX4_drop (wsV RX4 57 RX2 yX2_record wsX2_record) := goodIn_app (goodIn_of _ (by decide +kernel)) ggX4_drop_X2_record
set_option maxRecDepth 20000 in
theorem ggX4_drop_X1_replaceShow : GoodIn wsX4_drop wsX1_replaceShow := goodIn_r _ [41, 21, 48] (by decide +kernel) (by decide +kernel)
set_option maxRecDepth 20000 in
theorem gX4_drop_X1_replaceShow : GoodIn wsX4_drop (wsV RX4 84 RX1 yX1_replaceShow wsX1_replaceShow) := goodIn_app (goodIn_of _ (by decide +kernel)) ggX4_drop_X1_replaceShow
theorem dX4_drop_0 : decode cX4_drop 0 = .ok (.iload_n 1, 1) := by decide +kernel
theorem dX4_drop_1 : decode cX4_drop 1 = .ok (.iload_n 2, 1) := by decide +kernel
theorem dX4_drop_2 : decode cX4_drop 2 = .ok (.invokestatic 87, 3) := by decide +kernel
theorem dX4_drop_5 : decode cX4_drop 5 = .ok (.ifCond .ne 6, 3) := by decide +kernel
theorem dX4_drop_8 : decode cX4_drop 8 = .ok (.bipush (-2), 2) := by decide +kernel
theorem dX4_drop_10 : decode cX4_drop 10 = .ok (.ireturn, 1) := by decide +kernel
theorem dX4_drop_11 : decode cX4_drop 11 = .ok (.iload_n 1, 1) := by decide +kernel
theorem dX4_drop_12 : decode cX4_drop 12 = .ok (.iload_n 2, 1) := by decide +kernel
theorem dX4_drop_13 : decode cX4_drop 13 = .ok (.invokestatic 81, 3) := by decide +kernel
theorem dX4_drop_16 : decode cX4_drop 16 = .ok (.istore_n 3, 1) := by decide +kernel
theorem dX4_drop_17 : decode cX4_drop 17 = .ok (.aload_n 0, 1) := by decide +kernel
theorem dX4_drop_18 : decode cX4_drop 18 = .ok (.getfield 12, 3) := by decide +kernel
theorem dX4_drop_21 : decode cX4_drop 21 = .ok (.iload_n 3, 1) := by decide +kernel
theorem dX4_drop_22 : decode cX4_drop 22 = .ok (.invokevirtual 91, 3) := by decide +kernel
theorem dX4_drop_25 : decode cX4_drop 25 = .ok (.bipush (-6), 2) := by decide +kernel
theorem dX4_drop_27 : decode cX4_drop 27 = .ok (.if_icmp .ne 6, 3) := by decide +kernel
theorem dX4_drop_30 : decode cX4_drop 30 = .ok (.bipush (-5), 2) := by decide +kernel
theorem dX4_drop_32 : decode cX4_drop 32 = .ok (.ireturn, 1) := by decide +kernel
theorem dX4_drop_33 : decode cX4_drop 33 = .ok (.aload_n 0, 1) := by decide +kernel
theorem dX4_drop_34 : decode cX4_drop 34 = .ok (.getfield 33, 3) := by decide +kernel
theorem dX4_drop_37 : decode cX4_drop 37 = .ok (.aload_n 0, 1) := by decide +kernel
theorem dX4_drop_38 : decode cX4_drop 38 = .ok (.getfield 12, 3) := by decide +kernel
theorem dX4_drop_41 : decode cX4_drop 41 = .ok (.invokevirtual 57, 3) := by decide +kernel
theorem dX4_drop_44 : decode cX4_drop 44 = .ok (.aload_n 0, 1) := by decide +kernel
theorem dX4_drop_45 : decode cX4_drop 45 = .ok (.getfield 12, 3) := by decide +kernel
theorem dX4_drop_48 : decode cX4_drop 48 = .ok (.iload_n 3, 1) := by decide +kernel
theorem dX4_drop_49 : decode cX4_drop 49 = .ok (.bipush (-6), 2) := by decide +kernel
theorem dX4_drop_51 : decode cX4_drop 51 = .ok (.invokevirtual 84, 3) := by decide +kernel
theorem dX4_drop_54 : decode cX4_drop 54 = .ok (.ireturn, 1) := by decide +kernel
set_option maxRecDepth 20000 in
theorem ggX4_exchange_X4_isPlace : GoodIn wsX4_exchange wsX4_isPlace := goodIn_r _ [7, 8, 9, 6, 10, 11, 12, 13] (by decide +kernel) (by decide +kernel)
set_option maxRecDepth 20000 in
theorem gX4_exchange_X4_isPlace : GoodIn wsX4_exchange (va_wsS RX4 87 yX4_isPlace wsX4_isPlace) := goodIn_app (goodIn_of _ (by decide +kernel)) ggX4_exchange_X4_isPlace
set_option maxRecDepth 20000 in
theorem ggX4_exchange_X4_placeOf : GoodIn wsX4_exchange wsX4_placeOf := goodIn_r _ [16] (by decide +kernel) (by decide +kernel)
set_option maxRecDepth 20000 in
theorem gX4_exchange_X4_placeOf : GoodIn wsX4_exchange (va_wsS RX4 81 yX4_placeOf wsX4_placeOf) := goodIn_app (goodIn_of _ (by decide +kernel)) ggX4_exchange_X4_placeOf
set_option maxRecDepth 20000 in
theorem ggX4_exchange_X1_showAt : GoodIn wsX4_exchange wsX1_showAt := goodIn_r _ [21, 22, 129] (by decide +kernel) (by decide +kernel)
set_option maxRecDepth 20000 in
theorem gX4_exchange_X1_showAt : GoodIn wsX4_exchange (wsV RX4 91 RX1 yX1_showAt wsX1_showAt) := goodIn_app (goodIn_of _ (by decide +kernel)) ggX4_exchange_X1_showAt
set_option maxRecDepth 20000 in
theorem ggX4_exchange_X1_canHold : GoodIn wsX4_exchange wsX1_canHold := goodIn_r _ [26, 27, 28, 29, 20, 30, 22, 31, 32, 33, 34, 35, 36, 37, 38, 39, 40, 41, 42, 129] (by decide +kernel) (by decide +kernel)
set_option maxRecDepth 20000 in
theorem gX4_exchange_X1_canHold : GoodIn wsX4_exchange (wsV RX4 95 RX1 yX1_canHold wsX1_canHold) := goodIn_app (goodIn_of _ (by decide +kernel)) ggX4_exchange_X1_canHold
set_option maxRecDepth 20000 in
theorem ggX4_exchange_X4_sumOfFilms : GoodIn wsX4_exchange wsX4_sumOfFilms := goodIn_r _ [46, 1, 47, 36, 37, 20, 38, 22, 48, 49, 50, 6, 51, 52, 53, 54, 55, 56, 57, 58, 59, 60, 61, 40, 41, 42, 62, 63, 64, 65, 66, 67, 68, 69, 18, 19, 21, 70, 71, 72, 73, 74, 75, 76, 77, 78, 79, 80, 81, 82, 83, 84, 85, 86, 87, 88, 89, 90, 91, 92, 93, 94, 95, 96, 97, 98, 99, 100, 101, 102, 123, 124, 125, 126, 127, 128, 129, 130, 131, 132, 133, 134, 135] (by decide +kernel) (by decide +kernel)
set_option maxRecDepth 20000 in
theorem gX4_exchange_X4_sumOfFilms : GoodIn wsX4_exchange (wsV RX4 98 RX4 yX4_sumOfFilms wsX4_sumOfFilms) := goodIn_app (goodIn_of _ (by decide +kernel)) ggX4_exchange_X4_sumOfFilms
set_option maxRecDepth 20000 in
theorem ggX4_exchange_X2_record : GoodIn wsX4_exchange wsX2_record := goodIn_r _ [107, 108, 109, 110, 111, 112, 113, 20, 114, 22, 115, 116, 117, 118, 136, 137, 138, 129] (by decide +kernel) (by decide +kernel)
set_option maxRecDepth 20000 in
theorem gX4_exchange_X2_record : GoodIn wsX4_exchange (wsV RX4 57 RX2 yX2_record wsX2_record) := goodIn_app (goodIn_of _ (by decide +kernel)) ggX4_exchange_X2_record
set_option maxRecDepth 20000 in
theorem ggX4_exchange_X1_replaceShow : GoodIn wsX4_exchange wsX1_replaceShow := goodIn_r _ [122, 22, 129] (by decide +kernel) (by decide +kernel)
set_option maxRecDepth 20000 in
theorem gX4_exchange_X1_replaceShow : GoodIn wsX4_exchange (wsV RX4 84 RX1 yX1_replaceShow wsX1_replaceShow) := goodIn_app (goodIn_of _ (by decide +kernel)) ggX4_exchange_X1_replaceShow
theorem dX4_exchange_0 : decode cX4_exchange 0 = .ok (.iload_n 1, 1) := by decide +kernel
theorem dX4_exchange_1 : decode cX4_exchange 1 = .ok (.iload_n 2, 1) := by decide +kernel
theorem dX4_exchange_2 : decode cX4_exchange 2 = .ok (.invokestatic 87, 3) := by decide +kernel
theorem dX4_exchange_5 : decode cX4_exchange 5 = .ok (.ifCond .eq 12, 3) := by decide +kernel
theorem dX4_exchange_8 : decode cX4_exchange 8 = .ok (.iload_n 3, 1) := by decide +kernel
theorem dX4_exchange_9 : decode cX4_exchange 9 = .ok (.iload 4, 2) := by decide +kernel
theorem dX4_exchange_11 : decode cX4_exchange 11 = .ok (.invokestatic 87, 3) := by decide +kernel
theorem dX4_exchange_14 : decode cX4_exchange 14 = .ok (.ifCond .ne 6, 3) := by decide +kernel
theorem dX4_exchange_17 : decode cX4_exchange 17 = .ok (.bipush (-2), 2) := by decide +kernel
theorem dX4_exchange_19 : decode cX4_exchange 19 = .ok (.ireturn, 1) := by decide +kernel
theorem dX4_exchange_20 : decode cX4_exchange 20 = .ok (.iload_n 1, 1) := by decide +kernel
theorem dX4_exchange_21 : decode cX4_exchange 21 = .ok (.iload_n 2, 1) := by decide +kernel
theorem dX4_exchange_22 : decode cX4_exchange 22 = .ok (.invokestatic 81, 3) := by decide +kernel
theorem dX4_exchange_25 : decode cX4_exchange 25 = .ok (.istore 5, 2) := by decide +kernel
theorem dX4_exchange_27 : decode cX4_exchange 27 = .ok (.iload_n 3, 1) := by decide +kernel
theorem dX4_exchange_28 : decode cX4_exchange 28 = .ok (.iload 4, 2) := by decide +kernel
theorem dX4_exchange_30 : decode cX4_exchange 30 = .ok (.invokestatic 81, 3) := by decide +kernel
theorem dX4_exchange_33 : decode cX4_exchange 33 = .ok (.istore 6, 2) := by decide +kernel
theorem dX4_exchange_35 : decode cX4_exchange 35 = .ok (.aload_n 0, 1) := by decide +kernel
theorem dX4_exchange_36 : decode cX4_exchange 36 = .ok (.getfield 12, 3) := by decide +kernel
theorem dX4_exchange_39 : decode cX4_exchange 39 = .ok (.iload_n 3, 1) := by decide +kernel
theorem dX4_exchange_40 : decode cX4_exchange 40 = .ok (.aload_n 0, 1) := by decide +kernel
theorem dX4_exchange_41 : decode cX4_exchange 41 = .ok (.getfield 12, 3) := by decide +kernel
theorem dX4_exchange_44 : decode cX4_exchange 44 = .ok (.iload 5, 2) := by decide +kernel
theorem dX4_exchange_46 : decode cX4_exchange 46 = .ok (.invokevirtual 91, 3) := by decide +kernel
theorem dX4_exchange_49 : decode cX4_exchange 49 = .ok (.invokevirtual 95, 3) := by decide +kernel
theorem dX4_exchange_52 : decode cX4_exchange 52 = .ok (.ifCond .eq 23, 3) := by decide +kernel
theorem dX4_exchange_55 : decode cX4_exchange 55 = .ok (.aload_n 0, 1) := by decide +kernel
theorem dX4_exchange_56 : decode cX4_exchange 56 = .ok (.getfield 12, 3) := by decide +kernel
theorem dX4_exchange_59 : decode cX4_exchange 59 = .ok (.iload_n 1, 1) := by decide +kernel
theorem dX4_exchange_60 : decode cX4_exchange 60 = .ok (.aload_n 0, 1) := by decide +kernel
theorem dX4_exchange_61 : decode cX4_exchange 61 = .ok (.getfield 12, 3) := by decide +kernel
theorem dX4_exchange_64 : decode cX4_exchange 64 = .ok (.iload 6, 2) := by decide +kernel
theorem dX4_exchange_66 : decode cX4_exchange 66 = .ok (.invokevirtual 91, 3) := by decide +kernel
theorem dX4_exchange_69 : decode cX4_exchange 69 = .ok (.invokevirtual 95, 3) := by decide +kernel
theorem dX4_exchange_72 : decode cX4_exchange 72 = .ok (.ifCond .ne 6, 3) := by decide +kernel
theorem dX4_exchange_75 : decode cX4_exchange 75 = .ok (.bipush (-5), 2) := by decide +kernel
theorem dX4_exchange_77 : decode cX4_exchange 77 = .ok (.ireturn, 1) := by decide +kernel
theorem dX4_exchange_78 : decode cX4_exchange 78 = .ok (.aload_n 0, 1) := by decide +kernel
theorem dX4_exchange_79 : decode cX4_exchange 79 = .ok (.iconst 4, 1) := by decide +kernel
theorem dX4_exchange_80 : decode cX4_exchange 80 = .ok (.invokevirtual 98, 3) := by decide +kernel
theorem dX4_exchange_83 : decode cX4_exchange 83 = .ok (.istore 7, 2) := by decide +kernel
theorem dX4_exchange_85 : decode cX4_exchange 85 = .ok (.aload_n 0, 1) := by decide +kernel
theorem dX4_exchange_86 : decode cX4_exchange 86 = .ok (.getfield 33, 3) := by decide +kernel
theorem dX4_exchange_89 : decode cX4_exchange 89 = .ok (.aload_n 0, 1) := by decide +kernel
theorem dX4_exchange_90 : decode cX4_exchange 90 = .ok (.getfield 12, 3) := by decide +kernel
theorem dX4_exchange_93 : decode cX4_exchange 93 = .ok (.invokevirtual 57, 3) := by decide +kernel
theorem dX4_exchange_96 : decode cX4_exchange 96 = .ok (.aload_n 0, 1) := by decide +kernel
theorem dX4_exchange_97 : decode cX4_exchange 97 = .ok (.getfield 12, 3) := by decide +kernel
theorem dX4_exchange_100 : decode cX4_exchange 100 = .ok (.iload 5, 2) := by decide +kernel
theorem dX4_exchange_102 : decode cX4_exchange 102 = .ok (.aload_n 0, 1) := by decide +kernel
theorem dX4_exchange_103 : decode cX4_exchange 103 = .ok (.getfield 12, 3) := by decide +kernel
theorem dX4_exchange_106 : decode cX4_exchange 106 = .ok (.iload 6, 2) := by decide +kernel
theorem dX4_exchange_108 : decode cX4_exchange 108 = .ok (.invokevirtual 91, 3) := by decide +kernel
theorem dX4_exchange_111 : decode cX4_exchange 111 = .ok (.invokevirtual 84, 3) := by decide +kernel
theorem dX4_exchange_114 : decode cX4_exchange 114 = .ok (.istore 8, 2) := by decide +kernel
theorem dX4_exchange_116 : decode cX4_exchange 116 = .ok (.aload_n 0, 1) := by decide +kernel
theorem dX4_exchange_117 : decode cX4_exchange 117 = .ok (.getfield 12, 3) := by decide +kernel
theorem dX4_exchange_120 : decode cX4_exchange 120 = .ok (.iload 6, 2) := by decide +kernel
theorem dX4_exchange_122 : decode cX4_exchange 122 = .ok (.iload 8, 2) := by decide +kernel
theorem dX4_exchange_124 : decode cX4_exchange 124 = .ok (.invokevirtual 84, 3) := by decide +kernel
theorem dX4_exchange_127 : decode cX4_exchange 127 = .ok (.pop, 1) := by decide +kernel
theorem dX4_exchange_128 : decode cX4_exchange 128 = .ok (.aload_n 0, 1) := by decide +kernel
theorem dX4_exchange_129 : decode cX4_exchange 129 = .ok (.iconst 4, 1) := by decide +kernel
theorem dX4_exchange_130 : decode cX4_exchange 130 = .ok (.invokevirtual 98, 3) := by decide +kernel
theorem dX4_exchange_133 : decode cX4_exchange 133 = .ok (.iload 7, 2) := by decide +kernel
theorem dX4_exchange_135 : decode cX4_exchange 135 = .ok (.isub, 1) := by decide +kernel
theorem dX4_exchange_136 : decode cX4_exchange 136 = .ok (.ldc 101, 2) := by decide +kernel
theorem dX4_exchange_138 : decode cX4_exchange 138 = .ok (.iadd, 1) := by decide +kernel
theorem dX4_exchange_139 : decode cX4_exchange 139 = .ok (.ireturn, 1) := by decide +kernel
set_option maxRecDepth 20000 in
theorem ggX4_let_X4_isDay : GoodIn wsX4_let wsX4_isDay := goodIn_r _ [6, 7, 8, 5, 9] (by decide +kernel) (by decide +kernel)
set_option maxRecDepth 20000 in
theorem gX4_let_X4_isDay : GoodIn wsX4_let (va_wsS RX4 65 yX4_isDay wsX4_isDay) := goodIn_app (goodIn_of _ (by decide +kernel)) ggX4_let_X4_isDay
set_option maxRecDepth 20000 in
theorem ggX4_let_X4_isWithin : GoodIn wsX4_let wsX4_isWithin := goodIn_r _ [9] (by decide +kernel) (by decide +kernel)
set_option maxRecDepth 20000 in
theorem gX4_let_X4_isWithin : GoodIn wsX4_let (va_wsS RX4 46 yX4_isWithin wsX4_isWithin) := goodIn_app (goodIn_of _ (by decide +kernel)) ggX4_let_X4_isWithin
set_option maxRecDepth 20000 in
theorem ggX4_let_X2_record : GoodIn wsX4_let wsX2_record := goodIn_r _ [14, 15, 16, 17, 18, 19, 20, 21, 22, 23, 24, 25, 26, 27, 49, 50, 51, 52] (by decide +kernel) (by decide +kernel)
set_option maxRecDepth 20000 in
theorem gX4_let_X2_record : GoodIn wsX4_let (wsV RX4 57 RX2 yX2_record wsX2_record) := goodIn_app (goodIn_of _ (by decide +kernel)) ggX4_let_X2_record
set_option maxRecDepth 20000 in
theorem ggX4_let_X1_changeRent : GoodIn wsX4_let wsX1_changeRent := goodIn_r _ [31, 23, 52] (by decide +kernel) (by decide +kernel)
set_option maxRecDepth 20000 in
theorem gX4_let_X1_changeRent : GoodIn wsX4_let (wsV RX4 102 RX1 yX1_changeRent wsX1_changeRent) := goodIn_app (goodIn_of _ (by decide +kernel)) ggX4_let_X1_changeRent
set_option maxRecDepth 20000 in
theorem ggX4_let_X4_dropShowsOfDay : GoodIn wsX4_let wsX4_dropShowsOfDay := goodIn_r _ [35, 2, 36, 37, 5, 38, 39, 40, 41, 21, 42, 23, 43, 44, 45, 46, 47, 48, 52] (by decide +kernel) (by decide +kernel)
set_option maxRecDepth 20000 in
theorem gX4_let_X4_dropShowsOfDay : GoodIn wsX4_let (wsV RX4 106 RX4 yX4_dropShowsOfDay wsX4_dropShowsOfDay) := goodIn_app (goodIn_of _ (by decide +kernel)) ggX4_let_X4_dropShowsOfDay
theorem dX4_let_0 : decode cX4_let 0 = .ok (.iload_n 1, 1) := by decide +kernel
theorem dX4_let_1 : decode cX4_let 1 = .ok (.invokestatic 65, 3) := by decide +kernel
theorem dX4_let_4 : decode cX4_let 4 = .ok (.ifCond .eq 14, 3) := by decide +kernel
theorem dX4_let_7 : decode cX4_let 7 = .ok (.iload_n 2, 1) := by decide +kernel
theorem dX4_let_8 : decode cX4_let 8 = .ok (.iconst 0, 1) := by decide +kernel
theorem dX4_let_9 : decode cX4_let 9 = .ok (.sipush 999, 3) := by decide +kernel
theorem dX4_let_12 : decode cX4_let 12 = .ok (.invokestatic 46, 3) := by decide +kernel
theorem dX4_let_15 : decode cX4_let 15 = .ok (.ifCond .ne 6, 3) := by decide +kernel
theorem dX4_let_18 : decode cX4_let 18 = .ok (.bipush (-2), 2) := by decide +kernel
theorem dX4_let_20 : decode cX4_let 20 = .ok (.ireturn, 1) := by decide +kernel
theorem dX4_let_21 : decode cX4_let 21 = .ok (.aload_n 0, 1) := by decide +kernel
theorem dX4_let_22 : decode cX4_let 22 = .ok (.getfield 33, 3) := by decide +kernel
theorem dX4_let_25 : decode cX4_let 25 = .ok (.aload_n 0, 1) := by decide +kernel
theorem dX4_let_26 : decode cX4_let 26 = .ok (.getfield 12, 3) := by decide +kernel
theorem dX4_let_29 : decode cX4_let 29 = .ok (.invokevirtual 57, 3) := by decide +kernel
theorem dX4_let_32 : decode cX4_let 32 = .ok (.aload_n 0, 1) := by decide +kernel
theorem dX4_let_33 : decode cX4_let 33 = .ok (.getfield 12, 3) := by decide +kernel
theorem dX4_let_36 : decode cX4_let 36 = .ok (.iload_n 1, 1) := by decide +kernel
theorem dX4_let_37 : decode cX4_let 37 = .ok (.iload_n 2, 1) := by decide +kernel
theorem dX4_let_38 : decode cX4_let 38 = .ok (.invokevirtual 102, 3) := by decide +kernel
theorem dX4_let_41 : decode cX4_let 41 = .ok (.iload_n 2, 1) := by decide +kernel
theorem dX4_let_42 : decode cX4_let 42 = .ok (.ifCond .ne 7, 3) := by decide +kernel
theorem dX4_let_45 : decode cX4_let 45 = .ok (.iconst 0, 1) := by decide +kernel
theorem dX4_let_46 : decode cX4_let 46 = .ok (.goto 8, 3) := by decide +kernel
theorem dX4_let_49 : decode cX4_let 49 = .ok (.aload_n 0, 1) := by decide +kernel
theorem dX4_let_50 : decode cX4_let 50 = .ok (.iload_n 1, 1) := by decide +kernel
theorem dX4_let_51 : decode cX4_let 51 = .ok (.invokevirtual 106, 3) := by decide +kernel
theorem dX4_let_54 : decode cX4_let 54 = .ok (.ireturn, 1) := by decide +kernel
set_option maxRecDepth 20000 in
theorem ggX4_carryOut_X3_firstFault : GoodIn wsX4_carryOut wsX3_firstFault := goodIn_r _ [8, 9, 10, 11, 12, 7, 13, 14, 15, 16, 17, 18, 19, 20, 21, 22, 121, 122] (by decide +kernel) (by decide +kernel)
set_option maxRecDepth 20000 in
theorem gX4_carryOut_X3_firstFault : GoodIn wsX4_carryOut (wsV RX4 109 RX3 yX3_firstFault wsX3_firstFault) := goodIn_app (goodIn_of _ (by decide +kernel)) ggX4_carryOut_X3_firstFault
set_option maxRecDepth 20000 in
theorem ggX4_carryOut_X2_record : GoodIn wsX4_carryOut wsX2_record := goodIn_r _ [27, 28, 29, 30, 31, 32, 33, 34, 35, 36, 37, 38, 39, 40, 123, 124, 125, 126] (by decide +kernel) (by decide +kernel)
set_option maxRecDepth 20000 in
theorem gX4_carryOut_X2_record : GoodIn wsX4_carryOut (wsV RX4 57 RX2 yX2_record wsX2_record) := goodIn_app (goodIn_of _ (by decide +kernel)) ggX4_carryOut_X2_record
set_option maxRecDepth 20000 in
theorem ggX4_carryOut_X4_putInShowsOfPad : GoodIn wsX4_carryOut wsX4_putInShowsOfPad := goodIn_r _ [45, 1, 3, 46, 47, 48, 7, 49, 9, 50, 51, 52, 53, 54, 55, 56, 57, 10, 58, 59, 60, 61, 62, 63, 64, 65, 66, 67, 68, 69, 70, 71, 72, 44, 73, 74, 75, 76, 34, 77, 78, 79, 80, 81, 36, 82, 83, 84, 85, 86, 87, 88, 89, 90, 91, 92, 93, 94, 95, 96, 97, 98, 99, 100, 101, 102, 103, 104, 105, 106, 107, 108, 109, 110, 115, 116, 117, 118, 119, 120, 121, 122, 126] (by decide +kernel) (by decide +kernel)
set_option maxRecDepth 20000 in
theorem gX4_carryOut_X4_putInShowsOfPad : GoodIn wsX4_carryOut (wsV RX4 112 RX4 yX4_putInShowsOfPad wsX4_putInShowsOfPad) := goodIn_app (goodIn_of _ (by decide +kernel)) ggX4_carryOut_X4_putInShowsOfPad
set_option maxRecDepth 20000 in
theorem ggX4_carryOut_X3_empty : GoodIn wsX4_carryOut wsX3_empty := goodIn_r _ [114, 9, 121, 122] (by decide +kernel) (by decide +kernel)
set_option maxRecDepth 20000 in
theorem gX4_carryOut_X3_empty : GoodIn wsX4_carryOut (wsV RX4 115 RX3 yX3_empty wsX3_empty) := goodIn_app (goodIn_of _ (by decide +kernel)) ggX4_carryOut_X3_empty
theorem dX4_carryOut_0 : decode cX4_carryOut 0 = .ok (.aload_n 0, 1) := by decide +kernel
theorem dX4_carryOut_1 : decode cX4_carryOut 1 = .ok (.getfield 26, 3) := by decide +kernel
theorem dX4_carryOut_4 : decode cX4_carryOut 4 = .ok (.invokevirtual 109, 3) := by decide +kernel
theorem dX4_carryOut_7 : decode cX4_carryOut 7 = .ok (.bipush (-6), 2) := by decide +kernel
theorem dX4_carryOut_9 : decode cX4_carryOut 9 = .ok (.if_icmp .eq 6, 3) := by decide +kernel
theorem dX4_carryOut_12 : decode cX4_carryOut 12 = .ok (.bipush (-3), 2) := by decide +kernel
theorem dX4_carryOut_14 : decode cX4_carryOut 14 = .ok (.ireturn, 1) := by decide +kernel
theorem dX4_carryOut_15 : decode cX4_carryOut 15 = .ok (.aload_n 0, 1) := by decide +kernel
theorem dX4_carryOut_16 : decode cX4_carryOut 16 = .ok (.getfield 33, 3) := by decide +kernel
theorem dX4_carryOut_19 : decode cX4_carryOut 19 = .ok (.aload_n 0, 1) := by decide +kernel
theorem dX4_carryOut_20 : decode cX4_carryOut 20 = .ok (.getfield 12, 3) := by decide +kernel
theorem dX4_carryOut_23 : decode cX4_carryOut 23 = .ok (.invokevirtual 57, 3) := by decide +kernel
theorem dX4_carryOut_26 : decode cX4_carryOut 26 = .ok (.aload_n 0, 1) := by decide +kernel
theorem dX4_carryOut_27 : decode cX4_carryOut 27 = .ok (.invokevirtual 112, 3) := by decide +kernel
theorem dX4_carryOut_30 : decode cX4_carryOut 30 = .ok (.istore_n 1, 1) := by decide +kernel
theorem dX4_carryOut_31 : decode cX4_carryOut 31 = .ok (.aload_n 0, 1) := by decide +kernel
theorem dX4_carryOut_32 : decode cX4_carryOut 32 = .ok (.getfield 26, 3) := by decide +kernel
theorem dX4_carryOut_35 : decode cX4_carryOut 35 = .ok (.invokevirtual 115, 3) := by decide +kernel
theorem dX4_carryOut_38 : decode cX4_carryOut 38 = .ok (.iload_n 1, 1) := by decide +kernel
theorem dX4_carryOut_39 : decode cX4_carryOut 39 = .ok (.ireturn, 1) := by decide +kernel
set_option maxRecDepth 20000 in
theorem ggX4_at_X4_isPlace : GoodIn wsX4_at wsX4_isPlace := goodIn_r _ [6, 7, 8, 5, 9, 10, 11, 12] (by decide +kernel) (by decide +kernel)
set_option maxRecDepth 20000 in
theorem gX4_at_X4_isPlace : GoodIn wsX4_at (va_wsS RX4 87 yX4_isPlace wsX4_isPlace) := goodIn_app (goodIn_of _ (by decide +kernel)) ggX4_at_X4_isPlace
set_option maxRecDepth 20000 in
theorem ggX4_at_X4_isWithin : GoodIn wsX4_at wsX4_isWithin := goodIn_r _ [12] (by decide +kernel) (by decide +kernel)
set_option maxRecDepth 20000 in
theorem gX4_at_X4_isWithin : GoodIn wsX4_at (va_wsS RX4 46 yX4_isWithin wsX4_isWithin) := goodIn_app (goodIn_of _ (by decide +kernel)) ggX4_at_X4_isWithin
set_option maxRecDepth 20000 in
theorem ggX4_at_X4_placeOf : GoodIn wsX4_at wsX4_placeOf := goodIn_r _ [15] (by decide +kernel) (by decide +kernel)
set_option maxRecDepth 20000 in
theorem gX4_at_X4_placeOf : GoodIn wsX4_at (va_wsS RX4 81 yX4_placeOf wsX4_placeOf) := goodIn_app (goodIn_of _ (by decide +kernel)) ggX4_at_X4_placeOf
set_option maxRecDepth 20000 in
theorem ggX4_at_X1_showAt : GoodIn wsX4_at wsX1_showAt := goodIn_r _ [20, 21, 94] (by decide +kernel) (by decide +kernel)
set_option maxRecDepth 20000 in
theorem gX4_at_X1_showAt : GoodIn wsX4_at (wsV RX4 91 RX1 yX1_showAt wsX1_showAt) := goodIn_app (goodIn_of _ (by decide +kernel)) ggX4_at_X1_showAt
set_option maxRecDepth 20000 in
theorem ggX4_at_X1_hasFilm : GoodIn wsX4_at wsX1_hasFilm := goodIn_r _ [25, 26, 27, 28, 19, 29, 21, 94] (by decide +kernel) (by decide +kernel)
set_option maxRecDepth 20000 in
theorem gX4_at_X1_hasFilm : GoodIn wsX4_at (wsV RX4 118 RX1 yX1_hasFilm wsX1_hasFilm) := goodIn_app (goodIn_of _ (by decide +kernel)) ggX4_at_X1_hasFilm
set_option maxRecDepth 20000 in
theorem ggX4_at_X0_follow : GoodIn wsX4_at wsX0_follow := goodIn_r _ [34, 35, 36, 37, 38, 39, 40, 19, 41, 21, 42, 43, 44, 33, 45, 46, 47, 48, 49, 17, 18, 20, 50, 51, 52, 53, 54, 55, 56, 57, 58, 59, 60, 61, 62, 63, 64, 65, 66, 67, 68, 69, 70, 71, 72, 73, 74, 75, 76, 77, 78, 95, 96, 97, 98, 99, 100, 94] (by decide +kernel) (by decide +kernel)
set_option maxRecDepth 20000 in
theorem gX4_at_X0_follow : GoodIn wsX4_at (wsV RX4 121 RX0 yX0_follow wsX0_follow) := goodIn_app (goodIn_of _ (by decide +kernel)) ggX4_at_X0_follow
set_option maxRecDepth 20000 in
theorem ggX4_at_X0_peopleAt : GoodIn wsX4_at wsX0_peopleAt := goodIn_r _ [82, 46, 95, 96, 97, 98, 99, 100] (by decide +kernel) (by decide +kernel)
set_option maxRecDepth 20000 in
theorem gX4_at_X0_peopleAt : GoodIn wsX4_at (wsV RX4 125 RX0 yX0_peopleAt wsX0_peopleAt) := goodIn_app (goodIn_of _ (by decide +kernel)) ggX4_at_X0_peopleAt
set_option maxRecDepth 20000 in
theorem ggX4_at_X1_setting : GoodIn wsX4_at wsX1_setting := goodIn_r _ [60, 21, 94] (by decide +kernel) (by decide +kernel)
set_option maxRecDepth 20000 in
theorem gX4_at_X1_setting : GoodIn wsX4_at (wsV RX4 128 RX1 yX1_setting wsX1_setting) := goodIn_app (goodIn_of _ (by decide +kernel)) ggX4_at_X1_setting
set_option maxRecDepth 20000 in
theorem ggX4_at_X0_leftBehind : GoodIn wsX4_at wsX0_leftBehind := goodIn_r _ [87, 47, 95, 96, 97, 98, 99, 100] (by decide +kernel) (by decide +kernel)
set_option maxRecDepth 20000 in
theorem gX4_at_X0_leftBehind : GoodIn wsX4_at (wsV RX4 131 RX0 yX0_leftBehind wsX0_leftBehind) := goodIn_app (goodIn_of _ (by decide +kernel)) ggX4_at_X0_leftBehind
theorem dX4_at_0 : decode cX4_at 0 = .ok (.iload_n 1, 1) := by decide +kernel
theorem dX4_at_1 : decode cX4_at 1 = .ok (.iload_n 2, 1) := by decide +kernel
theorem dX4_at_2 : decode cX4_at 2 = .ok (.invokestatic 87, 3) := by decide +kernel
theorem dX4_at_5 : decode cX4_at 5 = .ok (.ifCond .eq 12, 3) := by decide +kernel
theorem dX4_at_8 : decode cX4_at 8 = .ok (.iload_n 3, 1) := by decide +kernel
theorem dX4_at_9 : decode cX4_at 9 = .ok (.iconst 0, 1) := by decide +kernel
theorem dX4_at_10 : decode cX4_at 10 = .ok (.iconst 3, 1) := by decide +kernel
theorem dX4_at_11 : decode cX4_at 11 = .ok (.invokestatic 46, 3) := by decide +kernel
theorem dX4_at_14 : decode cX4_at 14 = .ok (.ifCond .ne 6, 3) := by decide +kernel
theorem dX4_at_17 : decode cX4_at 17 = .ok (.bipush (-2), 2) := by decide +kernel
theorem dX4_at_19 : decode cX4_at 19 = .ok (.ireturn, 1) := by decide +kernel
theorem dX4_at_20 : decode cX4_at 20 = .ok (.iload_n 1, 1) := by decide +kernel
theorem dX4_at_21 : decode cX4_at 21 = .ok (.iload_n 2, 1) := by decide +kernel
theorem dX4_at_22 : decode cX4_at 22 = .ok (.invokestatic 81, 3) := by decide +kernel
theorem dX4_at_25 : decode cX4_at 25 = .ok (.istore 4, 2) := by decide +kernel
theorem dX4_at_27 : decode cX4_at 27 = .ok (.aload_n 0, 1) := by decide +kernel
theorem dX4_at_28 : decode cX4_at 28 = .ok (.getfield 12, 3) := by decide +kernel
theorem dX4_at_31 : decode cX4_at 31 = .ok (.iload 4, 2) := by decide +kernel
theorem dX4_at_33 : decode cX4_at 33 = .ok (.invokevirtual 91, 3) := by decide +kernel
theorem dX4_at_36 : decode cX4_at 36 = .ok (.istore 5, 2) := by decide +kernel
theorem dX4_at_38 : decode cX4_at 38 = .ok (.aload_n 0, 1) := by decide +kernel
theorem dX4_at_39 : decode cX4_at 39 = .ok (.getfield 12, 3) := by decide +kernel
theorem dX4_at_42 : decode cX4_at 42 = .ok (.iload 5, 2) := by decide +kernel
theorem dX4_at_44 : decode cX4_at 44 = .ok (.invokevirtual 118, 3) := by decide +kernel
theorem dX4_at_47 : decode cX4_at 47 = .ok (.ifCond .ne 20, 3) := by decide +kernel
theorem dX4_at_50 : decode cX4_at 50 = .ok (.iload_n 3, 1) := by decide +kernel
theorem dX4_at_51 : decode cX4_at 51 = .ok (.iconst 1, 1) := by decide +kernel
theorem dX4_at_52 : decode cX4_at 52 = .ok (.if_icmp .eq 8, 3) := by decide +kernel
theorem dX4_at_55 : decode cX4_at 55 = .ok (.iload_n 3, 1) := by decide +kernel
theorem dX4_at_56 : decode cX4_at 56 = .ok (.iconst 2, 1) := by decide +kernel
theorem dX4_at_57 : decode cX4_at 57 = .ok (.if_icmp .ne 7, 3) := by decide +kernel
theorem dX4_at_60 : decode cX4_at 60 = .ok (.iconst 0, 1) := by decide +kernel
theorem dX4_at_61 : decode cX4_at 61 = .ok (.goto 5, 3) := by decide +kernel
theorem dX4_at_64 : decode cX4_at 64 = .ok (.bipush (-6), 2) := by decide +kernel
theorem dX4_at_66 : decode cX4_at 66 = .ok (.ireturn, 1) := by decide +kernel
theorem dX4_at_67 : decode cX4_at 67 = .ok (.aload_n 0, 1) := by decide +kernel
theorem dX4_at_68 : decode cX4_at 68 = .ok (.getfield 19, 3) := by decide +kernel
theorem dX4_at_71 : decode cX4_at 71 = .ok (.aload_n 0, 1) := by decide +kernel
theorem dX4_at_72 : decode cX4_at 72 = .ok (.getfield 12, 3) := by decide +kernel
theorem dX4_at_75 : decode cX4_at 75 = .ok (.iload 5, 2) := by decide +kernel
theorem dX4_at_77 : decode cX4_at 77 = .ok (.invokevirtual 121, 3) := by decide +kernel
theorem dX4_at_80 : decode cX4_at 80 = .ok (.iload_n 3, 1) := by decide +kernel
theorem dX4_at_81 : decode cX4_at 81 = .ok (.tableswitch 59 0 2 #[27, 30, 40], 27) := by decide +kernel
theorem dX4_at_108 : decode cX4_at 108 = .ok (.iload 5, 2) := by decide +kernel
theorem dX4_at_110 : decode cX4_at 110 = .ok (.ireturn, 1) := by decide +kernel
theorem dX4_at_111 : decode cX4_at 111 = .ok (.aload_n 0, 1) := by decide +kernel
theorem dX4_at_112 : decode cX4_at 112 = .ok (.getfield 19, 3) := by decide +kernel
theorem dX4_at_115 : decode cX4_at 115 = .ok (.iload 4, 2) := by decide +kernel
theorem dX4_at_117 : decode cX4_at 117 = .ok (.invokevirtual 125, 3) := by decide +kernel
theorem dX4_at_120 : decode cX4_at 120 = .ok (.ireturn, 1) := by decide +kernel
theorem dX4_at_121 : decode cX4_at 121 = .ok (.aload_n 0, 1) := by decide +kernel
theorem dX4_at_122 : decode cX4_at 122 = .ok (.getfield 19, 3) := by decide +kernel
theorem dX4_at_125 : decode cX4_at 125 = .ok (.iload 4, 2) := by decide +kernel
theorem dX4_at_127 : decode cX4_at 127 = .ok (.invokevirtual 125, 3) := by decide +kernel
theorem dX4_at_130 : decode cX4_at 130 = .ok (.aload_n 0, 1) := by decide +kernel
theorem dX4_at_131 : decode cX4_at 131 = .ok (.getfield 12, 3) := by decide +kernel
theorem dX4_at_134 : decode cX4_at 134 = .ok (.iconst 1, 1) := by decide +kernel
theorem dX4_at_135 : decode cX4_at 135 = .ok (.invokevirtual 128, 3) := by decide +kernel
theorem dX4_at_138 : decode cX4_at 138 = .ok (.imul, 1) := by decide +kernel
theorem dX4_at_139 : decode cX4_at 139 = .ok (.ireturn, 1) := by decide +kernel
theorem dX4_at_140 : decode cX4_at 140 = .ok (.aload_n 0, 1) := by decide +kernel
theorem dX4_at_141 : decode cX4_at 141 = .ok (.getfield 19, 3) := by decide +kernel
theorem dX4_at_144 : decode cX4_at 144 = .ok (.iload 4, 2) := by decide +kernel
theorem dX4_at_146 : decode cX4_at 146 = .ok (.invokevirtual 131, 3) := by decide +kernel
theorem dX4_at_149 : decode cX4_at 149 = .ok (.ireturn, 1) := by decide +kernel
set_option maxRecDepth 20000 in
theorem ggX4_of_X1_hasFilm : GoodIn wsX4_of wsX1_hasFilm := goodIn_r _ [7, 8, 9, 10, 6, 11, 12, 89] (by decide +kernel) (by decide +kernel)
set_option maxRecDepth 20000 in
theorem gX4_of_X1_hasFilm : GoodIn wsX4_of (wsV RX4 118 RX1 yX1_hasFilm wsX1_hasFilm) := goodIn_app (goodIn_of _ (by decide +kernel)) ggX4_of_X1_hasFilm
set_option maxRecDepth 20000 in
theorem ggX4_of_X4_isWithin : GoodIn wsX4_of wsX4_isWithin := goodIn_r _ [16] (by decide +kernel) (by decide +kernel)
set_option maxRecDepth 20000 in
theorem gX4_of_X4_isWithin : GoodIn wsX4_of (va_wsS RX4 46 yX4_isWithin wsX4_isWithin) := goodIn_app (goodIn_of _ (by decide +kernel)) ggX4_of_X4_isWithin
set_option maxRecDepth 20000 in
theorem ggX4_of_X1_fact : GoodIn wsX4_of wsX1_fact := goodIn_r _ [20, 12, 89] (by decide +kernel) (by decide +kernel)
set_option maxRecDepth 20000 in
theorem gX4_of_X1_fact : GoodIn wsX4_of (wsV RX4 134 RX1 yX1_fact wsX1_fact) := goodIn_app (goodIn_of _ (by decide +kernel)) ggX4_of_X1_fact
set_option maxRecDepth 20000 in
theorem ggX4_of_X1_firstDayShown : GoodIn wsX4_of wsX1_firstDayShown := goodIn_r _ [24, 25, 26, 27, 6, 28, 12, 89] (by decide +kernel) (by decide +kernel)
set_option maxRecDepth 20000 in
theorem gX4_of_X1_firstDayShown : GoodIn wsX4_of (wsV RX4 137 RX1 yX1_firstDayShown wsX1_firstDayShown) := goodIn_app (goodIn_of _ (by decide +kernel)) ggX4_of_X1_firstDayShown
set_option maxRecDepth 20000 in
theorem ggX4_of_X0_follow : GoodIn wsX4_of wsX0_follow := goodIn_r _ [33, 34, 35, 36, 37, 18, 19, 6, 20, 12, 38, 39, 40, 32, 41, 42, 43, 44, 45, 26, 27, 28, 46, 47, 48, 49, 50, 51, 52, 53, 54, 55, 56, 57, 58, 59, 60, 61, 62, 63, 64, 65, 66, 67, 68, 69, 70, 71, 72, 73, 74, 90, 91, 92, 93, 94, 95, 89] (by decide +kernel) (by decide +kernel)
set_option maxRecDepth 20000 in
theorem gX4_of_X0_follow : GoodIn wsX4_of (wsV RX4 121 RX0 yX0_follow wsX0_follow) := goodIn_app (goodIn_of _ (by decide +kernel)) ggX4_of_X0_follow
set_option maxRecDepth 20000 in
theorem ggX4_of_X0_leftAtEnd : GoodIn wsX4_of wsX0_leftAtEnd := goodIn_r _ [78, 36, 90, 91, 92, 93, 94, 95] (by decide +kernel) (by decide +kernel)
set_option maxRecDepth 20000 in
theorem gX4_of_X0_leftAtEnd : GoodIn wsX4_of (wsV RX4 140 RX0 yX0_leftAtEnd wsX0_leftAtEnd) := goodIn_app (goodIn_of _ (by decide +kernel)) ggX4_of_X0_leftAtEnd
set_option maxRecDepth 20000 in
theorem ggX4_of_X0_sum : GoodIn wsX4_of wsX0_sum := goodIn_r _ [82, 57, 58, 59, 32, 60, 44, 90, 91, 92, 93, 94, 95] (by decide +kernel) (by decide +kernel)
set_option maxRecDepth 20000 in
theorem gX4_of_X0_sum : GoodIn wsX4_of (wsV RX4 143 RX0 yX0_sum wsX0_sum) := goodIn_app (goodIn_of _ (by decide +kernel)) ggX4_of_X0_sum
theorem dX4_of_0 : decode cX4_of 0 = .ok (.aload_n 0, 1) := by decide +kernel
theorem dX4_of_1 : decode cX4_of 1 = .ok (.getfield 12, 3) := by decide +kernel
theorem dX4_of_4 : decode cX4_of 4 = .ok (.iload_n 1, 1) := by decide +kernel
theorem dX4_of_5 : decode cX4_of 5 = .ok (.invokevirtual 118, 3) := by decide +kernel
theorem dX4_of_8 : decode cX4_of 8 = .ok (.ifCond .ne 5, 3) := by decide +kernel
theorem dX4_of_11 : decode cX4_of 11 = .ok (.iconst (-1), 1) := by decide +kernel
theorem dX4_of_12 : decode cX4_of 12 = .ok (.ireturn, 1) := by decide +kernel
theorem dX4_of_13 : decode cX4_of 13 = .ok (.iload_n 2, 1) := by decide +kernel
theorem dX4_of_14 : decode cX4_of 14 = .ok (.iconst 0, 1) := by decide +kernel
theorem dX4_of_15 : decode cX4_of 15 = .ok (.bipush 10, 2) := by decide +kernel
theorem dX4_of_17 : decode cX4_of 17 = .ok (.invokestatic 46, 3) := by decide +kernel
theorem dX4_of_20 : decode cX4_of 20 = .ok (.ifCond .ne 6, 3) := by decide +kernel
theorem dX4_of_23 : decode cX4_of 23 = .ok (.bipush (-2), 2) := by decide +kernel
theorem dX4_of_25 : decode cX4_of 25 = .ok (.ireturn, 1) := by decide +kernel
theorem dX4_of_26 : decode cX4_of 26 = .ok (.iload_n 2, 1) := by decide +kernel
theorem dX4_of_27 : decode cX4_of 27 = .ok (.iconst 5, 1) := by decide +kernel
theorem dX4_of_28 : decode cX4_of 28 = .ok (.if_icmp .ge 13, 3) := by decide +kernel
theorem dX4_of_31 : decode cX4_of 31 = .ok (.aload_n 0, 1) := by decide +kernel
theorem dX4_of_32 : decode cX4_of 32 = .ok (.getfield 12, 3) := by decide +kernel
theorem dX4_of_35 : decode cX4_of 35 = .ok (.iload_n 1, 1) := by decide +kernel
theorem dX4_of_36 : decode cX4_of 36 = .ok (.iload_n 2, 1) := by decide +kernel
theorem dX4_of_37 : decode cX4_of 37 = .ok (.invokevirtual 134, 3) := by decide +kernel
theorem dX4_of_40 : decode cX4_of 40 = .ok (.ireturn, 1) := by decide +kernel
theorem dX4_of_41 : decode cX4_of 41 = .ok (.iload_n 2, 1) := by decide +kernel
theorem dX4_of_42 : decode cX4_of 42 = .ok (.bipush 10, 2) := by decide +kernel
theorem dX4_of_44 : decode cX4_of 44 = .ok (.if_icmp .ne 12, 3) := by decide +kernel
theorem dX4_of_47 : decode cX4_of 47 = .ok (.aload_n 0, 1) := by decide +kernel
theorem dX4_of_48 : decode cX4_of 48 = .ok (.getfield 12, 3) := by decide +kernel
theorem dX4_of_51 : decode cX4_of 51 = .ok (.iload_n 1, 1) := by decide +kernel
theorem dX4_of_52 : decode cX4_of 52 = .ok (.invokevirtual 137, 3) := by decide +kernel
theorem dX4_of_55 : decode cX4_of 55 = .ok (.ireturn, 1) := by decide +kernel
theorem dX4_of_56 : decode cX4_of 56 = .ok (.aload_n 0, 1) := by decide +kernel
theorem dX4_of_57 : decode cX4_of 57 = .ok (.getfield 19, 3) := by decide +kernel
theorem dX4_of_60 : decode cX4_of 60 = .ok (.aload_n 0, 1) := by decide +kernel
theorem dX4_of_61 : decode cX4_of 61 = .ok (.getfield 12, 3) := by decide +kernel
theorem dX4_of_64 : decode cX4_of 64 = .ok (.iload_n 1, 1) := by decide +kernel
theorem dX4_of_65 : decode cX4_of 65 = .ok (.invokevirtual 121, 3) := by decide +kernel
theorem dX4_of_68 : decode cX4_of 68 = .ok (.iload_n 2, 1) := by decide +kernel
theorem dX4_of_69 : decode cX4_of 69 = .ok (.bipush 9, 2) := by decide +kernel
theorem dX4_of_71 : decode cX4_of 71 = .ok (.if_icmp .ne 13, 3) := by decide +kernel
theorem dX4_of_74 : decode cX4_of 74 = .ok (.aload_n 0, 1) := by decide +kernel
theorem dX4_of_75 : decode cX4_of 75 = .ok (.getfield 19, 3) := by decide +kernel
theorem dX4_of_78 : decode cX4_of 78 = .ok (.invokevirtual 140, 3) := by decide +kernel
theorem dX4_of_81 : decode cX4_of 81 = .ok (.goto 13, 3) := by decide +kernel
theorem dX4_of_84 : decode cX4_of 84 = .ok (.aload_n 0, 1) := by decide +kernel
theorem dX4_of_85 : decode cX4_of 85 = .ok (.getfield 19, 3) := by decide +kernel
theorem dX4_of_88 : decode cX4_of 88 = .ok (.iload_n 2, 1) := by decide +kernel
theorem dX4_of_89 : decode cX4_of 89 = .ok (.iconst 5, 1) := by decide +kernel
theorem dX4_of_90 : decode cX4_of 90 = .ok (.isub, 1) := by decide +kernel
theorem dX4_of_91 : decode cX4_of 91 = .ok (.invokevirtual 143, 3) := by decide +kernel
theorem dX4_of_94 : decode cX4_of 94 = .ok (.ireturn, 1) := by decide +kernel
set_option maxRecDepth 20000 in
theorem ggX4_inWeek_X1_hasFilm : GoodIn wsX4_inWeek wsX1_hasFilm := goodIn_r _ [7, 8, 9, 10, 6, 11, 12, 87] (by decide +kernel) (by decide +kernel)
set_option maxRecDepth 20000 in
theorem gX4_inWeek_X1_hasFilm : GoodIn wsX4_inWeek (wsV RX4 118 RX1 yX1_hasFilm wsX1_hasFilm) := goodIn_app (goodIn_of _ (by decide +kernel)) ggX4_inWeek_X1_hasFilm
set_option maxRecDepth 20000 in
theorem ggX4_inWeek_X4_isWeek : GoodIn wsX4_inWeek wsX4_isWeek := goodIn_r _ [16, 17, 18, 15, 19] (by decide +kernel) (by decide +kernel)
set_option maxRecDepth 20000 in
theorem gX4_inWeek_X4_isWeek : GoodIn wsX4_inWeek (va_wsS RX4 146 yX4_isWeek wsX4_isWeek) := goodIn_app (goodIn_of _ (by decide +kernel)) ggX4_inWeek_X4_isWeek
set_option maxRecDepth 20000 in
theorem ggX4_inWeek_X4_isWithin : GoodIn wsX4_inWeek wsX4_isWithin := goodIn_r _ [19] (by decide +kernel) (by decide +kernel)
set_option maxRecDepth 20000 in
theorem gX4_inWeek_X4_isWithin : GoodIn wsX4_inWeek (va_wsS RX4 46 yX4_isWithin wsX4_isWithin) := goodIn_app (goodIn_of _ (by decide +kernel)) ggX4_inWeek_X4_isWithin
set_option maxRecDepth 20000 in
theorem ggX4_inWeek_X0_follow : GoodIn wsX4_inWeek wsX0_follow := goodIn_r _ [24, 25, 26, 27, 28, 29, 30, 6, 31, 12, 32, 33, 34, 23, 35, 36, 37, 38, 39, 40, 41, 42, 43, 44, 45, 46, 47, 48, 49, 50, 51, 52, 53, 54, 55, 56, 57, 58, 59, 60, 61, 62, 63, 64, 65, 66, 67, 68, 69, 70, 71, 88, 89, 90, 91, 92, 93, 87] (by decide +kernel) (by decide +kernel)
set_option maxRecDepth 20000 in
theorem gX4_inWeek_X0_follow : GoodIn wsX4_inWeek (wsV RX4 121 RX0 yX0_follow wsX0_follow) := goodIn_app (goodIn_of _ (by decide +kernel)) ggX4_inWeek_X0_follow
set_option maxRecDepth 20000 in
theorem ggX4_inWeek_X0_sumOfWeek : GoodIn wsX4_inWeek wsX0_sumOfWeek := goodIn_r _ [57, 38, 88, 89, 90, 91, 92, 93] (by decide +kernel) (by decide +kernel)
set_option maxRecDepth 20000 in
theorem gX4_inWeek_X0_sumOfWeek : GoodIn wsX4_inWeek (wsV RX4 149 RX0 yX0_sumOfWeek wsX0_sumOfWeek) := goodIn_app (goodIn_of _ (by decide +kernel)) ggX4_inWeek_X0_sumOfWeek
set_option maxRecDepth 20000 in
theorem ggX4_inWeek_X0_shareIn : GoodIn wsX4_inWeek wsX0_shareIn := goodIn_r _ [76, 26, 88, 89, 90, 91, 92, 93] (by decide +kernel) (by decide +kernel)
set_option maxRecDepth 20000 in
theorem gX4_inWeek_X0_shareIn : GoodIn wsX4_inWeek (wsV RX4 152 RX0 yX0_shareIn wsX0_shareIn) := goodIn_app (goodIn_of _ (by decide +kernel)) ggX4_inWeek_X0_shareIn
set_option maxRecDepth 20000 in
theorem ggX4_inWeek_X0_dueAboveShare : GoodIn wsX4_inWeek wsX0_dueAboveShare := goodIn_r _ [80, 54, 55, 56, 23, 57, 38, 68, 69, 70, 71, 26, 88, 89, 90, 91, 92, 93] (by decide +kernel) (by decide +kernel)
set_option maxRecDepth 20000 in
theorem gX4_inWeek_X0_dueAboveShare : GoodIn wsX4_inWeek (wsV RX4 155 RX0 yX0_dueAboveShare wsX0_dueAboveShare) := goodIn_app (goodIn_of _ (by decide +kernel)) ggX4_inWeek_X0_dueAboveShare
theorem dX4_inWeek_0 : decode cX4_inWeek 0 = .ok (.aload_n 0, 1) := by decide +kernel
theorem dX4_inWeek_1 : decode cX4_inWeek 1 = .ok (.getfield 12, 3) := by decide +kernel
theorem dX4_inWeek_4 : decode cX4_inWeek 4 = .ok (.iload_n 1, 1) := by decide +kernel
theorem dX4_inWeek_5 : decode cX4_inWeek 5 = .ok (.invokevirtual 118, 3) := by decide +kernel
theorem dX4_inWeek_8 : decode cX4_inWeek 8 = .ok (.ifCond .ne 5, 3) := by decide +kernel
theorem dX4_inWeek_11 : decode cX4_inWeek 11 = .ok (.iconst (-1), 1) := by decide +kernel
theorem dX4_inWeek_12 : decode cX4_inWeek 12 = .ok (.ireturn, 1) := by decide +kernel
theorem dX4_inWeek_13 : decode cX4_inWeek 13 = .ok (.iload_n 2, 1) := by decide +kernel
theorem dX4_inWeek_14 : decode cX4_inWeek 14 = .ok (.invokestatic 146, 3) := by decide +kernel
theorem dX4_inWeek_17 : decode cX4_inWeek 17 = .ok (.ifCond .eq 12, 3) := by decide +kernel
theorem dX4_inWeek_20 : decode cX4_inWeek 20 = .ok (.iload_n 3, 1) := by decide +kernel
theorem dX4_inWeek_21 : decode cX4_inWeek 21 = .ok (.iconst 0, 1) := by decide +kernel
theorem dX4_inWeek_22 : decode cX4_inWeek 22 = .ok (.iconst 3, 1) := by decide +kernel
theorem dX4_inWeek_23 : decode cX4_inWeek 23 = .ok (.invokestatic 46, 3) := by decide +kernel
theorem dX4_inWeek_26 : decode cX4_inWeek 26 = .ok (.ifCond .ne 6, 3) := by decide +kernel
theorem dX4_inWeek_29 : decode cX4_inWeek 29 = .ok (.bipush (-2), 2) := by decide +kernel
theorem dX4_inWeek_31 : decode cX4_inWeek 31 = .ok (.ireturn, 1) := by decide +kernel
theorem dX4_inWeek_32 : decode cX4_inWeek 32 = .ok (.aload_n 0, 1) := by decide +kernel
theorem dX4_inWeek_33 : decode cX4_inWeek 33 = .ok (.getfield 19, 3) := by decide +kernel
theorem dX4_inWeek_36 : decode cX4_inWeek 36 = .ok (.aload_n 0, 1) := by decide +kernel
theorem dX4_inWeek_37 : decode cX4_inWeek 37 = .ok (.getfield 12, 3) := by decide +kernel
theorem dX4_inWeek_40 : decode cX4_inWeek 40 = .ok (.iload_n 1, 1) := by decide +kernel
theorem dX4_inWeek_41 : decode cX4_inWeek 41 = .ok (.invokevirtual 121, 3) := by decide +kernel
theorem dX4_inWeek_44 : decode cX4_inWeek 44 = .ok (.iload_n 3, 1) := by decide +kernel
theorem dX4_inWeek_45 : decode cX4_inWeek 45 = .ok (.tableswitch 56 0 2 #[27, 37, 46], 27) := by decide +kernel
theorem dX4_inWeek_72 : decode cX4_inWeek 72 = .ok (.aload_n 0, 1) := by decide +kernel
theorem dX4_inWeek_73 : decode cX4_inWeek 73 = .ok (.getfield 19, 3) := by decide +kernel
theorem dX4_inWeek_76 : decode cX4_inWeek 76 = .ok (.iload_n 2, 1) := by decide +kernel
theorem dX4_inWeek_77 : decode cX4_inWeek 77 = .ok (.iconst 2, 1) := by decide +kernel
theorem dX4_inWeek_78 : decode cX4_inWeek 78 = .ok (.invokevirtual 149, 3) := by decide +kernel
theorem dX4_inWeek_81 : decode cX4_inWeek 81 = .ok (.ireturn, 1) := by decide +kernel
theorem dX4_inWeek_82 : decode cX4_inWeek 82 = .ok (.aload_n 0, 1) := by decide +kernel
theorem dX4_inWeek_83 : decode cX4_inWeek 83 = .ok (.getfield 19, 3) := by decide +kernel
theorem dX4_inWeek_86 : decode cX4_inWeek 86 = .ok (.iload_n 2, 1) := by decide +kernel
theorem dX4_inWeek_87 : decode cX4_inWeek 87 = .ok (.invokevirtual 152, 3) := by decide +kernel
theorem dX4_inWeek_90 : decode cX4_inWeek 90 = .ok (.ireturn, 1) := by decide +kernel
theorem dX4_inWeek_91 : decode cX4_inWeek 91 = .ok (.aload_n 0, 1) := by decide +kernel
theorem dX4_inWeek_92 : decode cX4_inWeek 92 = .ok (.getfield 19, 3) := by decide +kernel
theorem dX4_inWeek_95 : decode cX4_inWeek 95 = .ok (.iload_n 2, 1) := by decide +kernel
theorem dX4_inWeek_96 : decode cX4_inWeek 96 = .ok (.iconst 3, 1) := by decide +kernel
theorem dX4_inWeek_97 : decode cX4_inWeek 97 = .ok (.invokevirtual 149, 3) := by decide +kernel
theorem dX4_inWeek_100 : decode cX4_inWeek 100 = .ok (.ireturn, 1) := by decide +kernel
theorem dX4_inWeek_101 : decode cX4_inWeek 101 = .ok (.aload_n 0, 1) := by decide +kernel
theorem dX4_inWeek_102 : decode cX4_inWeek 102 = .ok (.getfield 19, 3) := by decide +kernel
theorem dX4_inWeek_105 : decode cX4_inWeek 105 = .ok (.iload_n 2, 1) := by decide +kernel
theorem dX4_inWeek_106 : decode cX4_inWeek 106 = .ok (.invokevirtual 155, 3) := by decide +kernel
theorem dX4_inWeek_109 : decode cX4_inWeek 109 = .ok (.ireturn, 1) := by decide +kernel
set_option maxRecDepth 20000 in
theorem ggX4_week_X4_isWeek : GoodIn wsX4_week wsX4_isWeek := goodIn_r _ [6, 7, 8, 5, 9] (by decide +kernel) (by decide +kernel)
set_option maxRecDepth 20000 in
theorem gX4_week_X4_isWeek : GoodIn wsX4_week (va_wsS RX4 146 yX4_isWeek wsX4_isWeek) := goodIn_app (goodIn_of _ (by decide +kernel)) ggX4_week_X4_isWeek
set_option maxRecDepth 20000 in
theorem ggX4_week_X4_isWithin : GoodIn wsX4_week wsX4_isWithin := goodIn_r _ [9] (by decide +kernel) (by decide +kernel)
set_option maxRecDepth 20000 in
theorem gX4_week_X4_isWithin : GoodIn wsX4_week (va_wsS RX4 46 yX4_isWithin wsX4_isWithin) := goodIn_app (goodIn_of _ (by decide +kernel)) ggX4_week_X4_isWithin
set_option maxRecDepth 20000 in
theorem ggX4_week_X4_sumOfFilmsInWeek : GoodIn wsX4_week wsX4_sumOfFilmsInWeek := goodIn_r _ [13, 1, 14, 15, 16, 17, 18, 19, 20, 21, 22, 23, 24, 25, 26, 27, 28, 29, 30, 31, 32, 33, 34, 35, 36, 37, 38, 39, 40, 41, 42, 43, 44, 45, 46, 47, 48, 49, 50, 51, 52, 53, 54, 55, 56, 57, 58, 59, 60, 61, 62, 63, 64, 65, 66, 67, 68, 69, 70, 71, 72, 73, 82, 83, 84, 85, 86, 87, 88, 89, 90, 91, 92, 93, 94] (by decide +kernel) (by decide +kernel)
set_option maxRecDepth 20000 in
theorem gX4_week_X4_sumOfFilmsInWeek : GoodIn wsX4_week (wsV RX4 158 RX4 yX4_sumOfFilmsInWeek wsX4_sumOfFilmsInWeek) := goodIn_app (goodIn_of _ (by decide +kernel)) ggX4_week_X4_sumOfFilmsInWeek
set_option maxRecDepth 20000 in
theorem ggX4_week_X1_rentsOf : GoodIn wsX4_week wsX1_rentsOf := goodIn_r _ [77, 78, 79, 80, 18, 81, 20, 88] (by decide +kernel) (by decide +kernel)
set_option maxRecDepth 20000 in
theorem gX4_week_X1_rentsOf : GoodIn wsX4_week (wsV RX4 161 RX1 yX1_rentsOf wsX1_rentsOf) := goodIn_app (goodIn_of _ (by decide +kernel)) ggX4_week_X1_rentsOf
theorem dX4_week_0 : decode cX4_week 0 = .ok (.iload_n 1, 1) := by decide +kernel
theorem dX4_week_1 : decode cX4_week 1 = .ok (.invokestatic 146, 3) := by decide +kernel
theorem dX4_week_4 : decode cX4_week 4 = .ok (.ifCond .eq 12, 3) := by decide +kernel
theorem dX4_week_7 : decode cX4_week 7 = .ok (.iload_n 2, 1) := by decide +kernel
theorem dX4_week_8 : decode cX4_week 8 = .ok (.iconst 0, 1) := by decide +kernel
theorem dX4_week_9 : decode cX4_week 9 = .ok (.iconst 4, 1) := by decide +kernel
theorem dX4_week_10 : decode cX4_week 10 = .ok (.invokestatic 46, 3) := by decide +kernel
theorem dX4_week_13 : decode cX4_week 13 = .ok (.ifCond .ne 6, 3) := by decide +kernel
theorem dX4_week_16 : decode cX4_week 16 = .ok (.bipush (-2), 2) := by decide +kernel
theorem dX4_week_18 : decode cX4_week 18 = .ok (.ireturn, 1) := by decide +kernel
theorem dX4_week_19 : decode cX4_week 19 = .ok (.aload_n 0, 1) := by decide +kernel
theorem dX4_week_20 : decode cX4_week 20 = .ok (.iload_n 1, 1) := by decide +kernel
theorem dX4_week_21 : decode cX4_week 21 = .ok (.iload_n 2, 1) := by decide +kernel
theorem dX4_week_22 : decode cX4_week 22 = .ok (.invokevirtual 158, 3) := by decide +kernel
theorem dX4_week_25 : decode cX4_week 25 = .ok (.istore_n 3, 1) := by decide +kernel
theorem dX4_week_26 : decode cX4_week 26 = .ok (.iload_n 2, 1) := by decide +kernel
theorem dX4_week_27 : decode cX4_week 27 = .ok (.iconst 4, 1) := by decide +kernel
theorem dX4_week_28 : decode cX4_week 28 = .ok (.if_icmp .eq 5, 3) := by decide +kernel
theorem dX4_week_31 : decode cX4_week 31 = .ok (.iload_n 3, 1) := by decide +kernel
theorem dX4_week_32 : decode cX4_week 32 = .ok (.ireturn, 1) := by decide +kernel
theorem dX4_week_33 : decode cX4_week 33 = .ok (.iload_n 1, 1) := by decide +kernel
theorem dX4_week_34 : decode cX4_week 34 = .ok (.bipush 7, 2) := by decide +kernel
theorem dX4_week_36 : decode cX4_week 36 = .ok (.imul, 1) := by decide +kernel
theorem dX4_week_37 : decode cX4_week 37 = .ok (.istore 4, 2) := by decide +kernel
theorem dX4_week_39 : decode cX4_week 39 = .ok (.iload_n 3, 1) := by decide +kernel
theorem dX4_week_40 : decode cX4_week 40 = .ok (.aload_n 0, 1) := by decide +kernel
theorem dX4_week_41 : decode cX4_week 41 = .ok (.getfield 12, 3) := by decide +kernel
theorem dX4_week_44 : decode cX4_week 44 = .ok (.iload 4, 2) := by decide +kernel
theorem dX4_week_46 : decode cX4_week 46 = .ok (.iload 4, 2) := by decide +kernel
theorem dX4_week_48 : decode cX4_week 48 = .ok (.bipush 7, 2) := by decide +kernel
theorem dX4_week_50 : decode cX4_week 50 = .ok (.iadd, 1) := by decide +kernel
theorem dX4_week_51 : decode cX4_week 51 = .ok (.invokevirtual 161, 3) := by decide +kernel
theorem dX4_week_54 : decode cX4_week 54 = .ok (.iadd, 1) := by decide +kernel
theorem dX4_week_55 : decode cX4_week 55 = .ok (.ldc 101, 2) := by decide +kernel
theorem dX4_week_57 : decode cX4_week 57 = .ok (.iadd, 1) := by decide +kernel
theorem dX4_week_58 : decode cX4_week 58 = .ok (.ireturn, 1) := by decide +kernel
set_option maxRecDepth 20000 in
theorem ggX4_distributor_X4_isWithin : GoodIn wsX4_distributor wsX4_isWithin := goodIn_r _ [5] (by decide +kernel) (by decide +kernel)
set_option maxRecDepth 20000 in
theorem gX4_distributor_X4_isWithin : GoodIn wsX4_distributor (va_wsS RX4 46 yX4_isWithin wsX4_isWithin) := goodIn_app (goodIn_of _ (by decide +kernel)) ggX4_distributor_X4_isWithin
set_option maxRecDepth 20000 in
theorem ggX4_distributor_X1_films : GoodIn wsX4_distributor wsX1_films := goodIn_r _ [10, 11, 80] (by decide +kernel) (by decide +kernel)
set_option maxRecDepth 20000 in
theorem gX4_distributor_X1_films : GoodIn wsX4_distributor (wsV RX4 69 RX1 yX1_films wsX1_films) := goodIn_app (goodIn_of _ (by decide +kernel)) ggX4_distributor_X1_films
set_option maxRecDepth 20000 in
theorem ggX4_distributor_X1_fact : GoodIn wsX4_distributor wsX1_fact := goodIn_r _ [15, 11, 80] (by decide +kernel) (by decide +kernel)
set_option maxRecDepth 20000 in
theorem gX4_distributor_X1_fact : GoodIn wsX4_distributor (wsV RX4 134 RX1 yX1_fact wsX1_fact) := goodIn_app (goodIn_of _ (by decide +kernel)) ggX4_distributor_X1_fact
set_option maxRecDepth 20000 in
theorem ggX4_distributor_X4_sumOfFilm : GoodIn wsX4_distributor wsX4_sumOfFilm := goodIn_r _ [19, 20, 1, 21, 22, 23, 24, 25, 26, 27, 28, 29, 13, 14, 9, 15, 11, 30, 31, 32, 33, 34, 35, 36, 37, 38, 39, 40, 41, 42, 43, 44, 45, 46, 47, 48, 49, 50, 51, 52, 53, 54, 55, 56, 57, 58, 59, 60, 61, 62, 63, 64, 65, 66, 67, 68, 69, 70, 71, 72, 73, 74, 75, 76, 77, 78, 79, 81, 82, 83, 84, 85, 86, 80] (by decide +kernel) (by decide +kernel)
set_option maxRecDepth 20000 in
theorem gX4_distributor_X4_sumOfFilm : GoodIn wsX4_distributor (wsV RX4 164 RX4 yX4_sumOfFilm wsX4_sumOfFilm) := goodIn_app (goodIn_of _ (by decide +kernel)) ggX4_distributor_X4_sumOfFilm
theorem dX4_distributor_0 : decode cX4_distributor 0 = .ok (.iload_n 1, 1) := by decide +kernel
theorem dX4_distributor_1 : decode cX4_distributor 1 = .ok (.iconst 0, 1) := by decide +kernel
theorem dX4_distributor_2 : decode cX4_distributor 2 = .ok (.iconst 3, 1) := by decide +kernel
theorem dX4_distributor_3 : decode cX4_distributor 3 = .ok (.invokestatic 46, 3) := by decide +kernel
theorem dX4_distributor_6 : decode cX4_distributor 6 = .ok (.ifCond .eq 12, 3) := by decide +kernel
theorem dX4_distributor_9 : decode cX4_distributor 9 = .ok (.iload_n 2, 1) := by decide +kernel
theorem dX4_distributor_10 : decode cX4_distributor 10 = .ok (.iconst 0, 1) := by decide +kernel
theorem dX4_distributor_11 : decode cX4_distributor 11 = .ok (.iconst 2, 1) := by decide +kernel
theorem dX4_distributor_12 : decode cX4_distributor 12 = .ok (.invokestatic 46, 3) := by decide +kernel
theorem dX4_distributor_15 : decode cX4_distributor 15 = .ok (.ifCond .ne 6, 3) := by decide +kernel
theorem dX4_distributor_18 : decode cX4_distributor 18 = .ok (.bipush (-2), 2) := by decide +kernel
theorem dX4_distributor_20 : decode cX4_distributor 20 = .ok (.ireturn, 1) := by decide +kernel
theorem dX4_distributor_21 : decode cX4_distributor 21 = .ok (.iconst 0, 1) := by decide +kernel
theorem dX4_distributor_22 : decode cX4_distributor 22 = .ok (.istore_n 3, 1) := by decide +kernel
theorem dX4_distributor_23 : decode cX4_distributor 23 = .ok (.iconst 0, 1) := by decide +kernel
theorem dX4_distributor_24 : decode cX4_distributor 24 = .ok (.istore 4, 2) := by decide +kernel
theorem dX4_distributor_26 : decode cX4_distributor 26 = .ok (.iload 4, 2) := by decide +kernel
theorem dX4_distributor_28 : decode cX4_distributor 28 = .ok (.aload_n 0, 1) := by decide +kernel
theorem dX4_distributor_29 : decode cX4_distributor 29 = .ok (.getfield 12, 3) := by decide +kernel
theorem dX4_distributor_32 : decode cX4_distributor 32 = .ok (.invokevirtual 69, 3) := by decide +kernel
theorem dX4_distributor_35 : decode cX4_distributor 35 = .ok (.if_icmp .ge 50, 3) := by decide +kernel
theorem dX4_distributor_38 : decode cX4_distributor 38 = .ok (.aload_n 0, 1) := by decide +kernel
theorem dX4_distributor_39 : decode cX4_distributor 39 = .ok (.getfield 12, 3) := by decide +kernel
theorem dX4_distributor_42 : decode cX4_distributor 42 = .ok (.iload 4, 2) := by decide +kernel
theorem dX4_distributor_44 : decode cX4_distributor 44 = .ok (.iconst 0, 1) := by decide +kernel
theorem dX4_distributor_45 : decode cX4_distributor 45 = .ok (.invokevirtual 134, 3) := by decide +kernel
theorem dX4_distributor_48 : decode cX4_distributor 48 = .ok (.iload_n 1, 1) := by decide +kernel
theorem dX4_distributor_49 : decode cX4_distributor 49 = .ok (.if_icmp .ne 30, 3) := by decide +kernel
theorem dX4_distributor_52 : decode cX4_distributor 52 = .ok (.iload_n 3, 1) := by decide +kernel
theorem dX4_distributor_53 : decode cX4_distributor 53 = .ok (.iload_n 2, 1) := by decide +kernel
theorem dX4_distributor_54 : decode cX4_distributor 54 = .ok (.ifCond .ne 7, 3) := by decide +kernel
theorem dX4_distributor_57 : decode cX4_distributor 57 = .ok (.iconst 1, 1) := by decide +kernel
theorem dX4_distributor_58 : decode cX4_distributor 58 = .ok (.goto 19, 3) := by decide +kernel
theorem dX4_distributor_61 : decode cX4_distributor 61 = .ok (.aload_n 0, 1) := by decide +kernel
theorem dX4_distributor_62 : decode cX4_distributor 62 = .ok (.iload 4, 2) := by decide +kernel
theorem dX4_distributor_64 : decode cX4_distributor 64 = .ok (.iload_n 2, 1) := by decide +kernel
theorem dX4_distributor_65 : decode cX4_distributor 65 = .ok (.iconst 1, 1) := by decide +kernel
theorem dX4_distributor_66 : decode cX4_distributor 66 = .ok (.if_icmp .ne 7, 3) := by decide +kernel
theorem dX4_distributor_69 : decode cX4_distributor 69 = .ok (.iconst 0, 1) := by decide +kernel
theorem dX4_distributor_70 : decode cX4_distributor 70 = .ok (.goto 4, 3) := by decide +kernel
theorem dX4_distributor_73 : decode cX4_distributor 73 = .ok (.iconst 3, 1) := by decide +kernel
theorem dX4_distributor_74 : decode cX4_distributor 74 = .ok (.invokevirtual 164, 3) := by decide +kernel
theorem dX4_distributor_77 : decode cX4_distributor 77 = .ok (.iadd, 1) := by decide +kernel
theorem dX4_distributor_78 : decode cX4_distributor 78 = .ok (.istore_n 3, 1) := by decide +kernel
theorem dX4_distributor_79 : decode cX4_distributor 79 = .ok (.iinc 4 1, 3) := by decide +kernel
theorem dX4_distributor_82 : decode cX4_distributor 82 = .ok (.goto (-56), 3) := by decide +kernel
theorem dX4_distributor_85 : decode cX4_distributor 85 = .ok (.iload_n 3, 1) := by decide +kernel
theorem dX4_distributor_86 : decode cX4_distributor 86 = .ok (.ireturn, 1) := by decide +kernel
set_option maxRecDepth 20000 in
theorem ggX4_rent_X4_isDay : GoodIn wsX4_rent wsX4_isDay := goodIn_r _ [5, 6, 7, 4, 8] (by decide +kernel) (by decide +kernel)
set_option maxRecDepth 20000 in
theorem gX4_rent_X4_isDay : GoodIn wsX4_rent (va_wsS RX4 65 yX4_isDay wsX4_isDay) := goodIn_app (goodIn_of _ (by decide +kernel)) ggX4_rent_X4_isDay
set_option maxRecDepth 20000 in
theorem ggX4_rent_X1_rentOf : GoodIn wsX4_rent wsX1_rentOf := goodIn_r _ [13, 14, 21] (by decide +kernel) (by decide +kernel)
set_option maxRecDepth 20000 in
theorem gX4_rent_X1_rentOf : GoodIn wsX4_rent (wsV RX4 167 RX1 yX1_rentOf wsX1_rentOf) := goodIn_app (goodIn_of _ (by decide +kernel)) ggX4_rent_X1_rentOf
theorem dX4_rent_0 : decode cX4_rent 0 = .ok (.iload_n 1, 1) := by decide +kernel
theorem dX4_rent_1 : decode cX4_rent 1 = .ok (.invokestatic 65, 3) := by decide +kernel
theorem dX4_rent_4 : decode cX4_rent 4 = .ok (.ifCond .eq 14, 3) := by decide +kernel
theorem dX4_rent_7 : decode cX4_rent 7 = .ok (.aload_n 0, 1) := by decide +kernel
theorem dX4_rent_8 : decode cX4_rent 8 = .ok (.getfield 12, 3) := by decide +kernel
theorem dX4_rent_11 : decode cX4_rent 11 = .ok (.iload_n 1, 1) := by decide +kernel
theorem dX4_rent_12 : decode cX4_rent 12 = .ok (.invokevirtual 167, 3) := by decide +kernel
theorem dX4_rent_15 : decode cX4_rent 15 = .ok (.goto 5, 3) := by decide +kernel
theorem dX4_rent_18 : decode cX4_rent 18 = .ok (.bipush (-2), 2) := by decide +kernel
theorem dX4_rent_20 : decode cX4_rent 20 = .ok (.ireturn, 1) := by decide +kernel
set_option maxRecDepth 20000 in
theorem ggX4_count_X4_isWithin : GoodIn wsX4_count wsX4_isWithin := goodIn_r _ [8] (by decide +kernel) (by decide +kernel)
set_option maxRecDepth 20000 in
theorem gX4_count_X4_isWithin : GoodIn wsX4_count (va_wsS RX4 46 yX4_isWithin wsX4_isWithin) := goodIn_app (goodIn_of _ (by decide +kernel)) ggX4_count_X4_isWithin
set_option maxRecDepth 20000 in
theorem ggX4_count_X1_setting : GoodIn wsX4_count wsX1_setting := goodIn_r _ [13, 14, 115] (by decide +kernel) (by decide +kernel)
set_option maxRecDepth 20000 in
theorem gX4_count_X1_setting : GoodIn wsX4_count (wsV RX4 128 RX1 yX1_setting wsX1_setting) := goodIn_app (goodIn_of _ (by decide +kernel)) ggX4_count_X1_setting
set_option maxRecDepth 20000 in
theorem ggX4_count_X1_films : GoodIn wsX4_count wsX1_films := goodIn_r _ [18, 14, 115] (by decide +kernel) (by decide +kernel)
set_option maxRecDepth 20000 in
theorem gX4_count_X1_films : GoodIn wsX4_count (wsV RX4 69 RX1 yX1_films wsX1_films) := goodIn_app (goodIn_of _ (by decide +kernel)) ggX4_count_X1_films
set_option maxRecDepth 20000 in
theorem ggX4_count_X4_sumOfFilms : GoodIn wsX4_count wsX4_sumOfFilms := goodIn_r _ [22, 1, 15, 16, 17, 12, 18, 14, 23, 24, 25, 7, 26, 27, 28, 29, 30, 31, 32, 33, 34, 35, 36, 37, 38, 39, 40, 41, 42, 43, 44, 45, 46, 47, 48, 49, 50, 51, 52, 53, 54, 55, 56, 57, 58, 10, 11, 13, 59, 60, 61, 62, 63, 64, 65, 66, 67, 68, 69, 70, 71, 72, 73, 74, 75, 76, 77, 78, 79, 80, 109, 110, 111, 112, 113, 114, 115, 116, 117, 118, 119, 120, 121] (by decide +kernel) (by decide +kernel)
set_option maxRecDepth 20000 in
theorem gX4_count_X4_sumOfFilms : GoodIn wsX4_count (wsV RX4 98 RX4 yX4_sumOfFilms wsX4_sumOfFilms) := goodIn_app (goodIn_of _ (by decide +kernel)) ggX4_count_X4_sumOfFilms
set_option maxRecDepth 20000 in
theorem ggX4_count_X1_rentsOf : GoodIn wsX4_count wsX1_rentsOf := goodIn_r _ [84, 85, 86, 87, 12, 88, 14, 115] (by decide +kernel) (by decide +kernel)
set_option maxRecDepth 20000 in
theorem gX4_count_X1_rentsOf : GoodIn wsX4_count (wsV RX4 161 RX1 yX1_rentsOf wsX1_rentsOf) := goodIn_app (goodIn_of _ (by decide +kernel)) ggX4_count_X1_rentsOf
set_option maxRecDepth 20000 in
theorem ggX4_count_X4_fullShows : GoodIn wsX4_count wsX4_fullShows := goodIn_r _ [92, 1, 27, 15, 16, 17, 12, 18, 14, 28, 29, 30, 31, 32, 33, 34, 35, 36, 37, 38, 39, 40, 41, 42, 43, 44, 45, 46, 47, 48, 49, 50, 51, 52, 53, 54, 55, 56, 57, 58, 10, 11, 13, 59, 60, 61, 62, 63, 64, 65, 66, 67, 68, 69, 70, 71, 72, 73, 74, 75, 76, 93, 94, 95, 96, 109, 110, 111, 112, 113, 114, 115, 116, 117, 118, 119, 120, 121] (by decide +kernel) (by decide +kernel)
set_option maxRecDepth 20000 in
theorem gX4_count_X4_fullShows : GoodIn wsX4_count (wsV RX4 170 RX4 yX4_fullShows wsX4_fullShows) := goodIn_app (goodIn_of _ (by decide +kernel)) ggX4_count_X4_fullShows
set_option maxRecDepth 20000 in
theorem ggX4_count_X3_length : GoodIn wsX4_count wsX3_length := goodIn_r _ [101, 102, 122, 123] (by decide +kernel) (by decide +kernel)
set_option maxRecDepth 20000 in
theorem gX4_count_X3_length : GoodIn wsX4_count (wsV RX4 173 RX3 yX3_length wsX3_length) := goodIn_app (goodIn_of _ (by decide +kernel)) ggX4_count_X3_length
set_option maxRecDepth 20000 in
theorem ggX4_count_X2_size : GoodIn wsX4_count wsX2_size := goodIn_r _ [107, 108, 124, 125, 126] (by decide +kernel) (by decide +kernel)
set_option maxRecDepth 20000 in
theorem gX4_count_X2_size : GoodIn wsX4_count (wsV RX4 176 RX2 yX2_size wsX2_size) := goodIn_app (goodIn_of _ (by decide +kernel)) ggX4_count_X2_size
theorem dX4_count_0 : decode cX4_count 0 = .ok (.iload_n 1, 1) := by decide +kernel
theorem dX4_count_1 : decode cX4_count 1 = .ok (.iconst 0, 1) := by decide +kernel
theorem dX4_count_2 : decode cX4_count 2 = .ok (.bipush 14, 2) := by decide +kernel
theorem dX4_count_4 : decode cX4_count 4 = .ok (.invokestatic 46, 3) := by decide +kernel
theorem dX4_count_7 : decode cX4_count 7 = .ok (.ifCond .ne 6, 3) := by decide +kernel
theorem dX4_count_10 : decode cX4_count 10 = .ok (.bipush (-2), 2) := by decide +kernel
theorem dX4_count_12 : decode cX4_count 12 = .ok (.ireturn, 1) := by decide +kernel
theorem dX4_count_13 : decode cX4_count 13 = .ok (.iload_n 1, 1) := by decide +kernel
theorem dX4_count_14 : decode cX4_count 14 = .ok (.bipush 8, 2) := by decide +kernel
theorem dX4_count_16 : decode cX4_count 16 = .ok (.bipush 12, 2) := by decide +kernel
theorem dX4_count_18 : decode cX4_count 18 = .ok (.invokestatic 46, 3) := by decide +kernel
theorem dX4_count_21 : decode cX4_count 21 = .ok (.ifCond .eq 15, 3) := by decide +kernel
theorem dX4_count_24 : decode cX4_count 24 = .ok (.aload_n 0, 1) := by decide +kernel
theorem dX4_count_25 : decode cX4_count 25 = .ok (.getfield 12, 3) := by decide +kernel
theorem dX4_count_28 : decode cX4_count 28 = .ok (.iload_n 1, 1) := by decide +kernel
theorem dX4_count_29 : decode cX4_count 29 = .ok (.bipush 8, 2) := by decide +kernel
theorem dX4_count_31 : decode cX4_count 31 = .ok (.isub, 1) := by decide +kernel
theorem dX4_count_32 : decode cX4_count 32 = .ok (.invokevirtual 128, 3) := by decide +kernel
theorem dX4_count_35 : decode cX4_count 35 = .ok (.ireturn, 1) := by decide +kernel
theorem dX4_count_36 : decode cX4_count 36 = .ok (.iload_n 1, 1) := by decide +kernel
theorem dX4_count_37 : decode cX4_count 37 = .ok (.tableswitch 135 0 14 #[75, 135, 135, 135, 135, 83, 103, 114, 135, 135, 135, 135, 135, 119, 127], 75) := by decide +kernel
theorem dX4_count_112 : decode cX4_count 112 = .ok (.aload_n 0, 1) := by decide +kernel
theorem dX4_count_113 : decode cX4_count 113 = .ok (.getfield 12, 3) := by decide +kernel
theorem dX4_count_116 : decode cX4_count 116 = .ok (.invokevirtual 69, 3) := by decide +kernel
theorem dX4_count_119 : decode cX4_count 119 = .ok (.ireturn, 1) := by decide +kernel
theorem dX4_count_120 : decode cX4_count 120 = .ok (.aload_n 0, 1) := by decide +kernel
theorem dX4_count_121 : decode cX4_count 121 = .ok (.iconst 4, 1) := by decide +kernel
theorem dX4_count_122 : decode cX4_count 122 = .ok (.invokevirtual 98, 3) := by decide +kernel
theorem dX4_count_125 : decode cX4_count 125 = .ok (.aload_n 0, 1) := by decide +kernel
theorem dX4_count_126 : decode cX4_count 126 = .ok (.getfield 12, 3) := by decide +kernel
theorem dX4_count_129 : decode cX4_count 129 = .ok (.iconst 0, 1) := by decide +kernel
theorem dX4_count_130 : decode cX4_count 130 = .ok (.bipush 35, 2) := by decide +kernel
theorem dX4_count_132 : decode cX4_count 132 = .ok (.invokevirtual 161, 3) := by decide +kernel
theorem dX4_count_135 : decode cX4_count 135 = .ok (.iadd, 1) := by decide +kernel
theorem dX4_count_136 : decode cX4_count 136 = .ok (.ldc 101, 2) := by decide +kernel
theorem dX4_count_138 : decode cX4_count 138 = .ok (.iadd, 1) := by decide +kernel
theorem dX4_count_139 : decode cX4_count 139 = .ok (.ireturn, 1) := by decide +kernel
theorem dX4_count_140 : decode cX4_count 140 = .ok (.aload_n 0, 1) := by decide +kernel
theorem dX4_count_141 : decode cX4_count 141 = .ok (.getfield 12, 3) := by decide +kernel
theorem dX4_count_144 : decode cX4_count 144 = .ok (.iconst 0, 1) := by decide +kernel
theorem dX4_count_145 : decode cX4_count 145 = .ok (.bipush 35, 2) := by decide +kernel
theorem dX4_count_147 : decode cX4_count 147 = .ok (.invokevirtual 161, 3) := by decide +kernel
theorem dX4_count_150 : decode cX4_count 150 = .ok (.ireturn, 1) := by decide +kernel
theorem dX4_count_151 : decode cX4_count 151 = .ok (.aload_n 0, 1) := by decide +kernel
theorem dX4_count_152 : decode cX4_count 152 = .ok (.invokevirtual 170, 3) := by decide +kernel
theorem dX4_count_155 : decode cX4_count 155 = .ok (.ireturn, 1) := by decide +kernel
theorem dX4_count_156 : decode cX4_count 156 = .ok (.aload_n 0, 1) := by decide +kernel
theorem dX4_count_157 : decode cX4_count 157 = .ok (.getfield 26, 3) := by decide +kernel
theorem dX4_count_160 : decode cX4_count 160 = .ok (.invokevirtual 173, 3) := by decide +kernel
theorem dX4_count_163 : decode cX4_count 163 = .ok (.ireturn, 1) := by decide +kernel
theorem dX4_count_164 : decode cX4_count 164 = .ok (.aload_n 0, 1) := by decide +kernel
theorem dX4_count_165 : decode cX4_count 165 = .ok (.getfield 33, 3) := by decide +kernel
theorem dX4_count_168 : decode cX4_count 168 = .ok (.invokevirtual 176, 3) := by decide +kernel
theorem dX4_count_171 : decode cX4_count 171 = .ok (.ireturn, 1) := by decide +kernel
theorem dX4_count_172 : decode cX4_count 172 = .ok (.aload_n 0, 1) := by decide +kernel
theorem dX4_count_173 : decode cX4_count 173 = .ok (.iload_n 1, 1) := by decide +kernel
theorem dX4_count_174 : decode cX4_count 174 = .ok (.iconst 1, 1) := by decide +kernel
theorem dX4_count_175 : decode cX4_count 175 = .ok (.isub, 1) := by decide +kernel
theorem dX4_count_176 : decode cX4_count 176 = .ok (.invokevirtual 98, 3) := by decide +kernel
theorem dX4_count_179 : decode cX4_count 179 = .ok (.ireturn, 1) := by decide +kernel
set_option maxRecDepth 20000 in
theorem ggX4_ifShown_X4_errorOfShow : GoodIn wsX4_ifShown wsX4_errorOfShow := goodIn_r _ [6, 7, 8, 9, 10, 11, 12, 13, 14, 15, 16, 17, 18, 19, 5, 20, 21, 22, 23, 24, 25, 26, 27, 28, 29, 30, 31, 32, 33, 34, 35, 36, 37, 38, 39, 110, 111, 112, 113, 114, 115, 116] (by decide +kernel) (by decide +kernel)
set_option maxRecDepth 20000 in
theorem gX4_ifShown_X4_errorOfShow : GoodIn wsX4_ifShown (wsV RX4 77 RX4 yX4_errorOfShow wsX4_errorOfShow) := goodIn_app (goodIn_of _ (by decide +kernel)) ggX4_ifShown_X4_errorOfShow
set_option maxRecDepth 20000 in
theorem ggX4_ifShown_X4_placeOf : GoodIn wsX4_ifShown wsX4_placeOf := goodIn_r _ [42] (by decide +kernel) (by decide +kernel)
set_option maxRecDepth 20000 in
theorem gX4_ifShown_X4_placeOf : GoodIn wsX4_ifShown (va_wsS RX4 81 yX4_placeOf wsX4_placeOf) := goodIn_app (goodIn_of _ (by decide +kernel)) ggX4_ifShown_X4_placeOf
set_option maxRecDepth 20000 in
theorem ggX4_ifShown_X4_gainWith : GoodIn wsX4_ifShown wsX4_gainWith := goodIn_r _ [46, 7, 47, 48, 49, 11, 50, 17, 51, 52, 53, 5, 54, 55, 8, 9, 10, 12, 13, 14, 15, 16, 56, 57, 58, 59, 60, 61, 62, 63, 64, 37, 38, 39, 65, 66, 67, 68, 69, 70, 71, 72, 73, 74, 75, 76, 77, 78, 79, 80, 81, 82, 83, 84, 85, 86, 87, 88, 89, 90, 91, 92, 93, 94, 95, 96, 97, 98, 99, 100, 101, 102, 103, 104, 105, 106, 107, 108, 109, 110, 111, 112, 113, 114, 115, 116, 117, 118, 119, 120, 121, 122] (by decide +kernel) (by decide +kernel)
set_option maxRecDepth 20000 in
theorem gX4_ifShown_X4_gainWith : GoodIn wsX4_ifShown (wsV RX4 179 RX4 yX4_gainWith wsX4_gainWith) := goodIn_app (goodIn_of _ (by decide +kernel)) ggX4_ifShown_X4_gainWith
theorem dX4_ifShown_0 : decode cX4_ifShown 0 = .ok (.aload_n 0, 1) := by decide +kernel
theorem dX4_ifShown_1 : decode cX4_ifShown 1 = .ok (.iload_n 1, 1) := by decide +kernel
theorem dX4_ifShown_2 : decode cX4_ifShown 2 = .ok (.iload_n 2, 1) := by decide +kernel
theorem dX4_ifShown_3 : decode cX4_ifShown 3 = .ok (.iload_n 3, 1) := by decide +kernel
theorem dX4_ifShown_4 : decode cX4_ifShown 4 = .ok (.invokevirtual 77, 3) := by decide +kernel
theorem dX4_ifShown_7 : decode cX4_ifShown 7 = .ok (.istore 4, 2) := by decide +kernel
theorem dX4_ifShown_9 : decode cX4_ifShown 9 = .ok (.iload 4, 2) := by decide +kernel
theorem dX4_ifShown_11 : decode cX4_ifShown 11 = .ok (.ifCond .eq 6, 3) := by decide +kernel
theorem dX4_ifShown_14 : decode cX4_ifShown 14 = .ok (.iload 4, 2) := by decide +kernel
theorem dX4_ifShown_16 : decode cX4_ifShown 16 = .ok (.ireturn, 1) := by decide +kernel
theorem dX4_ifShown_17 : decode cX4_ifShown 17 = .ok (.aload_n 0, 1) := by decide +kernel
theorem dX4_ifShown_18 : decode cX4_ifShown 18 = .ok (.iload_n 2, 1) := by decide +kernel
theorem dX4_ifShown_19 : decode cX4_ifShown 19 = .ok (.iload_n 3, 1) := by decide +kernel
theorem dX4_ifShown_20 : decode cX4_ifShown 20 = .ok (.invokestatic 81, 3) := by decide +kernel
theorem dX4_ifShown_23 : decode cX4_ifShown 23 = .ok (.iload_n 1, 1) := by decide +kernel
theorem dX4_ifShown_24 : decode cX4_ifShown 24 = .ok (.invokevirtual 179, 3) := by decide +kernel
theorem dX4_ifShown_27 : decode cX4_ifShown 27 = .ok (.ldc 101, 2) := by decide +kernel
theorem dX4_ifShown_29 : decode cX4_ifShown 29 = .ok (.iadd, 1) := by decide +kernel
theorem dX4_ifShown_30 : decode cX4_ifShown 30 = .ok (.ireturn, 1) := by decide +kernel
set_option maxRecDepth 20000 in
theorem ggX4_bestFilm_X4_isPlace : GoodIn wsX4_bestFilm wsX4_isPlace := goodIn_r _ [6, 7, 8, 5, 9, 10, 11, 12] (by decide +kernel) (by decide +kernel)
set_option maxRecDepth 20000 in
theorem gX4_bestFilm_X4_isPlace : GoodIn wsX4_bestFilm (va_wsS RX4 87 yX4_isPlace wsX4_isPlace) := goodIn_app (goodIn_of _ (by decide +kernel)) ggX4_bestFilm_X4_isPlace
set_option maxRecDepth 20000 in
theorem ggX4_bestFilm_X4_isWithin : GoodIn wsX4_bestFilm wsX4_isWithin := goodIn_r _ [12] (by decide +kernel) (by decide +kernel)
set_option maxRecDepth 20000 in
theorem gX4_bestFilm_X4_isWithin : GoodIn wsX4_bestFilm (va_wsS RX4 46 yX4_isWithin wsX4_isWithin) := goodIn_app (goodIn_of _ (by decide +kernel)) ggX4_bestFilm_X4_isWithin
set_option maxRecDepth 20000 in
theorem ggX4_bestFilm_X1_rentOf : GoodIn wsX4_bestFilm wsX1_rentOf := goodIn_r _ [17, 18, 114] (by decide +kernel) (by decide +kernel)
set_option maxRecDepth 20000 in
theorem gX4_bestFilm_X1_rentOf : GoodIn wsX4_bestFilm (wsV RX4 167 RX1 yX1_rentOf wsX1_rentOf) := goodIn_app (goodIn_of _ (by decide +kernel)) ggX4_bestFilm_X1_rentOf
set_option maxRecDepth 20000 in
theorem ggX4_bestFilm_X1_films : GoodIn wsX4_bestFilm wsX1_films := goodIn_r _ [22, 18, 114] (by decide +kernel) (by decide +kernel)
set_option maxRecDepth 20000 in
theorem gX4_bestFilm_X1_films : GoodIn wsX4_bestFilm (wsV RX4 69 RX1 yX1_films wsX1_films) := goodIn_app (goodIn_of _ (by decide +kernel)) ggX4_bestFilm_X1_films
set_option maxRecDepth 20000 in
theorem ggX4_bestFilm_X1_canHold : GoodIn wsX4_bestFilm wsX1_canHold := goodIn_r _ [26, 27, 14, 15, 16, 17, 18, 28, 29, 30, 31, 32, 20, 21, 22, 33, 34, 35, 36, 114] (by decide +kernel) (by decide +kernel)
set_option maxRecDepth 20000 in
theorem gX4_bestFilm_X1_canHold : GoodIn wsX4_bestFilm (wsV RX4 95 RX1 yX1_canHold wsX1_canHold) := goodIn_app (goodIn_of _ (by decide +kernel)) ggX4_bestFilm_X1_canHold
set_option maxRecDepth 20000 in
theorem ggX4_bestFilm_X4_placeOf : GoodIn wsX4_bestFilm wsX4_placeOf := goodIn_r _ [39] (by decide +kernel) (by decide +kernel)
set_option maxRecDepth 20000 in
theorem gX4_bestFilm_X4_placeOf : GoodIn wsX4_bestFilm (va_wsS RX4 81 yX4_placeOf wsX4_placeOf) := goodIn_app (goodIn_of _ (by decide +kernel)) ggX4_bestFilm_X4_placeOf
set_option maxRecDepth 20000 in
theorem ggX4_bestFilm_X4_gainWith : GoodIn wsX4_bestFilm wsX4_gainWith := goodIn_r _ [43, 1, 44, 45, 46, 16, 47, 18, 48, 49, 50, 5, 51, 52, 53, 29, 30, 31, 32, 20, 21, 22, 54, 55, 56, 57, 58, 59, 60, 61, 62, 34, 35, 36, 63, 64, 65, 66, 67, 68, 69, 70, 71, 72, 73, 74, 75, 76, 77, 78, 79, 80, 81, 82, 83, 84, 85, 86, 87, 88, 89, 90, 91, 92, 93, 94, 95, 96, 97, 98, 99, 100, 101, 102, 103, 104, 105, 106, 107, 108, 109, 110, 111, 112, 113, 114, 115, 116, 117, 118, 119, 120] (by decide +kernel) (by decide +kernel)
set_option maxRecDepth 20000 in
theorem gX4_bestFilm_X4_gainWith : GoodIn wsX4_bestFilm (wsV RX4 179 RX4 yX4_gainWith wsX4_gainWith) := goodIn_app (goodIn_of _ (by decide +kernel)) ggX4_bestFilm_X4_gainWith
theorem dX4_bestFilm_0 : decode cX4_bestFilm 0 = .ok (.iload_n 1, 1) := by decide +kernel
theorem dX4_bestFilm_1 : decode cX4_bestFilm 1 = .ok (.iload_n 2, 1) := by decide +kernel
theorem dX4_bestFilm_2 : decode cX4_bestFilm 2 = .ok (.invokestatic 87, 3) := by decide +kernel
theorem dX4_bestFilm_5 : decode cX4_bestFilm 5 = .ok (.ifCond .eq 12, 3) := by decide +kernel
theorem dX4_bestFilm_8 : decode cX4_bestFilm 8 = .ok (.iload_n 3, 1) := by decide +kernel
theorem dX4_bestFilm_9 : decode cX4_bestFilm 9 = .ok (.iconst 0, 1) := by decide +kernel
theorem dX4_bestFilm_10 : decode cX4_bestFilm 10 = .ok (.iconst 1, 1) := by decide +kernel
theorem dX4_bestFilm_11 : decode cX4_bestFilm 11 = .ok (.invokestatic 46, 3) := by decide +kernel
theorem dX4_bestFilm_14 : decode cX4_bestFilm 14 = .ok (.ifCond .ne 6, 3) := by decide +kernel
theorem dX4_bestFilm_17 : decode cX4_bestFilm 17 = .ok (.bipush (-2), 2) := by decide +kernel
theorem dX4_bestFilm_19 : decode cX4_bestFilm 19 = .ok (.ireturn, 1) := by decide +kernel
theorem dX4_bestFilm_20 : decode cX4_bestFilm 20 = .ok (.aload_n 0, 1) := by decide +kernel
theorem dX4_bestFilm_21 : decode cX4_bestFilm 21 = .ok (.getfield 12, 3) := by decide +kernel
theorem dX4_bestFilm_24 : decode cX4_bestFilm 24 = .ok (.iload_n 1, 1) := by decide +kernel
theorem dX4_bestFilm_25 : decode cX4_bestFilm 25 = .ok (.invokevirtual 167, 3) := by decide +kernel
theorem dX4_bestFilm_28 : decode cX4_bestFilm 28 = .ok (.ifCond .eq 6, 3) := by decide +kernel
theorem dX4_bestFilm_31 : decode cX4_bestFilm 31 = .ok (.bipush (-5), 2) := by decide +kernel
theorem dX4_bestFilm_33 : decode cX4_bestFilm 33 = .ok (.ireturn, 1) := by decide +kernel
theorem dX4_bestFilm_34 : decode cX4_bestFilm 34 = .ok (.bipush (-6), 2) := by decide +kernel
theorem dX4_bestFilm_36 : decode cX4_bestFilm 36 = .ok (.istore 4, 2) := by decide +kernel
theorem dX4_bestFilm_38 : decode cX4_bestFilm 38 = .ok (.iconst 0, 1) := by decide +kernel
theorem dX4_bestFilm_39 : decode cX4_bestFilm 39 = .ok (.istore 5, 2) := by decide +kernel
theorem dX4_bestFilm_41 : decode cX4_bestFilm 41 = .ok (.iconst 0, 1) := by decide +kernel
theorem dX4_bestFilm_42 : decode cX4_bestFilm 42 = .ok (.istore 6, 2) := by decide +kernel
theorem dX4_bestFilm_44 : decode cX4_bestFilm 44 = .ok (.iload 6, 2) := by decide +kernel
theorem dX4_bestFilm_46 : decode cX4_bestFilm 46 = .ok (.aload_n 0, 1) := by decide +kernel
theorem dX4_bestFilm_47 : decode cX4_bestFilm 47 = .ok (.getfield 12, 3) := by decide +kernel
theorem dX4_bestFilm_50 : decode cX4_bestFilm 50 = .ok (.invokevirtual 69, 3) := by decide +kernel
theorem dX4_bestFilm_53 : decode cX4_bestFilm 53 = .ok (.if_icmp .ge 57, 3) := by decide +kernel
theorem dX4_bestFilm_56 : decode cX4_bestFilm 56 = .ok (.aload_n 0, 1) := by decide +kernel
theorem dX4_bestFilm_57 : decode cX4_bestFilm 57 = .ok (.getfield 12, 3) := by decide +kernel
theorem dX4_bestFilm_60 : decode cX4_bestFilm 60 = .ok (.iload_n 1, 1) := by decide +kernel
theorem dX4_bestFilm_61 : decode cX4_bestFilm 61 = .ok (.iload 6, 2) := by decide +kernel
theorem dX4_bestFilm_63 : decode cX4_bestFilm 63 = .ok (.invokevirtual 95, 3) := by decide +kernel
theorem dX4_bestFilm_66 : decode cX4_bestFilm 66 = .ok (.ifCond .eq 38, 3) := by decide +kernel
theorem dX4_bestFilm_69 : decode cX4_bestFilm 69 = .ok (.aload_n 0, 1) := by decide +kernel
theorem dX4_bestFilm_70 : decode cX4_bestFilm 70 = .ok (.iload_n 1, 1) := by decide +kernel
theorem dX4_bestFilm_71 : decode cX4_bestFilm 71 = .ok (.iload_n 2, 1) := by decide +kernel
theorem dX4_bestFilm_72 : decode cX4_bestFilm 72 = .ok (.invokestatic 81, 3) := by decide +kernel
theorem dX4_bestFilm_75 : decode cX4_bestFilm 75 = .ok (.iload 6, 2) := by decide +kernel
theorem dX4_bestFilm_77 : decode cX4_bestFilm 77 = .ok (.invokevirtual 179, 3) := by decide +kernel
theorem dX4_bestFilm_80 : decode cX4_bestFilm 80 = .ok (.istore 7, 2) := by decide +kernel
theorem dX4_bestFilm_82 : decode cX4_bestFilm 82 = .ok (.iload 4, 2) := by decide +kernel
theorem dX4_bestFilm_84 : decode cX4_bestFilm 84 = .ok (.bipush (-6), 2) := by decide +kernel
theorem dX4_bestFilm_86 : decode cX4_bestFilm 86 = .ok (.if_icmp .eq 10, 3) := by decide +kernel
theorem dX4_bestFilm_89 : decode cX4_bestFilm 89 = .ok (.iload 7, 2) := by decide +kernel
theorem dX4_bestFilm_91 : decode cX4_bestFilm 91 = .ok (.iload 5, 2) := by decide +kernel
theorem dX4_bestFilm_93 : decode cX4_bestFilm 93 = .ok (.if_icmp .le 11, 3) := by decide +kernel
theorem dX4_bestFilm_96 : decode cX4_bestFilm 96 = .ok (.iload 6, 2) := by decide +kernel
theorem dX4_bestFilm_98 : decode cX4_bestFilm 98 = .ok (.istore 4, 2) := by decide +kernel
theorem dX4_bestFilm_100 : decode cX4_bestFilm 100 = .ok (.iload 7, 2) := by decide +kernel
theorem dX4_bestFilm_102 : decode cX4_bestFilm 102 = .ok (.istore 5, 2) := by decide +kernel
theorem dX4_bestFilm_104 : decode cX4_bestFilm 104 = .ok (.iinc 6 1, 3) := by decide +kernel
theorem dX4_bestFilm_107 : decode cX4_bestFilm 107 = .ok (.goto (-63), 3) := by decide +kernel
theorem dX4_bestFilm_110 : decode cX4_bestFilm 110 = .ok (.iload 4, 2) := by decide +kernel
theorem dX4_bestFilm_112 : decode cX4_bestFilm 112 = .ok (.bipush (-6), 2) := by decide +kernel
theorem dX4_bestFilm_114 : decode cX4_bestFilm 114 = .ok (.if_icmp .ne 6, 3) := by decide +kernel
theorem dX4_bestFilm_117 : decode cX4_bestFilm 117 = .ok (.bipush (-6), 2) := by decide +kernel
theorem dX4_bestFilm_119 : decode cX4_bestFilm 119 = .ok (.ireturn, 1) := by decide +kernel
theorem dX4_bestFilm_120 : decode cX4_bestFilm 120 = .ok (.iload_n 3, 1) := by decide +kernel
theorem dX4_bestFilm_121 : decode cX4_bestFilm 121 = .ok (.ifCond .ne 8, 3) := by decide +kernel
theorem dX4_bestFilm_124 : decode cX4_bestFilm 124 = .ok (.iload 4, 2) := by decide +kernel
theorem dX4_bestFilm_126 : decode cX4_bestFilm 126 = .ok (.goto 8, 3) := by decide +kernel
theorem dX4_bestFilm_129 : decode cX4_bestFilm 129 = .ok (.iload 5, 2) := by decide +kernel
theorem dX4_bestFilm_131 : decode cX4_bestFilm 131 = .ok (.ldc 101, 2) := by decide +kernel
theorem dX4_bestFilm_133 : decode cX4_bestFilm 133 = .ok (.iadd, 1) := by decide +kernel
theorem dX4_bestFilm_134 : decode cX4_bestFilm 134 = .ok (.ireturn, 1) := by decide +kernel
set_option maxRecDepth 20000 in
theorem ggX4_worstShow_X4_isWithin : GoodIn wsX4_worstShow wsX4_isWithin := goodIn_r _ [6] (by decide +kernel) (by decide +kernel)
set_option maxRecDepth 20000 in
theorem gX4_worstShow_X4_isWithin : GoodIn wsX4_worstShow (va_wsS RX4 46 yX4_isWithin wsX4_isWithin) := goodIn_app (goodIn_of _ (by decide +kernel)) ggX4_worstShow_X4_isWithin
set_option maxRecDepth 20000 in
theorem ggX4_worstShow_X1_showAt : GoodIn wsX4_worstShow wsX1_showAt := goodIn_r _ [11, 12, 93] (by decide +kernel) (by decide +kernel)
set_option maxRecDepth 20000 in
theorem gX4_worstShow_X1_showAt : GoodIn wsX4_worstShow (wsV RX4 91 RX1 yX1_showAt wsX1_showAt) := goodIn_app (goodIn_of _ (by decide +kernel)) ggX4_worstShow_X1_showAt
set_option maxRecDepth 20000 in
theorem ggX4_worstShow_X4_gainWith : GoodIn wsX4_worstShow wsX4_gainWith := goodIn_r _ [16, 1, 7, 8, 9, 10, 11, 12, 17, 18, 19, 5, 20, 21, 22, 23, 24, 25, 26, 27, 28, 29, 30, 31, 32, 33, 34, 35, 36, 37, 38, 39, 40, 41, 42, 43, 44, 45, 46, 47, 48, 49, 50, 51, 52, 53, 54, 55, 56, 57, 58, 59, 60, 61, 62, 63, 64, 65, 66, 67, 68, 69, 70, 71, 72, 73, 74, 75, 76, 77, 78, 79, 80, 81, 82, 83, 84, 85, 86, 87, 88, 89, 90, 91, 92, 93, 94, 95, 96, 97, 98, 99] (by decide +kernel) (by decide +kernel)
set_option maxRecDepth 20000 in
theorem gX4_worstShow_X4_gainWith : GoodIn wsX4_worstShow (wsV RX4 179 RX4 yX4_gainWith wsX4_gainWith) := goodIn_app (goodIn_of _ (by decide +kernel)) ggX4_worstShow_X4_gainWith
theorem dX4_worstShow_0 : decode cX4_worstShow 0 = .ok (.iload_n 1, 1) := by decide +kernel
theorem dX4_worstShow_1 : decode cX4_worstShow 1 = .ok (.iconst 0, 1) := by decide +kernel
theorem dX4_worstShow_2 : decode cX4_worstShow 2 = .ok (.iconst 2, 1) := by decide +kernel
theorem dX4_worstShow_3 : decode cX4_worstShow 3 = .ok (.invokestatic 46, 3) := by decide +kernel
theorem dX4_worstShow_6 : decode cX4_worstShow 6 = .ok (.ifCond .ne 6, 3) := by decide +kernel
theorem dX4_worstShow_9 : decode cX4_worstShow 9 = .ok (.bipush (-2), 2) := by decide +kernel
theorem dX4_worstShow_11 : decode cX4_worstShow 11 = .ok (.ireturn, 1) := by decide +kernel
theorem dX4_worstShow_12 : decode cX4_worstShow 12 = .ok (.bipush (-6), 2) := by decide +kernel
theorem dX4_worstShow_14 : decode cX4_worstShow 14 = .ok (.istore_n 2, 1) := by decide +kernel
theorem dX4_worstShow_15 : decode cX4_worstShow 15 = .ok (.iconst 0, 1) := by decide +kernel
theorem dX4_worstShow_16 : decode cX4_worstShow 16 = .ok (.istore_n 3, 1) := by decide +kernel
theorem dX4_worstShow_17 : decode cX4_worstShow 17 = .ok (.iconst 0, 1) := by decide +kernel
theorem dX4_worstShow_18 : decode cX4_worstShow 18 = .ok (.istore 4, 2) := by decide +kernel
theorem dX4_worstShow_20 : decode cX4_worstShow 20 = .ok (.iload 4, 2) := by decide +kernel
theorem dX4_worstShow_22 : decode cX4_worstShow 22 = .ok (.bipush 70, 2) := by decide +kernel
theorem dX4_worstShow_24 : decode cX4_worstShow 24 = .ok (.if_icmp .ge 51, 3) := by decide +kernel
theorem dX4_worstShow_27 : decode cX4_worstShow 27 = .ok (.aload_n 0, 1) := by decide +kernel
theorem dX4_worstShow_28 : decode cX4_worstShow 28 = .ok (.getfield 12, 3) := by decide +kernel
theorem dX4_worstShow_31 : decode cX4_worstShow 31 = .ok (.iload 4, 2) := by decide +kernel
theorem dX4_worstShow_33 : decode cX4_worstShow 33 = .ok (.invokevirtual 91, 3) := by decide +kernel
theorem dX4_worstShow_36 : decode cX4_worstShow 36 = .ok (.bipush (-6), 2) := by decide +kernel
theorem dX4_worstShow_38 : decode cX4_worstShow 38 = .ok (.if_icmp .eq 31, 3) := by decide +kernel
theorem dX4_worstShow_41 : decode cX4_worstShow 41 = .ok (.aload_n 0, 1) := by decide +kernel
theorem dX4_worstShow_42 : decode cX4_worstShow 42 = .ok (.iload 4, 2) := by decide +kernel
theorem dX4_worstShow_44 : decode cX4_worstShow 44 = .ok (.bipush (-6), 2) := by decide +kernel
theorem dX4_worstShow_46 : decode cX4_worstShow 46 = .ok (.invokevirtual 179, 3) := by decide +kernel
theorem dX4_worstShow_49 : decode cX4_worstShow 49 = .ok (.istore 5, 2) := by decide +kernel
theorem dX4_worstShow_51 : decode cX4_worstShow 51 = .ok (.iload_n 2, 1) := by decide +kernel
theorem dX4_worstShow_52 : decode cX4_worstShow 52 = .ok (.bipush (-6), 2) := by decide +kernel
theorem dX4_worstShow_54 : decode cX4_worstShow 54 = .ok (.if_icmp .eq 9, 3) := by decide +kernel
theorem dX4_worstShow_57 : decode cX4_worstShow 57 = .ok (.iload 5, 2) := by decide +kernel
theorem dX4_worstShow_59 : decode cX4_worstShow 59 = .ok (.iload_n 3, 1) := by decide +kernel
theorem dX4_worstShow_60 : decode cX4_worstShow 60 = .ok (.if_icmp .le 9, 3) := by decide +kernel
theorem dX4_worstShow_63 : decode cX4_worstShow 63 = .ok (.iload 4, 2) := by decide +kernel
theorem dX4_worstShow_65 : decode cX4_worstShow 65 = .ok (.istore_n 2, 1) := by decide +kernel
theorem dX4_worstShow_66 : decode cX4_worstShow 66 = .ok (.iload 5, 2) := by decide +kernel
theorem dX4_worstShow_68 : decode cX4_worstShow 68 = .ok (.istore_n 3, 1) := by decide +kernel
theorem dX4_worstShow_69 : decode cX4_worstShow 69 = .ok (.iinc 4 1, 3) := by decide +kernel
theorem dX4_worstShow_72 : decode cX4_worstShow 72 = .ok (.goto (-52), 3) := by decide +kernel
theorem dX4_worstShow_75 : decode cX4_worstShow 75 = .ok (.iload_n 2, 1) := by decide +kernel
theorem dX4_worstShow_76 : decode cX4_worstShow 76 = .ok (.bipush (-6), 2) := by decide +kernel
theorem dX4_worstShow_78 : decode cX4_worstShow 78 = .ok (.if_icmp .ne 6, 3) := by decide +kernel
theorem dX4_worstShow_81 : decode cX4_worstShow 81 = .ok (.bipush (-6), 2) := by decide +kernel
theorem dX4_worstShow_83 : decode cX4_worstShow 83 = .ok (.ireturn, 1) := by decide +kernel
theorem dX4_worstShow_84 : decode cX4_worstShow 84 = .ok (.iload_n 1, 1) := by decide +kernel
theorem dX4_worstShow_85 : decode cX4_worstShow 85 = .ok (.lookupswitch 35 #[(0, 27), (1, 31)], 27) := by decide +kernel
theorem dX4_worstShow_112 : decode cX4_worstShow 112 = .ok (.iload_n 2, 1) := by decide +kernel
theorem dX4_worstShow_113 : decode cX4_worstShow 113 = .ok (.iconst 2, 1) := by decide +kernel
theorem dX4_worstShow_114 : decode cX4_worstShow 114 = .ok (.idiv, 1) := by decide +kernel
theorem dX4_worstShow_115 : decode cX4_worstShow 115 = .ok (.ireturn, 1) := by decide +kernel
theorem dX4_worstShow_116 : decode cX4_worstShow 116 = .ok (.iload_n 2, 1) := by decide +kernel
theorem dX4_worstShow_117 : decode cX4_worstShow 117 = .ok (.iconst 2, 1) := by decide +kernel
theorem dX4_worstShow_118 : decode cX4_worstShow 118 = .ok (.irem, 1) := by decide +kernel
theorem dX4_worstShow_119 : decode cX4_worstShow 119 = .ok (.ireturn, 1) := by decide +kernel
theorem dX4_worstShow_120 : decode cX4_worstShow 120 = .ok (.iload_n 3, 1) := by decide +kernel
theorem dX4_worstShow_121 : decode cX4_worstShow 121 = .ok (.ldc 101, 2) := by decide +kernel
theorem dX4_worstShow_123 : decode cX4_worstShow 123 = .ok (.iadd, 1) := by decide +kernel
theorem dX4_worstShow_124 : decode cX4_worstShow 124 = .ok (.ireturn, 1) := by decide +kernel
set_option maxRecDepth 20000 in
theorem ggX4_priceFor_X4_isPlace : GoodIn wsX4_priceFor wsX4_isPlace := goodIn_r _ [8, 9, 10, 7, 11, 12, 13, 14] (by decide +kernel) (by decide +kernel)
set_option maxRecDepth 20000 in
theorem gX4_priceFor_X4_isPlace : GoodIn wsX4_priceFor (va_wsS RX4 87 yX4_isPlace wsX4_isPlace) := goodIn_app (goodIn_of _ (by decide +kernel)) ggX4_priceFor_X4_isPlace
set_option maxRecDepth 20000 in
theorem ggX4_priceFor_X4_isWithin : GoodIn wsX4_priceFor wsX4_isWithin := goodIn_r _ [14] (by decide +kernel) (by decide +kernel)
set_option maxRecDepth 20000 in
theorem gX4_priceFor_X4_isWithin : GoodIn wsX4_priceFor (va_wsS RX4 46 yX4_isWithin wsX4_isWithin) := goodIn_app (goodIn_of _ (by decide +kernel)) ggX4_priceFor_X4_isWithin
set_option maxRecDepth 20000 in
theorem ggX4_priceFor_X4_placeOf : GoodIn wsX4_priceFor wsX4_placeOf := goodIn_r _ [17] (by decide +kernel) (by decide +kernel)
set_option maxRecDepth 20000 in
theorem gX4_priceFor_X4_placeOf : GoodIn wsX4_priceFor (va_wsS RX4 81 yX4_placeOf wsX4_placeOf) := goodIn_app (goodIn_of _ (by decide +kernel)) ggX4_priceFor_X4_placeOf
set_option maxRecDepth 20000 in
theorem ggX4_priceFor_X1_showAt : GoodIn wsX4_priceFor wsX1_showAt := goodIn_r _ [22, 23, 91] (by decide +kernel) (by decide +kernel)
set_option maxRecDepth 20000 in
theorem gX4_priceFor_X1_showAt : GoodIn wsX4_priceFor (wsV RX4 91 RX1 yX1_showAt wsX1_showAt) := goodIn_app (goodIn_of _ (by decide +kernel)) ggX4_priceFor_X1_showAt
set_option maxRecDepth 20000 in
theorem ggX4_priceFor_X1_hasFilm : GoodIn wsX4_priceFor wsX1_hasFilm := goodIn_r _ [27, 28, 29, 30, 21, 31, 23, 91] (by decide +kernel) (by decide +kernel)
set_option maxRecDepth 20000 in
theorem gX4_priceFor_X1_hasFilm : GoodIn wsX4_priceFor (wsV RX4 118 RX1 yX1_hasFilm wsX1_hasFilm) := goodIn_app (goodIn_of _ (by decide +kernel)) ggX4_priceFor_X1_hasFilm
set_option maxRecDepth 20000 in
theorem ggX4_priceFor_X0_follow : GoodIn wsX4_priceFor wsX0_follow := goodIn_r _ [36, 37, 38, 39, 40, 41, 42, 21, 43, 23, 44, 45, 46, 35, 47, 48, 49, 50, 51, 19, 20, 22, 52, 53, 54, 55, 56, 57, 58, 59, 60, 61, 62, 63, 64, 65, 66, 67, 68, 69, 70, 71, 72, 73, 74, 75, 76, 77, 78, 79, 80, 92, 93, 94, 95, 96, 97, 91] (by decide +kernel) (by decide +kernel)
set_option maxRecDepth 20000 in
theorem gX4_priceFor_X0_follow : GoodIn wsX4_priceFor (wsV RX4 121 RX0 yX0_follow wsX0_follow) := goodIn_app (goodIn_of _ (by decide +kernel)) ggX4_priceFor_X0_follow
set_option maxRecDepth 20000 in
theorem ggX4_priceFor_X0_peopleAt : GoodIn wsX4_priceFor wsX0_peopleAt := goodIn_r _ [84, 48, 92, 93, 94, 95, 96, 97] (by decide +kernel) (by decide +kernel)
set_option maxRecDepth 20000 in
theorem gX4_priceFor_X0_peopleAt : GoodIn wsX4_priceFor (wsV RX4 125 RX0 yX0_peopleAt wsX0_peopleAt) := goodIn_app (goodIn_of _ (by decide +kernel)) ggX4_priceFor_X0_peopleAt
theorem dX4_priceFor_0 : decode cX4_priceFor 0 = .ok (.iload_n 1, 1) := by decide +kernel
theorem dX4_priceFor_1 : decode cX4_priceFor 1 = .ok (.iload_n 2, 1) := by decide +kernel
theorem dX4_priceFor_2 : decode cX4_priceFor 2 = .ok (.invokestatic 87, 3) := by decide +kernel
theorem dX4_priceFor_5 : decode cX4_priceFor 5 = .ok (.ifCond .eq 14, 3) := by decide +kernel
theorem dX4_priceFor_8 : decode cX4_priceFor 8 = .ok (.iload_n 3, 1) := by decide +kernel
theorem dX4_priceFor_9 : decode cX4_priceFor 9 = .ok (.iconst 1, 1) := by decide +kernel
theorem dX4_priceFor_10 : decode cX4_priceFor 10 = .ok (.sipush 5000, 3) := by decide +kernel
theorem dX4_priceFor_13 : decode cX4_priceFor 13 = .ok (.invokestatic 46, 3) := by decide +kernel
theorem dX4_priceFor_16 : decode cX4_priceFor 16 = .ok (.ifCond .ne 6, 3) := by decide +kernel
theorem dX4_priceFor_19 : decode cX4_priceFor 19 = .ok (.bipush (-2), 2) := by decide +kernel
theorem dX4_priceFor_21 : decode cX4_priceFor 21 = .ok (.ireturn, 1) := by decide +kernel
theorem dX4_priceFor_22 : decode cX4_priceFor 22 = .ok (.iload_n 1, 1) := by decide +kernel
theorem dX4_priceFor_23 : decode cX4_priceFor 23 = .ok (.iload_n 2, 1) := by decide +kernel
theorem dX4_priceFor_24 : decode cX4_priceFor 24 = .ok (.invokestatic 81, 3) := by decide +kernel
theorem dX4_priceFor_27 : decode cX4_priceFor 27 = .ok (.istore 4, 2) := by decide +kernel
theorem dX4_priceFor_29 : decode cX4_priceFor 29 = .ok (.aload_n 0, 1) := by decide +kernel
theorem dX4_priceFor_30 : decode cX4_priceFor 30 = .ok (.getfield 12, 3) := by decide +kernel
theorem dX4_priceFor_33 : decode cX4_priceFor 33 = .ok (.iload 4, 2) := by decide +kernel
theorem dX4_priceFor_35 : decode cX4_priceFor 35 = .ok (.invokevirtual 91, 3) := by decide +kernel
theorem dX4_priceFor_38 : decode cX4_priceFor 38 = .ok (.istore 5, 2) := by decide +kernel
theorem dX4_priceFor_40 : decode cX4_priceFor 40 = .ok (.aload_n 0, 1) := by decide +kernel
theorem dX4_priceFor_41 : decode cX4_priceFor 41 = .ok (.getfield 12, 3) := by decide +kernel
theorem dX4_priceFor_44 : decode cX4_priceFor 44 = .ok (.iload 5, 2) := by decide +kernel
theorem dX4_priceFor_46 : decode cX4_priceFor 46 = .ok (.invokevirtual 118, 3) := by decide +kernel
theorem dX4_priceFor_49 : decode cX4_priceFor 49 = .ok (.ifCond .ne 6, 3) := by decide +kernel
theorem dX4_priceFor_52 : decode cX4_priceFor 52 = .ok (.bipush (-5), 2) := by decide +kernel
theorem dX4_priceFor_54 : decode cX4_priceFor 54 = .ok (.ireturn, 1) := by decide +kernel
theorem dX4_priceFor_55 : decode cX4_priceFor 55 = .ok (.aload_n 0, 1) := by decide +kernel
theorem dX4_priceFor_56 : decode cX4_priceFor 56 = .ok (.getfield 19, 3) := by decide +kernel
theorem dX4_priceFor_59 : decode cX4_priceFor 59 = .ok (.aload_n 0, 1) := by decide +kernel
theorem dX4_priceFor_60 : decode cX4_priceFor 60 = .ok (.getfield 12, 3) := by decide +kernel
theorem dX4_priceFor_63 : decode cX4_priceFor 63 = .ok (.iload 5, 2) := by decide +kernel
theorem dX4_priceFor_65 : decode cX4_priceFor 65 = .ok (.invokevirtual 121, 3) := by decide +kernel
theorem dX4_priceFor_68 : decode cX4_priceFor 68 = .ok (.getstatic 50, 3) := by decide +kernel
theorem dX4_priceFor_71 : decode cX4_priceFor 71 = .ok (.iconst 1, 1) := by decide +kernel
theorem dX4_priceFor_72 : decode cX4_priceFor 72 = .ok (.iaload, 1) := by decide +kernel
theorem dX4_priceFor_73 : decode cX4_priceFor 73 = .ok (.istore 6, 2) := by decide +kernel
theorem dX4_priceFor_75 : decode cX4_priceFor 75 = .ok (.iload 6, 2) := by decide +kernel
theorem dX4_priceFor_77 : decode cX4_priceFor 77 = .ok (.getstatic 54, 3) := by decide +kernel
theorem dX4_priceFor_80 : decode cX4_priceFor 80 = .ok (.iconst 1, 1) := by decide +kernel
theorem dX4_priceFor_81 : decode cX4_priceFor 81 = .ok (.iaload, 1) := by decide +kernel
theorem dX4_priceFor_82 : decode cX4_priceFor 82 = .ok (.if_icmp .gt 28, 3) := by decide +kernel
theorem dX4_priceFor_85 : decode cX4_priceFor 85 = .ok (.aload_n 0, 1) := by decide +kernel
theorem dX4_priceFor_86 : decode cX4_priceFor 86 = .ok (.getfield 19, 3) := by decide +kernel
theorem dX4_priceFor_89 : decode cX4_priceFor 89 = .ok (.iload 4, 2) := by decide +kernel
theorem dX4_priceFor_91 : decode cX4_priceFor 91 = .ok (.invokevirtual 125, 3) := by decide +kernel
theorem dX4_priceFor_94 : decode cX4_priceFor 94 = .ok (.iload 6, 2) := by decide +kernel
theorem dX4_priceFor_96 : decode cX4_priceFor 96 = .ok (.imul, 1) := by decide +kernel
theorem dX4_priceFor_97 : decode cX4_priceFor 97 = .ok (.iload_n 3, 1) := by decide +kernel
theorem dX4_priceFor_98 : decode cX4_priceFor 98 = .ok (.if_icmp .lt 6, 3) := by decide +kernel
theorem dX4_priceFor_101 : decode cX4_priceFor 101 = .ok (.iload 6, 2) := by decide +kernel
theorem dX4_priceFor_103 : decode cX4_priceFor 103 = .ok (.ireturn, 1) := by decide +kernel
theorem dX4_priceFor_104 : decode cX4_priceFor 104 = .ok (.iinc 6 1, 3) := by decide +kernel
theorem dX4_priceFor_107 : decode cX4_priceFor 107 = .ok (.goto (-32), 3) := by decide +kernel
theorem dX4_priceFor_110 : decode cX4_priceFor 110 = .ok (.bipush (-6), 2) := by decide +kernel
theorem dX4_priceFor_112 : decode cX4_priceFor 112 = .ok (.ireturn, 1) := by decide +kernel
set_option maxRecDepth 20000 in
theorem ggX4_put_X3_append : GoodIn wsX4_put wsX3_append := goodIn_r _ [6, 7, 8, 9, 10, 11, 5, 12, 13, 14, 21, 22] (by decide +kernel) (by decide +kernel)
set_option maxRecDepth 20000 in
theorem gX4_put_X3_append : GoodIn wsX4_put (wsV RX4 182 RX3 yX3_append wsX3_append) := goodIn_app (goodIn_of _ (by decide +kernel)) ggX4_put_X3_append
theorem dX4_put_0 : decode cX4_put 0 = .ok (.aload_n 0, 1) := by decide +kernel
theorem dX4_put_1 : decode cX4_put 1 = .ok (.getfield 26, 3) := by decide +kernel
theorem dX4_put_4 : decode cX4_put 4 = .ok (.lload_n 1, 1) := by decide +kernel
theorem dX4_put_5 : decode cX4_put 5 = .ok (.invokevirtual 182, 3) := by decide +kernel
theorem dX4_put_8 : decode cX4_put 8 = .ok (.ireturn, 1) := by decide +kernel
set_option maxRecDepth 20000 in
theorem ggX4_wipe_X3_length : GoodIn wsX4_wipe wsX3_length := goodIn_r _ [6, 7, 18, 19] (by decide +kernel) (by decide +kernel)
set_option maxRecDepth 20000 in
theorem gX4_wipe_X3_length : GoodIn wsX4_wipe (wsV RX4 173 RX3 yX3_length wsX3_length) := goodIn_app (goodIn_of _ (by decide +kernel)) ggX4_wipe_X3_length
set_option maxRecDepth 20000 in
theorem ggX4_wipe_X3_empty : GoodIn wsX4_wipe wsX3_empty := goodIn_r _ [11, 7, 18, 19] (by decide +kernel) (by decide +kernel)
set_option maxRecDepth 20000 in
theorem gX4_wipe_X3_empty : GoodIn wsX4_wipe (wsV RX4 115 RX3 yX3_empty wsX3_empty) := goodIn_app (goodIn_of _ (by decide +kernel)) ggX4_wipe_X3_empty
theorem dX4_wipe_0 : decode cX4_wipe 0 = .ok (.aload_n 0, 1) := by decide +kernel
theorem dX4_wipe_1 : decode cX4_wipe 1 = .ok (.getfield 26, 3) := by decide +kernel
theorem dX4_wipe_4 : decode cX4_wipe 4 = .ok (.invokevirtual 173, 3) := by decide +kernel
theorem dX4_wipe_7 : decode cX4_wipe 7 = .ok (.istore_n 1, 1) := by decide +kernel
theorem dX4_wipe_8 : decode cX4_wipe 8 = .ok (.aload_n 0, 1) := by decide +kernel
theorem dX4_wipe_9 : decode cX4_wipe 9 = .ok (.getfield 26, 3) := by decide +kernel
theorem dX4_wipe_12 : decode cX4_wipe 12 = .ok (.invokevirtual 115, 3) := by decide +kernel
theorem dX4_wipe_15 : decode cX4_wipe 15 = .ok (.iload_n 1, 1) := by decide +kernel
theorem dX4_wipe_16 : decode cX4_wipe 16 = .ok (.ireturn, 1) := by decide +kernel
set_option maxRecDepth 20000 in
theorem ggX4_fault_X3_firstFault : GoodIn wsX4_fault wsX3_firstFault := goodIn_r _ [6, 7, 8, 9, 10, 5, 11, 12, 13, 14, 15, 16, 17, 18, 19, 20, 27, 28] (by decide +kernel) (by decide +kernel)
set_option maxRecDepth 20000 in
theorem gX4_fault_X3_firstFault : GoodIn wsX4_fault (wsV RX4 109 RX3 yX3_firstFault wsX3_firstFault) := goodIn_app (goodIn_of _ (by decide +kernel)) ggX4_fault_X3_firstFault
theorem dX4_fault_0 : decode cX4_fault 0 = .ok (.aload_n 0, 1) := by decide +kernel
theorem dX4_fault_1 : decode cX4_fault 1 = .ok (.getfield 26, 3) := by decide +kernel
theorem dX4_fault_4 : decode cX4_fault 4 = .ok (.invokevirtual 109, 3) := by decide +kernel
theorem dX4_fault_7 : decode cX4_fault 7 = .ok (.ireturn, 1) := by decide +kernel
set_option maxRecDepth 20000 in
theorem ggX4_undo_X2_size : GoodIn wsX4_undo wsX2_size := goodIn_r _ [7, 8, 31, 32, 33] (by decide +kernel) (by decide +kernel)
set_option maxRecDepth 20000 in
theorem gX4_undo_X2_size : GoodIn wsX4_undo (wsV RX4 176 RX2 yX2_size wsX2_size) := goodIn_app (goodIn_of _ (by decide +kernel)) ggX4_undo_X2_size
set_option maxRecDepth 20000 in
theorem ggX4_undo_X2_takeBack : GoodIn wsX4_undo wsX2_takeBack := goodIn_r _ [12, 8, 13, 14, 15, 16, 17, 18, 19, 20, 21, 22, 23, 24, 31, 32, 33, 34] (by decide +kernel) (by decide +kernel)
set_option maxRecDepth 20000 in
theorem gX4_undo_X2_takeBack : GoodIn wsX4_undo (wsV RX4 186 RX2 yX2_takeBack wsX2_takeBack) := goodIn_app (goodIn_of _ (by decide +kernel)) ggX4_undo_X2_takeBack
theorem dX4_undo_0 : decode cX4_undo 0 = .ok (.aload_n 0, 1) := by decide +kernel
theorem dX4_undo_1 : decode cX4_undo 1 = .ok (.getfield 33, 3) := by decide +kernel
theorem dX4_undo_4 : decode cX4_undo 4 = .ok (.invokevirtual 176, 3) := by decide +kernel
theorem dX4_undo_7 : decode cX4_undo 7 = .ok (.ifCond .ne 6, 3) := by decide +kernel
theorem dX4_undo_10 : decode cX4_undo 10 = .ok (.bipush (-5), 2) := by decide +kernel
theorem dX4_undo_12 : decode cX4_undo 12 = .ok (.ireturn, 1) := by decide +kernel
theorem dX4_undo_13 : decode cX4_undo 13 = .ok (.aload_n 0, 1) := by decide +kernel
theorem dX4_undo_14 : decode cX4_undo 14 = .ok (.getfield 33, 3) := by decide +kernel
theorem dX4_undo_17 : decode cX4_undo 17 = .ok (.aload_n 0, 1) := by decide +kernel
theorem dX4_undo_18 : decode cX4_undo 18 = .ok (.getfield 12, 3) := by decide +kernel
theorem dX4_undo_21 : decode cX4_undo 21 = .ok (.invokevirtual 186, 3) := by decide +kernel
theorem dX4_undo_24 : decode cX4_undo 24 = .ok (.aload_n 0, 1) := by decide +kernel
theorem dX4_undo_25 : decode cX4_undo 25 = .ok (.getfield 33, 3) := by decide +kernel
theorem dX4_undo_28 : decode cX4_undo 28 = .ok (.invokevirtual 176, 3) := by decide +kernel
theorem dX4_undo_31 : decode cX4_undo 31 = .ok (.ireturn, 1) := by decide +kernel
set_option maxRecDepth 20000 in
theorem ggX4_save_X4_isWithin : GoodIn wsX4_save wsX4_isWithin := goodIn_r _ [7] (by decide +kernel) (by decide +kernel)
set_option maxRecDepth 20000 in
theorem gX4_save_X4_isWithin : GoodIn wsX4_save (va_wsS RX4 46 yX4_isWithin wsX4_isWithin) := goodIn_app (goodIn_of _ (by decide +kernel)) ggX4_save_X4_isWithin
set_option maxRecDepth 20000 in
theorem ggX4_save_X1_copyTo : GoodIn wsX4_save wsX1_copyTo := goodIn_r _ [12, 13, 14, 15, 16, 17, 32] (by decide +kernel) (by decide +kernel)
set_option maxRecDepth 20000 in
theorem gX4_save_X1_copyTo : GoodIn wsX4_save (wsV RX4 189 RX1 yX1_copyTo wsX1_copyTo) := goodIn_app (goodIn_of _ (by decide +kernel)) ggX4_save_X1_copyTo
set_option maxRecDepth 20000 in
theorem ggX4_save_X1_shows : GoodIn wsX4_save wsX1_shows := goodIn_r _ [21, 22, 23, 24, 11, 25, 13, 32] (by decide +kernel) (by decide +kernel)
set_option maxRecDepth 20000 in
theorem gX4_save_X1_shows : GoodIn wsX4_save (wsV RX4 193 RX1 yX1_shows wsX1_shows) := goodIn_app (goodIn_of _ (by decide +kernel)) ggX4_save_X1_shows
theorem dX4_save_0 : decode cX4_save 0 = .ok (.iload_n 1, 1) := by decide +kernel
theorem dX4_save_1 : decode cX4_save 1 = .ok (.iconst 0, 1) := by decide +kernel
theorem dX4_save_2 : decode cX4_save 2 = .ok (.iconst 1, 1) := by decide +kernel
theorem dX4_save_3 : decode cX4_save 3 = .ok (.invokestatic 46, 3) := by decide +kernel
theorem dX4_save_6 : decode cX4_save 6 = .ok (.ifCond .ne 6, 3) := by decide +kernel
theorem dX4_save_9 : decode cX4_save 9 = .ok (.bipush (-2), 2) := by decide +kernel
theorem dX4_save_11 : decode cX4_save 11 = .ok (.ireturn, 1) := by decide +kernel
theorem dX4_save_12 : decode cX4_save 12 = .ok (.aload_n 0, 1) := by decide +kernel
theorem dX4_save_13 : decode cX4_save 13 = .ok (.getfield 12, 3) := by decide +kernel
theorem dX4_save_16 : decode cX4_save 16 = .ok (.aload_n 0, 1) := by decide +kernel
theorem dX4_save_17 : decode cX4_save 17 = .ok (.getfield 39, 3) := by decide +kernel
theorem dX4_save_20 : decode cX4_save 20 = .ok (.iload_n 1, 1) := by decide +kernel
theorem dX4_save_21 : decode cX4_save 21 = .ok (.aaload, 1) := by decide +kernel
theorem dX4_save_22 : decode cX4_save 22 = .ok (.invokevirtual 189, 3) := by decide +kernel
theorem dX4_save_25 : decode cX4_save 25 = .ok (.aload_n 0, 1) := by decide +kernel
theorem dX4_save_26 : decode cX4_save 26 = .ok (.getfield 42, 3) := by decide +kernel
theorem dX4_save_29 : decode cX4_save 29 = .ok (.iload_n 1, 1) := by decide +kernel
theorem dX4_save_30 : decode cX4_save 30 = .ok (.iconst 1, 1) := by decide +kernel
theorem dX4_save_31 : decode cX4_save 31 = .ok (.bastore, 1) := by decide +kernel
theorem dX4_save_32 : decode cX4_save 32 = .ok (.aload_n 0, 1) := by decide +kernel
theorem dX4_save_33 : decode cX4_save 33 = .ok (.getfield 12, 3) := by decide +kernel
theorem dX4_save_36 : decode cX4_save 36 = .ok (.invokevirtual 193, 3) := by decide +kernel
theorem dX4_save_39 : decode cX4_save 39 = .ok (.ireturn, 1) := by decide +kernel
set_option maxRecDepth 20000 in
theorem ggX4_restore_X4_isWithin : GoodIn wsX4_restore wsX4_isWithin := goodIn_r _ [8] (by decide +kernel) (by decide +kernel)
set_option maxRecDepth 20000 in
theorem gX4_restore_X4_isWithin : GoodIn wsX4_restore (va_wsS RX4 46 yX4_isWithin wsX4_isWithin) := goodIn_app (goodIn_of _ (by decide +kernel)) ggX4_restore_X4_isWithin
set_option maxRecDepth 20000 in
theorem ggX4_restore_X2_record : GoodIn wsX4_restore wsX2_record := goodIn_r _ [13, 14, 15, 16, 17, 18, 19, 20, 21, 22, 23, 24, 25, 26, 45, 46, 47, 48] (by decide +kernel) (by decide +kernel)
set_option maxRecDepth 20000 in
theorem gX4_restore_X2_record : GoodIn wsX4_restore (wsV RX4 57 RX2 yX2_record wsX2_record) := goodIn_app (goodIn_of _ (by decide +kernel)) ggX4_restore_X2_record
set_option maxRecDepth 20000 in
theorem ggX4_restore_X1_copyFrom : GoodIn wsX4_restore wsX1_copyFrom := goodIn_r _ [30, 22, 23, 24, 25, 26, 48] (by decide +kernel) (by decide +kernel)
set_option maxRecDepth 20000 in
theorem gX4_restore_X1_copyFrom : GoodIn wsX4_restore (wsV RX4 196 RX1 yX1_copyFrom wsX1_copyFrom) := goodIn_app (goodIn_of _ (by decide +kernel)) ggX4_restore_X1_copyFrom
set_option maxRecDepth 20000 in
theorem ggX4_restore_X1_shows : GoodIn wsX4_restore wsX1_shows := goodIn_r _ [34, 35, 36, 37, 20, 38, 22, 48] (by decide +kernel) (by decide +kernel)
set_option maxRecDepth 20000 in
theorem gX4_restore_X1_shows : GoodIn wsX4_restore (wsV RX4 193 RX1 yX1_shows wsX1_shows) := goodIn_app (goodIn_of _ (by decide +kernel)) ggX4_restore_X1_shows
theorem dX4_restore_0 : decode cX4_restore 0 = .ok (.iload_n 1, 1) := by decide +kernel
theorem dX4_restore_1 : decode cX4_restore 1 = .ok (.iconst 0, 1) := by decide +kernel
theorem dX4_restore_2 : decode cX4_restore 2 = .ok (.iconst 1, 1) := by decide +kernel
theorem dX4_restore_3 : decode cX4_restore 3 = .ok (.invokestatic 46, 3) := by decide +kernel
theorem dX4_restore_6 : decode cX4_restore 6 = .ok (.ifCond .ne 6, 3) := by decide +kernel
theorem dX4_restore_9 : decode cX4_restore 9 = .ok (.bipush (-2), 2) := by decide +kernel
theorem dX4_restore_11 : decode cX4_restore 11 = .ok (.ireturn, 1) := by decide +kernel
theorem dX4_restore_12 : decode cX4_restore 12 = .ok (.aload_n 0, 1) := by decide +kernel
theorem dX4_restore_13 : decode cX4_restore 13 = .ok (.getfield 42, 3) := by decide +kernel
theorem dX4_restore_16 : decode cX4_restore 16 = .ok (.iload_n 1, 1) := by decide +kernel
theorem dX4_restore_17 : decode cX4_restore 17 = .ok (.baload, 1) := by decide +kernel
theorem dX4_restore_18 : decode cX4_restore 18 = .ok (.ifCond .ne 6, 3) := by decide +kernel
theorem dX4_restore_21 : decode cX4_restore 21 = .ok (.bipush (-5), 2) := by decide +kernel
theorem dX4_restore_23 : decode cX4_restore 23 = .ok (.ireturn, 1) := by decide +kernel
theorem dX4_restore_24 : decode cX4_restore 24 = .ok (.aload_n 0, 1) := by decide +kernel
theorem dX4_restore_25 : decode cX4_restore 25 = .ok (.getfield 33, 3) := by decide +kernel
theorem dX4_restore_28 : decode cX4_restore 28 = .ok (.aload_n 0, 1) := by decide +kernel
theorem dX4_restore_29 : decode cX4_restore 29 = .ok (.getfield 12, 3) := by decide +kernel
theorem dX4_restore_32 : decode cX4_restore 32 = .ok (.invokevirtual 57, 3) := by decide +kernel
theorem dX4_restore_35 : decode cX4_restore 35 = .ok (.aload_n 0, 1) := by decide +kernel
theorem dX4_restore_36 : decode cX4_restore 36 = .ok (.getfield 12, 3) := by decide +kernel
theorem dX4_restore_39 : decode cX4_restore 39 = .ok (.aload_n 0, 1) := by decide +kernel
theorem dX4_restore_40 : decode cX4_restore 40 = .ok (.getfield 39, 3) := by decide +kernel
theorem dX4_restore_43 : decode cX4_restore 43 = .ok (.iload_n 1, 1) := by decide +kernel
theorem dX4_restore_44 : decode cX4_restore 44 = .ok (.aaload, 1) := by decide +kernel
theorem dX4_restore_45 : decode cX4_restore 45 = .ok (.invokevirtual 196, 3) := by decide +kernel
theorem dX4_restore_48 : decode cX4_restore 48 = .ok (.aload_n 0, 1) := by decide +kernel
theorem dX4_restore_49 : decode cX4_restore 49 = .ok (.getfield 12, 3) := by decide +kernel
theorem dX4_restore_52 : decode cX4_restore 52 = .ok (.invokevirtual 193, 3) := by decide +kernel
theorem dX4_restore_55 : decode cX4_restore 55 = .ok (.ireturn, 1) := by decide +kernel
theorem dX4_isWithin_0 : decode cX4_isWithin 0 = .ok (.iload_n 0, 1) := by decide +kernel
theorem dX4_isWithin_1 : decode cX4_isWithin 1 = .ok (.iload_n 1, 1) := by decide +kernel
theorem dX4_isWithin_2 : decode cX4_isWithin 2 = .ok (.if_icmp .lt 12, 3) := by decide +kernel
theorem dX4_isWithin_5 : decode cX4_isWithin 5 = .ok (.iload_n 0, 1) := by decide +kernel
theorem dX4_isWithin_6 : decode cX4_isWithin 6 = .ok (.iload_n 2, 1) := by decide +kernel
theorem dX4_isWithin_7 : decode cX4_isWithin 7 = .ok (.if_icmp .gt 7, 3) := by decide +kernel
theorem dX4_isWithin_10 : decode cX4_isWithin 10 = .ok (.iconst 1, 1) := by decide +kernel
theorem dX4_isWithin_11 : decode cX4_isWithin 11 = .ok (.goto 4, 3) := by decide +kernel
theorem dX4_isWithin_14 : decode cX4_isWithin 14 = .ok (.iconst 0, 1) := by decide +kernel
theorem dX4_isWithin_15 : decode cX4_isWithin 15 = .ok (.ireturn, 1) := by decide +kernel
set_option maxRecDepth 20000 in
theorem ggX4_isDay_X4_isWithin : GoodIn wsX4_isDay wsX4_isWithin := goodIn_r _ [4] (by decide +kernel) (by decide +kernel)
set_option maxRecDepth 20000 in
theorem gX4_isDay_X4_isWithin : GoodIn wsX4_isDay (va_wsS RX4 46 yX4_isWithin wsX4_isWithin) := goodIn_app (goodIn_of _ (by decide +kernel)) ggX4_isDay_X4_isWithin
theorem dX4_isDay_0 : decode cX4_isDay 0 = .ok (.iload_n 0, 1) := by decide +kernel
theorem dX4_isDay_1 : decode cX4_isDay 1 = .ok (.iconst 0, 1) := by decide +kernel
theorem dX4_isDay_2 : decode cX4_isDay 2 = .ok (.bipush 34, 2) := by decide +kernel
theorem dX4_isDay_4 : decode cX4_isDay 4 = .ok (.invokestatic 46, 3) := by decide +kernel
theorem dX4_isDay_7 : decode cX4_isDay 7 = .ok (.ireturn, 1) := by decide +kernel
set_option maxRecDepth 20000 in
theorem ggX4_isWeek_X4_isWithin : GoodIn wsX4_isWeek wsX4_isWithin := goodIn_r _ [4] (by decide +kernel) (by decide +kernel)
set_option maxRecDepth 20000 in
theorem gX4_isWeek_X4_isWithin : GoodIn wsX4_isWeek (va_wsS RX4 46 yX4_isWithin wsX4_isWithin) := goodIn_app (goodIn_of _ (by decide +kernel)) ggX4_isWeek_X4_isWithin
theorem dX4_isWeek_0 : decode cX4_isWeek 0 = .ok (.iload_n 0, 1) := by decide +kernel
theorem dX4_isWeek_1 : decode cX4_isWeek 1 = .ok (.iconst 0, 1) := by decide +kernel
theorem dX4_isWeek_2 : decode cX4_isWeek 2 = .ok (.iconst 4, 1) := by decide +kernel
theorem dX4_isWeek_3 : decode cX4_isWeek 3 = .ok (.invokestatic 46, 3) := by decide +kernel
theorem dX4_isWeek_6 : decode cX4_isWeek 6 = .ok (.ireturn, 1) := by decide +kernel
set_option maxRecDepth 20000 in
theorem ggX4_isPlace_X4_isDay : GoodIn wsX4_isPlace wsX4_isDay := goodIn_r _ [4, 5, 6, 3, 7] (by decide +kernel) (by decide +kernel)
set_option maxRecDepth 20000 in
theorem gX4_isPlace_X4_isDay : GoodIn wsX4_isPlace (va_wsS RX4 65 yX4_isDay wsX4_isDay) := goodIn_app (goodIn_of _ (by decide +kernel)) ggX4_isPlace_X4_isDay
set_option maxRecDepth 20000 in
theorem ggX4_isPlace_X4_isWithin : GoodIn wsX4_isPlace wsX4_isWithin := goodIn_r _ [7] (by decide +kernel) (by decide +kernel)
set_option maxRecDepth 20000 in
theorem gX4_isPlace_X4_isWithin : GoodIn wsX4_isPlace (va_wsS RX4 46 yX4_isWithin wsX4_isWithin) := goodIn_app (goodIn_of _ (by decide +kernel)) ggX4_isPlace_X4_isWithin
theorem dX4_isPlace_0 : decode cX4_isPlace 0 = .ok (.iload_n 0, 1) := by decide +kernel
theorem dX4_isPlace_1 : decode cX4_isPlace 1 = .ok (.invokestatic 65, 3) := by decide +kernel
theorem dX4_isPlace_4 : decode cX4_isPlace 4 = .ok (.ifCond .eq 16, 3) := by decide +kernel
theorem dX4_isPlace_7 : decode cX4_isPlace 7 = .ok (.iload_n 1, 1) := by decide +kernel
theorem dX4_isPlace_8 : decode cX4_isPlace 8 = .ok (.iconst 0, 1) := by decide +kernel
theorem dX4_isPlace_9 : decode cX4_isPlace 9 = .ok (.iconst 1, 1) := by decide +kernel
theorem dX4_isPlace_10 : decode cX4_isPlace 10 = .ok (.invokestatic 46, 3) := by decide +kernel
theorem dX4_isPlace_13 : decode cX4_isPlace 13 = .ok (.ifCond .eq 7, 3) := by decide +kernel
theorem dX4_isPlace_16 : decode cX4_isPlace 16 = .ok (.iconst 1, 1) := by decide +kernel
theorem dX4_isPlace_17 : decode cX4_isPlace 17 = .ok (.goto 4, 3) := by decide +kernel
theorem dX4_isPlace_20 : decode cX4_isPlace 20 = .ok (.iconst 0, 1) := by decide +kernel
theorem dX4_isPlace_21 : decode cX4_isPlace 21 = .ok (.ireturn, 1) := by decide +kernel
theorem dX4_placeOf_0 : decode cX4_placeOf 0 = .ok (.iload_n 0, 1) := by decide +kernel
theorem dX4_placeOf_1 : decode cX4_placeOf 1 = .ok (.iconst 2, 1) := by decide +kernel
theorem dX4_placeOf_2 : decode cX4_placeOf 2 = .ok (.imul, 1) := by decide +kernel
theorem dX4_placeOf_3 : decode cX4_placeOf 3 = .ok (.iload_n 1, 1) := by decide +kernel
theorem dX4_placeOf_4 : decode cX4_placeOf 4 = .ok (.iadd, 1) := by decide +kernel
theorem dX4_placeOf_5 : decode cX4_placeOf 5 = .ok (.ireturn, 1) := by decide +kernel
set_option maxRecDepth 20000 in
theorem ggX4_errorOfShow_X1_hasFilm : GoodIn wsX4_errorOfShow wsX1_hasFilm := goodIn_r _ [6, 7, 8, 9, 5, 10, 11, 41] (by decide +kernel) (by decide +kernel)
set_option maxRecDepth 20000 in
theorem gX4_errorOfShow_X1_hasFilm : GoodIn wsX4_errorOfShow (wsV RX4 118 RX1 yX1_hasFilm wsX1_hasFilm) := goodIn_app (goodIn_of _ (by decide +kernel)) ggX4_errorOfShow_X1_hasFilm
set_option maxRecDepth 20000 in
theorem ggX4_errorOfShow_X4_isPlace : GoodIn wsX4_errorOfShow wsX4_isPlace := goodIn_r _ [15, 16, 17, 14, 18, 19, 20, 21] (by decide +kernel) (by decide +kernel)
set_option maxRecDepth 20000 in
theorem gX4_errorOfShow_X4_isPlace : GoodIn wsX4_errorOfShow (va_wsS RX4 87 yX4_isPlace wsX4_isPlace) := goodIn_app (goodIn_of _ (by decide +kernel)) ggX4_errorOfShow_X4_isPlace
set_option maxRecDepth 20000 in
theorem ggX4_errorOfShow_X1_canHold : GoodIn wsX4_errorOfShow wsX1_canHold := goodIn_r _ [25, 26, 27, 28, 5, 29, 11, 30, 3, 4, 6, 7, 8, 9, 10, 31, 32, 33, 34, 41] (by decide +kernel) (by decide +kernel)
set_option maxRecDepth 20000 in
theorem gX4_errorOfShow_X1_canHold : GoodIn wsX4_errorOfShow (wsV RX4 95 RX1 yX1_canHold wsX1_canHold) := goodIn_app (goodIn_of _ (by decide +kernel)) ggX4_errorOfShow_X1_canHold
theorem dX4_errorOfShow_0 : decode cX4_errorOfShow 0 = .ok (.aload_n 0, 1) := by decide +kernel
theorem dX4_errorOfShow_1 : decode cX4_errorOfShow 1 = .ok (.getfield 12, 3) := by decide +kernel
theorem dX4_errorOfShow_4 : decode cX4_errorOfShow 4 = .ok (.iload_n 1, 1) := by decide +kernel
theorem dX4_errorOfShow_5 : decode cX4_errorOfShow 5 = .ok (.invokevirtual 118, 3) := by decide +kernel
theorem dX4_errorOfShow_8 : decode cX4_errorOfShow 8 = .ok (.ifCond .ne 5, 3) := by decide +kernel
theorem dX4_errorOfShow_11 : decode cX4_errorOfShow 11 = .ok (.iconst (-1), 1) := by decide +kernel
theorem dX4_errorOfShow_12 : decode cX4_errorOfShow 12 = .ok (.ireturn, 1) := by decide +kernel
theorem dX4_errorOfShow_13 : decode cX4_errorOfShow 13 = .ok (.iload_n 2, 1) := by decide +kernel
theorem dX4_errorOfShow_14 : decode cX4_errorOfShow 14 = .ok (.iload_n 3, 1) := by decide +kernel
theorem dX4_errorOfShow_15 : decode cX4_errorOfShow 15 = .ok (.invokestatic 87, 3) := by decide +kernel
theorem dX4_errorOfShow_18 : decode cX4_errorOfShow 18 = .ok (.ifCond .ne 6, 3) := by decide +kernel
theorem dX4_errorOfShow_21 : decode cX4_errorOfShow 21 = .ok (.bipush (-2), 2) := by decide +kernel
theorem dX4_errorOfShow_23 : decode cX4_errorOfShow 23 = .ok (.ireturn, 1) := by decide +kernel
theorem dX4_errorOfShow_24 : decode cX4_errorOfShow 24 = .ok (.aload_n 0, 1) := by decide +kernel
theorem dX4_errorOfShow_25 : decode cX4_errorOfShow 25 = .ok (.getfield 12, 3) := by decide +kernel
theorem dX4_errorOfShow_28 : decode cX4_errorOfShow 28 = .ok (.iload_n 2, 1) := by decide +kernel
theorem dX4_errorOfShow_29 : decode cX4_errorOfShow 29 = .ok (.iload_n 1, 1) := by decide +kernel
theorem dX4_errorOfShow_30 : decode cX4_errorOfShow 30 = .ok (.invokevirtual 95, 3) := by decide +kernel
theorem dX4_errorOfShow_33 : decode cX4_errorOfShow 33 = .ok (.ifCond .eq 7, 3) := by decide +kernel
theorem dX4_errorOfShow_36 : decode cX4_errorOfShow 36 = .ok (.iconst 0, 1) := by decide +kernel
theorem dX4_errorOfShow_37 : decode cX4_errorOfShow 37 = .ok (.goto 5, 3) := by decide +kernel
theorem dX4_errorOfShow_40 : decode cX4_errorOfShow 40 = .ok (.bipush (-5), 2) := by decide +kernel
theorem dX4_errorOfShow_42 : decode cX4_errorOfShow 42 = .ok (.ireturn, 1) := by decide +kernel
set_option maxRecDepth 20000 in
theorem ggX4_dropShowsOfDay_X4_placeOf : GoodIn wsX4_dropShowsOfDay wsX4_placeOf := goodIn_r _ [5] (by decide +kernel) (by decide +kernel)
set_option maxRecDepth 20000 in
theorem gX4_dropShowsOfDay_X4_placeOf : GoodIn wsX4_dropShowsOfDay (va_wsS RX4 81 yX4_placeOf wsX4_placeOf) := goodIn_app (goodIn_of _ (by decide +kernel)) ggX4_dropShowsOfDay_X4_placeOf
set_option maxRecDepth 20000 in
theorem ggX4_dropShowsOfDay_X1_replaceShow : GoodIn wsX4_dropShowsOfDay wsX1_replaceShow := goodIn_r _ [10, 11, 18] (by decide +kernel) (by decide +kernel)
set_option maxRecDepth 20000 in
theorem gX4_dropShowsOfDay_X1_replaceShow : GoodIn wsX4_dropShowsOfDay (wsV RX4 84 RX1 yX1_replaceShow wsX1_replaceShow) := goodIn_app (goodIn_of _ (by decide +kernel)) ggX4_dropShowsOfDay_X1_replaceShow
theorem dX4_dropShowsOfDay_0 : decode cX4_dropShowsOfDay 0 = .ok (.iconst 0, 1) := by decide +kernel
theorem dX4_dropShowsOfDay_1 : decode cX4_dropShowsOfDay 1 = .ok (.istore_n 2, 1) := by decide +kernel
theorem dX4_dropShowsOfDay_2 : decode cX4_dropShowsOfDay 2 = .ok (.iconst 0, 1) := by decide +kernel
theorem dX4_dropShowsOfDay_3 : decode cX4_dropShowsOfDay 3 = .ok (.istore_n 3, 1) := by decide +kernel
theorem dX4_dropShowsOfDay_4 : decode cX4_dropShowsOfDay 4 = .ok (.iload_n 3, 1) := by decide +kernel
theorem dX4_dropShowsOfDay_5 : decode cX4_dropShowsOfDay 5 = .ok (.iconst 2, 1) := by decide +kernel
theorem dX4_dropShowsOfDay_6 : decode cX4_dropShowsOfDay 6 = .ok (.if_icmp .ge 31, 3) := by decide +kernel
theorem dX4_dropShowsOfDay_9 : decode cX4_dropShowsOfDay 9 = .ok (.aload_n 0, 1) := by decide +kernel
theorem dX4_dropShowsOfDay_10 : decode cX4_dropShowsOfDay 10 = .ok (.getfield 12, 3) := by decide +kernel
theorem dX4_dropShowsOfDay_13 : decode cX4_dropShowsOfDay 13 = .ok (.iload_n 1, 1) := by decide +kernel
theorem dX4_dropShowsOfDay_14 : decode cX4_dropShowsOfDay 14 = .ok (.iload_n 3, 1) := by decide +kernel
theorem dX4_dropShowsOfDay_15 : decode cX4_dropShowsOfDay 15 = .ok (.invokestatic 81, 3) := by decide +kernel
theorem dX4_dropShowsOfDay_18 : decode cX4_dropShowsOfDay 18 = .ok (.bipush (-6), 2) := by decide +kernel
theorem dX4_dropShowsOfDay_20 : decode cX4_dropShowsOfDay 20 = .ok (.invokevirtual 84, 3) := by decide +kernel
theorem dX4_dropShowsOfDay_23 : decode cX4_dropShowsOfDay 23 = .ok (.bipush (-6), 2) := by decide +kernel
theorem dX4_dropShowsOfDay_25 : decode cX4_dropShowsOfDay 25 = .ok (.if_icmp .eq 6, 3) := by decide +kernel
theorem dX4_dropShowsOfDay_28 : decode cX4_dropShowsOfDay 28 = .ok (.iinc 2 1, 3) := by decide +kernel
theorem dX4_dropShowsOfDay_31 : decode cX4_dropShowsOfDay 31 = .ok (.iinc 3 1, 3) := by decide +kernel
theorem dX4_dropShowsOfDay_34 : decode cX4_dropShowsOfDay 34 = .ok (.goto (-30), 3) := by decide +kernel
theorem dX4_dropShowsOfDay_37 : decode cX4_dropShowsOfDay 37 = .ok (.iload_n 2, 1) := by decide +kernel
theorem dX4_dropShowsOfDay_38 : decode cX4_dropShowsOfDay 38 = .ok (.ireturn, 1) := by decide +kernel
set_option maxRecDepth 20000 in
theorem ggX4_putInShowsOfPad_X3_length : GoodIn wsX4_putInShowsOfPad wsX3_length := goodIn_r _ [7, 8, 80, 81] (by decide +kernel) (by decide +kernel)
set_option maxRecDepth 20000 in
theorem gX4_putInShowsOfPad_X3_length : GoodIn wsX4_putInShowsOfPad (wsV RX4 173 RX3 yX3_length wsX3_length) := goodIn_app (goodIn_of _ (by decide +kernel)) ggX4_putInShowsOfPad_X3_length
set_option maxRecDepth 20000 in
theorem ggX4_putInShowsOfPad_X3_isEndOfShow : GoodIn wsX4_putInShowsOfPad wsX3_isEndOfShow := goodIn_r _ [12, 13, 14, 15, 6, 16, 8, 17, 80, 81] (by decide +kernel) (by decide +kernel)
set_option maxRecDepth 20000 in
theorem gX4_putInShowsOfPad_X3_isEndOfShow : GoodIn wsX4_putInShowsOfPad (wsV RX4 199 RX3 yX3_isEndOfShow wsX3_isEndOfShow) := goodIn_app (goodIn_of _ (by decide +kernel)) ggX4_putInShowsOfPad_X3_isEndOfShow
set_option maxRecDepth 20000 in
theorem ggX4_putInShowsOfPad_X3_filmAt : GoodIn wsX4_putInShowsOfPad wsX3_filmAt := goodIn_r _ [21, 13, 14, 15, 6, 16, 8, 17, 80, 81] (by decide +kernel) (by decide +kernel)
set_option maxRecDepth 20000 in
theorem gX4_putInShowsOfPad_X3_filmAt : GoodIn wsX4_putInShowsOfPad (wsV RX4 202 RX3 yX3_filmAt wsX3_filmAt) := goodIn_app (goodIn_of _ (by decide +kernel)) ggX4_putInShowsOfPad_X3_filmAt
set_option maxRecDepth 20000 in
theorem ggX4_putInShowsOfPad_X3_partAt : GoodIn wsX4_putInShowsOfPad wsX3_partAt := goodIn_r _ [25, 13, 14, 15, 6, 16, 8, 17, 80, 81] (by decide +kernel) (by decide +kernel)
set_option maxRecDepth 20000 in
theorem gX4_putInShowsOfPad_X3_partAt : GoodIn wsX4_putInShowsOfPad (wsV RX4 205 RX3 yX3_partAt wsX3_partAt) := goodIn_app (goodIn_of _ (by decide +kernel)) ggX4_putInShowsOfPad_X3_partAt
set_option maxRecDepth 20000 in
theorem ggX4_putInShowsOfPad_X3_dayAt : GoodIn wsX4_putInShowsOfPad wsX3_dayAt := goodIn_r _ [29, 13, 14, 15, 6, 16, 8, 17, 80, 81] (by decide +kernel) (by decide +kernel)
set_option maxRecDepth 20000 in
theorem gX4_putInShowsOfPad_X3_dayAt : GoodIn wsX4_putInShowsOfPad (wsV RX4 208 RX3 yX3_dayAt wsX3_dayAt) := goodIn_app (goodIn_of _ (by decide +kernel)) ggX4_putInShowsOfPad_X3_dayAt
set_option maxRecDepth 20000 in
theorem ggX4_putInShowsOfPad_X4_errorOfShow : GoodIn wsX4_putInShowsOfPad wsX4_errorOfShow := goodIn_r _ [34, 2, 35, 36, 37, 38, 39, 40, 41, 42, 43, 44, 45, 46, 33, 47, 48, 49, 50, 51, 52, 53, 54, 55, 56, 57, 58, 59, 60, 61, 62, 63, 64, 65, 66, 74, 75, 76, 77, 78, 79, 82] (by decide +kernel) (by decide +kernel)
set_option maxRecDepth 20000 in
theorem gX4_putInShowsOfPad_X4_errorOfShow : GoodIn wsX4_putInShowsOfPad (wsV RX4 77 RX4 yX4_errorOfShow wsX4_errorOfShow) := goodIn_app (goodIn_of _ (by decide +kernel)) ggX4_putInShowsOfPad_X4_errorOfShow
set_option maxRecDepth 20000 in
theorem ggX4_putInShowsOfPad_X4_placeOf : GoodIn wsX4_putInShowsOfPad wsX4_placeOf := goodIn_r _ [69] (by decide +kernel) (by decide +kernel)
set_option maxRecDepth 20000 in
theorem gX4_putInShowsOfPad_X4_placeOf : GoodIn wsX4_putInShowsOfPad (va_wsS RX4 81 yX4_placeOf wsX4_placeOf) := goodIn_app (goodIn_of _ (by decide +kernel)) ggX4_putInShowsOfPad_X4_placeOf
set_option maxRecDepth 20000 in
theorem ggX4_putInShowsOfPad_X1_replaceShow : GoodIn wsX4_putInShowsOfPad wsX1_replaceShow := goodIn_r _ [73, 44, 82] (by decide +kernel) (by decide +kernel)
set_option maxRecDepth 20000 in
theorem gX4_putInShowsOfPad_X1_replaceShow : GoodIn wsX4_putInShowsOfPad (wsV RX4 84 RX1 yX1_replaceShow wsX1_replaceShow) := goodIn_app (goodIn_of _ (by decide +kernel)) ggX4_putInShowsOfPad_X1_replaceShow
theorem dX4_putInShowsOfPad_0 : decode cX4_putInShowsOfPad 0 = .ok (.iconst 0, 1) := by decide +kernel
theorem dX4_putInShowsOfPad_1 : decode cX4_putInShowsOfPad 1 = .ok (.istore_n 1, 1) := by decide +kernel
theorem dX4_putInShowsOfPad_2 : decode cX4_putInShowsOfPad 2 = .ok (.iconst 0, 1) := by decide +kernel
theorem dX4_putInShowsOfPad_3 : decode cX4_putInShowsOfPad 3 = .ok (.istore_n 2, 1) := by decide +kernel
theorem dX4_putInShowsOfPad_4 : decode cX4_putInShowsOfPad 4 = .ok (.iconst 0, 1) := by decide +kernel
theorem dX4_putInShowsOfPad_5 : decode cX4_putInShowsOfPad 5 = .ok (.istore_n 3, 1) := by decide +kernel
theorem dX4_putInShowsOfPad_6 : decode cX4_putInShowsOfPad 6 = .ok (.iload_n 3, 1) := by decide +kernel
theorem dX4_putInShowsOfPad_7 : decode cX4_putInShowsOfPad 7 = .ok (.aload_n 0, 1) := by decide +kernel
theorem dX4_putInShowsOfPad_8 : decode cX4_putInShowsOfPad 8 = .ok (.getfield 26, 3) := by decide +kernel
theorem dX4_putInShowsOfPad_11 : decode cX4_putInShowsOfPad 11 = .ok (.invokevirtual 173, 3) := by decide +kernel
theorem dX4_putInShowsOfPad_14 : decode cX4_putInShowsOfPad 14 = .ok (.if_icmp .gt 94, 3) := by decide +kernel
theorem dX4_putInShowsOfPad_17 : decode cX4_putInShowsOfPad 17 = .ok (.aload_n 0, 1) := by decide +kernel
theorem dX4_putInShowsOfPad_18 : decode cX4_putInShowsOfPad 18 = .ok (.getfield 26, 3) := by decide +kernel
theorem dX4_putInShowsOfPad_21 : decode cX4_putInShowsOfPad 21 = .ok (.iload_n 3, 1) := by decide +kernel
theorem dX4_putInShowsOfPad_22 : decode cX4_putInShowsOfPad 22 = .ok (.invokevirtual 199, 3) := by decide +kernel
theorem dX4_putInShowsOfPad_25 : decode cX4_putInShowsOfPad 25 = .ok (.ifCond .eq 77, 3) := by decide +kernel
theorem dX4_putInShowsOfPad_28 : decode cX4_putInShowsOfPad 28 = .ok (.aload_n 0, 1) := by decide +kernel
theorem dX4_putInShowsOfPad_29 : decode cX4_putInShowsOfPad 29 = .ok (.getfield 26, 3) := by decide +kernel
theorem dX4_putInShowsOfPad_32 : decode cX4_putInShowsOfPad 32 = .ok (.iload_n 2, 1) := by decide +kernel
theorem dX4_putInShowsOfPad_33 : decode cX4_putInShowsOfPad 33 = .ok (.invokevirtual 202, 3) := by decide +kernel
theorem dX4_putInShowsOfPad_36 : decode cX4_putInShowsOfPad 36 = .ok (.istore 4, 2) := by decide +kernel
theorem dX4_putInShowsOfPad_38 : decode cX4_putInShowsOfPad 38 = .ok (.aload_n 0, 1) := by decide +kernel
theorem dX4_putInShowsOfPad_39 : decode cX4_putInShowsOfPad 39 = .ok (.getfield 26, 3) := by decide +kernel
theorem dX4_putInShowsOfPad_42 : decode cX4_putInShowsOfPad 42 = .ok (.iload_n 2, 1) := by decide +kernel
theorem dX4_putInShowsOfPad_43 : decode cX4_putInShowsOfPad 43 = .ok (.iconst 1, 1) := by decide +kernel
theorem dX4_putInShowsOfPad_44 : decode cX4_putInShowsOfPad 44 = .ok (.iadd, 1) := by decide +kernel
theorem dX4_putInShowsOfPad_45 : decode cX4_putInShowsOfPad 45 = .ok (.invokevirtual 205, 3) := by decide +kernel
theorem dX4_putInShowsOfPad_48 : decode cX4_putInShowsOfPad 48 = .ok (.istore 5, 2) := by decide +kernel
theorem dX4_putInShowsOfPad_50 : decode cX4_putInShowsOfPad 50 = .ok (.aload_n 0, 1) := by decide +kernel
theorem dX4_putInShowsOfPad_51 : decode cX4_putInShowsOfPad 51 = .ok (.getfield 26, 3) := by decide +kernel
theorem dX4_putInShowsOfPad_54 : decode cX4_putInShowsOfPad 54 = .ok (.iload_n 2, 1) := by decide +kernel
theorem dX4_putInShowsOfPad_55 : decode cX4_putInShowsOfPad 55 = .ok (.iconst 2, 1) := by decide +kernel
theorem dX4_putInShowsOfPad_56 : decode cX4_putInShowsOfPad 56 = .ok (.iadd, 1) := by decide +kernel
theorem dX4_putInShowsOfPad_57 : decode cX4_putInShowsOfPad 57 = .ok (.iload_n 3, 1) := by decide +kernel
theorem dX4_putInShowsOfPad_58 : decode cX4_putInShowsOfPad 58 = .ok (.invokevirtual 208, 3) := by decide +kernel
theorem dX4_putInShowsOfPad_61 : decode cX4_putInShowsOfPad 61 = .ok (.istore 6, 2) := by decide +kernel
theorem dX4_putInShowsOfPad_63 : decode cX4_putInShowsOfPad 63 = .ok (.aload_n 0, 1) := by decide +kernel
theorem dX4_putInShowsOfPad_64 : decode cX4_putInShowsOfPad 64 = .ok (.iload 4, 2) := by decide +kernel
theorem dX4_putInShowsOfPad_66 : decode cX4_putInShowsOfPad 66 = .ok (.iload 6, 2) := by decide +kernel
theorem dX4_putInShowsOfPad_68 : decode cX4_putInShowsOfPad 68 = .ok (.iload 5, 2) := by decide +kernel
theorem dX4_putInShowsOfPad_70 : decode cX4_putInShowsOfPad 70 = .ok (.invokevirtual 77, 3) := by decide +kernel
theorem dX4_putInShowsOfPad_73 : decode cX4_putInShowsOfPad 73 = .ok (.ifCond .eq 5, 3) := by decide +kernel
theorem dX4_putInShowsOfPad_76 : decode cX4_putInShowsOfPad 76 = .ok (.iload_n 1, 1) := by decide +kernel
theorem dX4_putInShowsOfPad_77 : decode cX4_putInShowsOfPad 77 = .ok (.ireturn, 1) := by decide +kernel
theorem dX4_putInShowsOfPad_78 : decode cX4_putInShowsOfPad 78 = .ok (.aload_n 0, 1) := by decide +kernel
theorem dX4_putInShowsOfPad_79 : decode cX4_putInShowsOfPad 79 = .ok (.getfield 12, 3) := by decide +kernel
theorem dX4_putInShowsOfPad_82 : decode cX4_putInShowsOfPad 82 = .ok (.iload 6, 2) := by decide +kernel
theorem dX4_putInShowsOfPad_84 : decode cX4_putInShowsOfPad 84 = .ok (.iload 5, 2) := by decide +kernel
theorem dX4_putInShowsOfPad_86 : decode cX4_putInShowsOfPad 86 = .ok (.invokestatic 81, 3) := by decide +kernel
theorem dX4_putInShowsOfPad_89 : decode cX4_putInShowsOfPad 89 = .ok (.iload 4, 2) := by decide +kernel
theorem dX4_putInShowsOfPad_91 : decode cX4_putInShowsOfPad 91 = .ok (.invokevirtual 84, 3) := by decide +kernel
theorem dX4_putInShowsOfPad_94 : decode cX4_putInShowsOfPad 94 = .ok (.pop, 1) := by decide +kernel
theorem dX4_putInShowsOfPad_95 : decode cX4_putInShowsOfPad 95 = .ok (.iinc 1 1, 3) := by decide +kernel
theorem dX4_putInShowsOfPad_98 : decode cX4_putInShowsOfPad 98 = .ok (.iload_n 3, 1) := by decide +kernel
theorem dX4_putInShowsOfPad_99 : decode cX4_putInShowsOfPad 99 = .ok (.iconst 1, 1) := by decide +kernel
theorem dX4_putInShowsOfPad_100 : decode cX4_putInShowsOfPad 100 = .ok (.iadd, 1) := by decide +kernel
theorem dX4_putInShowsOfPad_101 : decode cX4_putInShowsOfPad 101 = .ok (.istore_n 2, 1) := by decide +kernel
theorem dX4_putInShowsOfPad_102 : decode cX4_putInShowsOfPad 102 = .ok (.iinc 3 1, 3) := by decide +kernel
theorem dX4_putInShowsOfPad_105 : decode cX4_putInShowsOfPad 105 = .ok (.goto (-99), 3) := by decide +kernel
theorem dX4_putInShowsOfPad_108 : decode cX4_putInShowsOfPad 108 = .ok (.iload_n 1, 1) := by decide +kernel
theorem dX4_putInShowsOfPad_109 : decode cX4_putInShowsOfPad 109 = .ok (.ireturn, 1) := by decide +kernel
set_option maxRecDepth 20000 in
theorem ggX4_sumOfFilm_X0_follow : GoodIn wsX4_sumOfFilm wsX0_follow := goodIn_r _ [7, 8, 9, 10, 11, 12, 13, 14, 15, 16, 17, 18, 19, 6, 20, 21, 22, 23, 24, 25, 26, 27, 28, 29, 30, 31, 32, 33, 34, 35, 36, 37, 38, 39, 40, 41, 42, 43, 44, 45, 46, 47, 48, 49, 50, 51, 52, 53, 54, 55, 56, 67, 68, 69, 70, 71, 72, 73] (by decide +kernel) (by decide +kernel)
set_option maxRecDepth 20000 in
theorem gX4_sumOfFilm_X0_follow : GoodIn wsX4_sumOfFilm (wsV RX4 121 RX0 yX0_follow wsX0_follow) := goodIn_app (goodIn_of _ (by decide +kernel)) ggX4_sumOfFilm_X0_follow
set_option maxRecDepth 20000 in
theorem ggX4_sumOfFilm_X0_sum : GoodIn wsX4_sumOfFilm wsX0_sum := goodIn_r _ [60, 39, 40, 41, 6, 42, 23, 67, 68, 69, 70, 71, 72] (by decide +kernel) (by decide +kernel)
set_option maxRecDepth 20000 in
theorem gX4_sumOfFilm_X0_sum : GoodIn wsX4_sumOfFilm (wsV RX4 143 RX0 yX0_sum wsX0_sum) := goodIn_app (goodIn_of _ (by decide +kernel)) ggX4_sumOfFilm_X0_sum
theorem dX4_sumOfFilm_0 : decode cX4_sumOfFilm 0 = .ok (.aload_n 0, 1) := by decide +kernel
theorem dX4_sumOfFilm_1 : decode cX4_sumOfFilm 1 = .ok (.getfield 19, 3) := by decide +kernel
theorem dX4_sumOfFilm_4 : decode cX4_sumOfFilm 4 = .ok (.aload_n 0, 1) := by decide +kernel
theorem dX4_sumOfFilm_5 : decode cX4_sumOfFilm 5 = .ok (.getfield 12, 3) := by decide +kernel
theorem dX4_sumOfFilm_8 : decode cX4_sumOfFilm 8 = .ok (.iload_n 1, 1) := by decide +kernel
theorem dX4_sumOfFilm_9 : decode cX4_sumOfFilm 9 = .ok (.invokevirtual 121, 3) := by decide +kernel
theorem dX4_sumOfFilm_12 : decode cX4_sumOfFilm 12 = .ok (.aload_n 0, 1) := by decide +kernel
theorem dX4_sumOfFilm_13 : decode cX4_sumOfFilm 13 = .ok (.getfield 19, 3) := by decide +kernel
theorem dX4_sumOfFilm_16 : decode cX4_sumOfFilm 16 = .ok (.iload_n 2, 1) := by decide +kernel
theorem dX4_sumOfFilm_17 : decode cX4_sumOfFilm 17 = .ok (.invokevirtual 143, 3) := by decide +kernel
theorem dX4_sumOfFilm_20 : decode cX4_sumOfFilm 20 = .ok (.ireturn, 1) := by decide +kernel
set_option maxRecDepth 20000 in
theorem ggX4_sumOfFilms_X1_films : GoodIn wsX4_sumOfFilms wsX1_films := goodIn_r _ [6, 7, 76] (by decide +kernel) (by decide +kernel)
set_option maxRecDepth 20000 in
theorem gX4_sumOfFilms_X1_films : GoodIn wsX4_sumOfFilms (wsV RX4 69 RX1 yX1_films wsX1_films) := goodIn_app (goodIn_of _ (by decide +kernel)) ggX4_sumOfFilms_X1_films
set_option maxRecDepth 20000 in
theorem ggX4_sumOfFilms_X4_sumOfFilm : GoodIn wsX4_sumOfFilms wsX4_sumOfFilm := goodIn_r _ [12, 13, 1, 14, 15, 16, 17, 18, 19, 20, 21, 22, 23, 24, 5, 25, 7, 26, 27, 28, 29, 30, 31, 32, 33, 34, 35, 36, 37, 38, 39, 40, 41, 42, 43, 44, 45, 46, 47, 48, 49, 50, 51, 52, 53, 54, 55, 56, 57, 58, 59, 60, 61, 62, 63, 64, 65, 66, 67, 68, 69, 70, 71, 72, 73, 74, 75, 77, 78, 79, 80, 81, 82, 76] (by decide +kernel) (by decide +kernel)
set_option maxRecDepth 20000 in
theorem gX4_sumOfFilms_X4_sumOfFilm : GoodIn wsX4_sumOfFilms (wsV RX4 164 RX4 yX4_sumOfFilm wsX4_sumOfFilm) := goodIn_app (goodIn_of _ (by decide +kernel)) ggX4_sumOfFilms_X4_sumOfFilm
theorem dX4_sumOfFilms_0 : decode cX4_sumOfFilms 0 = .ok (.iconst 0, 1) := by decide +kernel
theorem dX4_sumOfFilms_1 : decode cX4_sumOfFilms 1 = .ok (.istore_n 2, 1) := by decide +kernel
theorem dX4_sumOfFilms_2 : decode cX4_sumOfFilms 2 = .ok (.iconst 0, 1) := by decide +kernel
theorem dX4_sumOfFilms_3 : decode cX4_sumOfFilms 3 = .ok (.istore_n 3, 1) := by decide +kernel
theorem dX4_sumOfFilms_4 : decode cX4_sumOfFilms 4 = .ok (.iload_n 3, 1) := by decide +kernel
theorem dX4_sumOfFilms_5 : decode cX4_sumOfFilms 5 = .ok (.aload_n 0, 1) := by decide +kernel
theorem dX4_sumOfFilms_6 : decode cX4_sumOfFilms 6 = .ok (.getfield 12, 3) := by decide +kernel
theorem dX4_sumOfFilms_9 : decode cX4_sumOfFilms 9 = .ok (.invokevirtual 69, 3) := by decide +kernel
theorem dX4_sumOfFilms_12 : decode cX4_sumOfFilms 12 = .ok (.if_icmp .ge 18, 3) := by decide +kernel
theorem dX4_sumOfFilms_15 : decode cX4_sumOfFilms 15 = .ok (.iload_n 2, 1) := by decide +kernel
theorem dX4_sumOfFilms_16 : decode cX4_sumOfFilms 16 = .ok (.aload_n 0, 1) := by decide +kernel
theorem dX4_sumOfFilms_17 : decode cX4_sumOfFilms 17 = .ok (.iload_n 3, 1) := by decide +kernel
theorem dX4_sumOfFilms_18 : decode cX4_sumOfFilms 18 = .ok (.iload_n 1, 1) := by decide +kernel
theorem dX4_sumOfFilms_19 : decode cX4_sumOfFilms 19 = .ok (.invokevirtual 164, 3) := by decide +kernel
theorem dX4_sumOfFilms_22 : decode cX4_sumOfFilms 22 = .ok (.iadd, 1) := by decide +kernel
theorem dX4_sumOfFilms_23 : decode cX4_sumOfFilms 23 = .ok (.istore_n 2, 1) := by decide +kernel
theorem dX4_sumOfFilms_24 : decode cX4_sumOfFilms 24 = .ok (.iinc 3 1, 3) := by decide +kernel
theorem dX4_sumOfFilms_27 : decode cX4_sumOfFilms 27 = .ok (.goto (-23), 3) := by decide +kernel
theorem dX4_sumOfFilms_30 : decode cX4_sumOfFilms 30 = .ok (.iload_n 2, 1) := by decide +kernel
theorem dX4_sumOfFilms_31 : decode cX4_sumOfFilms 31 = .ok (.ireturn, 1) := by decide +kernel
set_option maxRecDepth 20000 in
theorem ggX4_sumOfFilmsInWeek_X1_films : GoodIn wsX4_sumOfFilmsInWeek wsX1_films := goodIn_r _ [7, 8, 68] (by decide +kernel) (by decide +kernel)
set_option maxRecDepth 20000 in
theorem gX4_sumOfFilmsInWeek_X1_films : GoodIn wsX4_sumOfFilmsInWeek (wsV RX4 69 RX1 yX1_films wsX1_films) := goodIn_app (goodIn_of _ (by decide +kernel)) ggX4_sumOfFilmsInWeek_X1_films
set_option maxRecDepth 20000 in
theorem ggX4_sumOfFilmsInWeek_X0_follow : GoodIn wsX4_sumOfFilmsInWeek wsX0_follow := goodIn_r _ [13, 14, 15, 16, 17, 18, 19, 6, 20, 8, 21, 22, 23, 12, 24, 25, 26, 27, 28, 29, 30, 31, 32, 33, 34, 35, 36, 37, 38, 39, 40, 41, 42, 43, 44, 45, 46, 47, 48, 49, 50, 51, 52, 53, 54, 55, 56, 57, 58, 59, 60, 69, 70, 71, 72, 73, 74, 68] (by decide +kernel) (by decide +kernel)
set_option maxRecDepth 20000 in
theorem gX4_sumOfFilmsInWeek_X0_follow : GoodIn wsX4_sumOfFilmsInWeek (wsV RX4 121 RX0 yX0_follow wsX0_follow) := goodIn_app (goodIn_of _ (by decide +kernel)) ggX4_sumOfFilmsInWeek_X0_follow
set_option maxRecDepth 20000 in
theorem ggX4_sumOfFilmsInWeek_X0_sumOfWeek : GoodIn wsX4_sumOfFilmsInWeek wsX0_sumOfWeek := goodIn_r _ [46, 27, 69, 70, 71, 72, 73, 74] (by decide +kernel) (by decide +kernel)
set_option maxRecDepth 20000 in
theorem gX4_sumOfFilmsInWeek_X0_sumOfWeek : GoodIn wsX4_sumOfFilmsInWeek (wsV RX4 149 RX0 yX0_sumOfWeek wsX0_sumOfWeek) := goodIn_app (goodIn_of _ (by decide +kernel)) ggX4_sumOfFilmsInWeek_X0_sumOfWeek
theorem dX4_sumOfFilmsInWeek_0 : decode cX4_sumOfFilmsInWeek 0 = .ok (.iconst 0, 1) := by decide +kernel
theorem dX4_sumOfFilmsInWeek_1 : decode cX4_sumOfFilmsInWeek 1 = .ok (.istore_n 3, 1) := by decide +kernel
theorem dX4_sumOfFilmsInWeek_2 : decode cX4_sumOfFilmsInWeek 2 = .ok (.iconst 0, 1) := by decide +kernel
theorem dX4_sumOfFilmsInWeek_3 : decode cX4_sumOfFilmsInWeek 3 = .ok (.istore 4, 2) := by decide +kernel
theorem dX4_sumOfFilmsInWeek_5 : decode cX4_sumOfFilmsInWeek 5 = .ok (.iload 4, 2) := by decide +kernel
theorem dX4_sumOfFilmsInWeek_7 : decode cX4_sumOfFilmsInWeek 7 = .ok (.aload_n 0, 1) := by decide +kernel
theorem dX4_sumOfFilmsInWeek_8 : decode cX4_sumOfFilmsInWeek 8 = .ok (.getfield 12, 3) := by decide +kernel
theorem dX4_sumOfFilmsInWeek_11 : decode cX4_sumOfFilmsInWeek 11 = .ok (.invokevirtual 69, 3) := by decide +kernel
theorem dX4_sumOfFilmsInWeek_14 : decode cX4_sumOfFilmsInWeek 14 = .ok (.if_icmp .ge 34, 3) := by decide +kernel
theorem dX4_sumOfFilmsInWeek_17 : decode cX4_sumOfFilmsInWeek 17 = .ok (.aload_n 0, 1) := by decide +kernel
theorem dX4_sumOfFilmsInWeek_18 : decode cX4_sumOfFilmsInWeek 18 = .ok (.getfield 19, 3) := by decide +kernel
theorem dX4_sumOfFilmsInWeek_21 : decode cX4_sumOfFilmsInWeek 21 = .ok (.aload_n 0, 1) := by decide +kernel
theorem dX4_sumOfFilmsInWeek_22 : decode cX4_sumOfFilmsInWeek 22 = .ok (.getfield 12, 3) := by decide +kernel
theorem dX4_sumOfFilmsInWeek_25 : decode cX4_sumOfFilmsInWeek 25 = .ok (.iload 4, 2) := by decide +kernel
theorem dX4_sumOfFilmsInWeek_27 : decode cX4_sumOfFilmsInWeek 27 = .ok (.invokevirtual 121, 3) := by decide +kernel
theorem dX4_sumOfFilmsInWeek_30 : decode cX4_sumOfFilmsInWeek 30 = .ok (.iload_n 3, 1) := by decide +kernel
theorem dX4_sumOfFilmsInWeek_31 : decode cX4_sumOfFilmsInWeek 31 = .ok (.aload_n 0, 1) := by decide +kernel
theorem dX4_sumOfFilmsInWeek_32 : decode cX4_sumOfFilmsInWeek 32 = .ok (.getfield 19, 3) := by decide +kernel
theorem dX4_sumOfFilmsInWeek_35 : decode cX4_sumOfFilmsInWeek 35 = .ok (.iload_n 1, 1) := by decide +kernel
theorem dX4_sumOfFilmsInWeek_36 : decode cX4_sumOfFilmsInWeek 36 = .ok (.iload_n 2, 1) := by decide +kernel
theorem dX4_sumOfFilmsInWeek_37 : decode cX4_sumOfFilmsInWeek 37 = .ok (.invokevirtual 149, 3) := by decide +kernel
theorem dX4_sumOfFilmsInWeek_40 : decode cX4_sumOfFilmsInWeek 40 = .ok (.iadd, 1) := by decide +kernel
theorem dX4_sumOfFilmsInWeek_41 : decode cX4_sumOfFilmsInWeek 41 = .ok (.istore_n 3, 1) := by decide +kernel
theorem dX4_sumOfFilmsInWeek_42 : decode cX4_sumOfFilmsInWeek 42 = .ok (.iinc 4 1, 3) := by decide +kernel
theorem dX4_sumOfFilmsInWeek_45 : decode cX4_sumOfFilmsInWeek 45 = .ok (.goto (-40), 3) := by decide +kernel
theorem dX4_sumOfFilmsInWeek_48 : decode cX4_sumOfFilmsInWeek 48 = .ok (.iload_n 3, 1) := by decide +kernel
theorem dX4_sumOfFilmsInWeek_49 : decode cX4_sumOfFilmsInWeek 49 = .ok (.ireturn, 1) := by decide +kernel
set_option maxRecDepth 20000 in
theorem ggX4_fullShows_X1_films : GoodIn wsX4_fullShows wsX1_films := goodIn_r _ [7, 8, 71] (by decide +kernel) (by decide +kernel)
set_option maxRecDepth 20000 in
theorem gX4_fullShows_X1_films : GoodIn wsX4_fullShows (wsV RX4 69 RX1 yX1_films wsX1_films) := goodIn_app (goodIn_of _ (by decide +kernel)) ggX4_fullShows_X1_films
set_option maxRecDepth 20000 in
theorem ggX4_fullShows_X0_follow : GoodIn wsX4_fullShows wsX0_follow := goodIn_r _ [13, 14, 15, 16, 17, 18, 19, 6, 20, 8, 21, 22, 23, 12, 24, 25, 26, 27, 28, 29, 30, 31, 32, 33, 34, 35, 36, 37, 38, 39, 40, 41, 42, 43, 44, 45, 46, 47, 48, 49, 50, 51, 52, 53, 54, 55, 56, 57, 58, 59, 60, 72, 73, 74, 75, 76, 77, 71] (by decide +kernel) (by decide +kernel)
set_option maxRecDepth 20000 in
theorem gX4_fullShows_X0_follow : GoodIn wsX4_fullShows (wsV RX4 121 RX0 yX0_follow wsX0_follow) := goodIn_app (goodIn_of _ (by decide +kernel)) ggX4_fullShows_X0_follow
set_option maxRecDepth 20000 in
theorem ggX4_fullShows_X0_fullShows : GoodIn wsX4_fullShows wsX0_fullShows := goodIn_r _ [64, 14, 72, 73, 74, 75, 76, 77] (by decide +kernel) (by decide +kernel)
set_option maxRecDepth 20000 in
theorem gX4_fullShows_X0_fullShows : GoodIn wsX4_fullShows (wsV RX4 211 RX0 yX0_fullShows wsX0_fullShows) := goodIn_app (goodIn_of _ (by decide +kernel)) ggX4_fullShows_X0_fullShows
theorem dX4_fullShows_0 : decode cX4_fullShows 0 = .ok (.iconst 0, 1) := by decide +kernel
theorem dX4_fullShows_1 : decode cX4_fullShows 1 = .ok (.istore_n 1, 1) := by decide +kernel
theorem dX4_fullShows_2 : decode cX4_fullShows 2 = .ok (.iconst 0, 1) := by decide +kernel
theorem dX4_fullShows_3 : decode cX4_fullShows 3 = .ok (.istore_n 2, 1) := by decide +kernel
theorem dX4_fullShows_4 : decode cX4_fullShows 4 = .ok (.iload_n 2, 1) := by decide +kernel
theorem dX4_fullShows_5 : decode cX4_fullShows 5 = .ok (.aload_n 0, 1) := by decide +kernel
theorem dX4_fullShows_6 : decode cX4_fullShows 6 = .ok (.getfield 12, 3) := by decide +kernel
theorem dX4_fullShows_9 : decode cX4_fullShows 9 = .ok (.invokevirtual 69, 3) := by decide +kernel
theorem dX4_fullShows_12 : decode cX4_fullShows 12 = .ok (.if_icmp .ge 31, 3) := by decide +kernel
theorem dX4_fullShows_15 : decode cX4_fullShows 15 = .ok (.aload_n 0, 1) := by decide +kernel
theorem dX4_fullShows_16 : decode cX4_fullShows 16 = .ok (.getfield 19, 3) := by decide +kernel
theorem dX4_fullShows_19 : decode cX4_fullShows 19 = .ok (.aload_n 0, 1) := by decide +kernel
theorem dX4_fullShows_20 : decode cX4_fullShows 20 = .ok (.getfield 12, 3) := by decide +kernel
theorem dX4_fullShows_23 : decode cX4_fullShows 23 = .ok (.iload_n 2, 1) := by decide +kernel
theorem dX4_fullShows_24 : decode cX4_fullShows 24 = .ok (.invokevirtual 121, 3) := by decide +kernel
theorem dX4_fullShows_27 : decode cX4_fullShows 27 = .ok (.iload_n 1, 1) := by decide +kernel
theorem dX4_fullShows_28 : decode cX4_fullShows 28 = .ok (.aload_n 0, 1) := by decide +kernel
theorem dX4_fullShows_29 : decode cX4_fullShows 29 = .ok (.getfield 19, 3) := by decide +kernel
theorem dX4_fullShows_32 : decode cX4_fullShows 32 = .ok (.invokevirtual 211, 3) := by decide +kernel
theorem dX4_fullShows_35 : decode cX4_fullShows 35 = .ok (.iadd, 1) := by decide +kernel
theorem dX4_fullShows_36 : decode cX4_fullShows 36 = .ok (.istore_n 1, 1) := by decide +kernel
theorem dX4_fullShows_37 : decode cX4_fullShows 37 = .ok (.iinc 2 1, 3) := by decide +kernel
theorem dX4_fullShows_40 : decode cX4_fullShows 40 = .ok (.goto (-36), 3) := by decide +kernel
theorem dX4_fullShows_43 : decode cX4_fullShows 43 = .ok (.iload_n 1, 1) := by decide +kernel
theorem dX4_fullShows_44 : decode cX4_fullShows 44 = .ok (.ireturn, 1) := by decide +kernel
set_option maxRecDepth 20000 in
theorem ggX4_leftOfFilm_X1_hasFilm : GoodIn wsX4_leftOfFilm wsX1_hasFilm := goodIn_r _ [7, 8, 9, 10, 6, 11, 12, 75] (by decide +kernel) (by decide +kernel)
set_option maxRecDepth 20000 in
theorem gX4_leftOfFilm_X1_hasFilm : GoodIn wsX4_leftOfFilm (wsV RX4 118 RX1 yX1_hasFilm wsX1_hasFilm) := goodIn_app (goodIn_of _ (by decide +kernel)) ggX4_leftOfFilm_X1_hasFilm
set_option maxRecDepth 20000 in
theorem ggX4_leftOfFilm_X0_follow : GoodIn wsX4_leftOfFilm wsX0_follow := goodIn_r _ [17, 18, 19, 20, 21, 22, 23, 6, 24, 12, 25, 26, 27, 16, 28, 29, 30, 31, 32, 33, 34, 35, 36, 37, 38, 39, 40, 41, 42, 43, 44, 45, 46, 47, 48, 49, 50, 51, 52, 53, 54, 55, 56, 57, 58, 59, 60, 61, 62, 63, 64, 76, 77, 78, 79, 80, 81, 75] (by decide +kernel) (by decide +kernel)
set_option maxRecDepth 20000 in
theorem gX4_leftOfFilm_X0_follow : GoodIn wsX4_leftOfFilm (wsV RX4 121 RX0 yX0_follow wsX0_follow) := goodIn_app (goodIn_of _ (by decide +kernel)) ggX4_leftOfFilm_X0_follow
set_option maxRecDepth 20000 in
theorem ggX4_leftOfFilm_X0_sum : GoodIn wsX4_leftOfFilm wsX0_sum := goodIn_r _ [68, 47, 48, 49, 16, 50, 31, 76, 77, 78, 79, 80, 81] (by decide +kernel) (by decide +kernel)
set_option maxRecDepth 20000 in
theorem gX4_leftOfFilm_X0_sum : GoodIn wsX4_leftOfFilm (wsV RX4 143 RX0 yX0_sum wsX0_sum) := goodIn_app (goodIn_of _ (by decide +kernel)) ggX4_leftOfFilm_X0_sum
theorem dX4_leftOfFilm_0 : decode cX4_leftOfFilm 0 = .ok (.aload_n 0, 1) := by decide +kernel
theorem dX4_leftOfFilm_1 : decode cX4_leftOfFilm 1 = .ok (.getfield 12, 3) := by decide +kernel
theorem dX4_leftOfFilm_4 : decode cX4_leftOfFilm 4 = .ok (.iload_n 1, 1) := by decide +kernel
theorem dX4_leftOfFilm_5 : decode cX4_leftOfFilm 5 = .ok (.invokevirtual 118, 3) := by decide +kernel
theorem dX4_leftOfFilm_8 : decode cX4_leftOfFilm 8 = .ok (.ifCond .ne 5, 3) := by decide +kernel
theorem dX4_leftOfFilm_11 : decode cX4_leftOfFilm 11 = .ok (.iconst 0, 1) := by decide +kernel
theorem dX4_leftOfFilm_12 : decode cX4_leftOfFilm 12 = .ok (.ireturn, 1) := by decide +kernel
theorem dX4_leftOfFilm_13 : decode cX4_leftOfFilm 13 = .ok (.aload_n 0, 1) := by decide +kernel
theorem dX4_leftOfFilm_14 : decode cX4_leftOfFilm 14 = .ok (.getfield 19, 3) := by decide +kernel
theorem dX4_leftOfFilm_17 : decode cX4_leftOfFilm 17 = .ok (.aload_n 0, 1) := by decide +kernel
theorem dX4_leftOfFilm_18 : decode cX4_leftOfFilm 18 = .ok (.getfield 12, 3) := by decide +kernel
theorem dX4_leftOfFilm_21 : decode cX4_leftOfFilm 21 = .ok (.iload_n 1, 1) := by decide +kernel
theorem dX4_leftOfFilm_22 : decode cX4_leftOfFilm 22 = .ok (.invokevirtual 121, 3) := by decide +kernel
theorem dX4_leftOfFilm_25 : decode cX4_leftOfFilm 25 = .ok (.aload_n 0, 1) := by decide +kernel
theorem dX4_leftOfFilm_26 : decode cX4_leftOfFilm 26 = .ok (.getfield 19, 3) := by decide +kernel
theorem dX4_leftOfFilm_29 : decode cX4_leftOfFilm 29 = .ok (.iconst 4, 1) := by decide +kernel
theorem dX4_leftOfFilm_30 : decode cX4_leftOfFilm 30 = .ok (.invokevirtual 143, 3) := by decide +kernel
theorem dX4_leftOfFilm_33 : decode cX4_leftOfFilm 33 = .ok (.ireturn, 1) := by decide +kernel
set_option maxRecDepth 20000 in
theorem ggX4_gainWith_X1_showAt : GoodIn wsX4_gainWith wsX1_showAt := goodIn_r _ [6, 7, 85] (by decide +kernel) (by decide +kernel)
set_option maxRecDepth 20000 in
theorem gX4_gainWith_X1_showAt : GoodIn wsX4_gainWith (wsV RX4 91 RX1 yX1_showAt wsX1_showAt) := goodIn_app (goodIn_of _ (by decide +kernel)) ggX4_gainWith_X1_showAt
set_option maxRecDepth 20000 in
theorem ggX4_gainWith_X4_leftOfFilm : GoodIn wsX4_gainWith wsX4_leftOfFilm := goodIn_r _ [12, 1, 13, 14, 15, 16, 5, 17, 18, 19, 20, 21, 7, 22, 23, 24, 25, 26, 27, 28, 29, 30, 31, 32, 33, 34, 35, 36, 37, 38, 39, 40, 41, 3, 4, 6, 42, 43, 44, 45, 46, 47, 48, 49, 50, 51, 52, 53, 54, 55, 56, 57, 58, 59, 60, 61, 62, 63, 64, 65, 66, 67, 68, 69, 70, 71, 72, 73, 74, 79, 80, 81, 82, 83, 84, 85, 86, 87, 88, 89, 90, 91] (by decide +kernel) (by decide +kernel)
set_option maxRecDepth 20000 in
theorem gX4_gainWith_X4_leftOfFilm : GoodIn wsX4_gainWith (wsV RX4 212 RX4 yX4_leftOfFilm wsX4_leftOfFilm) := goodIn_app (goodIn_of _ (by decide +kernel)) ggX4_gainWith_X4_leftOfFilm
set_option maxRecDepth 20000 in
theorem ggX4_gainWith_X1_replaceShow : GoodIn wsX4_gainWith wsX1_replaceShow := goodIn_r _ [78, 7, 85] (by decide +kernel) (by decide +kernel)
set_option maxRecDepth 20000 in
theorem gX4_gainWith_X1_replaceShow : GoodIn wsX4_gainWith (wsV RX4 84 RX1 yX1_replaceShow wsX1_replaceShow) := goodIn_app (goodIn_of _ (by decide +kernel)) ggX4_gainWith_X1_replaceShow
theorem dX4_gainWith_0 : decode cX4_gainWith 0 = .ok (.aload_n 0, 1) := by decide +kernel
theorem dX4_gainWith_1 : decode cX4_gainWith 1 = .ok (.getfield 12, 3) := by decide +kernel
theorem dX4_gainWith_4 : decode cX4_gainWith 4 = .ok (.iload_n 1, 1) := by decide +kernel
theorem dX4_gainWith_5 : decode cX4_gainWith 5 = .ok (.invokevirtual 91, 3) := by decide +kernel
theorem dX4_gainWith_8 : decode cX4_gainWith 8 = .ok (.istore_n 3, 1) := by decide +kernel
theorem dX4_gainWith_9 : decode cX4_gainWith 9 = .ok (.aload_n 0, 1) := by decide +kernel
theorem dX4_gainWith_10 : decode cX4_gainWith 10 = .ok (.iload_n 3, 1) := by decide +kernel
theorem dX4_gainWith_11 : decode cX4_gainWith 11 = .ok (.invokevirtual 212, 3) := by decide +kernel
theorem dX4_gainWith_14 : decode cX4_gainWith 14 = .ok (.aload_n 0, 1) := by decide +kernel
theorem dX4_gainWith_15 : decode cX4_gainWith 15 = .ok (.iload_n 2, 1) := by decide +kernel
theorem dX4_gainWith_16 : decode cX4_gainWith 16 = .ok (.invokevirtual 212, 3) := by decide +kernel
theorem dX4_gainWith_19 : decode cX4_gainWith 19 = .ok (.iadd, 1) := by decide +kernel
theorem dX4_gainWith_20 : decode cX4_gainWith 20 = .ok (.istore 4, 2) := by decide +kernel
theorem dX4_gainWith_22 : decode cX4_gainWith 22 = .ok (.aload_n 0, 1) := by decide +kernel
theorem dX4_gainWith_23 : decode cX4_gainWith 23 = .ok (.getfield 12, 3) := by decide +kernel
theorem dX4_gainWith_26 : decode cX4_gainWith 26 = .ok (.iload_n 1, 1) := by decide +kernel
theorem dX4_gainWith_27 : decode cX4_gainWith 27 = .ok (.iload_n 2, 1) := by decide +kernel
theorem dX4_gainWith_28 : decode cX4_gainWith 28 = .ok (.invokevirtual 84, 3) := by decide +kernel
theorem dX4_gainWith_31 : decode cX4_gainWith 31 = .ok (.pop, 1) := by decide +kernel
theorem dX4_gainWith_32 : decode cX4_gainWith 32 = .ok (.aload_n 0, 1) := by decide +kernel
theorem dX4_gainWith_33 : decode cX4_gainWith 33 = .ok (.iload_n 3, 1) := by decide +kernel
theorem dX4_gainWith_34 : decode cX4_gainWith 34 = .ok (.invokevirtual 212, 3) := by decide +kernel
theorem dX4_gainWith_37 : decode cX4_gainWith 37 = .ok (.aload_n 0, 1) := by decide +kernel
theorem dX4_gainWith_38 : decode cX4_gainWith 38 = .ok (.iload_n 2, 1) := by decide +kernel
theorem dX4_gainWith_39 : decode cX4_gainWith 39 = .ok (.invokevirtual 212, 3) := by decide +kernel
theorem dX4_gainWith_42 : decode cX4_gainWith 42 = .ok (.iadd, 1) := by decide +kernel
theorem dX4_gainWith_43 : decode cX4_gainWith 43 = .ok (.istore 5, 2) := by decide +kernel
theorem dX4_gainWith_45 : decode cX4_gainWith 45 = .ok (.aload_n 0, 1) := by decide +kernel
theorem dX4_gainWith_46 : decode cX4_gainWith 46 = .ok (.getfield 12, 3) := by decide +kernel
theorem dX4_gainWith_49 : decode cX4_gainWith 49 = .ok (.iload_n 1, 1) := by decide +kernel
theorem dX4_gainWith_50 : decode cX4_gainWith 50 = .ok (.iload_n 3, 1) := by decide +kernel
theorem dX4_gainWith_51 : decode cX4_gainWith 51 = .ok (.invokevirtual 84, 3) := by decide +kernel
theorem dX4_gainWith_54 : decode cX4_gainWith 54 = .ok (.pop, 1) := by decide +kernel
theorem dX4_gainWith_55 : decode cX4_gainWith 55 = .ok (.iload 5, 2) := by decide +kernel
theorem dX4_gainWith_57 : decode cX4_gainWith 57 = .ok (.iload 4, 2) := by decide +kernel
theorem dX4_gainWith_59 : decode cX4_gainWith 59 = .ok (.isub, 1) := by decide +kernel
theorem dX4_gainWith_60 : decode cX4_gainWith 60 = .ok (.ireturn, 1) := by decide +kernel

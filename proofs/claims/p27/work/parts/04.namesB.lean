theorem dX1_addFilm_42 : decode cX1_addFilm 42 = .ok (.iadd, 1) := by decide +kernel
theorem dX1_addFilm_43 : decode cX1_addFilm 43 = .ok (.iload_n 3, 1) := by decide +kernel
theorem dX1_addFilm_44 : decode cX1_addFilm 44 = .ok (.iastore, 1) := by decide +kernel
theorem dX1_addFilm_45 : decode cX1_addFilm 45 = .ok (.aload_n 0, 1) := by decide +kernel
theorem dX1_addFilm_46 : decode cX1_addFilm 46 = .ok (.getfield 11, 3) := by decide +kernel
theorem dX1_addFilm_49 : decode cX1_addFilm 49 = .ok (.iload 7, 2) := by decide +kernel
theorem dX1_addFilm_51 : decode cX1_addFilm 51 = .ok (.iconst 3, 1) := by decide +kernel
theorem dX1_addFilm_52 : decode cX1_addFilm 52 = .ok (.iadd, 1) := by decide +kernel
theorem dX1_addFilm_53 : decode cX1_addFilm 53 = .ok (.iload 4, 2) := by decide +kernel
theorem dX1_addFilm_55 : decode cX1_addFilm 55 = .ok (.iastore, 1) := by decide +kernel
theorem dX1_addFilm_56 : decode cX1_addFilm 56 = .ok (.aload_n 0, 1) := by decide +kernel
theorem dX1_addFilm_57 : decode cX1_addFilm 57 = .ok (.getfield 11, 3) := by decide +kernel
theorem dX1_addFilm_60 : decode cX1_addFilm 60 = .ok (.iload 7, 2) := by decide +kernel
theorem dX1_addFilm_62 : decode cX1_addFilm 62 = .ok (.iconst 4, 1) := by decide +kernel
theorem dX1_addFilm_63 : decode cX1_addFilm 63 = .ok (.iadd, 1) := by decide +kernel
theorem dX1_addFilm_64 : decode cX1_addFilm 64 = .ok (.iload 5, 2) := by decide +kernel
theorem dX1_addFilm_66 : decode cX1_addFilm 66 = .ok (.iastore, 1) := by decide +kernel
theorem dX1_addFilm_67 : decode cX1_addFilm 67 = .ok (.aload_n 0, 1) := by decide +kernel
theorem dX1_addFilm_68 : decode cX1_addFilm 68 = .ok (.getfield 11, 3) := by decide +kernel
theorem dX1_addFilm_71 : decode cX1_addFilm 71 = .ok (.iconst 5, 1) := by decide +kernel
theorem dX1_addFilm_72 : decode cX1_addFilm 72 = .ok (.iload 6, 2) := by decide +kernel
theorem dX1_addFilm_74 : decode cX1_addFilm 74 = .ok (.iconst 1, 1) := by decide +kernel
theorem dX1_addFilm_75 : decode cX1_addFilm 75 = .ok (.iadd, 1) := by decide +kernel
theorem dX1_addFilm_76 : decode cX1_addFilm 76 = .ok (.iastore, 1) := by decide +kernel
theorem dX1_addFilm_77 : decode cX1_addFilm 77 = .ok (.iload 6, 2) := by decide +kernel
theorem dX1_addFilm_79 : decode cX1_addFilm 79 = .ok (.ireturn, 1) := by decide +kernel
theorem dX1_fact_0 : decode cX1_fact 0 = .ok (.aload_n 0, 1) := by decide +kernel
theorem dX1_fact_1 : decode cX1_fact 1 = .ok (.getfield 11, 3) := by decide +kernel
theorem dX1_fact_4 : decode cX1_fact 4 = .ok (.bipush 6, 2) := by decide +kernel
theorem dX1_fact_6 : decode cX1_fact 6 = .ok (.iload_n 1, 1) := by decide +kernel
theorem dX1_fact_7 : decode cX1_fact 7 = .ok (.iconst 5, 1) := by decide +kernel
theorem dX1_fact_8 : decode cX1_fact 8 = .ok (.imul, 1) := by decide +kernel
theorem dX1_fact_9 : decode cX1_fact 9 = .ok (.iadd, 1) := by decide +kernel
theorem dX1_fact_10 : decode cX1_fact 10 = .ok (.iload_n 2, 1) := by decide +kernel
theorem dX1_fact_11 : decode cX1_fact 11 = .ok (.iadd, 1) := by decide +kernel
theorem dX1_fact_12 : decode cX1_fact 12 = .ok (.iaload, 1) := by decide +kernel
theorem dX1_fact_13 : decode cX1_fact 13 = .ok (.ireturn, 1) := by decide +kernel
theorem dX1_showAt_0 : decode cX1_showAt 0 = .ok (.aload_n 0, 1) := by decide +kernel
theorem dX1_showAt_1 : decode cX1_showAt 1 = .ok (.getfield 11, 3) := by decide +kernel
theorem dX1_showAt_4 : decode cX1_showAt 4 = .ok (.bipush 46, 2) := by decide +kernel
theorem dX1_showAt_6 : decode cX1_showAt 6 = .ok (.iload_n 1, 1) := by decide +kernel
theorem dX1_showAt_7 : decode cX1_showAt 7 = .ok (.iadd, 1) := by decide +kernel
theorem dX1_showAt_8 : decode cX1_showAt 8 = .ok (.iaload, 1) := by decide +kernel
theorem dX1_showAt_9 : decode cX1_showAt 9 = .ok (.ireturn, 1) := by decide +kernel
theorem dX1_replaceShow_0 : decode cX1_replaceShow 0 = .ok (.aload_n 0, 1) := by decide +kernel
theorem dX1_replaceShow_1 : decode cX1_replaceShow 1 = .ok (.getfield 11, 3) := by decide +kernel
theorem dX1_replaceShow_4 : decode cX1_replaceShow 4 = .ok (.bipush 46, 2) := by decide +kernel
theorem dX1_replaceShow_6 : decode cX1_replaceShow 6 = .ok (.iload_n 1, 1) := by decide +kernel
theorem dX1_replaceShow_7 : decode cX1_replaceShow 7 = .ok (.iadd, 1) := by decide +kernel
theorem dX1_replaceShow_8 : decode cX1_replaceShow 8 = .ok (.iaload, 1) := by decide +kernel
theorem dX1_replaceShow_9 : decode cX1_replaceShow 9 = .ok (.istore_n 3, 1) := by decide +kernel
theorem dX1_replaceShow_10 : decode cX1_replaceShow 10 = .ok (.aload_n 0, 1) := by decide +kernel
theorem dX1_replaceShow_11 : decode cX1_replaceShow 11 = .ok (.getfield 11, 3) := by decide +kernel
theorem dX1_replaceShow_14 : decode cX1_replaceShow 14 = .ok (.bipush 46, 2) := by decide +kernel
theorem dX1_replaceShow_16 : decode cX1_replaceShow 16 = .ok (.iload_n 1, 1) := by decide +kernel
theorem dX1_replaceShow_17 : decode cX1_replaceShow 17 = .ok (.iadd, 1) := by decide +kernel
theorem dX1_replaceShow_18 : decode cX1_replaceShow 18 = .ok (.iload_n 2, 1) := by decide +kernel
theorem dX1_replaceShow_19 : decode cX1_replaceShow 19 = .ok (.iastore, 1) := by decide +kernel
theorem dX1_replaceShow_20 : decode cX1_replaceShow 20 = .ok (.iload_n 3, 1) := by decide +kernel
theorem dX1_replaceShow_21 : decode cX1_replaceShow 21 = .ok (.ireturn, 1) := by decide +kernel
set_option maxRecDepth 20000 in
theorem ggX1_canHold_X1_rentOf : GoodIn wsX1_canHold wsX1_rentOf := goodIn_r _ [5, 6, 19] (by decide +kernel) (by decide +kernel)
set_option maxRecDepth 20000 in
theorem gX1_canHold_X1_rentOf : GoodIn wsX1_canHold (wsV RX1 28 RX1 yX1_rentOf wsX1_rentOf) := goodIn_app (goodIn_of _ (by decide +kernel)) ggX1_canHold_X1_rentOf
set_option maxRecDepth 20000 in
theorem ggX1_canHold_X1_hasFilm : GoodIn wsX1_canHold wsX1_hasFilm := goodIn_r _ [10, 11, 12, 13, 4, 14, 6, 19] (by decide +kernel) (by decide +kernel)
set_option maxRecDepth 20000 in
theorem gX1_canHold_X1_hasFilm : GoodIn wsX1_canHold (wsV RX1 32 RX1 yX1_hasFilm wsX1_hasFilm) := goodIn_app (goodIn_of _ (by decide +kernel)) ggX1_canHold_X1_hasFilm
set_option maxRecDepth 20000 in
theorem ggX1_canHold_X1_fact : GoodIn wsX1_canHold wsX1_fact := goodIn_r _ [18, 6, 19] (by decide +kernel) (by decide +kernel)
set_option maxRecDepth 20000 in
theorem gX1_canHold_X1_fact : GoodIn wsX1_canHold (wsV RX1 36 RX1 yX1_fact wsX1_fact) := goodIn_app (goodIn_of _ (by decide +kernel)) ggX1_canHold_X1_fact
theorem dX1_canHold_0 : decode cX1_canHold 0 = .ok (.aload_n 0, 1) := by decide +kernel
theorem dX1_canHold_1 : decode cX1_canHold 1 = .ok (.iload_n 1, 1) := by decide +kernel
theorem dX1_canHold_2 : decode cX1_canHold 2 = .ok (.invokevirtual 28, 3) := by decide +kernel
theorem dX1_canHold_5 : decode cX1_canHold 5 = .ok (.ifCond .eq 5, 3) := by decide +kernel
theorem dX1_canHold_8 : decode cX1_canHold 8 = .ok (.iconst 0, 1) := by decide +kernel
theorem dX1_canHold_9 : decode cX1_canHold 9 = .ok (.ireturn, 1) := by decide +kernel
theorem dX1_canHold_10 : decode cX1_canHold 10 = .ok (.aload_n 0, 1) := by decide +kernel
theorem dX1_canHold_11 : decode cX1_canHold 11 = .ok (.iload_n 2, 1) := by decide +kernel
theorem dX1_canHold_12 : decode cX1_canHold 12 = .ok (.invokevirtual 32, 3) := by decide +kernel
theorem dX1_canHold_15 : decode cX1_canHold 15 = .ok (.ifCond .eq 13, 3) := by decide +kernel
theorem dX1_canHold_18 : decode cX1_canHold 18 = .ok (.aload_n 0, 1) := by decide +kernel
theorem dX1_canHold_19 : decode cX1_canHold 19 = .ok (.iload_n 2, 1) := by decide +kernel
theorem dX1_canHold_20 : decode cX1_canHold 20 = .ok (.iconst 4, 1) := by decide +kernel
theorem dX1_canHold_21 : decode cX1_canHold 21 = .ok (.invokevirtual 36, 3) := by decide +kernel
theorem dX1_canHold_24 : decode cX1_canHold 24 = .ok (.iload_n 1, 1) := by decide +kernel
theorem dX1_canHold_25 : decode cX1_canHold 25 = .ok (.if_icmp .gt 7, 3) := by decide +kernel
theorem dX1_canHold_28 : decode cX1_canHold 28 = .ok (.iconst 1, 1) := by decide +kernel
theorem dX1_canHold_29 : decode cX1_canHold 29 = .ok (.goto 4, 3) := by decide +kernel
theorem dX1_canHold_32 : decode cX1_canHold 32 = .ok (.iconst 0, 1) := by decide +kernel
theorem dX1_canHold_33 : decode cX1_canHold 33 = .ok (.ireturn, 1) := by decide +kernel
set_option maxRecDepth 20000 in
theorem ggX1_firstDayShown_X1_showAt : GoodIn wsX1_firstDayShown wsX1_showAt := goodIn_r _ [5, 6, 7] (by decide +kernel) (by decide +kernel)
set_option maxRecDepth 20000 in
theorem gX1_firstDayShown_X1_showAt : GoodIn wsX1_firstDayShown (wsV RX1 40 RX1 yX1_showAt wsX1_showAt) := goodIn_app (goodIn_of _ (by decide +kernel)) ggX1_firstDayShown_X1_showAt
theorem dX1_firstDayShown_0 : decode cX1_firstDayShown 0 = .ok (.iconst 0, 1) := by decide +kernel
theorem dX1_firstDayShown_1 : decode cX1_firstDayShown 1 = .ok (.istore_n 2, 1) := by decide +kernel
theorem dX1_firstDayShown_2 : decode cX1_firstDayShown 2 = .ok (.iload_n 2, 1) := by decide +kernel
theorem dX1_firstDayShown_3 : decode cX1_firstDayShown 3 = .ok (.bipush 70, 2) := by decide +kernel
theorem dX1_firstDayShown_5 : decode cX1_firstDayShown 5 = .ok (.if_icmp .ge 22, 3) := by decide +kernel
theorem dX1_firstDayShown_8 : decode cX1_firstDayShown 8 = .ok (.aload_n 0, 1) := by decide +kernel
theorem dX1_firstDayShown_9 : decode cX1_firstDayShown 9 = .ok (.iload_n 2, 1) := by decide +kernel
theorem dX1_firstDayShown_10 : decode cX1_firstDayShown 10 = .ok (.invokevirtual 40, 3) := by decide +kernel
theorem dX1_firstDayShown_13 : decode cX1_firstDayShown 13 = .ok (.iload_n 1, 1) := by decide +kernel
theorem dX1_firstDayShown_14 : decode cX1_firstDayShown 14 = .ok (.if_icmp .ne 7, 3) := by decide +kernel
theorem dX1_firstDayShown_17 : decode cX1_firstDayShown 17 = .ok (.iload_n 2, 1) := by decide +kernel
theorem dX1_firstDayShown_18 : decode cX1_firstDayShown 18 = .ok (.iconst 2, 1) := by decide +kernel
theorem dX1_firstDayShown_19 : decode cX1_firstDayShown 19 = .ok (.idiv, 1) := by decide +kernel
theorem dX1_firstDayShown_20 : decode cX1_firstDayShown 20 = .ok (.ireturn, 1) := by decide +kernel
theorem dX1_firstDayShown_21 : decode cX1_firstDayShown 21 = .ok (.iinc 2 1, 3) := by decide +kernel
theorem dX1_firstDayShown_24 : decode cX1_firstDayShown 24 = .ok (.goto (-22), 3) := by decide +kernel
theorem dX1_firstDayShown_27 : decode cX1_firstDayShown 27 = .ok (.bipush (-6), 2) := by decide +kernel
theorem dX1_firstDayShown_29 : decode cX1_firstDayShown 29 = .ok (.ireturn, 1) := by decide +kernel
theorem dX1_rentOf_0 : decode cX1_rentOf 0 = .ok (.aload_n 0, 1) := by decide +kernel
theorem dX1_rentOf_1 : decode cX1_rentOf 1 = .ok (.getfield 11, 3) := by decide +kernel
theorem dX1_rentOf_4 : decode cX1_rentOf 4 = .ok (.bipush 116, 2) := by decide +kernel
theorem dX1_rentOf_6 : decode cX1_rentOf 6 = .ok (.iload_n 1, 1) := by decide +kernel
theorem dX1_rentOf_7 : decode cX1_rentOf 7 = .ok (.iadd, 1) := by decide +kernel
theorem dX1_rentOf_8 : decode cX1_rentOf 8 = .ok (.iaload, 1) := by decide +kernel
theorem dX1_rentOf_9 : decode cX1_rentOf 9 = .ok (.ireturn, 1) := by decide +kernel
theorem dX1_changeRent_0 : decode cX1_changeRent 0 = .ok (.aload_n 0, 1) := by decide +kernel
theorem dX1_changeRent_1 : decode cX1_changeRent 1 = .ok (.getfield 11, 3) := by decide +kernel
theorem dX1_changeRent_4 : decode cX1_changeRent 4 = .ok (.bipush 116, 2) := by decide +kernel
theorem dX1_changeRent_6 : decode cX1_changeRent 6 = .ok (.iload_n 1, 1) := by decide +kernel
theorem dX1_changeRent_7 : decode cX1_changeRent 7 = .ok (.iadd, 1) := by decide +kernel
theorem dX1_changeRent_8 : decode cX1_changeRent 8 = .ok (.iload_n 2, 1) := by decide +kernel
theorem dX1_changeRent_9 : decode cX1_changeRent 9 = .ok (.iastore, 1) := by decide +kernel
theorem dX1_changeRent_10 : decode cX1_changeRent 10 = .ok (.return_, 1) := by decide +kernel
set_option maxRecDepth 20000 in
theorem ggX1_rentsOf_X1_rentOf : GoodIn wsX1_rentsOf wsX1_rentOf := goodIn_r _ [5, 6, 7] (by decide +kernel) (by decide +kernel)
set_option maxRecDepth 20000 in
theorem gX1_rentsOf_X1_rentOf : GoodIn wsX1_rentsOf (wsV RX1 28 RX1 yX1_rentOf wsX1_rentOf) := goodIn_app (goodIn_of _ (by decide +kernel)) ggX1_rentsOf_X1_rentOf
theorem dX1_rentsOf_0 : decode cX1_rentsOf 0 = .ok (.iconst 0, 1) := by decide +kernel
theorem dX1_rentsOf_1 : decode cX1_rentsOf 1 = .ok (.istore_n 3, 1) := by decide +kernel
theorem dX1_rentsOf_2 : decode cX1_rentsOf 2 = .ok (.iload_n 1, 1) := by decide +kernel
theorem dX1_rentsOf_3 : decode cX1_rentsOf 3 = .ok (.istore 4, 2) := by decide +kernel
theorem dX1_rentsOf_5 : decode cX1_rentsOf 5 = .ok (.iload 4, 2) := by decide +kernel
theorem dX1_rentsOf_7 : decode cX1_rentsOf 7 = .ok (.iload_n 2, 1) := by decide +kernel
theorem dX1_rentsOf_8 : decode cX1_rentsOf 8 = .ok (.if_icmp .ge 18, 3) := by decide +kernel
theorem dX1_rentsOf_11 : decode cX1_rentsOf 11 = .ok (.iload_n 3, 1) := by decide +kernel
theorem dX1_rentsOf_12 : decode cX1_rentsOf 12 = .ok (.aload_n 0, 1) := by decide +kernel
theorem dX1_rentsOf_13 : decode cX1_rentsOf 13 = .ok (.iload 4, 2) := by decide +kernel
theorem dX1_rentsOf_15 : decode cX1_rentsOf 15 = .ok (.invokevirtual 28, 3) := by decide +kernel
theorem dX1_rentsOf_18 : decode cX1_rentsOf 18 = .ok (.iadd, 1) := by decide +kernel
theorem dX1_rentsOf_19 : decode cX1_rentsOf 19 = .ok (.istore_n 3, 1) := by decide +kernel
theorem dX1_rentsOf_20 : decode cX1_rentsOf 20 = .ok (.iinc 4 1, 3) := by decide +kernel
theorem dX1_rentsOf_23 : decode cX1_rentsOf 23 = .ok (.goto (-18), 3) := by decide +kernel
theorem dX1_rentsOf_26 : decode cX1_rentsOf 26 = .ok (.iload_n 3, 1) := by decide +kernel
theorem dX1_rentsOf_27 : decode cX1_rentsOf 27 = .ok (.ireturn, 1) := by decide +kernel
theorem dX2_init_0 : decode cX2_init 0 = .ok (.aload_n 0, 1) := by decide +kernel
theorem dX2_init_1 : decode cX2_init 1 = .ok (.invokespecial 1, 3) := by decide +kernel
theorem dX2_init_4 : decode cX2_init 4 = .ok (.aload_n 0, 1) := by decide +kernel
theorem dX2_init_5 : decode cX2_init 5 = .ok (.bipush 6, 2) := by decide +kernel
theorem dX2_init_7 : decode cX2_init 7 = .ok (.sipush 151, 3) := by decide +kernel
theorem dX2_init_10 : decode cX2_init 10 = .ok (.multianewarray 11 2, 4) := by decide +kernel
theorem dX2_init_14 : decode cX2_init 14 = .ok (.putfield 13, 3) := by decide +kernel
theorem dX2_init_17 : decode cX2_init 17 = .ok (.return_, 1) := by decide +kernel
theorem dX2_size_0 : decode cX2_size 0 = .ok (.aload_n 0, 1) := by decide +kernel
theorem dX2_size_1 : decode cX2_size 1 = .ok (.getfield 16, 3) := by decide +kernel
theorem dX2_size_4 : decode cX2_size 4 = .ok (.ireturn, 1) := by decide +kernel
set_option maxRecDepth 20000 in
theorem ggX2_record_X1_copyTo : GoodIn wsX2_record wsX1_copyTo := goodIn_r _ [8, 9, 10, 11, 12, 13, 17] (by decide +kernel) (by decide +kernel)
set_option maxRecDepth 20000 in
theorem gX2_record_X1_copyTo : GoodIn wsX2_record (wsV RX2 23 RX1 yX1_copyTo wsX1_copyTo) := goodIn_app (goodIn_of _ (by decide +kernel)) ggX2_record_X1_copyTo
theorem dX2_record_0 : decode cX2_record 0 = .ok (.aload_n 1, 1) := by decide +kernel
theorem dX2_record_1 : decode cX2_record 1 = .ok (.aload_n 0, 1) := by decide +kernel
theorem dX2_record_2 : decode cX2_record 2 = .ok (.getfield 13, 3) := by decide +kernel
theorem dX2_record_5 : decode cX2_record 5 = .ok (.aload_n 0, 1) := by decide +kernel
theorem dX2_record_6 : decode cX2_record 6 = .ok (.getfield 20, 3) := by decide +kernel
theorem dX2_record_9 : decode cX2_record 9 = .ok (.aload_n 0, 1) := by decide +kernel
theorem dX2_record_10 : decode cX2_record 10 = .ok (.getfield 16, 3) := by decide +kernel
theorem dX2_record_13 : decode cX2_record 13 = .ok (.iadd, 1) := by decide +kernel
theorem dX2_record_14 : decode cX2_record 14 = .ok (.bipush 6, 2) := by decide +kernel
theorem dX2_record_16 : decode cX2_record 16 = .ok (.irem, 1) := by decide +kernel
theorem dX2_record_17 : decode cX2_record 17 = .ok (.aaload, 1) := by decide +kernel
theorem dX2_record_18 : decode cX2_record 18 = .ok (.invokevirtual 23, 3) := by decide +kernel
theorem dX2_record_21 : decode cX2_record 21 = .ok (.aload_n 0, 1) := by decide +kernel
theorem dX2_record_22 : decode cX2_record 22 = .ok (.getfield 16, 3) := by decide +kernel
theorem dX2_record_25 : decode cX2_record 25 = .ok (.bipush 6, 2) := by decide +kernel
theorem dX2_record_27 : decode cX2_record 27 = .ok (.if_icmp .ge 16, 3) := by decide +kernel
theorem dX2_record_30 : decode cX2_record 30 = .ok (.aload_n 0, 1) := by decide +kernel
theorem dX2_record_31 : decode cX2_record 31 = .ok (.dup, 1) := by decide +kernel
theorem dX2_record_32 : decode cX2_record 32 = .ok (.getfield 16, 3) := by decide +kernel
theorem dX2_record_35 : decode cX2_record 35 = .ok (.iconst 1, 1) := by decide +kernel
theorem dX2_record_36 : decode cX2_record 36 = .ok (.iadd, 1) := by decide +kernel
theorem dX2_record_37 : decode cX2_record 37 = .ok (.putfield 16, 3) := by decide +kernel
theorem dX2_record_40 : decode cX2_record 40 = .ok (.goto 16, 3) := by decide +kernel
theorem dX2_record_43 : decode cX2_record 43 = .ok (.aload_n 0, 1) := by decide +kernel
theorem dX2_record_44 : decode cX2_record 44 = .ok (.aload_n 0, 1) := by decide +kernel
theorem dX2_record_45 : decode cX2_record 45 = .ok (.getfield 20, 3) := by decide +kernel
theorem dX2_record_48 : decode cX2_record 48 = .ok (.iconst 1, 1) := by decide +kernel
theorem dX2_record_49 : decode cX2_record 49 = .ok (.iadd, 1) := by decide +kernel
theorem dX2_record_50 : decode cX2_record 50 = .ok (.bipush 6, 2) := by decide +kernel
theorem dX2_record_52 : decode cX2_record 52 = .ok (.irem, 1) := by decide +kernel
theorem dX2_record_53 : decode cX2_record 53 = .ok (.putfield 20, 3) := by decide +kernel
theorem dX2_record_56 : decode cX2_record 56 = .ok (.return_, 1) := by decide +kernel
theorem dX3_init_0 : decode cX3_init 0 = .ok (.aload_n 0, 1) := by decide +kernel
theorem dX3_init_1 : decode cX3_init 1 = .ok (.invokespecial 3, 3) := by decide +kernel
theorem dX3_init_4 : decode cX3_init 4 = .ok (.aload_n 0, 1) := by decide +kernel
theorem dX3_init_5 : decode cX3_init 5 = .ok (.bipush 60, 2) := by decide +kernel
theorem dX3_init_7 : decode cX3_init 7 = .ok (.newarray .char, 2) := by decide +kernel
theorem dX3_init_9 : decode cX3_init 9 = .ok (.putfield 11, 3) := by decide +kernel
theorem dX3_init_12 : decode cX3_init 12 = .ok (.return_, 1) := by decide +kernel
theorem dX3_length_0 : decode cX3_length 0 = .ok (.aload_n 0, 1) := by decide +kernel
theorem dX3_length_1 : decode cX3_length 1 = .ok (.getfield 15, 3) := by decide +kernel
theorem dX3_length_4 : decode cX3_length 4 = .ok (.ireturn, 1) := by decide +kernel
set_option maxRecDepth 20000 in
theorem ggX4_init_X1_init : GoodIn wsX4_init wsX1_init := goodIn_r _ [27, 28, 2, 3, 21, 29, 30, 31, 32, 33, 51] (by decide +kernel) (by decide +kernel)
set_option maxRecDepth 20000 in
theorem gX4_init_X1_init : GoodIn wsX4_init (wsX1_init) := ggX4_init_X1_init
set_option maxRecDepth 20000 in
theorem ggX4_init_X0_init : GoodIn wsX4_init wsX0_init := goodIn_r _ [35, 36, 2, 3, 21, 37, 38, 39, 40, 58, 59, 60, 61, 62, 63] (by decide +kernel) (by decide +kernel)
set_option maxRecDepth 20000 in
theorem gX4_init_X0_init_n18 : GoodIn wsX4_init (wsX0_init) := ggX4_init_X0_init
set_option maxRecDepth 20000 in
theorem ggX4_init_X3_init : GoodIn wsX4_init wsX3_init := goodIn_r _ [42, 43, 2, 3, 44, 45, 64, 65] (by decide +kernel) (by decide +kernel)
set_option maxRecDepth 20000 in
theorem gX4_init_X3_init_n25 : GoodIn wsX4_init (wsX3_init) := ggX4_init_X3_init
set_option maxRecDepth 20000 in
theorem ggX4_init_X2_init : GoodIn wsX4_init wsX2_init := goodIn_r _ [47, 48, 2, 3, 49, 21, 50, 66, 67, 68] (by decide +kernel) (by decide +kernel)
set_option maxRecDepth 20000 in
theorem gX4_init_X2_init_n32 : GoodIn wsX4_init (wsX2_init) := ggX4_init_X2_init
theorem dX4_init_0 : decode cX4_init 0 = .ok (.aload_n 0, 1) := by decide +kernel
theorem dX4_init_1 : decode cX4_init 1 = .ok (.invokespecial 3, 3) := by decide +kernel
theorem dX4_init_4 : decode cX4_init 4 = .ok (.aload_n 0, 1) := by decide +kernel
theorem dX4_init_5 : decode cX4_init 5 = .ok (.new 9, 3) := by decide +kernel
theorem dX4_init_8 : decode cX4_init 8 = .ok (.dup, 1) := by decide +kernel
theorem dX4_init_9 : decode cX4_init 9 = .ok (.invokespecial 11, 3) := by decide +kernel
theorem dX4_init_12 : decode cX4_init 12 = .ok (.putfield 12, 3) := by decide +kernel
theorem dX4_init_15 : decode cX4_init 15 = .ok (.aload_n 0, 1) := by decide +kernel
theorem dX4_init_16 : decode cX4_init 16 = .ok (.new 16, 3) := by decide +kernel
theorem dX4_init_19 : decode cX4_init 19 = .ok (.dup, 1) := by decide +kernel
theorem dX4_init_20 : decode cX4_init 20 = .ok (.invokespecial 18, 3) := by decide +kernel
theorem dX4_init_23 : decode cX4_init 23 = .ok (.putfield 19, 3) := by decide +kernel
theorem dX4_init_26 : decode cX4_init 26 = .ok (.aload_n 0, 1) := by decide +kernel
theorem dX4_init_27 : decode cX4_init 27 = .ok (.new 23, 3) := by decide +kernel
theorem dX4_init_30 : decode cX4_init 30 = .ok (.dup, 1) := by decide +kernel
theorem dX4_init_31 : decode cX4_init 31 = .ok (.invokespecial 25, 3) := by decide +kernel
theorem dX4_init_34 : decode cX4_init 34 = .ok (.putfield 26, 3) := by decide +kernel
theorem dX4_init_37 : decode cX4_init 37 = .ok (.aload_n 0, 1) := by decide +kernel
theorem dX4_init_38 : decode cX4_init 38 = .ok (.new 30, 3) := by decide +kernel
theorem dX4_init_41 : decode cX4_init 41 = .ok (.dup, 1) := by decide +kernel
theorem dX4_init_42 : decode cX4_init 42 = .ok (.invokespecial 32, 3) := by decide +kernel
theorem dX4_init_45 : decode cX4_init 45 = .ok (.putfield 33, 3) := by decide +kernel
theorem dX4_init_48 : decode cX4_init 48 = .ok (.aload_n 0, 1) := by decide +kernel
theorem dX4_init_49 : decode cX4_init 49 = .ok (.iconst 2, 1) := by decide +kernel
theorem dX4_init_50 : decode cX4_init 50 = .ok (.sipush 151, 3) := by decide +kernel
theorem dX4_init_53 : decode cX4_init 53 = .ok (.multianewarray 37 2, 4) := by decide +kernel
theorem dX4_init_57 : decode cX4_init 57 = .ok (.putfield 39, 3) := by decide +kernel
theorem dX4_init_60 : decode cX4_init 60 = .ok (.aload_n 0, 1) := by decide +kernel
theorem dX4_init_61 : decode cX4_init 61 = .ok (.iconst 2, 1) := by decide +kernel
theorem dX4_init_62 : decode cX4_init 62 = .ok (.newarray .boolean, 2) := by decide +kernel
theorem dX4_init_64 : decode cX4_init 64 = .ok (.putfield 42, 3) := by decide +kernel
theorem dX4_init_67 : decode cX4_init 67 = .ok (.return_, 1) := by decide +kernel
set_option maxRecDepth 20000 in
theorem ggX4_set_X4_isWithin : GoodIn wsX4_set wsX4_isWithin := goodIn_r _ [8] (by decide +kernel) (by decide +kernel)
set_option maxRecDepth 20000 in
theorem gX4_set_X4_isWithin : GoodIn wsX4_set (va_wsS RX4 46 yX4_isWithin wsX4_isWithin) := goodIn_app (goodIn_of _ (by decide +kernel)) ggX4_set_X4_isWithin
set_option maxRecDepth 20000 in
theorem ggX4_set_X2_record : GoodIn wsX4_set wsX2_record := goodIn_r _ [13, 14, 15, 16, 17, 18, 19, 20, 21, 22, 23, 24, 25, 26, 37, 38, 39, 40] (by decide +kernel) (by decide +kernel)
set_option maxRecDepth 20000 in
theorem gX4_set_X2_record : GoodIn wsX4_set (wsV RX4 57 RX2 yX2_record wsX2_record) := goodIn_app (goodIn_of _ (by decide +kernel)) ggX4_set_X2_record
set_option maxRecDepth 20000 in
theorem ggX4_set_X1_changeSetting : GoodIn wsX4_set wsX1_changeSetting := goodIn_r _ [30, 22, 40] (by decide +kernel) (by decide +kernel)
set_option maxRecDepth 20000 in
theorem gX4_set_X1_changeSetting : GoodIn wsX4_set (wsV RX4 61 RX1 yX1_changeSetting wsX1_changeSetting) := goodIn_app (goodIn_of _ (by decide +kernel)) ggX4_set_X1_changeSetting
theorem dX4_set_0 : decode cX4_set 0 = .ok (.iload_n 1, 1) := by decide +kernel
theorem dX4_set_1 : decode cX4_set 1 = .ok (.iconst 0, 1) := by decide +kernel
theorem dX4_set_2 : decode cX4_set 2 = .ok (.iconst 4, 1) := by decide +kernel
theorem dX4_set_3 : decode cX4_set 3 = .ok (.invokestatic 46, 3) := by decide +kernel
theorem dX4_set_6 : decode cX4_set 6 = .ok (.ifCond .ne 6, 3) := by decide +kernel
theorem dX4_set_9 : decode cX4_set 9 = .ok (.bipush (-2), 2) := by decide +kernel
theorem dX4_set_11 : decode cX4_set 11 = .ok (.ireturn, 1) := by decide +kernel
theorem dX4_set_12 : decode cX4_set 12 = .ok (.iload_n 2, 1) := by decide +kernel
theorem dX4_set_13 : decode cX4_set 13 = .ok (.getstatic 50, 3) := by decide +kernel
theorem dX4_set_16 : decode cX4_set 16 = .ok (.iload_n 1, 1) := by decide +kernel
theorem dX4_set_17 : decode cX4_set 17 = .ok (.iaload, 1) := by decide +kernel
theorem dX4_set_18 : decode cX4_set 18 = .ok (.getstatic 54, 3) := by decide +kernel
theorem dX4_set_21 : decode cX4_set 21 = .ok (.iload_n 1, 1) := by decide +kernel
theorem dX4_set_22 : decode cX4_set 22 = .ok (.iaload, 1) := by decide +kernel
theorem dX4_set_23 : decode cX4_set 23 = .ok (.invokestatic 46, 3) := by decide +kernel
theorem dX4_set_26 : decode cX4_set 26 = .ok (.ifCond .ne 6, 3) := by decide +kernel
theorem dX4_set_29 : decode cX4_set 29 = .ok (.bipush (-2), 2) := by decide +kernel
theorem dX4_set_31 : decode cX4_set 31 = .ok (.ireturn, 1) := by decide +kernel
theorem dX4_set_32 : decode cX4_set 32 = .ok (.aload_n 0, 1) := by decide +kernel
theorem dX4_set_33 : decode cX4_set 33 = .ok (.getfield 33, 3) := by decide +kernel
theorem dX4_set_36 : decode cX4_set 36 = .ok (.aload_n 0, 1) := by decide +kernel
theorem dX4_set_37 : decode cX4_set 37 = .ok (.getfield 12, 3) := by decide +kernel
theorem dX4_set_40 : decode cX4_set 40 = .ok (.invokevirtual 57, 3) := by decide +kernel
theorem dX4_set_43 : decode cX4_set 43 = .ok (.aload_n 0, 1) := by decide +kernel
theorem dX4_set_44 : decode cX4_set 44 = .ok (.getfield 12, 3) := by decide +kernel
theorem dX4_set_47 : decode cX4_set 47 = .ok (.iload_n 1, 1) := by decide +kernel
theorem dX4_set_48 : decode cX4_set 48 = .ok (.iload_n 2, 1) := by decide +kernel
theorem dX4_set_49 : decode cX4_set 49 = .ok (.invokevirtual 61, 3) := by decide +kernel
theorem dX4_set_52 : decode cX4_set 52 = .ok (.ireturn, 1) := by decide +kernel
set_option maxRecDepth 20000 in
theorem ggX4_film_X4_isWithin : GoodIn wsX4_film wsX4_isWithin := goodIn_r _ [6] (by decide +kernel) (by decide +kernel)
set_option maxRecDepth 20000 in
theorem gX4_film_X4_isWithin : GoodIn wsX4_film (va_wsS RX4 46 yX4_isWithin wsX4_isWithin) := goodIn_app (goodIn_of _ (by decide +kernel)) ggX4_film_X4_isWithin
set_option maxRecDepth 20000 in
theorem ggX4_film_X4_isDay : GoodIn wsX4_film wsX4_isDay := goodIn_r _ [9, 3, 4, 5, 6] (by decide +kernel) (by decide +kernel)
set_option maxRecDepth 20000 in
theorem gX4_film_X4_isDay : GoodIn wsX4_film (va_wsS RX4 65 yX4_isDay wsX4_isDay) := goodIn_app (goodIn_of _ (by decide +kernel)) ggX4_film_X4_isDay
set_option maxRecDepth 20000 in
theorem ggX4_film_X1_films : GoodIn wsX4_film wsX1_films := goodIn_r _ [14, 15, 43] (by decide +kernel) (by decide +kernel)
set_option maxRecDepth 20000 in
theorem gX4_film_X1_films : GoodIn wsX4_film (wsV RX4 69 RX1 yX1_films wsX1_films) := goodIn_app (goodIn_of _ (by decide +kernel)) ggX4_film_X1_films
set_option maxRecDepth 20000 in
theorem ggX4_film_X2_record : GoodIn wsX4_film wsX2_record := goodIn_r _ [20, 21, 22, 23, 24, 25, 26, 13, 27, 15, 28, 29, 30, 31, 44, 45, 46, 43] (by decide +kernel) (by decide +kernel)
set_option maxRecDepth 20000 in
theorem gX4_film_X2_record : GoodIn wsX4_film (wsV RX4 57 RX2 yX2_record wsX2_record) := goodIn_app (goodIn_of _ (by decide +kernel)) ggX4_film_X2_record
set_option maxRecDepth 20000 in
theorem ggX4_film_X1_addFilm : GoodIn wsX4_film wsX1_addFilm := goodIn_r _ [35, 15, 36, 11, 12, 13, 14, 43] (by decide +kernel) (by decide +kernel)
set_option maxRecDepth 20000 in
theorem gX4_film_X1_addFilm : GoodIn wsX4_film (wsV RX4 73 RX1 yX1_addFilm wsX1_addFilm) := goodIn_app (goodIn_of _ (by decide +kernel)) ggX4_film_X1_addFilm
theorem dX4_film_0 : decode cX4_film 0 = .ok (.iload_n 1, 1) := by decide +kernel
theorem dX4_film_1 : decode cX4_film 1 = .ok (.iconst 0, 1) := by decide +kernel
theorem dX4_film_2 : decode cX4_film 2 = .ok (.iconst 3, 1) := by decide +kernel
theorem dX4_film_3 : decode cX4_film 3 = .ok (.invokestatic 46, 3) := by decide +kernel
theorem dX4_film_6 : decode cX4_film 6 = .ok (.ifCond .eq 14, 3) := by decide +kernel
theorem dX4_film_9 : decode cX4_film 9 = .ok (.iload_n 2, 1) := by decide +kernel
theorem dX4_film_10 : decode cX4_film 10 = .ok (.iconst 1, 1) := by decide +kernel
theorem dX4_film_11 : decode cX4_film 11 = .ok (.sipush 999, 3) := by decide +kernel
theorem dX4_film_14 : decode cX4_film 14 = .ok (.invokestatic 46, 3) := by decide +kernel
theorem dX4_film_17 : decode cX4_film 17 = .ok (.ifCond .ne 6, 3) := by decide +kernel
theorem dX4_film_20 : decode cX4_film 20 = .ok (.bipush (-2), 2) := by decide +kernel
theorem dX4_film_22 : decode cX4_film 22 = .ok (.ireturn, 1) := by decide +kernel
theorem dX4_film_23 : decode cX4_film 23 = .ok (.iload_n 3, 1) := by decide +kernel
theorem dX4_film_24 : decode cX4_film 24 = .ok (.iconst 0, 1) := by decide +kernel
theorem dX4_film_25 : decode cX4_film 25 = .ok (.sipush 500, 3) := by decide +kernel
theorem dX4_film_28 : decode cX4_film 28 = .ok (.invokestatic 46, 3) := by decide +kernel
theorem dX4_film_31 : decode cX4_film 31 = .ok (.ifCond .eq 23, 3) := by decide +kernel
theorem dX4_film_34 : decode cX4_film 34 = .ok (.iload 4, 2) := by decide +kernel
theorem dX4_film_36 : decode cX4_film 36 = .ok (.bipush 20, 2) := by decide +kernel
theorem dX4_film_38 : decode cX4_film 38 = .ok (.bipush 90, 2) := by decide +kernel
theorem dX4_film_40 : decode cX4_film 40 = .ok (.invokestatic 46, 3) := by decide +kernel
theorem dX4_film_43 : decode cX4_film 43 = .ok (.ifCond .eq 11, 3) := by decide +kernel
theorem dX4_film_46 : decode cX4_film 46 = .ok (.iload 5, 2) := by decide +kernel
theorem dX4_film_48 : decode cX4_film 48 = .ok (.invokestatic 65, 3) := by decide +kernel
theorem dX4_film_51 : decode cX4_film 51 = .ok (.ifCond .ne 6, 3) := by decide +kernel
theorem dX4_film_54 : decode cX4_film 54 = .ok (.bipush (-2), 2) := by decide +kernel
theorem dX4_film_56 : decode cX4_film 56 = .ok (.ireturn, 1) := by decide +kernel
theorem dX4_film_57 : decode cX4_film 57 = .ok (.aload_n 0, 1) := by decide +kernel
theorem dX4_film_58 : decode cX4_film 58 = .ok (.getfield 12, 3) := by decide +kernel
theorem dX4_film_61 : decode cX4_film 61 = .ok (.invokevirtual 69, 3) := by decide +kernel
theorem dX4_film_64 : decode cX4_film 64 = .ok (.bipush 8, 2) := by decide +kernel
theorem dX4_film_66 : decode cX4_film 66 = .ok (.if_icmp .lt 6, 3) := by decide +kernel
theorem dX4_film_69 : decode cX4_film 69 = .ok (.bipush (-4), 2) := by decide +kernel
theorem dX4_film_71 : decode cX4_film 71 = .ok (.ireturn, 1) := by decide +kernel
theorem dX4_film_72 : decode cX4_film 72 = .ok (.aload_n 0, 1) := by decide +kernel
theorem dX4_film_73 : decode cX4_film 73 = .ok (.getfield 33, 3) := by decide +kernel
theorem dX4_film_76 : decode cX4_film 76 = .ok (.aload_n 0, 1) := by decide +kernel
theorem dX4_film_77 : decode cX4_film 77 = .ok (.getfield 12, 3) := by decide +kernel
theorem dX4_film_80 : decode cX4_film 80 = .ok (.invokevirtual 57, 3) := by decide +kernel
theorem dX4_film_83 : decode cX4_film 83 = .ok (.aload_n 0, 1) := by decide +kernel
theorem dX4_film_84 : decode cX4_film 84 = .ok (.getfield 12, 3) := by decide +kernel
theorem dX4_film_87 : decode cX4_film 87 = .ok (.iload_n 1, 1) := by decide +kernel
theorem dX4_film_88 : decode cX4_film 88 = .ok (.iload_n 2, 1) := by decide +kernel
theorem dX4_film_89 : decode cX4_film 89 = .ok (.iload_n 3, 1) := by decide +kernel
theorem dX4_film_90 : decode cX4_film 90 = .ok (.iload 4, 2) := by decide +kernel
theorem dX4_film_92 : decode cX4_film 92 = .ok (.iload 5, 2) := by decide +kernel
theorem dX4_film_94 : decode cX4_film 94 = .ok (.invokevirtual 73, 3) := by decide +kernel
theorem dX4_film_97 : decode cX4_film 97 = .ok (.ireturn, 1) := by decide +kernel
set_option maxRecDepth 20000 in
theorem ggX4_show_X4_errorOfShow : GoodIn wsX4_show wsX4_errorOfShow := goodIn_r _ [7, 2, 8, 9, 10, 11, 12, 13, 14, 15, 16, 17, 18, 19, 6, 20, 21, 22, 23, 24, 25, 26, 27, 28, 29, 30, 31, 32, 33, 34, 35, 36, 37, 38, 39, 63, 64, 65, 66, 67, 68, 69] (by decide +kernel) (by decide +kernel)
set_option maxRecDepth 20000 in
theorem gX4_show_X4_errorOfShow : GoodIn wsX4_show (wsV RX4 77 RX4 yX4_errorOfShow wsX4_errorOfShow) := goodIn_app (goodIn_of _ (by decide +kernel)) ggX4_show_X4_errorOfShow
set_option maxRecDepth 20000 in
theorem ggX4_show_X2_record : GoodIn wsX4_show wsX2_record := goodIn_r _ [44, 45, 46, 47, 48, 49, 50, 11, 51, 17, 52, 53, 54, 55, 70, 71, 72, 69] (by decide +kernel) (by decide +kernel)
set_option maxRecDepth 20000 in
theorem gX4_show_X2_record : GoodIn wsX4_show (wsV RX4 57 RX2 yX2_record wsX2_record) := goodIn_app (goodIn_of _ (by decide +kernel)) ggX4_show_X2_record
set_option maxRecDepth 20000 in
theorem ggX4_show_X4_placeOf : GoodIn wsX4_show wsX4_placeOf := goodIn_r _ [58] (by decide +kernel) (by decide +kernel)
set_option maxRecDepth 20000 in
theorem gX4_show_X4_placeOf : GoodIn wsX4_show (va_wsS RX4 81 yX4_placeOf wsX4_placeOf) := goodIn_app (goodIn_of _ (by decide +kernel)) ggX4_show_X4_placeOf
set_option maxRecDepth 20000 in
theorem ggX4_show_X1_replaceShow : GoodIn wsX4_show wsX1_replaceShow := goodIn_r _ [62, 17, 69] (by decide +kernel) (by decide +kernel)
set_option maxRecDepth 20000 in
theorem gX4_show_X1_replaceShow : GoodIn wsX4_show (wsV RX4 84 RX1 yX1_replaceShow wsX1_replaceShow) := goodIn_app (goodIn_of _ (by decide +kernel)) ggX4_show_X1_replaceShow
theorem dX4_show_0 : decode cX4_show 0 = .ok (.aload_n 0, 1) := by decide +kernel
theorem dX4_show_1 : decode cX4_show 1 = .ok (.iload_n 1, 1) := by decide +kernel
theorem dX4_show_2 : decode cX4_show 2 = .ok (.iload_n 2, 1) := by decide +kernel
theorem dX4_show_3 : decode cX4_show 3 = .ok (.iload_n 3, 1) := by decide +kernel
theorem dX4_show_4 : decode cX4_show 4 = .ok (.invokevirtual 77, 3) := by decide +kernel
theorem dX4_show_7 : decode cX4_show 7 = .ok (.istore 4, 2) := by decide +kernel
theorem dX4_show_9 : decode cX4_show 9 = .ok (.iload 4, 2) := by decide +kernel
theorem dX4_show_11 : decode cX4_show 11 = .ok (.ifCond .eq 6, 3) := by decide +kernel
theorem dX4_show_14 : decode cX4_show 14 = .ok (.iload 4, 2) := by decide +kernel
theorem dX4_show_16 : decode cX4_show 16 = .ok (.ireturn, 1) := by decide +kernel
theorem dX4_show_17 : decode cX4_show 17 = .ok (.aload_n 0, 1) := by decide +kernel
theorem dX4_show_18 : decode cX4_show 18 = .ok (.getfield 33, 3) := by decide +kernel
theorem dX4_show_21 : decode cX4_show 21 = .ok (.aload_n 0, 1) := by decide +kernel
theorem dX4_show_22 : decode cX4_show 22 = .ok (.getfield 12, 3) := by decide +kernel
theorem dX4_show_25 : decode cX4_show 25 = .ok (.invokevirtual 57, 3) := by decide +kernel
theorem dX4_show_28 : decode cX4_show 28 = .ok (.aload_n 0, 1) := by decide +kernel
theorem dX4_show_29 : decode cX4_show 29 = .ok (.getfield 12, 3) := by decide +kernel
theorem dX4_show_32 : decode cX4_show 32 = .ok (.iload_n 2, 1) := by decide +kernel
theorem dX4_show_33 : decode cX4_show 33 = .ok (.iload_n 3, 1) := by decide +kernel
theorem dX4_show_34 : decode cX4_show 34 = .ok (.invokestatic 81, 3) := by decide +kernel
theorem dX4_show_37 : decode cX4_show 37 = .ok (.iload_n 1, 1) := by decide +kernel
theorem dX4_show_38 : decode cX4_show 38 = .ok (.invokevirtual 84, 3) := by decide +kernel
theorem dX4_show_41 : decode cX4_show 41 = .ok (.ireturn, 1) := by decide +kernel
set_option maxRecDepth 20000 in
theorem ggX4_drop_X4_isPlace : GoodIn wsX4_drop wsX4_isPlace := goodIn_r _ [6, 7, 8, 5, 9, 10, 11, 12] (by decide +kernel) (by decide +kernel)
set_option maxRecDepth 20000 in
theorem gX4_drop_X4_isPlace : GoodIn wsX4_drop (va_wsS RX4 87 yX4_isPlace wsX4_isPlace) := goodIn_app (goodIn_of _ (by decide +kernel)) ggX4_drop_X4_isPlace
set_option maxRecDepth 20000 in
theorem ggX4_drop_X4_placeOf : GoodIn wsX4_drop wsX4_placeOf := goodIn_r _ [15] (by decide +kernel) (by decide +kernel)
set_option maxRecDepth 20000 in
theorem gX4_drop_X4_placeOf : GoodIn wsX4_drop (va_wsS RX4 81 yX4_placeOf wsX4_placeOf) := goodIn_app (goodIn_of _ (by decide +kernel)) ggX4_drop_X4_placeOf
set_option maxRecDepth 20000 in
theorem ggX4_drop_X1_showAt : GoodIn wsX4_drop wsX1_showAt := goodIn_r _ [20, 21, 48] (by decide +kernel) (by decide +kernel)
set_option maxRecDepth 20000 in
theorem gX4_drop_X1_showAt : GoodIn wsX4_drop (wsV RX4 91 RX1 yX1_showAt wsX1_showAt) := goodIn_app (goodIn_of _ (by decide +kernel)) ggX4_drop_X1_showAt
set_option maxRecDepth 20000 in
theorem ggX4_drop_X2_record : GoodIn wsX4_drop wsX2_record := goodIn_r _ [26, 27, 28, 29, 30, 31, 32, 19, 33, 21, 34, 35, 36, 37, 49, 50, 51, 48] (by decide +kernel) (by decide +kernel)
set_option maxRecDepth 20000 in
theorem gX4_drop_X2_record : GoodIn wsX4_drop (wsV RX4 57 RX2 yX2_record wsX2_record) := goodIn_app (goodIn_of _ (by decide +kernel)) ggX4_drop_X2_record
set_option maxRecDepth 20000 in
theorem ggX4_drop_X1_replaceShow : GoodIn wsX4_drop wsX1_replaceShow := goodIn_r _ [41, 21, 48] (by decide +kernel) (by decide +kernel)
set_option maxRecDepth 20000 in
theorem gX4_drop_X1_replaceShow : GoodIn wsX4_drop (wsV RX4 84 RX1 yX1_replaceShow wsX1_replaceShow) := goodIn_app (goodIn_of _ (by decide +kernel)) ggX4_drop_X1_replaceShow
theorem dX4_drop_0 : decode cX4_drop 0 = .ok (.iload_n 1, 1) := by decide +kernel
theorem dX4_drop_1 : decode cX4_drop 1 = .ok (.iload_n 2, 1) := by decide +kernel
theorem dX4_drop_2 : decode cX4_drop 2 = .ok (.invokestatic 87, 3) := by decide +kernel
theorem dX4_drop_5 : decode cX4_drop 5 = .ok (.ifCond .ne 6, 3) := by decide +kernel
theorem dX4_drop_8 : decode cX4_drop 8 = .ok (.bipush (-2), 2) := by decide +kernel
theorem dX4_drop_10 : decode cX4_drop 10 = .ok (.ireturn, 1) := by decide +kernel
theorem dX4_drop_11 : decode cX4_drop 11 = .ok (.iload_n 1, 1) := by decide +kernel
theorem dX4_drop_12 : decode cX4_drop 12 = .ok (.iload_n 2, 1) := by decide +kernel
theorem dX4_drop_13 : decode cX4_drop 13 = .ok (.invokestatic 81, 3) := by decide +kernel
theorem dX4_drop_16 : decode cX4_drop 16 = .ok (.istore_n 3, 1) := by decide +kernel
theorem dX4_drop_17 : decode cX4_drop 17 = .ok (.aload_n 0, 1) := by decide +kernel
theorem dX4_drop_18 : decode cX4_drop 18 = .ok (.getfield 12, 3) := by decide +kernel
theorem dX4_drop_21 : decode cX4_drop 21 = .ok (.iload_n 3, 1) := by decide +kernel
theorem dX4_drop_22 : decode cX4_drop 22 = .ok (.invokevirtual 91, 3) := by decide +kernel
theorem dX4_drop_25 : decode cX4_drop 25 = .ok (.bipush (-6), 2) := by decide +kernel
theorem dX4_drop_27 : decode cX4_drop 27 = .ok (.if_icmp .ne 6, 3) := by decide +kernel
theorem dX4_drop_30 : decode cX4_drop 30 = .ok (.bipush (-5), 2) := by decide +kernel
theorem dX4_drop_32 : decode cX4_drop 32 = .ok (.ireturn, 1) := by decide +kernel
theorem dX4_drop_33 : decode cX4_drop 33 = .ok (.aload_n 0, 1) := by decide +kernel
theorem dX4_drop_34 : decode cX4_drop 34 = .ok (.getfield 33, 3) := by decide +kernel
theorem dX4_drop_37 : decode cX4_drop 37 = .ok (.aload_n 0, 1) := by decide +kernel
theorem dX4_drop_38 : decode cX4_drop 38 = .ok (.getfield 12, 3) := by decide +kernel
theorem dX4_drop_41 : decode cX4_drop 41 = .ok (.invokevirtual 57, 3) := by decide +kernel
theorem dX4_drop_44 : decode cX4_drop 44 = .ok (.aload_n 0, 1) := by decide +kernel
theorem dX4_drop_45 : decode cX4_drop 45 = .ok (.getfield 12, 3) := by decide +kernel
theorem dX4_drop_48 : decode cX4_drop 48 = .ok (.iload_n 3, 1) := by decide +kernel
theorem dX4_drop_49 : decode cX4_drop 49 = .ok (.bipush (-6), 2) := by decide +kernel
theorem dX4_drop_51 : decode cX4_drop 51 = .ok (.invokevirtual 84, 3) := by decide +kernel
theorem dX4_drop_54 : decode cX4_drop 54 = .ok (.ireturn, 1) := by decide +kernel
set_option maxRecDepth 20000 in
theorem ggX4_exchange_X4_isPlace : GoodIn wsX4_exchange wsX4_isPlace := goodIn_r _ [7, 8, 9, 6, 10, 11, 12, 13] (by decide +kernel) (by decide +kernel)
set_option maxRecDepth 20000 in
theorem gX4_exchange_X4_isPlace : GoodIn wsX4_exchange (va_wsS RX4 87 yX4_isPlace wsX4_isPlace) := goodIn_app (goodIn_of _ (by decide +kernel)) ggX4_exchange_X4_isPlace
set_option maxRecDepth 20000 in
theorem ggX4_exchange_X4_placeOf : GoodIn wsX4_exchange wsX4_placeOf := goodIn_r _ [16] (by decide +kernel) (by decide +kernel)
set_option maxRecDepth 20000 in
theorem gX4_exchange_X4_placeOf : GoodIn wsX4_exchange (va_wsS RX4 81 yX4_placeOf wsX4_placeOf) := goodIn_app (goodIn_of _ (by decide +kernel)) ggX4_exchange_X4_placeOf
set_option maxRecDepth 20000 in
theorem ggX4_exchange_X1_showAt : GoodIn wsX4_exchange wsX1_showAt := goodIn_r _ [21, 22, 129] (by decide +kernel) (by decide +kernel)
set_option maxRecDepth 20000 in
theorem gX4_exchange_X1_showAt : GoodIn wsX4_exchange (wsV RX4 91 RX1 yX1_showAt wsX1_showAt) := goodIn_app (goodIn_of _ (by decide +kernel)) ggX4_exchange_X1_showAt
set_option maxRecDepth 20000 in
theorem ggX4_exchange_X1_canHold : GoodIn wsX4_exchange wsX1_canHold := goodIn_r _ [26, 27, 28, 29, 20, 30, 22, 31, 32, 33, 34, 35, 36, 37, 38, 39, 40, 41, 42, 129] (by decide +kernel) (by decide +kernel)
set_option maxRecDepth 20000 in
theorem gX4_exchange_X1_canHold : GoodIn wsX4_exchange (wsV RX4 95 RX1 yX1_canHold wsX1_canHold) := goodIn_app (goodIn_of _ (by decide +kernel)) ggX4_exchange_X1_canHold
set_option maxRecDepth 20000 in
theorem ggX4_exchange_X4_sumOfFilms : GoodIn wsX4_exchange wsX4_sumOfFilms := goodIn_r _ [46, 1, 47, 36, 37, 20, 38, 22, 48, 49, 50, 6, 51, 52, 53, 54, 55, 56, 57, 58, 59, 60, 61, 40, 41, 42, 62, 63, 64, 65, 66, 67, 68, 69, 18, 19, 21, 70, 71, 72, 73, 74, 75, 76, 77, 78, 79, 80, 81, 82, 83, 84, 85, 86, 87, 88, 89, 90, 91, 92, 93, 94, 95, 96, 97, 98, 99, 100, 101, 102, 123, 124, 125, 126, 127, 128, 129, 130, 131, 132, 133, 134, 135] (by decide +kernel) (by decide +kernel)
set_option maxRecDepth 20000 in
theorem gX4_exchange_X4_sumOfFilms : GoodIn wsX4_exchange (wsV RX4 98 RX4 yX4_sumOfFilms wsX4_sumOfFilms) := goodIn_app (goodIn_of _ (by decide +kernel)) ggX4_exchange_X4_sumOfFilms
set_option maxRecDepth 20000 in
theorem ggX4_exchange_X2_record : GoodIn wsX4_exchange wsX2_record := goodIn_r _ [107, 108, 109, 110, 111, 112, 113, 20, 114, 22, 115, 116, 117, 118, 136, 137, 138, 129] (by decide +kernel) (by decide +kernel)
set_option maxRecDepth 20000 in
theorem gX4_exchange_X2_record : GoodIn wsX4_exchange (wsV RX4 57 RX2 yX2_record wsX2_record) := goodIn_app (goodIn_of _ (by decide +kernel)) ggX4_exchange_X2_record
set_option maxRecDepth 20000 in
theorem ggX4_exchange_X1_replaceShow : GoodIn wsX4_exchange wsX1_replaceShow := goodIn_r _ [122, 22, 129] (by decide +kernel) (by decide +kernel)
set_option maxRecDepth 20000 in
theorem gX4_exchange_X1_replaceShow : GoodIn wsX4_exchange (wsV RX4 84 RX1 yX1_replaceShow wsX1_replaceShow) := goodIn_app (goodIn_of _ (by decide +kernel)) ggX4_exchange_X1_replaceShow
theorem dX4_exchange_0 : decode cX4_exchange 0 = .ok (.iload_n 1, 1) := by decide +kernel
theorem dX4_exchange_1 : decode cX4_exchange 1 = .ok (.iload_n 2, 1) := by decide +kernel
theorem dX4_exchange_2 : decode cX4_exchange 2 = .ok (.invokestatic 87, 3) := by decide +kernel
theorem dX4_exchange_5 : decode cX4_exchange 5 = .ok (.ifCond .eq 12, 3) := by decide +kernel
theorem dX4_exchange_8 : decode cX4_exchange 8 = .ok (.iload_n 3, 1) := by decide +kernel
theorem dX4_exchange_9 : decode cX4_exchange 9 = .ok (.iload 4, 2) := by decide +kernel
theorem dX4_exchange_11 : decode cX4_exchange 11 = .ok (.invokestatic 87, 3) := by decide +kernel
theorem dX4_exchange_14 : decode cX4_exchange 14 = .ok (.ifCond .ne 6, 3) := by decide +kernel
theorem dX4_exchange_17 : decode cX4_exchange 17 = .ok (.bipush (-2), 2) := by decide +kernel
theorem dX4_exchange_19 : decode cX4_exchange 19 = .ok (.ireturn, 1) := by decide +kernel
theorem dX4_exchange_20 : decode cX4_exchange 20 = .ok (.iload_n 1, 1) := by decide +kernel
theorem dX4_exchange_21 : decode cX4_exchange 21 = .ok (.iload_n 2, 1) := by decide +kernel
theorem dX4_exchange_22 : decode cX4_exchange 22 = .ok (.invokestatic 81, 3) := by decide +kernel
theorem dX4_exchange_25 : decode cX4_exchange 25 = .ok (.istore 5, 2) := by decide +kernel
theorem dX4_exchange_27 : decode cX4_exchange 27 = .ok (.iload_n 3, 1) := by decide +kernel
theorem dX4_exchange_28 : decode cX4_exchange 28 = .ok (.iload 4, 2) := by decide +kernel
theorem dX4_exchange_30 : decode cX4_exchange 30 = .ok (.invokestatic 81, 3) := by decide +kernel
theorem dX4_exchange_33 : decode cX4_exchange 33 = .ok (.istore 6, 2) := by decide +kernel
theorem dX4_exchange_35 : decode cX4_exchange 35 = .ok (.aload_n 0, 1) := by decide +kernel
theorem dX4_exchange_36 : decode cX4_exchange 36 = .ok (.getfield 12, 3) := by decide +kernel
theorem dX4_exchange_39 : decode cX4_exchange 39 = .ok (.iload_n 3, 1) := by decide +kernel
theorem dX4_exchange_40 : decode cX4_exchange 40 = .ok (.aload_n 0, 1) := by decide +kernel
theorem dX4_exchange_41 : decode cX4_exchange 41 = .ok (.getfield 12, 3) := by decide +kernel
theorem dX4_exchange_44 : decode cX4_exchange 44 = .ok (.iload 5, 2) := by decide +kernel
theorem dX4_exchange_46 : decode cX4_exchange 46 = .ok (.invokevirtual 91, 3) := by decide +kernel
theorem dX4_exchange_49 : decode cX4_exchange 49 = .ok (.invokevirtual 95, 3) := by decide +kernel
theorem dX4_exchange_52 : decode cX4_exchange 52 = .ok (.ifCond .eq 23, 3) := by decide +kernel
theorem dX4_exchange_55 : decode cX4_exchange 55 = .ok (.aload_n 0, 1) := by decide +kernel
theorem dX4_exchange_56 : decode cX4_exchange 56 = .ok (.getfield 12, 3) := by decide +kernel
theorem dX4_exchange_59 : decode cX4_exchange 59 = .ok (.iload_n 1, 1) := by decide +kernel
theorem dX4_exchange_60 : decode cX4_exchange 60 = .ok (.aload_n 0, 1) := by decide +kernel
theorem dX4_exchange_61 : decode cX4_exchange 61 = .ok (.getfield 12, 3) := by decide +kernel
theorem dX4_exchange_64 : decode cX4_exchange 64 = .ok (.iload 6, 2) := by decide +kernel
theorem dX4_exchange_66 : decode cX4_exchange 66 = .ok (.invokevirtual 91, 3) := by decide +kernel
theorem dX4_exchange_69 : decode cX4_exchange 69 = .ok (.invokevirtual 95, 3) := by decide +kernel
theorem dX4_exchange_72 : decode cX4_exchange 72 = .ok (.ifCond .ne 6, 3) := by decide +kernel
theorem dX4_exchange_75 : decode cX4_exchange 75 = .ok (.bipush (-5), 2) := by decide +kernel
theorem dX4_exchange_77 : decode cX4_exchange 77 = .ok (.ireturn, 1) := by decide +kernel
theorem dX4_exchange_78 : decode cX4_exchange 78 = .ok (.aload_n 0, 1) := by decide +kernel
theorem dX4_exchange_79 : decode cX4_exchange 79 = .ok (.iconst 4, 1) := by decide +kernel
theorem dX4_exchange_80 : decode cX4_exchange 80 = .ok (.invokevirtual 98, 3) := by decide +kernel
theorem dX4_exchange_83 : decode cX4_exchange 83 = .ok (.istore 7, 2) := by decide +kernel
theorem dX4_exchange_85 : decode cX4_exchange 85 = .ok (.aload_n 0, 1) := by decide +kernel
theorem dX4_exchange_86 : decode cX4_exchange 86 = .ok (.getfield 33, 3) := by decide +kernel
theorem dX4_exchange_89 : decode cX4_exchange 89 = .ok (.aload_n 0, 1) := by decide +kernel
theorem dX4_exchange_90 : decode cX4_exchange 90 = .ok (.getfield 12, 3) := by decide +kernel
theorem dX4_exchange_93 : decode cX4_exchange 93 = .ok (.invokevirtual 57, 3) := by decide +kernel
theorem dX4_exchange_96 : decode cX4_exchange 96 = .ok (.aload_n 0, 1) := by decide +kernel
theorem dX4_exchange_97 : decode cX4_exchange 97 = .ok (.getfield 12, 3) := by decide +kernel
theorem dX4_exchange_100 : decode cX4_exchange 100 = .ok (.iload 5, 2) := by decide +kernel
theorem dX4_exchange_102 : decode cX4_exchange 102 = .ok (.aload_n 0, 1) := by decide +kernel
theorem dX4_exchange_103 : decode cX4_exchange 103 = .ok (.getfield 12, 3) := by decide +kernel
theorem dX4_exchange_106 : decode cX4_exchange 106 = .ok (.iload 6, 2) := by decide +kernel
theorem dX4_exchange_108 : decode cX4_exchange 108 = .ok (.invokevirtual 91, 3) := by decide +kernel
theorem dX4_exchange_111 : decode cX4_exchange 111 = .ok (.invokevirtual 84, 3) := by decide +kernel
theorem dX4_exchange_114 : decode cX4_exchange 114 = .ok (.istore 8, 2) := by decide +kernel
theorem dX4_exchange_116 : decode cX4_exchange 116 = .ok (.aload_n 0, 1) := by decide +kernel
theorem dX4_exchange_117 : decode cX4_exchange 117 = .ok (.getfield 12, 3) := by decide +kernel
theorem dX4_exchange_120 : decode cX4_exchange 120 = .ok (.iload 6, 2) := by decide +kernel
theorem dX4_exchange_122 : decode cX4_exchange 122 = .ok (.iload 8, 2) := by decide +kernel
theorem dX4_exchange_124 : decode cX4_exchange 124 = .ok (.invokevirtual 84, 3) := by decide +kernel
theorem dX4_exchange_127 : decode cX4_exchange 127 = .ok (.pop, 1) := by decide +kernel
theorem dX4_exchange_128 : decode cX4_exchange 128 = .ok (.aload_n 0, 1) := by decide +kernel
theorem dX4_exchange_129 : decode cX4_exchange 129 = .ok (.iconst 4, 1) := by decide +kernel
theorem dX4_exchange_130 : decode cX4_exchange 130 = .ok (.invokevirtual 98, 3) := by decide +kernel
theorem dX4_exchange_133 : decode cX4_exchange 133 = .ok (.iload 7, 2) := by decide +kernel
theorem dX4_exchange_135 : decode cX4_exchange 135 = .ok (.isub, 1) := by decide +kernel
theorem dX4_exchange_136 : decode cX4_exchange 136 = .ok (.ldc 101, 2) := by decide +kernel
theorem dX4_exchange_138 : decode cX4_exchange 138 = .ok (.iadd, 1) := by decide +kernel
theorem dX4_exchange_139 : decode cX4_exchange 139 = .ok (.ireturn, 1) := by decide +kernel
set_option maxRecDepth 20000 in
theorem ggX4_let_X4_isDay : GoodIn wsX4_let wsX4_isDay := goodIn_r _ [6, 7, 8, 5, 9] (by decide +kernel) (by decide +kernel)
set_option maxRecDepth 20000 in
theorem gX4_let_X4_isDay : GoodIn wsX4_let (va_wsS RX4 65 yX4_isDay wsX4_isDay) := goodIn_app (goodIn_of _ (by decide +kernel)) ggX4_let_X4_isDay
set_option maxRecDepth 20000 in
theorem ggX4_let_X4_isWithin : GoodIn wsX4_let wsX4_isWithin := goodIn_r _ [9] (by decide +kernel) (by decide +kernel)
set_option maxRecDepth 20000 in
theorem gX4_let_X4_isWithin : GoodIn wsX4_let (va_wsS RX4 46 yX4_isWithin wsX4_isWithin) := goodIn_app (goodIn_of _ (by decide +kernel)) ggX4_let_X4_isWithin
set_option maxRecDepth 20000 in
theorem ggX4_let_X2_record : GoodIn wsX4_let wsX2_record := goodIn_r _ [14, 15, 16, 17, 18, 19, 20, 21, 22, 23, 24, 25, 26, 27, 49, 50, 51, 52] (by decide +kernel) (by decide +kernel)
set_option maxRecDepth 20000 in
theorem gX4_let_X2_record : GoodIn wsX4_let (wsV RX4 57 RX2 yX2_record wsX2_record) := goodIn_app (goodIn_of _ (by decide +kernel)) ggX4_let_X2_record
set_option maxRecDepth 20000 in
theorem ggX4_let_X1_changeRent : GoodIn wsX4_let wsX1_changeRent := goodIn_r _ [31, 23, 52] (by decide +kernel) (by decide +kernel)
set_option maxRecDepth 20000 in
theorem gX4_let_X1_changeRent : GoodIn wsX4_let (wsV RX4 102 RX1 yX1_changeRent wsX1_changeRent) := goodIn_app (goodIn_of _ (by decide +kernel)) ggX4_let_X1_changeRent
set_option maxRecDepth 20000 in
theorem ggX4_let_X4_dropShowsOfDay : GoodIn wsX4_let wsX4_dropShowsOfDay := goodIn_r _ [35, 2, 36, 37, 5, 38, 39, 40, 41, 21, 42, 23, 43, 44, 45, 46, 47, 48, 52] (by decide +kernel) (by decide +kernel)
set_option maxRecDepth 20000 in
theorem gX4_let_X4_dropShowsOfDay : GoodIn wsX4_let (wsV RX4 106 RX4 yX4_dropShowsOfDay wsX4_dropShowsOfDay) := goodIn_app (goodIn_of _ (by decide +kernel)) ggX4_let_X4_dropShowsOfDay
theorem dX4_let_0 : decode cX4_let 0 = .ok (.iload_n 1, 1) := by decide +kernel
theorem dX4_let_1 : decode cX4_let 1 = .ok (.invokestatic 65, 3) := by decide +kernel
theorem dX4_let_4 : decode cX4_let 4 = .ok (.ifCond .eq 14, 3) := by decide +kernel
theorem dX4_let_7 : decode cX4_let 7 = .ok (.iload_n 2, 1) := by decide +kernel
theorem dX4_let_8 : decode cX4_let 8 = .ok (.iconst 0, 1) := by decide +kernel
theorem dX4_let_9 : decode cX4_let 9 = .ok (.sipush 999, 3) := by decide +kernel
theorem dX4_let_12 : decode cX4_let 12 = .ok (.invokestatic 46, 3) := by decide +kernel
theorem dX4_let_15 : decode cX4_let 15 = .ok (.ifCond .ne 6, 3) := by decide +kernel
theorem dX4_let_18 : decode cX4_let 18 = .ok (.bipush (-2), 2) := by decide +kernel
theorem dX4_let_20 : decode cX4_let 20 = .ok (.ireturn, 1) := by decide +kernel
theorem dX4_let_21 : decode cX4_let 21 = .ok (.aload_n 0, 1) := by decide +kernel
theorem dX4_let_22 : decode cX4_let 22 = .ok (.getfield 33, 3) := by decide +kernel
theorem dX4_let_25 : decode cX4_let 25 = .ok (.aload_n 0, 1) := by decide +kernel
theorem dX4_let_26 : decode cX4_let 26 = .ok (.getfield 12, 3) := by decide +kernel
theorem dX4_let_29 : decode cX4_let 29 = .ok (.invokevirtual 57, 3) := by decide +kernel
theorem dX4_let_32 : decode cX4_let 32 = .ok (.aload_n 0, 1) := by decide +kernel
theorem dX4_let_33 : decode cX4_let 33 = .ok (.getfield 12, 3) := by decide +kernel
theorem dX4_let_36 : decode cX4_let 36 = .ok (.iload_n 1, 1) := by decide +kernel
theorem dX4_let_37 : decode cX4_let 37 = .ok (.iload_n 2, 1) := by decide +kernel
theorem dX4_let_38 : decode cX4_let 38 = .ok (.invokevirtual 102, 3) := by decide +kernel
theorem dX4_let_41 : decode cX4_let 41 = .ok (.iload_n 2, 1) := by decide +kernel
theorem dX4_let_42 : decode cX4_let 42 = .ok (.ifCond .ne 7, 3) := by decide +kernel
theorem dX4_let_45 : decode cX4_let 45 = .ok (.iconst 0, 1) := by decide +kernel
theorem dX4_let_46 : decode cX4_let 46 = .ok (.goto 8, 3) := by decide +kernel
theorem dX4_let_49 : decode cX4_let 49 = .ok (.aload_n 0, 1) := by decide +kernel
theorem dX4_let_50 : decode cX4_let 50 = .ok (.iload_n 1, 1) := by decide +kernel
theorem dX4_let_51 : decode cX4_let 51 = .ok (.invokevirtual 106, 3) := by decide +kernel
theorem dX4_let_54 : decode cX4_let 54 = .ok (.ireturn, 1) := by decide +kernel
set_option maxRecDepth 20000 in
theorem ggX4_at_X4_isPlace : GoodIn wsX4_at wsX4_isPlace := goodIn_r _ [6, 7, 8, 5, 9, 10, 11, 12] (by decide +kernel) (by decide +kernel)
set_option maxRecDepth 20000 in
theorem gX4_at_X4_isPlace : GoodIn wsX4_at (va_wsS RX4 87 yX4_isPlace wsX4_isPlace) := goodIn_app (goodIn_of _ (by decide +kernel)) ggX4_at_X4_isPlace
set_option maxRecDepth 20000 in
theorem ggX4_at_X4_isWithin : GoodIn wsX4_at wsX4_isWithin := goodIn_r _ [12] (by decide +kernel) (by decide +kernel)
set_option maxRecDepth 20000 in
theorem gX4_at_X4_isWithin : GoodIn wsX4_at (va_wsS RX4 46 yX4_isWithin wsX4_isWithin) := goodIn_app (goodIn_of _ (by decide +kernel)) ggX4_at_X4_isWithin
set_option maxRecDepth 20000 in
theorem ggX4_at_X4_placeOf : GoodIn wsX4_at wsX4_placeOf := goodIn_r _ [15] (by decide +kernel) (by decide +kernel)
set_option maxRecDepth 20000 in
theorem gX4_at_X4_placeOf : GoodIn wsX4_at (va_wsS RX4 81 yX4_placeOf wsX4_placeOf) := goodIn_app (goodIn_of _ (by decide +kernel)) ggX4_at_X4_placeOf
set_option maxRecDepth 20000 in
theorem ggX4_at_X1_showAt : GoodIn wsX4_at wsX1_showAt := goodIn_r _ [20, 21, 94] (by decide +kernel) (by decide +kernel)
set_option maxRecDepth 20000 in
theorem gX4_at_X1_showAt : GoodIn wsX4_at (wsV RX4 91 RX1 yX1_showAt wsX1_showAt) := goodIn_app (goodIn_of _ (by decide +kernel)) ggX4_at_X1_showAt
set_option maxRecDepth 20000 in
theorem ggX4_at_X1_hasFilm : GoodIn wsX4_at wsX1_hasFilm := goodIn_r _ [25, 26, 27, 28, 19, 29, 21, 94] (by decide +kernel) (by decide +kernel)
set_option maxRecDepth 20000 in
theorem gX4_at_X1_hasFilm : GoodIn wsX4_at (wsV RX4 118 RX1 yX1_hasFilm wsX1_hasFilm) := goodIn_app (goodIn_of _ (by decide +kernel)) ggX4_at_X1_hasFilm
set_option maxRecDepth 20000 in
theorem ggX4_at_X0_follow : GoodIn wsX4_at wsX0_follow := goodIn_r _ [34, 35, 36, 37, 38, 39, 40, 19, 41, 21, 42, 43, 44, 33, 45, 46, 47, 48, 49, 17, 18, 20, 50, 51, 52, 53, 54, 55, 56, 57, 58, 59, 60, 61, 62, 63, 64, 65, 66, 67, 68, 69, 70, 71, 72, 73, 74, 75, 76, 77, 78, 95, 96, 97, 98, 99, 100, 94] (by decide +kernel) (by decide +kernel)
set_option maxRecDepth 20000 in
theorem gX4_at_X0_follow : GoodIn wsX4_at (wsV RX4 121 RX0 yX0_follow wsX0_follow) := goodIn_app (goodIn_of _ (by decide +kernel)) ggX4_at_X0_follow
set_option maxRecDepth 20000 in
theorem ggX4_at_X0_peopleAt : GoodIn wsX4_at wsX0_peopleAt := goodIn_r _ [82, 46, 95, 96, 97, 98, 99, 100] (by decide +kernel) (by decide +kernel)
set_option maxRecDepth 20000 in
theorem gX4_at_X0_peopleAt : GoodIn wsX4_at (wsV RX4 125 RX0 yX0_peopleAt wsX0_peopleAt) := goodIn_app (goodIn_of _ (by decide +kernel)) ggX4_at_X0_peopleAt
set_option maxRecDepth 20000 in
theorem ggX4_at_X1_setting : GoodIn wsX4_at wsX1_setting := goodIn_r _ [60, 21, 94] (by decide +kernel) (by decide +kernel)
set_option maxRecDepth 20000 in
theorem gX4_at_X1_setting : GoodIn wsX4_at (wsV RX4 128 RX1 yX1_setting wsX1_setting) := goodIn_app (goodIn_of _ (by decide +kernel)) ggX4_at_X1_setting
set_option maxRecDepth 20000 in
theorem ggX4_at_X0_leftBehind : GoodIn wsX4_at wsX0_leftBehind := goodIn_r _ [87, 47, 95, 96, 97, 98, 99, 100] (by decide +kernel) (by decide +kernel)
set_option maxRecDepth 20000 in
theorem gX4_at_X0_leftBehind : GoodIn wsX4_at (wsV RX4 131 RX0 yX0_leftBehind wsX0_leftBehind) := goodIn_app (goodIn_of _ (by decide +kernel)) ggX4_at_X0_leftBehind
theorem dX4_at_0 : decode cX4_at 0 = .ok (.iload_n 1, 1) := by decide +kernel
theorem dX4_at_1 : decode cX4_at 1 = .ok (.iload_n 2, 1) := by decide +kernel
theorem dX4_at_2 : decode cX4_at 2 = .ok (.invokestatic 87, 3) := by decide +kernel
theorem dX4_at_5 : decode cX4_at 5 = .ok (.ifCond .eq 12, 3) := by decide +kernel
theorem dX4_at_8 : decode cX4_at 8 = .ok (.iload_n 3, 1) := by decide +kernel
theorem dX4_at_9 : decode cX4_at 9 = .ok (.iconst 0, 1) := by decide +kernel
theorem dX4_at_10 : decode cX4_at 10 = .ok (.iconst 3, 1) := by decide +kernel
theorem dX4_at_11 : decode cX4_at 11 = .ok (.invokestatic 46, 3) := by decide +kernel
theorem dX4_at_14 : decode cX4_at 14 = .ok (.ifCond .ne 6, 3) := by decide +kernel
theorem dX4_at_17 : decode cX4_at 17 = .ok (.bipush (-2), 2) := by decide +kernel
theorem dX4_at_19 : decode cX4_at 19 = .ok (.ireturn, 1) := by decide +kernel
theorem dX4_at_20 : decode cX4_at 20 = .ok (.iload_n 1, 1) := by decide +kernel
theorem dX4_at_21 : decode cX4_at 21 = .ok (.iload_n 2, 1) := by decide +kernel
theorem dX4_at_22 : decode cX4_at 22 = .ok (.invokestatic 81, 3) := by decide +kernel
theorem dX4_at_25 : decode cX4_at 25 = .ok (.istore 4, 2) := by decide +kernel
theorem dX4_at_27 : decode cX4_at 27 = .ok (.aload_n 0, 1) := by decide +kernel
theorem dX4_at_28 : decode cX4_at 28 = .ok (.getfield 12, 3) := by decide +kernel
theorem dX4_at_31 : decode cX4_at 31 = .ok (.iload 4, 2) := by decide +kernel
theorem dX4_at_33 : decode cX4_at 33 = .ok (.invokevirtual 91, 3) := by decide +kernel
theorem dX4_at_36 : decode cX4_at 36 = .ok (.istore 5, 2) := by decide +kernel
theorem dX4_at_38 : decode cX4_at 38 = .ok (.aload_n 0, 1) := by decide +kernel
theorem dX4_at_39 : decode cX4_at 39 = .ok (.getfield 12, 3) := by decide +kernel
theorem dX4_at_42 : decode cX4_at 42 = .ok (.iload 5, 2) := by decide +kernel
theorem dX4_at_44 : decode cX4_at 44 = .ok (.invokevirtual 118, 3) := by decide +kernel
theorem dX4_at_47 : decode cX4_at 47 = .ok (.ifCond .ne 20, 3) := by decide +kernel
theorem dX4_at_50 : decode cX4_at 50 = .ok (.iload_n 3, 1) := by decide +kernel
theorem dX4_at_51 : decode cX4_at 51 = .ok (.iconst 1, 1) := by decide +kernel
theorem dX4_at_52 : decode cX4_at 52 = .ok (.if_icmp .eq 8, 3) := by decide +kernel
theorem dX4_at_55 : decode cX4_at 55 = .ok (.iload_n 3, 1) := by decide +kernel
theorem dX4_at_56 : decode cX4_at 56 = .ok (.iconst 2, 1) := by decide +kernel
theorem dX4_at_57 : decode cX4_at 57 = .ok (.if_icmp .ne 7, 3) := by decide +kernel
theorem dX4_at_60 : decode cX4_at 60 = .ok (.iconst 0, 1) := by decide +kernel
theorem dX4_at_61 : decode cX4_at 61 = .ok (.goto 5, 3) := by decide +kernel
theorem dX4_at_64 : decode cX4_at 64 = .ok (.bipush (-6), 2) := by decide +kernel
theorem dX4_at_66 : decode cX4_at 66 = .ok (.ireturn, 1) := by decide +kernel
theorem dX4_at_67 : decode cX4_at 67 = .ok (.aload_n 0, 1) := by decide +kernel
theorem dX4_at_68 : decode cX4_at 68 = .ok (.getfield 19, 3) := by decide +kernel
theorem dX4_at_71 : decode cX4_at 71 = .ok (.aload_n 0, 1) := by decide +kernel
theorem dX4_at_72 : decode cX4_at 72 = .ok (.getfield 12, 3) := by decide +kernel
theorem dX4_at_75 : decode cX4_at 75 = .ok (.iload 5, 2) := by decide +kernel
theorem dX4_at_77 : decode cX4_at 77 = .ok (.invokevirtual 121, 3) := by decide +kernel
theorem dX4_at_80 : decode cX4_at 80 = .ok (.iload_n 3, 1) := by decide +kernel
theorem dX4_at_81 : decode cX4_at 81 = .ok (.tableswitch 59 0 2 #[27, 30, 40], 27) := by decide +kernel
theorem dX4_at_108 : decode cX4_at 108 = .ok (.iload 5, 2) := by decide +kernel
theorem dX4_at_110 : decode cX4_at 110 = .ok (.ireturn, 1) := by decide +kernel
theorem dX4_at_111 : decode cX4_at 111 = .ok (.aload_n 0, 1) := by decide +kernel
theorem dX4_at_112 : decode cX4_at 112 = .ok (.getfield 19, 3) := by decide +kernel
theorem dX4_at_115 : decode cX4_at 115 = .ok (.iload 4, 2) := by decide +kernel
theorem dX4_at_117 : decode cX4_at 117 = .ok (.invokevirtual 125, 3) := by decide +kernel

theorem in_X0_init_X0 : ∀ x ∈ u_ws RX0 TX0 6, x ∈ wsX0_init := fun x h => List.mem_cons_of_mem _ (List.mem_append_right _ h)
set_option maxRecDepth 20000 in
theorem fl_X0_init_X0_0 : Cond.fieldLink RX0 9 (TX0 0).1 (TX0 0).2.1 (TX0 0).2.2.1 ∈ wsX0_init := by decide +kernel
set_option maxRecDepth 20000 in
theorem fl_X0_init_X0_1 : Cond.fieldLink RX0 15 (TX0 1).1 (TX0 1).2.1 (TX0 1).2.2.1 ∈ wsX0_init := by decide +kernel
set_option maxRecDepth 20000 in
theorem fl_X0_init_X0_2 : Cond.fieldLink RX0 18 (TX0 2).1 (TX0 2).2.1 (TX0 2).2.2.1 ∈ wsX0_init := by decide +kernel
set_option maxRecDepth 20000 in
theorem fl_X0_init_X0_3 : Cond.fieldLink RX0 21 (TX0 3).1 (TX0 3).2.1 (TX0 3).2.2.1 ∈ wsX0_init := by decide +kernel
theorem in_X0_follow_X0 : ∀ x ∈ u_ws RX0 TX0 6, x ∈ wsX0_follow := fun x h => List.mem_cons_of_mem _ (List.mem_append_left _ (List.mem_append_right _ h))
set_option maxRecDepth 20000 in
theorem fl_X0_follow_X0_0 : Cond.fieldLink RX0 9 (TX0 0).1 (TX0 0).2.1 (TX0 0).2.2.1 ∈ wsX0_follow := by decide +kernel
set_option maxRecDepth 20000 in
theorem fl_X0_follow_X0_1 : Cond.fieldLink RX0 15 (TX0 1).1 (TX0 1).2.1 (TX0 1).2.2.1 ∈ wsX0_follow := by decide +kernel
set_option maxRecDepth 20000 in
theorem fl_X0_follow_X0_2 : Cond.fieldLink RX0 18 (TX0 2).1 (TX0 2).2.1 (TX0 2).2.2.1 ∈ wsX0_follow := by decide +kernel
set_option maxRecDepth 20000 in
theorem fl_X0_follow_X0_3 : Cond.fieldLink RX0 21 (TX0 3).1 (TX0 3).2.1 (TX0 3).2.2.1 ∈ wsX0_follow := by decide +kernel
set_option maxRecDepth 20000 in
theorem fl_X0_follow_X0_4 : Cond.fieldLink RX0 30 (TX0 4).1 (TX0 4).2.1 (TX0 4).2.2.1 ∈ wsX0_follow := by decide +kernel
set_option maxRecDepth 20000 in
theorem fl_X0_follow_X0_5 : Cond.fieldLink RX0 49 (TX0 5).1 (TX0 5).2.1 (TX0 5).2.2.1 ∈ wsX0_follow := by decide +kernel
set_option maxRecDepth 20000 in
theorem ma_X0_follow_min_0 : Cond.methodLink RX0 63 Lib.Math.min.name ∈ wsX0_follow := by decide +kernel
set_option maxRecDepth 20000 in
theorem ma_X0_follow_min_1 : Cond.static Lib.Math.min.name ∈ wsX0_follow := by decide +kernel
set_option maxRecDepth 20000 in
theorem ma_X0_follow_min_2 : Cond.initialized "java/lang/Math" ∈ wsX0_follow := by decide +kernel
set_option maxRecDepth 20000 in
theorem ma_X0_follow_min_3 : Cond.code Lib.Math.min.name Lib.Math.min.code 2 (some .int) ∈ wsX0_follow := by decide +kernel
set_option maxRecDepth 20000 in
theorem ma_X0_follow_max_0 : Cond.methodLink RX0 68 Lib.Math.max.name ∈ wsX0_follow := by decide +kernel
set_option maxRecDepth 20000 in
theorem ma_X0_follow_max_1 : Cond.static Lib.Math.max.name ∈ wsX0_follow := by decide +kernel
set_option maxRecDepth 20000 in
theorem ma_X0_follow_max_2 : Cond.initialized "java/lang/Math" ∈ wsX0_follow := by decide +kernel
set_option maxRecDepth 20000 in
theorem ma_X0_follow_max_3 : Cond.code Lib.Math.max.name Lib.Math.max.code 2 (some .int) ∈ wsX0_follow := by decide +kernel
theorem in_X0_followWeek_X0 : ∀ x ∈ u_ws RX0 TX0 6, x ∈ wsX0_followWeek := fun x h => List.mem_cons_of_mem _ (List.mem_append_left _ (List.mem_append_right _ h))
set_option maxRecDepth 20000 in
theorem fl_X0_followWeek_X0_0 : Cond.fieldLink RX0 9 (TX0 0).1 (TX0 0).2.1 (TX0 0).2.2.1 ∈ wsX0_followWeek := by decide +kernel
set_option maxRecDepth 20000 in
theorem fl_X0_followWeek_X0_1 : Cond.fieldLink RX0 15 (TX0 1).1 (TX0 1).2.1 (TX0 1).2.2.1 ∈ wsX0_followWeek := by decide +kernel
set_option maxRecDepth 20000 in
theorem fl_X0_followWeek_X0_2 : Cond.fieldLink RX0 18 (TX0 2).1 (TX0 2).2.1 (TX0 2).2.2.1 ∈ wsX0_followWeek := by decide +kernel
set_option maxRecDepth 20000 in
theorem fl_X0_followWeek_X0_4 : Cond.fieldLink RX0 30 (TX0 4).1 (TX0 4).2.1 (TX0 4).2.2.1 ∈ wsX0_followWeek := by decide +kernel
set_option maxRecDepth 20000 in
theorem ma_X0_followWeek_min_0 : Cond.methodLink RX0 63 Lib.Math.min.name ∈ wsX0_followWeek := by decide +kernel
set_option maxRecDepth 20000 in
theorem ma_X0_followWeek_min_1 : Cond.static Lib.Math.min.name ∈ wsX0_followWeek := by decide +kernel
set_option maxRecDepth 20000 in
theorem ma_X0_followWeek_min_2 : Cond.initialized "java/lang/Math" ∈ wsX0_followWeek := by decide +kernel
set_option maxRecDepth 20000 in
theorem ma_X0_followWeek_min_3 : Cond.code Lib.Math.min.name Lib.Math.min.code 2 (some .int) ∈ wsX0_followWeek := by decide +kernel
set_option maxRecDepth 20000 in
theorem ma_X0_peopleOf_min_0 : Cond.methodLink RX0 63 Lib.Math.min.name ∈ wsX0_peopleOf := by decide +kernel
set_option maxRecDepth 20000 in
theorem ma_X0_peopleOf_min_1 : Cond.static Lib.Math.min.name ∈ wsX0_peopleOf := by decide +kernel
set_option maxRecDepth 20000 in
theorem ma_X0_peopleOf_min_2 : Cond.initialized "java/lang/Math" ∈ wsX0_peopleOf := by decide +kernel
set_option maxRecDepth 20000 in
theorem ma_X0_peopleOf_min_3 : Cond.code Lib.Math.min.name Lib.Math.min.code 2 (some .int) ∈ wsX0_peopleOf := by decide +kernel
set_option maxRecDepth 20000 in
theorem ma_X0_nextShare_max_0 : Cond.methodLink RX0 68 Lib.Math.max.name ∈ wsX0_nextShare := by decide +kernel
set_option maxRecDepth 20000 in
theorem ma_X0_nextShare_max_1 : Cond.static Lib.Math.max.name ∈ wsX0_nextShare := by decide +kernel
set_option maxRecDepth 20000 in
theorem ma_X0_nextShare_max_2 : Cond.initialized "java/lang/Math" ∈ wsX0_nextShare := by decide +kernel
set_option maxRecDepth 20000 in
theorem ma_X0_nextShare_max_3 : Cond.code Lib.Math.max.name Lib.Math.max.code 2 (some .int) ∈ wsX0_nextShare := by decide +kernel
theorem in_X0_reckonWeek_X0 : ∀ x ∈ u_ws RX0 TX0 6, x ∈ wsX0_reckonWeek := fun x h => List.mem_cons_of_mem _ (List.mem_append_left _ (List.mem_append_right _ h))
set_option maxRecDepth 20000 in
theorem fl_X0_reckonWeek_X0_2 : Cond.fieldLink RX0 18 (TX0 2).1 (TX0 2).2.1 (TX0 2).2.2.1 ∈ wsX0_reckonWeek := by decide +kernel
set_option maxRecDepth 20000 in
theorem fl_X0_reckonWeek_X0_3 : Cond.fieldLink RX0 21 (TX0 3).1 (TX0 3).2.1 (TX0 3).2.2.1 ∈ wsX0_reckonWeek := by decide +kernel
set_option maxRecDepth 20000 in
theorem ma_X0_reckonWeek_max_0 : Cond.methodLink RX0 68 Lib.Math.max.name ∈ wsX0_reckonWeek := by decide +kernel
set_option maxRecDepth 20000 in
theorem ma_X0_reckonWeek_max_1 : Cond.static Lib.Math.max.name ∈ wsX0_reckonWeek := by decide +kernel
set_option maxRecDepth 20000 in
theorem ma_X0_reckonWeek_max_2 : Cond.initialized "java/lang/Math" ∈ wsX0_reckonWeek := by decide +kernel
set_option maxRecDepth 20000 in
theorem ma_X0_reckonWeek_max_3 : Cond.code Lib.Math.max.name Lib.Math.max.code 2 (some .int) ∈ wsX0_reckonWeek := by decide +kernel
theorem in_X0_shareOfTakings_X0 : ∀ x ∈ u_ws RX0 TX0 6, x ∈ wsX0_shareOfTakings := fun x h => List.mem_cons_of_mem _ (List.mem_append_right _ h)
set_option maxRecDepth 20000 in
theorem fl_X0_shareOfTakings_X0_2 : Cond.fieldLink RX0 18 (TX0 2).1 (TX0 2).2.1 (TX0 2).2.2.1 ∈ wsX0_shareOfTakings := by decide +kernel
set_option maxRecDepth 20000 in
theorem fl_X0_shareOfTakings_X0_3 : Cond.fieldLink RX0 21 (TX0 3).1 (TX0 3).2.1 (TX0 3).2.2.1 ∈ wsX0_shareOfTakings := by decide +kernel
theorem in_X0_dueAboveShare_X0 : ∀ x ∈ u_ws RX0 TX0 6, x ∈ wsX0_dueAboveShare := fun x h => List.mem_cons_of_mem _ (List.mem_append_right _ h)
set_option maxRecDepth 20000 in
theorem fl_X0_dueAboveShare_X0_2 : Cond.fieldLink RX0 18 (TX0 2).1 (TX0 2).2.1 (TX0 2).2.2.1 ∈ wsX0_dueAboveShare := by decide +kernel
set_option maxRecDepth 20000 in
theorem fl_X0_dueAboveShare_X0_3 : Cond.fieldLink RX0 21 (TX0 3).1 (TX0 3).2.1 (TX0 3).2.2.1 ∈ wsX0_dueAboveShare := by decide +kernel
theorem in_X0_sumOfWeek_X0 : ∀ x ∈ u_ws RX0 TX0 6, x ∈ wsX0_sumOfWeek := fun x h => List.mem_cons_of_mem _ (List.mem_append_right _ h)
set_option maxRecDepth 20000 in
theorem fl_X0_sumOfWeek_X0_2 : Cond.fieldLink RX0 18 (TX0 2).1 (TX0 2).2.1 (TX0 2).2.2.1 ∈ wsX0_sumOfWeek := by decide +kernel
theorem in_X0_sum_X0 : ∀ x ∈ u_ws RX0 TX0 6, x ∈ wsX0_sum := fun x h => List.mem_cons_of_mem _ (List.mem_append_right _ h)
set_option maxRecDepth 20000 in
theorem fl_X0_sum_X0_2 : Cond.fieldLink RX0 18 (TX0 2).1 (TX0 2).2.1 (TX0 2).2.2.1 ∈ wsX0_sum := by decide +kernel
theorem in_X0_shareIn_X0 : ∀ x ∈ u_ws RX0 TX0 6, x ∈ wsX0_shareIn := fun x h => List.mem_cons_of_mem _ (List.mem_append_right _ h)
set_option maxRecDepth 20000 in
theorem fl_X0_shareIn_X0_3 : Cond.fieldLink RX0 21 (TX0 3).1 (TX0 3).2.1 (TX0 3).2.2.1 ∈ wsX0_shareIn := by decide +kernel
theorem in_X0_peopleAt_X0 : ∀ x ∈ u_ws RX0 TX0 6, x ∈ wsX0_peopleAt := fun x h => List.mem_cons_of_mem _ (List.mem_append_right _ h)
set_option maxRecDepth 20000 in
theorem fl_X0_peopleAt_X0_0 : Cond.fieldLink RX0 9 (TX0 0).1 (TX0 0).2.1 (TX0 0).2.2.1 ∈ wsX0_peopleAt := by decide +kernel
theorem in_X0_leftBehind_X0 : ∀ x ∈ u_ws RX0 TX0 6, x ∈ wsX0_leftBehind := fun x h => List.mem_cons_of_mem _ (List.mem_append_right _ h)
set_option maxRecDepth 20000 in
theorem fl_X0_leftBehind_X0_1 : Cond.fieldLink RX0 15 (TX0 1).1 (TX0 1).2.1 (TX0 1).2.2.1 ∈ wsX0_leftBehind := by decide +kernel
theorem in_X0_fullShows_X0 : ∀ x ∈ u_ws RX0 TX0 6, x ∈ wsX0_fullShows := fun x h => List.mem_cons_of_mem _ (List.mem_append_right _ h)
set_option maxRecDepth 20000 in
theorem fl_X0_fullShows_X0_4 : Cond.fieldLink RX0 30 (TX0 4).1 (TX0 4).2.1 (TX0 4).2.2.1 ∈ wsX0_fullShows := by decide +kernel
theorem in_X0_leftAtEnd_X0 : ∀ x ∈ u_ws RX0 TX0 6, x ∈ wsX0_leftAtEnd := fun x h => List.mem_cons_of_mem _ (List.mem_append_right _ h)
set_option maxRecDepth 20000 in
theorem fl_X0_leftAtEnd_X0_5 : Cond.fieldLink RX0 49 (TX0 5).1 (TX0 5).2.1 (TX0 5).2.2.1 ∈ wsX0_leftAtEnd := by decide +kernel
theorem in_X1_init_X1 : ∀ x ∈ u_ws RX1 TX1 1, x ∈ wsX1_init := fun x h => List.mem_cons_of_mem _ (List.mem_append_right _ h)
set_option maxRecDepth 20000 in
theorem fl_X1_init_X1_0 : Cond.fieldLink RX1 11 (TX1 0).1 (TX1 0).2.1 (TX1 0).2.2.1 ∈ wsX1_init := by decide +kernel
set_option maxRecDepth 20000 in
theorem cp_X1_init_0 : Cond.methodLink RX1 18 arraycopyName ∈ wsX1_init := by decide +kernel
set_option maxRecDepth 20000 in
theorem cp_X1_init_1 : Cond.native arraycopyName ∈ wsX1_init := by decide +kernel
set_option maxRecDepth 20000 in
theorem cp_X1_init_2 : Cond.static arraycopyName ∈ wsX1_init := by decide +kernel
set_option maxRecDepth 20000 in
theorem cp_X1_init_3 : Cond.initialized "java/lang/System" ∈ wsX1_init := by decide +kernel
theorem in_X1_copyTo_X1 : ∀ x ∈ u_ws RX1 TX1 1, x ∈ wsX1_copyTo := fun x h => List.mem_cons_of_mem _ (List.mem_append_right _ h)
set_option maxRecDepth 20000 in
theorem fl_X1_copyTo_X1_0 : Cond.fieldLink RX1 11 (TX1 0).1 (TX1 0).2.1 (TX1 0).2.2.1 ∈ wsX1_copyTo := by decide +kernel
set_option maxRecDepth 20000 in
theorem cp_X1_copyTo_0 : Cond.methodLink RX1 18 arraycopyName ∈ wsX1_copyTo := by decide +kernel
set_option maxRecDepth 20000 in
theorem cp_X1_copyTo_1 : Cond.native arraycopyName ∈ wsX1_copyTo := by decide +kernel
set_option maxRecDepth 20000 in
theorem cp_X1_copyTo_2 : Cond.static arraycopyName ∈ wsX1_copyTo := by decide +kernel
set_option maxRecDepth 20000 in
theorem cp_X1_copyTo_3 : Cond.initialized "java/lang/System" ∈ wsX1_copyTo := by decide +kernel
theorem in_X1_setting_X1 : ∀ x ∈ u_ws RX1 TX1 1, x ∈ wsX1_setting := fun x h => List.mem_cons_of_mem _ (List.mem_append_right _ h)
set_option maxRecDepth 20000 in
theorem fl_X1_setting_X1_0 : Cond.fieldLink RX1 11 (TX1 0).1 (TX1 0).2.1 (TX1 0).2.2.1 ∈ wsX1_setting := by decide +kernel
theorem in_X1_changeSetting_X1 : ∀ x ∈ u_ws RX1 TX1 1, x ∈ wsX1_changeSetting := fun x h => List.mem_cons_of_mem _ (List.mem_append_right _ h)
set_option maxRecDepth 20000 in
theorem fl_X1_changeSetting_X1_0 : Cond.fieldLink RX1 11 (TX1 0).1 (TX1 0).2.1 (TX1 0).2.2.1 ∈ wsX1_changeSetting := by decide +kernel
theorem in_X1_films_X1 : ∀ x ∈ u_ws RX1 TX1 1, x ∈ wsX1_films := fun x h => List.mem_cons_of_mem _ (List.mem_append_right _ h)
set_option maxRecDepth 20000 in
theorem fl_X1_films_X1_0 : Cond.fieldLink RX1 11 (TX1 0).1 (TX1 0).2.1 (TX1 0).2.2.1 ∈ wsX1_films := by decide +kernel
theorem in_X1_hasFilm_X1 : ∀ x ∈ u_ws RX1 TX1 1, x ∈ wsX1_hasFilm := fun x h => List.mem_cons_of_mem _ (List.mem_append_right _ h)
set_option maxRecDepth 20000 in
theorem fl_X1_hasFilm_X1_0 : Cond.fieldLink RX1 11 (TX1 0).1 (TX1 0).2.1 (TX1 0).2.2.1 ∈ wsX1_hasFilm := by decide +kernel
theorem in_X1_addFilm_X1 : ∀ x ∈ u_ws RX1 TX1 1, x ∈ wsX1_addFilm := fun x h => List.mem_cons_of_mem _ (List.mem_append_right _ h)
set_option maxRecDepth 20000 in
theorem fl_X1_addFilm_X1_0 : Cond.fieldLink RX1 11 (TX1 0).1 (TX1 0).2.1 (TX1 0).2.2.1 ∈ wsX1_addFilm := by decide +kernel
theorem in_X1_fact_X1 : ∀ x ∈ u_ws RX1 TX1 1, x ∈ wsX1_fact := fun x h => List.mem_cons_of_mem _ (List.mem_append_right _ h)
set_option maxRecDepth 20000 in
theorem fl_X1_fact_X1_0 : Cond.fieldLink RX1 11 (TX1 0).1 (TX1 0).2.1 (TX1 0).2.2.1 ∈ wsX1_fact := by decide +kernel
theorem in_X1_showAt_X1 : ∀ x ∈ u_ws RX1 TX1 1, x ∈ wsX1_showAt := fun x h => List.mem_cons_of_mem _ (List.mem_append_right _ h)
set_option maxRecDepth 20000 in
theorem fl_X1_showAt_X1_0 : Cond.fieldLink RX1 11 (TX1 0).1 (TX1 0).2.1 (TX1 0).2.2.1 ∈ wsX1_showAt := by decide +kernel
theorem in_X1_replaceShow_X1 : ∀ x ∈ u_ws RX1 TX1 1, x ∈ wsX1_replaceShow := fun x h => List.mem_cons_of_mem _ (List.mem_append_right _ h)
set_option maxRecDepth 20000 in
theorem fl_X1_replaceShow_X1_0 : Cond.fieldLink RX1 11 (TX1 0).1 (TX1 0).2.1 (TX1 0).2.2.1 ∈ wsX1_replaceShow := by decide +kernel
theorem in_X1_canHold_X1 : ∀ x ∈ u_ws RX1 TX1 1, x ∈ wsX1_canHold := fun x h => List.mem_cons_of_mem _ (List.mem_append_right _ h)
set_option maxRecDepth 20000 in
theorem fl_X1_canHold_X1_0 : Cond.fieldLink RX1 11 (TX1 0).1 (TX1 0).2.1 (TX1 0).2.2.1 ∈ wsX1_canHold := by decide +kernel
theorem in_X1_firstDayShown_X1 : ∀ x ∈ u_ws RX1 TX1 1, x ∈ wsX1_firstDayShown := fun x h => List.mem_cons_of_mem _ (List.mem_append_right _ h)
set_option maxRecDepth 20000 in
theorem fl_X1_firstDayShown_X1_0 : Cond.fieldLink RX1 11 (TX1 0).1 (TX1 0).2.1 (TX1 0).2.2.1 ∈ wsX1_firstDayShown := by decide +kernel
theorem in_X1_rentOf_X1 : ∀ x ∈ u_ws RX1 TX1 1, x ∈ wsX1_rentOf := fun x h => List.mem_cons_of_mem _ (List.mem_append_right _ h)
set_option maxRecDepth 20000 in
theorem fl_X1_rentOf_X1_0 : Cond.fieldLink RX1 11 (TX1 0).1 (TX1 0).2.1 (TX1 0).2.2.1 ∈ wsX1_rentOf := by decide +kernel
theorem in_X1_changeRent_X1 : ∀ x ∈ u_ws RX1 TX1 1, x ∈ wsX1_changeRent := fun x h => List.mem_cons_of_mem _ (List.mem_append_right _ h)
set_option maxRecDepth 20000 in
theorem fl_X1_changeRent_X1_0 : Cond.fieldLink RX1 11 (TX1 0).1 (TX1 0).2.1 (TX1 0).2.2.1 ∈ wsX1_changeRent := by decide +kernel
theorem in_X1_rentsOf_X1 : ∀ x ∈ u_ws RX1 TX1 1, x ∈ wsX1_rentsOf := fun x h => List.mem_cons_of_mem _ (List.mem_append_right _ h)
set_option maxRecDepth 20000 in
theorem fl_X1_rentsOf_X1_0 : Cond.fieldLink RX1 11 (TX1 0).1 (TX1 0).2.1 (TX1 0).2.2.1 ∈ wsX1_rentsOf := by decide +kernel
theorem in_X2_init_X2 : ∀ x ∈ u_ws RX2 TX2 3, x ∈ wsX2_init := fun x h => List.mem_cons_of_mem _ (List.mem_append_right _ h)
set_option maxRecDepth 20000 in
theorem fl_X2_init_X2_0 : Cond.fieldLink RX2 13 (TX2 0).1 (TX2 0).2.1 (TX2 0).2.2.1 ∈ wsX2_init := by decide +kernel
theorem in_X2_size_X2 : ∀ x ∈ u_ws RX2 TX2 3, x ∈ wsX2_size := fun x h => List.mem_cons_of_mem _ (List.mem_append_right _ h)
set_option maxRecDepth 20000 in
theorem fl_X2_size_X2_2 : Cond.fieldLink RX2 16 (TX2 2).1 (TX2 2).2.1 (TX2 2).2.2.1 ∈ wsX2_size := by decide +kernel
theorem in_X2_record_X2 : ∀ x ∈ u_ws RX2 TX2 3, x ∈ wsX2_record := fun x h => List.mem_cons_of_mem _ (List.mem_append_left _ (List.mem_append_right _ h))
set_option maxRecDepth 20000 in
theorem fl_X2_record_X2_0 : Cond.fieldLink RX2 13 (TX2 0).1 (TX2 0).2.1 (TX2 0).2.2.1 ∈ wsX2_record := by decide +kernel
set_option maxRecDepth 20000 in
theorem fl_X2_record_X2_2 : Cond.fieldLink RX2 16 (TX2 2).1 (TX2 2).2.1 (TX2 2).2.2.1 ∈ wsX2_record := by decide +kernel
set_option maxRecDepth 20000 in
theorem fl_X2_record_X2_1 : Cond.fieldLink RX2 20 (TX2 1).1 (TX2 1).2.1 (TX2 1).2.2.1 ∈ wsX2_record := by decide +kernel
theorem in_X3_init_X3 : ∀ x ∈ u_ws RX3 TX3 2, x ∈ wsX3_init := fun x h => List.mem_cons_of_mem _ (List.mem_append_right _ h)
set_option maxRecDepth 20000 in
theorem fl_X3_init_X3_0 : Cond.fieldLink RX3 11 (TX3 0).1 (TX3 0).2.1 (TX3 0).2.2.1 ∈ wsX3_init := by decide +kernel
theorem in_X3_length_X3 : ∀ x ∈ u_ws RX3 TX3 2, x ∈ wsX3_length := fun x h => List.mem_cons_of_mem _ (List.mem_append_right _ h)
set_option maxRecDepth 20000 in
theorem fl_X3_length_X3_1 : Cond.fieldLink RX3 15 (TX3 1).1 (TX3 1).2.1 (TX3 1).2.2.1 ∈ wsX3_length := by decide +kernel
theorem in_X4_init_X4 : ∀ x ∈ u_ws RX4 TX4 6, x ∈ wsX4_init := fun x h => List.mem_cons_of_mem _ (List.mem_append_left _ (List.mem_append_left _ (List.mem_append_left _ (List.mem_append_right _ h))))
set_option maxRecDepth 20000 in
theorem fl_X4_init_X4_0 : Cond.fieldLink RX4 12 (TX4 0).1 (TX4 0).2.1 (TX4 0).2.2.1 ∈ wsX4_init := by decide +kernel
set_option maxRecDepth 20000 in
theorem fl_X4_init_X4_1 : Cond.fieldLink RX4 19 (TX4 1).1 (TX4 1).2.1 (TX4 1).2.2.1 ∈ wsX4_init := by decide +kernel
set_option maxRecDepth 20000 in
theorem fl_X4_init_X4_2 : Cond.fieldLink RX4 26 (TX4 2).1 (TX4 2).2.1 (TX4 2).2.2.1 ∈ wsX4_init := by decide +kernel
set_option maxRecDepth 20000 in
theorem fl_X4_init_X4_3 : Cond.fieldLink RX4 33 (TX4 3).1 (TX4 3).2.1 (TX4 3).2.2.1 ∈ wsX4_init := by decide +kernel
set_option maxRecDepth 20000 in
theorem fl_X4_init_X4_4 : Cond.fieldLink RX4 39 (TX4 4).1 (TX4 4).2.1 (TX4 4).2.2.1 ∈ wsX4_init := by decide +kernel
set_option maxRecDepth 20000 in
theorem fl_X4_init_X4_5 : Cond.fieldLink RX4 42 (TX4 5).1 (TX4 5).2.1 (TX4 5).2.2.1 ∈ wsX4_init := by decide +kernel
theorem in_X4_set_X4 : ∀ x ∈ u_ws RX4 TX4 6, x ∈ wsX4_set := fun x h => List.mem_cons_of_mem _ (List.mem_append_left _ (List.mem_append_left _ (List.mem_append_right _ h)))
set_option maxRecDepth 20000 in
theorem fl_X4_set_X4_0 : Cond.fieldLink RX4 12 (TX4 0).1 (TX4 0).2.1 (TX4 0).2.2.1 ∈ wsX4_set := by decide +kernel
set_option maxRecDepth 20000 in
theorem fl_X4_set_X4_3 : Cond.fieldLink RX4 33 (TX4 3).1 (TX4 3).2.1 (TX4 3).2.2.1 ∈ wsX4_set := by decide +kernel
theorem in_X4_film_X4 : ∀ x ∈ u_ws RX4 TX4 6, x ∈ wsX4_film := fun x h => List.mem_cons_of_mem _ (List.mem_append_left _ (List.mem_append_left _ (List.mem_append_right _ h)))
set_option maxRecDepth 20000 in
theorem fl_X4_film_X4_0 : Cond.fieldLink RX4 12 (TX4 0).1 (TX4 0).2.1 (TX4 0).2.2.1 ∈ wsX4_film := by decide +kernel
set_option maxRecDepth 20000 in
theorem fl_X4_film_X4_3 : Cond.fieldLink RX4 33 (TX4 3).1 (TX4 3).2.1 (TX4 3).2.2.1 ∈ wsX4_film := by decide +kernel
theorem in_X4_show_X4 : ∀ x ∈ u_ws RX4 TX4 6, x ∈ wsX4_show := fun x h => List.mem_cons_of_mem _ (List.mem_append_left _ (List.mem_append_left _ (List.mem_append_right _ h)))
set_option maxRecDepth 20000 in
theorem fl_X4_show_X4_0 : Cond.fieldLink RX4 12 (TX4 0).1 (TX4 0).2.1 (TX4 0).2.2.1 ∈ wsX4_show := by decide +kernel
set_option maxRecDepth 20000 in
theorem fl_X4_show_X4_3 : Cond.fieldLink RX4 33 (TX4 3).1 (TX4 3).2.1 (TX4 3).2.2.1 ∈ wsX4_show := by decide +kernel
theorem in_X4_drop_X4 : ∀ x ∈ u_ws RX4 TX4 6, x ∈ wsX4_drop := fun x h => List.mem_cons_of_mem _ (List.mem_append_left _ (List.mem_append_left _ (List.mem_append_right _ h)))
set_option maxRecDepth 20000 in
theorem fl_X4_drop_X4_0 : Cond.fieldLink RX4 12 (TX4 0).1 (TX4 0).2.1 (TX4 0).2.2.1 ∈ wsX4_drop := by decide +kernel
set_option maxRecDepth 20000 in
theorem fl_X4_drop_X4_3 : Cond.fieldLink RX4 33 (TX4 3).1 (TX4 3).2.1 (TX4 3).2.2.1 ∈ wsX4_drop := by decide +kernel
theorem in_X4_exchange_X4 : ∀ x ∈ u_ws RX4 TX4 6, x ∈ wsX4_exchange := fun x h => List.mem_cons_of_mem _ (List.mem_append_left _ (List.mem_append_left _ (List.mem_append_left _ (List.mem_append_right _ h))))
set_option maxRecDepth 20000 in
theorem fl_X4_exchange_X4_0 : Cond.fieldLink RX4 12 (TX4 0).1 (TX4 0).2.1 (TX4 0).2.2.1 ∈ wsX4_exchange := by decide +kernel
set_option maxRecDepth 20000 in
theorem fl_X4_exchange_X4_1 : Cond.fieldLink RX4 19 (TX4 1).1 (TX4 1).2.1 (TX4 1).2.2.1 ∈ wsX4_exchange := by decide +kernel
set_option maxRecDepth 20000 in
theorem fl_X4_exchange_X4_3 : Cond.fieldLink RX4 33 (TX4 3).1 (TX4 3).2.1 (TX4 3).2.2.1 ∈ wsX4_exchange := by decide +kernel
set_option maxRecDepth 20000 in
theorem ct_X4_exchange_101 : Cond.constant RX4 101 (1000000) ∈ wsX4_exchange := by decide +kernel
theorem in_X4_let_X4 : ∀ x ∈ u_ws RX4 TX4 6, x ∈ wsX4_let := fun x h => List.mem_cons_of_mem _ (List.mem_append_left _ (List.mem_append_left _ (List.mem_append_right _ h)))
set_option maxRecDepth 20000 in
theorem fl_X4_let_X4_0 : Cond.fieldLink RX4 12 (TX4 0).1 (TX4 0).2.1 (TX4 0).2.2.1 ∈ wsX4_let := by decide +kernel
set_option maxRecDepth 20000 in
theorem fl_X4_let_X4_3 : Cond.fieldLink RX4 33 (TX4 3).1 (TX4 3).2.1 (TX4 3).2.2.1 ∈ wsX4_let := by decide +kernel
theorem in_X4_at_X4 : ∀ x ∈ u_ws RX4 TX4 6, x ∈ wsX4_at := fun x h => List.mem_cons_of_mem _ (List.mem_append_left _ (List.mem_append_left _ (List.mem_append_right _ h)))
set_option maxRecDepth 20000 in
theorem fl_X4_at_X4_0 : Cond.fieldLink RX4 12 (TX4 0).1 (TX4 0).2.1 (TX4 0).2.2.1 ∈ wsX4_at := by decide +kernel
set_option maxRecDepth 20000 in
theorem fl_X4_at_X4_1 : Cond.fieldLink RX4 19 (TX4 1).1 (TX4 1).2.1 (TX4 1).2.2.1 ∈ wsX4_at := by decide +kernel
theorem in_X4_of_X4 : ∀ x ∈ u_ws RX4 TX4 6, x ∈ wsX4_of := fun x h => List.mem_cons_of_mem _ (List.mem_append_left _ (List.mem_append_left _ (List.mem_append_right _ h)))
set_option maxRecDepth 20000 in
theorem fl_X4_of_X4_0 : Cond.fieldLink RX4 12 (TX4 0).1 (TX4 0).2.1 (TX4 0).2.2.1 ∈ wsX4_of := by decide +kernel
set_option maxRecDepth 20000 in
theorem fl_X4_of_X4_1 : Cond.fieldLink RX4 19 (TX4 1).1 (TX4 1).2.1 (TX4 1).2.2.1 ∈ wsX4_of := by decide +kernel
theorem in_X4_inWeek_X4 : ∀ x ∈ u_ws RX4 TX4 6, x ∈ wsX4_inWeek := fun x h => List.mem_cons_of_mem _ (List.mem_append_left _ (List.mem_append_left _ (List.mem_append_right _ h)))
set_option maxRecDepth 20000 in
theorem fl_X4_inWeek_X4_0 : Cond.fieldLink RX4 12 (TX4 0).1 (TX4 0).2.1 (TX4 0).2.2.1 ∈ wsX4_inWeek := by decide +kernel
set_option maxRecDepth 20000 in
theorem fl_X4_inWeek_X4_1 : Cond.fieldLink RX4 19 (TX4 1).1 (TX4 1).2.1 (TX4 1).2.2.1 ∈ wsX4_inWeek := by decide +kernel
theorem in_X4_week_X4 : ∀ x ∈ u_ws RX4 TX4 6, x ∈ wsX4_week := fun x h => List.mem_cons_of_mem _ (List.mem_append_left _ (List.mem_append_left _ (List.mem_append_right _ h)))
set_option maxRecDepth 20000 in
theorem fl_X4_week_X4_0 : Cond.fieldLink RX4 12 (TX4 0).1 (TX4 0).2.1 (TX4 0).2.2.1 ∈ wsX4_week := by decide +kernel
set_option maxRecDepth 20000 in
theorem fl_X4_week_X4_1 : Cond.fieldLink RX4 19 (TX4 1).1 (TX4 1).2.1 (TX4 1).2.2.1 ∈ wsX4_week := by decide +kernel
set_option maxRecDepth 20000 in
theorem ct_X4_week_101 : Cond.constant RX4 101 (1000000) ∈ wsX4_week := by decide +kernel
theorem in_X4_rent_X4 : ∀ x ∈ u_ws RX4 TX4 6, x ∈ wsX4_rent := fun x h => List.mem_cons_of_mem _ (List.mem_append_left _ (List.mem_append_right _ h))
set_option maxRecDepth 20000 in
theorem fl_X4_rent_X4_0 : Cond.fieldLink RX4 12 (TX4 0).1 (TX4 0).2.1 (TX4 0).2.2.1 ∈ wsX4_rent := by decide +kernel
theorem in_X4_count_X4 : ∀ x ∈ u_ws RX4 TX4 6, x ∈ wsX4_count := fun x h => List.mem_cons_of_mem _ (List.mem_append_left _ (List.mem_append_left _ (List.mem_append_left _ (List.mem_append_left _ (List.mem_append_right _ h)))))
set_option maxRecDepth 20000 in
theorem fl_X4_count_X4_0 : Cond.fieldLink RX4 12 (TX4 0).1 (TX4 0).2.1 (TX4 0).2.2.1 ∈ wsX4_count := by decide +kernel
set_option maxRecDepth 20000 in
theorem fl_X4_count_X4_1 : Cond.fieldLink RX4 19 (TX4 1).1 (TX4 1).2.1 (TX4 1).2.2.1 ∈ wsX4_count := by decide +kernel
set_option maxRecDepth 20000 in
theorem fl_X4_count_X4_2 : Cond.fieldLink RX4 26 (TX4 2).1 (TX4 2).2.1 (TX4 2).2.2.1 ∈ wsX4_count := by decide +kernel
set_option maxRecDepth 20000 in
theorem fl_X4_count_X4_3 : Cond.fieldLink RX4 33 (TX4 3).1 (TX4 3).2.1 (TX4 3).2.2.1 ∈ wsX4_count := by decide +kernel
set_option maxRecDepth 20000 in
theorem ct_X4_count_101 : Cond.constant RX4 101 (1000000) ∈ wsX4_count := by decide +kernel
theorem in_X4_ifShown_X4 : ∀ x ∈ u_ws RX4 TX4 6, x ∈ wsX4_ifShown := fun x h => List.mem_cons_of_mem _ (List.mem_append_left _ (List.mem_append_left _ (List.mem_append_right _ h)))
set_option maxRecDepth 20000 in
theorem fl_X4_ifShown_X4_0 : Cond.fieldLink RX4 12 (TX4 0).1 (TX4 0).2.1 (TX4 0).2.2.1 ∈ wsX4_ifShown := by decide +kernel
set_option maxRecDepth 20000 in
theorem fl_X4_ifShown_X4_1 : Cond.fieldLink RX4 19 (TX4 1).1 (TX4 1).2.1 (TX4 1).2.2.1 ∈ wsX4_ifShown := by decide +kernel
set_option maxRecDepth 20000 in
theorem ct_X4_ifShown_101 : Cond.constant RX4 101 (1000000) ∈ wsX4_ifShown := by decide +kernel
theorem in_X4_errorOfShow_X4 : ∀ x ∈ u_ws RX4 TX4 6, x ∈ wsX4_errorOfShow := fun x h => List.mem_cons_of_mem _ (List.mem_append_left _ (List.mem_append_right _ h))
set_option maxRecDepth 20000 in
theorem fl_X4_errorOfShow_X4_0 : Cond.fieldLink RX4 12 (TX4 0).1 (TX4 0).2.1 (TX4 0).2.2.1 ∈ wsX4_errorOfShow := by decide +kernel
theorem in_X4_dropShowsOfDay_X4 : ∀ x ∈ u_ws RX4 TX4 6, x ∈ wsX4_dropShowsOfDay := fun x h => List.mem_cons_of_mem _ (List.mem_append_left _ (List.mem_append_right _ h))
set_option maxRecDepth 20000 in
theorem fl_X4_dropShowsOfDay_X4_0 : Cond.fieldLink RX4 12 (TX4 0).1 (TX4 0).2.1 (TX4 0).2.2.1 ∈ wsX4_dropShowsOfDay := by decide +kernel
theorem in_X4_sumOfFilm_X4 : ∀ x ∈ u_ws RX4 TX4 6, x ∈ wsX4_sumOfFilm := fun x h => List.mem_cons_of_mem _ (List.mem_append_left _ (List.mem_append_left _ (List.mem_append_right _ h)))
set_option maxRecDepth 20000 in
theorem fl_X4_sumOfFilm_X4_0 : Cond.fieldLink RX4 12 (TX4 0).1 (TX4 0).2.1 (TX4 0).2.2.1 ∈ wsX4_sumOfFilm := by decide +kernel
set_option maxRecDepth 20000 in
theorem fl_X4_sumOfFilm_X4_1 : Cond.fieldLink RX4 19 (TX4 1).1 (TX4 1).2.1 (TX4 1).2.2.1 ∈ wsX4_sumOfFilm := by decide +kernel
theorem in_X4_sumOfFilms_X4 : ∀ x ∈ u_ws RX4 TX4 6, x ∈ wsX4_sumOfFilms := fun x h => List.mem_cons_of_mem _ (List.mem_append_left _ (List.mem_append_left _ (List.mem_append_right _ h)))
set_option maxRecDepth 20000 in
theorem fl_X4_sumOfFilms_X4_0 : Cond.fieldLink RX4 12 (TX4 0).1 (TX4 0).2.1 (TX4 0).2.2.1 ∈ wsX4_sumOfFilms := by decide +kernel
set_option maxRecDepth 20000 in
theorem fl_X4_sumOfFilms_X4_1 : Cond.fieldLink RX4 19 (TX4 1).1 (TX4 1).2.1 (TX4 1).2.2.1 ∈ wsX4_sumOfFilms := by decide +kernel
theorem in_X4_sumOfFilmsInWeek_X4 : ∀ x ∈ u_ws RX4 TX4 6, x ∈ wsX4_sumOfFilmsInWeek := fun x h => List.mem_cons_of_mem _ (List.mem_append_left _ (List.mem_append_left _ (List.mem_append_right _ h)))
set_option maxRecDepth 20000 in
theorem fl_X4_sumOfFilmsInWeek_X4_0 : Cond.fieldLink RX4 12 (TX4 0).1 (TX4 0).2.1 (TX4 0).2.2.1 ∈ wsX4_sumOfFilmsInWeek := by decide +kernel
set_option maxRecDepth 20000 in
theorem fl_X4_sumOfFilmsInWeek_X4_1 : Cond.fieldLink RX4 19 (TX4 1).1 (TX4 1).2.1 (TX4 1).2.2.1 ∈ wsX4_sumOfFilmsInWeek := by decide +kernel
theorem in_X4_fullShows_X4 : ∀ x ∈ u_ws RX4 TX4 6, x ∈ wsX4_fullShows := fun x h => List.mem_cons_of_mem _ (List.mem_append_left _ (List.mem_append_left _ (List.mem_append_right _ h)))
set_option maxRecDepth 20000 in
theorem fl_X4_fullShows_X4_0 : Cond.fieldLink RX4 12 (TX4 0).1 (TX4 0).2.1 (TX4 0).2.2.1 ∈ wsX4_fullShows := by decide +kernel
set_option maxRecDepth 20000 in
theorem fl_X4_fullShows_X4_1 : Cond.fieldLink RX4 19 (TX4 1).1 (TX4 1).2.1 (TX4 1).2.2.1 ∈ wsX4_fullShows := by decide +kernel
theorem in_X4_leftOfFilm_X4 : ∀ x ∈ u_ws RX4 TX4 6, x ∈ wsX4_leftOfFilm := fun x h => List.mem_cons_of_mem _ (List.mem_append_left _ (List.mem_append_left _ (List.mem_append_right _ h)))
set_option maxRecDepth 20000 in
theorem fl_X4_leftOfFilm_X4_0 : Cond.fieldLink RX4 12 (TX4 0).1 (TX4 0).2.1 (TX4 0).2.2.1 ∈ wsX4_leftOfFilm := by decide +kernel
set_option maxRecDepth 20000 in
theorem fl_X4_leftOfFilm_X4_1 : Cond.fieldLink RX4 19 (TX4 1).1 (TX4 1).2.1 (TX4 1).2.2.1 ∈ wsX4_leftOfFilm := by decide +kernel
theorem in_X4_gainWith_X4 : ∀ x ∈ u_ws RX4 TX4 6, x ∈ wsX4_gainWith := fun x h => List.mem_cons_of_mem _ (List.mem_append_left _ (List.mem_append_left _ (List.mem_append_right _ h)))
set_option maxRecDepth 20000 in
theorem fl_X4_gainWith_X4_0 : Cond.fieldLink RX4 12 (TX4 0).1 (TX4 0).2.1 (TX4 0).2.2.1 ∈ wsX4_gainWith := by decide +kernel
set_option maxRecDepth 20000 in
theorem fl_X4_gainWith_X4_1 : Cond.fieldLink RX4 19 (TX4 1).1 (TX4 1).2.1 (TX4 1).2.2.1 ∈ wsX4_gainWith := by decide +kernel
theorem hd_X0_init : yX0_init.cls = RX0 ∧ yX0_init.cls ≠ "java/lang/invoke/MethodHandle" ∧ yX0_init.cls ≠ "java/lang/invoke/VarHandle" ∧ (parseMethodDescriptor yX0_init.desc).map (fun d => d.parameters.length) = some 0 := by decide +kernel
theorem hd_X0_follow : yX0_follow.cls = RX0 ∧ yX0_follow.cls ≠ "java/lang/invoke/MethodHandle" ∧ yX0_follow.cls ≠ "java/lang/invoke/VarHandle" ∧ (parseMethodDescriptor yX0_follow.desc).map (fun d => d.parameters.length) = some 2 := by decide +kernel
theorem hd_X0_followWeek : yX0_followWeek.cls = RX0 ∧ yX0_followWeek.cls ≠ "java/lang/invoke/MethodHandle" ∧ yX0_followWeek.cls ≠ "java/lang/invoke/VarHandle" ∧ (parseMethodDescriptor yX0_followWeek.desc).map (fun d => d.parameters.length) = some 4 := by decide +kernel
theorem hd_X0_peopleOf : yX0_peopleOf.cls = RX0 ∧ yX0_peopleOf.cls ≠ "java/lang/invoke/MethodHandle" ∧ yX0_peopleOf.cls ≠ "java/lang/invoke/VarHandle" ∧ (parseMethodDescriptor yX0_peopleOf.desc).map (fun d => d.parameters.length) = some 3 := by decide +kernel
theorem hd_X0_nextShare : yX0_nextShare.cls = RX0 ∧ yX0_nextShare.cls ≠ "java/lang/invoke/MethodHandle" ∧ yX0_nextShare.cls ≠ "java/lang/invoke/VarHandle" ∧ (parseMethodDescriptor yX0_nextShare.desc).map (fun d => d.parameters.length) = some 3 := by decide +kernel
theorem hd_X0_reckonWeek : yX0_reckonWeek.cls = RX0 ∧ yX0_reckonWeek.cls ≠ "java/lang/invoke/MethodHandle" ∧ yX0_reckonWeek.cls ≠ "java/lang/invoke/VarHandle" ∧ (parseMethodDescriptor yX0_reckonWeek.desc).map (fun d => d.parameters.length) = some 3 := by decide +kernel
theorem hd_X0_shareOfTakings : yX0_shareOfTakings.cls = RX0 ∧ yX0_shareOfTakings.cls ≠ "java/lang/invoke/MethodHandle" ∧ yX0_shareOfTakings.cls ≠ "java/lang/invoke/VarHandle" ∧ (parseMethodDescriptor yX0_shareOfTakings.desc).map (fun d => d.parameters.length) = some 1 := by decide +kernel
theorem hd_X0_dueAboveShare : yX0_dueAboveShare.cls = RX0 ∧ yX0_dueAboveShare.cls ≠ "java/lang/invoke/MethodHandle" ∧ yX0_dueAboveShare.cls ≠ "java/lang/invoke/VarHandle" ∧ (parseMethodDescriptor yX0_dueAboveShare.desc).map (fun d => d.parameters.length) = some 1 := by decide +kernel
theorem hd_X0_sumOfWeek : yX0_sumOfWeek.cls = RX0 ∧ yX0_sumOfWeek.cls ≠ "java/lang/invoke/MethodHandle" ∧ yX0_sumOfWeek.cls ≠ "java/lang/invoke/VarHandle" ∧ (parseMethodDescriptor yX0_sumOfWeek.desc).map (fun d => d.parameters.length) = some 2 := by decide +kernel
theorem hd_X0_sum : yX0_sum.cls = RX0 ∧ yX0_sum.cls ≠ "java/lang/invoke/MethodHandle" ∧ yX0_sum.cls ≠ "java/lang/invoke/VarHandle" ∧ (parseMethodDescriptor yX0_sum.desc).map (fun d => d.parameters.length) = some 1 := by decide +kernel
theorem hd_X0_shareIn : yX0_shareIn.cls = RX0 ∧ yX0_shareIn.cls ≠ "java/lang/invoke/MethodHandle" ∧ yX0_shareIn.cls ≠ "java/lang/invoke/VarHandle" ∧ (parseMethodDescriptor yX0_shareIn.desc).map (fun d => d.parameters.length) = some 1 := by decide +kernel
theorem hd_X0_peopleAt : yX0_peopleAt.cls = RX0 ∧ yX0_peopleAt.cls ≠ "java/lang/invoke/MethodHandle" ∧ yX0_peopleAt.cls ≠ "java/lang/invoke/VarHandle" ∧ (parseMethodDescriptor yX0_peopleAt.desc).map (fun d => d.parameters.length) = some 1 := by decide +kernel
theorem hd_X0_leftBehind : yX0_leftBehind.cls = RX0 ∧ yX0_leftBehind.cls ≠ "java/lang/invoke/MethodHandle" ∧ yX0_leftBehind.cls ≠ "java/lang/invoke/VarHandle" ∧ (parseMethodDescriptor yX0_leftBehind.desc).map (fun d => d.parameters.length) = some 1 := by decide +kernel
theorem hd_X0_fullShows : yX0_fullShows.cls = RX0 ∧ yX0_fullShows.cls ≠ "java/lang/invoke/MethodHandle" ∧ yX0_fullShows.cls ≠ "java/lang/invoke/VarHandle" ∧ (parseMethodDescriptor yX0_fullShows.desc).map (fun d => d.parameters.length) = some 0 := by decide +kernel
theorem hd_X0_leftAtEnd : yX0_leftAtEnd.cls = RX0 ∧ yX0_leftAtEnd.cls ≠ "java/lang/invoke/MethodHandle" ∧ yX0_leftAtEnd.cls ≠ "java/lang/invoke/VarHandle" ∧ (parseMethodDescriptor yX0_leftAtEnd.desc).map (fun d => d.parameters.length) = some 0 := by decide +kernel
theorem hd_X1_init : yX1_init.cls = RX1 ∧ yX1_init.cls ≠ "java/lang/invoke/MethodHandle" ∧ yX1_init.cls ≠ "java/lang/invoke/VarHandle" ∧ (parseMethodDescriptor yX1_init.desc).map (fun d => d.parameters.length) = some 0 := by decide +kernel
theorem hd_X1_copyTo : yX1_copyTo.cls = RX1 ∧ yX1_copyTo.cls ≠ "java/lang/invoke/MethodHandle" ∧ yX1_copyTo.cls ≠ "java/lang/invoke/VarHandle" ∧ (parseMethodDescriptor yX1_copyTo.desc).map (fun d => d.parameters.length) = some 1 := by decide +kernel
theorem hd_X1_setting : yX1_setting.cls = RX1 ∧ yX1_setting.cls ≠ "java/lang/invoke/MethodHandle" ∧ yX1_setting.cls ≠ "java/lang/invoke/VarHandle" ∧ (parseMethodDescriptor yX1_setting.desc).map (fun d => d.parameters.length) = some 1 := by decide +kernel
theorem hd_X1_changeSetting : yX1_changeSetting.cls = RX1 ∧ yX1_changeSetting.cls ≠ "java/lang/invoke/MethodHandle" ∧ yX1_changeSetting.cls ≠ "java/lang/invoke/VarHandle" ∧ (parseMethodDescriptor yX1_changeSetting.desc).map (fun d => d.parameters.length) = some 2 := by decide +kernel
theorem hd_X1_films : yX1_films.cls = RX1 ∧ yX1_films.cls ≠ "java/lang/invoke/MethodHandle" ∧ yX1_films.cls ≠ "java/lang/invoke/VarHandle" ∧ (parseMethodDescriptor yX1_films.desc).map (fun d => d.parameters.length) = some 0 := by decide +kernel
theorem hd_X1_hasFilm : yX1_hasFilm.cls = RX1 ∧ yX1_hasFilm.cls ≠ "java/lang/invoke/MethodHandle" ∧ yX1_hasFilm.cls ≠ "java/lang/invoke/VarHandle" ∧ (parseMethodDescriptor yX1_hasFilm.desc).map (fun d => d.parameters.length) = some 1 := by decide +kernel
theorem hd_X1_addFilm : yX1_addFilm.cls = RX1 ∧ yX1_addFilm.cls ≠ "java/lang/invoke/MethodHandle" ∧ yX1_addFilm.cls ≠ "java/lang/invoke/VarHandle" ∧ (parseMethodDescriptor yX1_addFilm.desc).map (fun d => d.parameters.length) = some 5 := by decide +kernel
theorem hd_X1_fact : yX1_fact.cls = RX1 ∧ yX1_fact.cls ≠ "java/lang/invoke/MethodHandle" ∧ yX1_fact.cls ≠ "java/lang/invoke/VarHandle" ∧ (parseMethodDescriptor yX1_fact.desc).map (fun d => d.parameters.length) = some 2 := by decide +kernel
theorem hd_X1_showAt : yX1_showAt.cls = RX1 ∧ yX1_showAt.cls ≠ "java/lang/invoke/MethodHandle" ∧ yX1_showAt.cls ≠ "java/lang/invoke/VarHandle" ∧ (parseMethodDescriptor yX1_showAt.desc).map (fun d => d.parameters.length) = some 1 := by decide +kernel
theorem hd_X1_replaceShow : yX1_replaceShow.cls = RX1 ∧ yX1_replaceShow.cls ≠ "java/lang/invoke/MethodHandle" ∧ yX1_replaceShow.cls ≠ "java/lang/invoke/VarHandle" ∧ (parseMethodDescriptor yX1_replaceShow.desc).map (fun d => d.parameters.length) = some 2 := by decide +kernel
theorem hd_X1_canHold : yX1_canHold.cls = RX1 ∧ yX1_canHold.cls ≠ "java/lang/invoke/MethodHandle" ∧ yX1_canHold.cls ≠ "java/lang/invoke/VarHandle" ∧ (parseMethodDescriptor yX1_canHold.desc).map (fun d => d.parameters.length) = some 2 := by decide +kernel
theorem hd_X1_firstDayShown : yX1_firstDayShown.cls = RX1 ∧ yX1_firstDayShown.cls ≠ "java/lang/invoke/MethodHandle" ∧ yX1_firstDayShown.cls ≠ "java/lang/invoke/VarHandle" ∧ (parseMethodDescriptor yX1_firstDayShown.desc).map (fun d => d.parameters.length) = some 1 := by decide +kernel
theorem hd_X1_rentOf : yX1_rentOf.cls = RX1 ∧ yX1_rentOf.cls ≠ "java/lang/invoke/MethodHandle" ∧ yX1_rentOf.cls ≠ "java/lang/invoke/VarHandle" ∧ (parseMethodDescriptor yX1_rentOf.desc).map (fun d => d.parameters.length) = some 1 := by decide +kernel
theorem hd_X1_changeRent : yX1_changeRent.cls = RX1 ∧ yX1_changeRent.cls ≠ "java/lang/invoke/MethodHandle" ∧ yX1_changeRent.cls ≠ "java/lang/invoke/VarHandle" ∧ (parseMethodDescriptor yX1_changeRent.desc).map (fun d => d.parameters.length) = some 2 := by decide +kernel
theorem hd_X1_rentsOf : yX1_rentsOf.cls = RX1 ∧ yX1_rentsOf.cls ≠ "java/lang/invoke/MethodHandle" ∧ yX1_rentsOf.cls ≠ "java/lang/invoke/VarHandle" ∧ (parseMethodDescriptor yX1_rentsOf.desc).map (fun d => d.parameters.length) = some 2 := by decide +kernel
theorem hd_X2_init : yX2_init.cls = RX2 ∧ yX2_init.cls ≠ "java/lang/invoke/MethodHandle" ∧ yX2_init.cls ≠ "java/lang/invoke/VarHandle" ∧ (parseMethodDescriptor yX2_init.desc).map (fun d => d.parameters.length) = some 0 := by decide +kernel
theorem hd_X2_size : yX2_size.cls = RX2 ∧ yX2_size.cls ≠ "java/lang/invoke/MethodHandle" ∧ yX2_size.cls ≠ "java/lang/invoke/VarHandle" ∧ (parseMethodDescriptor yX2_size.desc).map (fun d => d.parameters.length) = some 0 := by decide +kernel
theorem hd_X2_record : yX2_record.cls = RX2 ∧ yX2_record.cls ≠ "java/lang/invoke/MethodHandle" ∧ yX2_record.cls ≠ "java/lang/invoke/VarHandle" ∧ (parseMethodDescriptor yX2_record.desc).map (fun d => d.parameters.length) = some 1 := by decide +kernel
theorem hd_X3_init : yX3_init.cls = RX3 ∧ yX3_init.cls ≠ "java/lang/invoke/MethodHandle" ∧ yX3_init.cls ≠ "java/lang/invoke/VarHandle" ∧ (parseMethodDescriptor yX3_init.desc).map (fun d => d.parameters.length) = some 0 := by decide +kernel
theorem hd_X3_length : yX3_length.cls = RX3 ∧ yX3_length.cls ≠ "java/lang/invoke/MethodHandle" ∧ yX3_length.cls ≠ "java/lang/invoke/VarHandle" ∧ (parseMethodDescriptor yX3_length.desc).map (fun d => d.parameters.length) = some 0 := by decide +kernel
theorem hd_X4_init : yX4_init.cls = RX4 ∧ yX4_init.cls ≠ "java/lang/invoke/MethodHandle" ∧ yX4_init.cls ≠ "java/lang/invoke/VarHandle" ∧ (parseMethodDescriptor yX4_init.desc).map (fun d => d.parameters.length) = some 0 := by decide +kernel
theorem hd_X4_set : yX4_set.cls = RX4 ∧ yX4_set.cls ≠ "java/lang/invoke/MethodHandle" ∧ yX4_set.cls ≠ "java/lang/invoke/VarHandle" ∧ (parseMethodDescriptor yX4_set.desc).map (fun d => d.parameters.length) = some 2 := by decide +kernel
theorem hd_X4_film : yX4_film.cls = RX4 ∧ yX4_film.cls ≠ "java/lang/invoke/MethodHandle" ∧ yX4_film.cls ≠ "java/lang/invoke/VarHandle" ∧ (parseMethodDescriptor yX4_film.desc).map (fun d => d.parameters.length) = some 5 := by decide +kernel
theorem hd_X4_show : yX4_show.cls = RX4 ∧ yX4_show.cls ≠ "java/lang/invoke/MethodHandle" ∧ yX4_show.cls ≠ "java/lang/invoke/VarHandle" ∧ (parseMethodDescriptor yX4_show.desc).map (fun d => d.parameters.length) = some 3 := by decide +kernel
theorem hd_X4_drop : yX4_drop.cls = RX4 ∧ yX4_drop.cls ≠ "java/lang/invoke/MethodHandle" ∧ yX4_drop.cls ≠ "java/lang/invoke/VarHandle" ∧ (parseMethodDescriptor yX4_drop.desc).map (fun d => d.parameters.length) = some 2 := by decide +kernel
theorem hd_X4_exchange : yX4_exchange.cls = RX4 ∧ yX4_exchange.cls ≠ "java/lang/invoke/MethodHandle" ∧ yX4_exchange.cls ≠ "java/lang/invoke/VarHandle" ∧ (parseMethodDescriptor yX4_exchange.desc).map (fun d => d.parameters.length) = some 4 := by decide +kernel
theorem hd_X4_let : yX4_let.cls = RX4 ∧ yX4_let.cls ≠ "java/lang/invoke/MethodHandle" ∧ yX4_let.cls ≠ "java/lang/invoke/VarHandle" ∧ (parseMethodDescriptor yX4_let.desc).map (fun d => d.parameters.length) = some 2 := by decide +kernel
theorem hd_X4_at : yX4_at.cls = RX4 ∧ yX4_at.cls ≠ "java/lang/invoke/MethodHandle" ∧ yX4_at.cls ≠ "java/lang/invoke/VarHandle" ∧ (parseMethodDescriptor yX4_at.desc).map (fun d => d.parameters.length) = some 3 := by decide +kernel
theorem hd_X4_of : yX4_of.cls = RX4 ∧ yX4_of.cls ≠ "java/lang/invoke/MethodHandle" ∧ yX4_of.cls ≠ "java/lang/invoke/VarHandle" ∧ (parseMethodDescriptor yX4_of.desc).map (fun d => d.parameters.length) = some 2 := by decide +kernel
theorem hd_X4_inWeek : yX4_inWeek.cls = RX4 ∧ yX4_inWeek.cls ≠ "java/lang/invoke/MethodHandle" ∧ yX4_inWeek.cls ≠ "java/lang/invoke/VarHandle" ∧ (parseMethodDescriptor yX4_inWeek.desc).map (fun d => d.parameters.length) = some 3 := by decide +kernel
theorem hd_X4_week : yX4_week.cls = RX4 ∧ yX4_week.cls ≠ "java/lang/invoke/MethodHandle" ∧ yX4_week.cls ≠ "java/lang/invoke/VarHandle" ∧ (parseMethodDescriptor yX4_week.desc).map (fun d => d.parameters.length) = some 2 := by decide +kernel
theorem hd_X4_rent : yX4_rent.cls = RX4 ∧ yX4_rent.cls ≠ "java/lang/invoke/MethodHandle" ∧ yX4_rent.cls ≠ "java/lang/invoke/VarHandle" ∧ (parseMethodDescriptor yX4_rent.desc).map (fun d => d.parameters.length) = some 1 := by decide +kernel
theorem hd_X4_count : yX4_count.cls = RX4 ∧ yX4_count.cls ≠ "java/lang/invoke/MethodHandle" ∧ yX4_count.cls ≠ "java/lang/invoke/VarHandle" ∧ (parseMethodDescriptor yX4_count.desc).map (fun d => d.parameters.length) = some 1 := by decide +kernel
theorem hd_X4_ifShown : yX4_ifShown.cls = RX4 ∧ yX4_ifShown.cls ≠ "java/lang/invoke/MethodHandle" ∧ yX4_ifShown.cls ≠ "java/lang/invoke/VarHandle" ∧ (parseMethodDescriptor yX4_ifShown.desc).map (fun d => d.parameters.length) = some 3 := by decide +kernel
theorem hd_X4_isWithin : yX4_isWithin.cls = RX4 ∧ yX4_isWithin.cls ≠ "java/lang/invoke/MethodHandle" ∧ yX4_isWithin.cls ≠ "java/lang/invoke/VarHandle" ∧ (parseMethodDescriptor yX4_isWithin.desc).map (fun d => d.parameters.length) = some 3 := by decide +kernel
theorem hd_X4_isDay : yX4_isDay.cls = RX4 ∧ yX4_isDay.cls ≠ "java/lang/invoke/MethodHandle" ∧ yX4_isDay.cls ≠ "java/lang/invoke/VarHandle" ∧ (parseMethodDescriptor yX4_isDay.desc).map (fun d => d.parameters.length) = some 1 := by decide +kernel
theorem hd_X4_isWeek : yX4_isWeek.cls = RX4 ∧ yX4_isWeek.cls ≠ "java/lang/invoke/MethodHandle" ∧ yX4_isWeek.cls ≠ "java/lang/invoke/VarHandle" ∧ (parseMethodDescriptor yX4_isWeek.desc).map (fun d => d.parameters.length) = some 1 := by decide +kernel
theorem hd_X4_isPlace : yX4_isPlace.cls = RX4 ∧ yX4_isPlace.cls ≠ "java/lang/invoke/MethodHandle" ∧ yX4_isPlace.cls ≠ "java/lang/invoke/VarHandle" ∧ (parseMethodDescriptor yX4_isPlace.desc).map (fun d => d.parameters.length) = some 2 := by decide +kernel
theorem hd_X4_placeOf : yX4_placeOf.cls = RX4 ∧ yX4_placeOf.cls ≠ "java/lang/invoke/MethodHandle" ∧ yX4_placeOf.cls ≠ "java/lang/invoke/VarHandle" ∧ (parseMethodDescriptor yX4_placeOf.desc).map (fun d => d.parameters.length) = some 2 := by decide +kernel
theorem hd_X4_errorOfShow : yX4_errorOfShow.cls = RX4 ∧ yX4_errorOfShow.cls ≠ "java/lang/invoke/MethodHandle" ∧ yX4_errorOfShow.cls ≠ "java/lang/invoke/VarHandle" ∧ (parseMethodDescriptor yX4_errorOfShow.desc).map (fun d => d.parameters.length) = some 3 := by decide +kernel
theorem hd_X4_dropShowsOfDay : yX4_dropShowsOfDay.cls = RX4 ∧ yX4_dropShowsOfDay.cls ≠ "java/lang/invoke/MethodHandle" ∧ yX4_dropShowsOfDay.cls ≠ "java/lang/invoke/VarHandle" ∧ (parseMethodDescriptor yX4_dropShowsOfDay.desc).map (fun d => d.parameters.length) = some 1 := by decide +kernel
theorem hd_X4_sumOfFilm : yX4_sumOfFilm.cls = RX4 ∧ yX4_sumOfFilm.cls ≠ "java/lang/invoke/MethodHandle" ∧ yX4_sumOfFilm.cls ≠ "java/lang/invoke/VarHandle" ∧ (parseMethodDescriptor yX4_sumOfFilm.desc).map (fun d => d.parameters.length) = some 2 := by decide +kernel
theorem hd_X4_sumOfFilms : yX4_sumOfFilms.cls = RX4 ∧ yX4_sumOfFilms.cls ≠ "java/lang/invoke/MethodHandle" ∧ yX4_sumOfFilms.cls ≠ "java/lang/invoke/VarHandle" ∧ (parseMethodDescriptor yX4_sumOfFilms.desc).map (fun d => d.parameters.length) = some 1 := by decide +kernel
theorem hd_X4_sumOfFilmsInWeek : yX4_sumOfFilmsInWeek.cls = RX4 ∧ yX4_sumOfFilmsInWeek.cls ≠ "java/lang/invoke/MethodHandle" ∧ yX4_sumOfFilmsInWeek.cls ≠ "java/lang/invoke/VarHandle" ∧ (parseMethodDescriptor yX4_sumOfFilmsInWeek.desc).map (fun d => d.parameters.length) = some 2 := by decide +kernel
theorem hd_X4_fullShows : yX4_fullShows.cls = RX4 ∧ yX4_fullShows.cls ≠ "java/lang/invoke/MethodHandle" ∧ yX4_fullShows.cls ≠ "java/lang/invoke/VarHandle" ∧ (parseMethodDescriptor yX4_fullShows.desc).map (fun d => d.parameters.length) = some 0 := by decide +kernel
theorem hd_X4_leftOfFilm : yX4_leftOfFilm.cls = RX4 ∧ yX4_leftOfFilm.cls ≠ "java/lang/invoke/MethodHandle" ∧ yX4_leftOfFilm.cls ≠ "java/lang/invoke/VarHandle" ∧ (parseMethodDescriptor yX4_leftOfFilm.desc).map (fun d => d.parameters.length) = some 1 := by decide +kernel
theorem hd_X4_gainWith : yX4_gainWith.cls = RX4 ∧ yX4_gainWith.cls ≠ "java/lang/invoke/MethodHandle" ∧ yX4_gainWith.cls ≠ "java/lang/invoke/VarHandle" ∧ (parseMethodDescriptor yX4_gainWith.desc).map (fun d => d.parameters.length) = some 2 := by decide +kernel
theorem ic_m6 : Int32.ofInt (-6) = -6 := by decide
theorem ic_m5 : Int32.ofInt (-5) = -5 := by decide
theorem ic_m4 : Int32.ofInt (-4) = -4 := by decide
theorem ic_m3 : Int32.ofInt (-3) = -3 := by decide
theorem ic_m2 : Int32.ofInt (-2) = -2 := by decide
theorem ic_m1 : Int32.ofInt (-1) = -1 := by decide
theorem ic_0 : Int32.ofInt (0) = 0 := by decide
theorem ic_1 : Int32.ofInt (1) = 1 := by decide
theorem ic_2 : Int32.ofInt (2) = 2 := by decide
theorem ic_3 : Int32.ofInt (3) = 3 := by decide
theorem ic_4 : Int32.ofInt (4) = 4 := by decide
theorem ic_5 : Int32.ofInt (5) = 5 := by decide
theorem bp_m6 : (Int8.ofInt (-6)).toInt32 = -6 := by decide
theorem bp_m5 : (Int8.ofInt (-5)).toInt32 = -5 := by decide
theorem bp_m4 : (Int8.ofInt (-4)).toInt32 = -4 := by decide
theorem bp_m3 : (Int8.ofInt (-3)).toInt32 = -3 := by decide
theorem bp_m2 : (Int8.ofInt (-2)).toInt32 = -2 := by decide
theorem bp_6 : (Int8.ofInt (6)).toInt32 = 6 := by decide
theorem bp_7 : (Int8.ofInt (7)).toInt32 = 7 := by decide
theorem bp_8 : (Int8.ofInt (8)).toInt32 = 8 := by decide
theorem bp_9 : (Int8.ofInt (9)).toInt32 = 9 := by decide
theorem bp_10 : (Int8.ofInt (10)).toInt32 = 10 := by decide
theorem bp_12 : (Int8.ofInt (12)).toInt32 = 12 := by decide
theorem bp_14 : (Int8.ofInt (14)).toInt32 = 14 := by decide
theorem bp_20 : (Int8.ofInt (20)).toInt32 = 20 := by decide
theorem bp_25 : (Int8.ofInt (25)).toInt32 = 25 := by decide
theorem bp_28 : (Int8.ofInt (28)).toInt32 = 28 := by decide
theorem bp_30 : (Int8.ofInt (30)).toInt32 = 30 := by decide
theorem bp_31 : (Int8.ofInt (31)).toInt32 = 31 := by decide
theorem bp_33 : (Int8.ofInt (33)).toInt32 = 33 := by decide
theorem bp_34 : (Int8.ofInt (34)).toInt32 = 34 := by decide
theorem bp_35 : (Int8.ofInt (35)).toInt32 = 35 := by decide
theorem bp_40 : (Int8.ofInt (40)).toInt32 = 40 := by decide
theorem bp_44 : (Int8.ofInt (44)).toInt32 = 44 := by decide
theorem bp_46 : (Int8.ofInt (46)).toInt32 = 46 := by decide
theorem bp_48 : (Int8.ofInt (48)).toInt32 = 48 := by decide
theorem bp_49 : (Int8.ofInt (49)).toInt32 = 49 := by decide
theorem bp_50 : (Int8.ofInt (50)).toInt32 = 50 := by decide
theorem bp_51 : (Int8.ofInt (51)).toInt32 = 51 := by decide
theorem bp_52 : (Int8.ofInt (52)).toInt32 = 52 := by decide
theorem bp_55 : (Int8.ofInt (55)).toInt32 = 55 := by decide
theorem bp_57 : (Int8.ofInt (57)).toInt32 = 57 := by decide
theorem bp_60 : (Int8.ofInt (60)).toInt32 = 60 := by decide
theorem bp_69 : (Int8.ofInt (69)).toInt32 = 69 := by decide
theorem bp_70 : (Int8.ofInt (70)).toInt32 = 70 := by decide
theorem bp_80 : (Int8.ofInt (80)).toInt32 = 80 := by decide
theorem bp_90 : (Int8.ofInt (90)).toInt32 = 90 := by decide
theorem bp_97 : (Int8.ofInt (97)).toInt32 = 97 := by decide
theorem bp_100 : (Int8.ofInt (100)).toInt32 = 100 := by decide
theorem bp_101 : (Int8.ofInt (101)).toInt32 = 101 := by decide
theorem bp_116 : (Int8.ofInt (116)).toInt32 = 116 := by decide
theorem bp_126 : (Int8.ofInt (126)).toInt32 = 126 := by decide
theorem sp_151 : (Int16.ofInt (151)).toInt32 = 151 := by decide
theorem sp_200 : (Int16.ofInt (200)).toInt32 = 200 := by decide
theorem sp_300 : (Int16.ofInt (300)).toInt32 = 300 := by decide
theorem sp_302 : (Int16.ofInt (302)).toInt32 = 302 := by decide
theorem sp_500 : (Int16.ofInt (500)).toInt32 = 500 := by decide
theorem sp_755 : (Int16.ofInt (755)).toInt32 = 755 := by decide
theorem sp_906 : (Int16.ofInt (906)).toInt32 = 906 := by decide
theorem sp_999 : (Int16.ofInt (999)).toInt32 = 999 := by decide
theorem sp_5000 : (Int16.ofInt (5000)).toInt32 = 5000 := by decide
theorem inc9 (d : Nat) : nI d + Int32.ofInt 1 = nI (d + 1) := nI_1 d
theorem dec9 (d : Nat) : nI (d + 1) + Int32.ofInt (-1) = nI d := by rw [show Int32.ofInt (-1) = (-1 : Int32) by decide]; exact pk_m1 d

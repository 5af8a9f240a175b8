theorem in_X0_init_X0 : ∀ x ∈ u_ws RX0 TX0 6, x ∈ wsX0_init := fun x h => List.mem_cons_of_mem _ (List.mem_append_right _ h)
set_option maxRecDepth 20000 in
theorem fl_X0_init_X0_0 : Cond.fieldLink RX0 9 (TX0 0).1 (TX0 0).2.1 (TX0 0).2.2.1 ∈ wsX0_init := by decide +kernel
set_option maxRecDepth 20000 in
theorem fl_X0_init_X0_1 : Cond.fieldLink RX0 15 (TX0 1).1 (TX0 1).2.1 (TX0 1).2.2.1 ∈ wsX0_init := by decide +kernel
set_option maxRecDepth 20000 in
theorem fl_X0_init_X0_2 : Cond.fieldLink RX0 18 (TX0 2).1 (TX0 2).2.1 (TX0 2).2.2.1 ∈ wsX0_init := by decide +kernel
set_option maxRecDepth 20000 in
theorem fl_X0_init_X0_3 : Cond.fieldLink RX0 21 (TX0 3).1 (TX0 3).2.1 (TX0 3).2.2.1 ∈ wsX0_init := by decide +kernel
theorem in_X0_follow_X0 : ∀ x ∈ u_ws RX0 TX0 6, x ∈ wsX0_follow := fun x h => List.mem_cons_of_mem _ (List.mem_append_left _ (List.mem_append_right _ h))
set_option maxRecDepth 20000 in
theorem fl_X0_follow_X0_0 : Cond.fieldLink RX0 9 (TX0 0).1 (TX0 0).2.1 (TX0 0).2.2.1 ∈ wsX0_follow := by decide +kernel
set_option maxRecDepth 20000 in
theorem fl_X0_follow_X0_1 : Cond.fieldLink RX0 15 (TX0 1).1 (TX0 1).2.1 (TX0 1).2.2.1 ∈ wsX0_follow := by decide +kernel
set_option maxRecDepth 20000 in
theorem fl_X0_follow_X0_2 : Cond.fieldLink RX0 18 (TX0 2).1 (TX0 2).2.1 (TX0 2).2.2.1 ∈ wsX0_follow := by decide +kernel
set_option maxRecDepth 20000 in
theorem fl_X0_follow_X0_3 : Cond.fieldLink RX0 21 (TX0 3).1 (TX0 3).2.1 (TX0 3).2.2.1 ∈ wsX0_follow := by decide +kernel
set_option maxRecDepth 20000 in
theorem fl_X0_follow_X0_4 : Cond.fieldLink RX0 30 (TX0 4).1 (TX0 4).2.1 (TX0 4).2.2.1 ∈ wsX0_follow := by decide +kernel
set_option maxRecDepth 20000 in
theorem fl_X0_follow_X0_5 : Cond.fieldLink RX0 49 (TX0 5).1 (TX0 5).2.1 (TX0 5).2.2.1 ∈ wsX0_follow := by decide +kernel
set_option maxRecDepth 20000 in
theorem ma_X0_follow_min_0 : Cond.methodLink RX0 63 Lib.Math.min.name ∈ wsX0_follow := by decide +kernel
set_option maxRecDepth 20000 in
theorem ma_X0_follow_min_1 : Cond.static Lib.Math.min.name ∈ wsX0_follow := by decide +kernel
set_option maxRecDepth 20000 in
theorem ma_X0_follow_min_2 : Cond.initialized "java/lang/Math" ∈ wsX0_follow := by decide +kernel
set_option maxRecDepth 20000 in
theorem ma_X0_follow_min_3 : Cond.code Lib.Math.min.name Lib.Math.min.code 2 (some .int) ∈ wsX0_follow := by decide +kernel
set_option maxRecDepth 20000 in
theorem ma_X0_follow_max_0 : Cond.methodLink RX0 68 Lib.Math.max.name ∈ wsX0_follow := by decide +kernel
set_option maxRecDepth 20000 in
theorem ma_X0_follow_max_1 : Cond.static Lib.Math.max.name ∈ wsX0_follow := by decide +kernel
set_option maxRecDepth 20000 in
theorem ma_X0_follow_max_2 : Cond.initialized "java/lang/Math" ∈ wsX0_follow := by decide +kernel
set_option maxRecDepth 20000 in
theorem ma_X0_follow_max_3 : Cond.code Lib.Math.max.name Lib.Math.max.code 2 (some .int) ∈ wsX0_follow := by decide +kernel
theorem in_X0_followWeek_X0 : ∀ x ∈ u_ws RX0 TX0 6, x ∈ wsX0_followWeek := fun x h => List.mem_cons_of_mem _ (List.mem_append_left _ (List.mem_append_right _ h))
set_option maxRecDepth 20000 in
theorem fl_X0_followWeek_X0_0 : Cond.fieldLink RX0 9 (TX0 0).1 (TX0 0).2.1 (TX0 0).2.2.1 ∈ wsX0_followWeek := by decide +kernel
set_option maxRecDepth 20000 in
theorem fl_X0_followWeek_X0_1 : Cond.fieldLink RX0 15 (TX0 1).1 (TX0 1).2.1 (TX0 1).2.2.1 ∈ wsX0_followWeek := by decide +kernel
set_option maxRecDepth 20000 in
theorem fl_X0_followWeek_X0_2 : Cond.fieldLink RX0 18 (TX0 2).1 (TX0 2).2.1 (TX0 2).2.2.1 ∈ wsX0_followWeek := by decide +kernel
set_option maxRecDepth 20000 in
theorem fl_X0_followWeek_X0_4 : Cond.fieldLink RX0 30 (TX0 4).1 (TX0 4).2.1 (TX0 4).2.2.1 ∈ wsX0_followWeek := by decide +kernel
set_option maxRecDepth 20000 in
theorem ma_X0_followWeek_min_0 : Cond.methodLink RX0 63 Lib.Math.min.name ∈ wsX0_followWeek := by decide +kernel
set_option maxRecDepth 20000 in
theorem ma_X0_followWeek_min_1 : Cond.static Lib.Math.min.name ∈ wsX0_followWeek := by decide +kernel
set_option maxRecDepth 20000 in
theorem ma_X0_followWeek_min_2 : Cond.initialized "java/lang/Math" ∈ wsX0_followWeek := by decide +kernel
set_option maxRecDepth 20000 in
theorem ma_X0_followWeek_min_3 : Cond.code Lib.Math.min.name Lib.Math.min.code 2 (some .int) ∈ wsX0_followWeek := by decide +kernel
set_option maxRecDepth 20000 in
theorem ma_X0_peopleOf_min_0 : Cond.methodLink RX0 63 Lib.Math.min.name ∈ wsX0_peopleOf := by decide +kernel
set_option maxRecDepth 20000 in
theorem ma_X0_peopleOf_min_1 : Cond.static Lib.Math.min.name ∈ wsX0_peopleOf := by decide +kernel
set_option maxRecDepth 20000 in
theorem ma_X0_peopleOf_min_2 : Cond.initialized "java/lang/Math" ∈ wsX0_peopleOf := by decide +kernel
set_option maxRecDepth 20000 in
theorem ma_X0_peopleOf_min_3 : Cond.code Lib.Math.min.name Lib.Math.min.code 2 (some .int) ∈ wsX0_peopleOf := by decide +kernel
set_option maxRecDepth 20000 in
theorem ma_X0_nextShare_max_0 : Cond.methodLink RX0 68 Lib.Math.max.name ∈ wsX0_nextShare := by decide +kernel
set_option maxRecDepth 20000 in
theorem ma_X0_nextShare_max_1 : Cond.static Lib.Math.max.name ∈ wsX0_nextShare := by decide +kernel
set_option maxRecDepth 20000 in
theorem ma_X0_nextShare_max_2 : Cond.initialized "java/lang/Math" ∈ wsX0_nextShare := by decide +kernel
set_option maxRecDepth 20000 in
theorem ma_X0_nextShare_max_3 : Cond.code Lib.Math.max.name Lib.Math.max.code 2 (some .int) ∈ wsX0_nextShare := by decide +kernel
theorem in_X0_reckonWeek_X0 : ∀ x ∈ u_ws RX0 TX0 6, x ∈ wsX0_reckonWeek := fun x h => List.mem_cons_of_mem _ (List.mem_append_left _ (List.mem_append_right _ h))
set_option maxRecDepth 20000 in
theorem fl_X0_reckonWeek_X0_2 : Cond.fieldLink RX0 18 (TX0 2).1 (TX0 2).2.1 (TX0 2).2.2.1 ∈ wsX0_reckonWeek := by decide +kernel
set_option maxRecDepth 20000 in
theorem fl_X0_reckonWeek_X0_3 : Cond.fieldLink RX0 21 (TX0 3).1 (TX0 3).2.1 (TX0 3).2.2.1 ∈ wsX0_reckonWeek := by decide +kernel
set_option maxRecDepth 20000 in
theorem ma_X0_reckonWeek_max_0 : Cond.methodLink RX0 68 Lib.Math.max.name ∈ wsX0_reckonWeek := by decide +kernel
set_option maxRecDepth 20000 in
theorem ma_X0_reckonWeek_max_1 : Cond.static Lib.Math.max.name ∈ wsX0_reckonWeek := by decide +kernel
set_option maxRecDepth 20000 in
theorem ma_X0_reckonWeek_max_2 : Cond.initialized "java/lang/Math" ∈ wsX0_reckonWeek := by decide +kernel
set_option maxRecDepth 20000 in
theorem ma_X0_reckonWeek_max_3 : Cond.code Lib.Math.max.name Lib.Math.max.code 2 (some .int) ∈ wsX0_reckonWeek := by decide +kernel
theorem in_X0_shareOfTakings_X0 : ∀ x ∈ u_ws RX0 TX0 6, x ∈ wsX0_shareOfTakings := fun x h => List.mem_cons_of_mem _ (List.mem_append_right _ h)
set_option maxRecDepth 20000 in
theorem fl_X0_shareOfTakings_X0_2 : Cond.fieldLink RX0 18 (TX0 2).1 (TX0 2).2.1 (TX0 2).2.2.1 ∈ wsX0_shareOfTakings := by decide +kernel
set_option maxRecDepth 20000 in
theorem fl_X0_shareOfTakings_X0_3 : Cond.fieldLink RX0 21 (TX0 3).1 (TX0 3).2.1 (TX0 3).2.2.1 ∈ wsX0_shareOfTakings := by decide +kernel
theorem in_X0_dueAboveShare_X0 : ∀ x ∈ u_ws RX0 TX0 6, x ∈ wsX0_dueAboveShare := fun x h => List.mem_cons_of_mem _ (List.mem_append_right _ h)
set_option maxRecDepth 20000 in
theorem fl_X0_dueAboveShare_X0_2 : Cond.fieldLink RX0 18 (TX0 2).1 (TX0 2).2.1 (TX0 2).2.2.1 ∈ wsX0_dueAboveShare := by decide +kernel
set_option maxRecDepth 20000 in
theorem fl_X0_dueAboveShare_X0_3 : Cond.fieldLink RX0 21 (TX0 3).1 (TX0 3).2.1 (TX0 3).2.2.1 ∈ wsX0_dueAboveShare := by decide +kernel
theorem in_X0_sumOfWeek_X0 : ∀ x ∈ u_ws RX0 TX0 6, x ∈ wsX0_sumOfWeek := fun x h => List.mem_cons_of_mem _ (List.mem_append_right _ h)
set_option maxRecDepth 20000 in
theorem fl_X0_sumOfWeek_X0_2 : Cond.fieldLink RX0 18 (TX0 2).1 (TX0 2).2.1 (TX0 2).2.2.1 ∈ wsX0_sumOfWeek := by decide +kernel
theorem in_X0_sum_X0 : ∀ x ∈ u_ws RX0 TX0 6, x ∈ wsX0_sum := fun x h => List.mem_cons_of_mem _ (List.mem_append_right _ h)
set_option maxRecDepth 20000 in
theorem fl_X0_sum_X0_2 : Cond.fieldLink RX0 18 (TX0 2).1 (TX0 2).2.1 (TX0 2).2.2.1 ∈ wsX0_sum := by decide +kernel
theorem in_X0_shareIn_X0 : ∀ x ∈ u_ws RX0 TX0 6, x ∈ wsX0_shareIn := fun x h => List.mem_cons_of_mem _ (List.mem_append_right _ h)
set_option maxRecDepth 20000 in
theorem fl_X0_shareIn_X0_3 : Cond.fieldLink RX0 21 (TX0 3).1 (TX0 3).2.1 (TX0 3).2.2.1 ∈ wsX0_shareIn := by decide +kernel
theorem in_X0_peopleAt_X0 : ∀ x ∈ u_ws RX0 TX0 6, x ∈ wsX0_peopleAt := fun x h => List.mem_cons_of_mem _ (List.mem_append_right _ h)
set_option maxRecDepth 20000 in
theorem fl_X0_peopleAt_X0_0 : Cond.fieldLink RX0 9 (TX0 0).1 (TX0 0).2.1 (TX0 0).2.2.1 ∈ wsX0_peopleAt := by decide +kernel
theorem in_X0_leftBehind_X0 : ∀ x ∈ u_ws RX0 TX0 6, x ∈ wsX0_leftBehind := fun x h => List.mem_cons_of_mem _ (List.mem_append_right _ h)
set_option maxRecDepth 20000 in
theorem fl_X0_leftBehind_X0_1 : Cond.fieldLink RX0 15 (TX0 1).1 (TX0 1).2.1 (TX0 1).2.2.1 ∈ wsX0_leftBehind := by decide +kernel
theorem in_X0_fullShows_X0 : ∀ x ∈ u_ws RX0 TX0 6, x ∈ wsX0_fullShows := fun x h => List.mem_cons_of_mem _ (List.mem_append_right _ h)
set_option maxRecDepth 20000 in
theorem fl_X0_fullShows_X0_4 : Cond.fieldLink RX0 30 (TX0 4).1 (TX0 4).2.1 (TX0 4).2.2.1 ∈ wsX0_fullShows := by decide +kernel
theorem in_X0_leftAtEnd_X0 : ∀ x ∈ u_ws RX0 TX0 6, x ∈ wsX0_leftAtEnd := fun x h => List.mem_cons_of_mem _ (List.mem_append_right _ h)
set_option maxRecDepth 20000 in
theorem fl_X0_leftAtEnd_X0_5 : Cond.fieldLink RX0 49 (TX0 5).1 (TX0 5).2.1 (TX0 5).2.2.1 ∈ wsX0_leftAtEnd := by decide +kernel
theorem in_X1_init_X1 : ∀ x ∈ u_ws RX1 TX1 1, x ∈ wsX1_init := fun x h => List.mem_cons_of_mem _ (List.mem_append_right _ h)
set_option maxRecDepth 20000 in
theorem fl_X1_init_X1_0 : Cond.fieldLink RX1 11 (TX1 0).1 (TX1 0).2.1 (TX1 0).2.2.1 ∈ wsX1_init := by decide +kernel
set_option maxRecDepth 20000 in
theorem cp_X1_init_0 : Cond.methodLink RX1 18 arraycopyName ∈ wsX1_init := by decide +kernel
set_option maxRecDepth 20000 in
theorem cp_X1_init_1 : Cond.native arraycopyName ∈ wsX1_init := by decide +kernel
set_option maxRecDepth 20000 in
theorem cp_X1_init_2 : Cond.static arraycopyName ∈ wsX1_init := by decide +kernel
set_option maxRecDepth 20000 in
theorem cp_X1_init_3 : Cond.initialized "java/lang/System" ∈ wsX1_init := by decide +kernel
theorem in_X1_copyTo_X1 : ∀ x ∈ u_ws RX1 TX1 1, x ∈ wsX1_copyTo := fun x h => List.mem_cons_of_mem _ (List.mem_append_right _ h)
set_option maxRecDepth 20000 in
theorem fl_X1_copyTo_X1_0 : Cond.fieldLink RX1 11 (TX1 0).1 (TX1 0).2.1 (TX1 0).2.2.1 ∈ wsX1_copyTo := by decide +kernel
set_option maxRecDepth 20000 in
theorem cp_X1_copyTo_0 : Cond.methodLink RX1 18 arraycopyName ∈ wsX1_copyTo := by decide +kernel
set_option maxRecDepth 20000 in
theorem cp_X1_copyTo_1 : Cond.native arraycopyName ∈ wsX1_copyTo := by decide +kernel
set_option maxRecDepth 20000 in
theorem cp_X1_copyTo_2 : Cond.static arraycopyName ∈ wsX1_copyTo := by decide +kernel
set_option maxRecDepth 20000 in
theorem cp_X1_copyTo_3 : Cond.initialized "java/lang/System" ∈ wsX1_copyTo := by decide +kernel
theorem in_X1_copyFrom_X1 : ∀ x ∈ u_ws RX1 TX1 1, x ∈ wsX1_copyFrom := fun x h => List.mem_cons_of_mem _ (List.mem_append_right _ h)
set_option maxRecDepth 20000 in
theorem fl_X1_copyFrom_X1_0 : Cond.fieldLink RX1 11 (TX1 0).1 (TX1 0).2.1 (TX1 0).2.2.1 ∈ wsX1_copyFrom := by decide +kernel
set_option maxRecDepth 20000 in
theorem cp_X1_copyFrom_0 : Cond.methodLink RX1 18 arraycopyName ∈ wsX1_copyFrom := by decide +kernel
set_option maxRecDepth 20000 in
theorem cp_X1_copyFrom_1 : Cond.native arraycopyName ∈ wsX1_copyFrom := by decide +kernel
set_option maxRecDepth 20000 in
theorem cp_X1_copyFrom_2 : Cond.static arraycopyName ∈ wsX1_copyFrom := by decide +kernel
set_option maxRecDepth 20000 in
theorem cp_X1_copyFrom_3 : Cond.initialized "java/lang/System" ∈ wsX1_copyFrom := by decide +kernel
theorem in_X1_setting_X1 : ∀ x ∈ u_ws RX1 TX1 1, x ∈ wsX1_setting := fun x h => List.mem_cons_of_mem _ (List.mem_append_right _ h)
set_option maxRecDepth 20000 in
theorem fl_X1_setting_X1_0 : Cond.fieldLink RX1 11 (TX1 0).1 (TX1 0).2.1 (TX1 0).2.2.1 ∈ wsX1_setting := by decide +kernel
theorem in_X1_changeSetting_X1 : ∀ x ∈ u_ws RX1 TX1 1, x ∈ wsX1_changeSetting := fun x h => List.mem_cons_of_mem _ (List.mem_append_right _ h)
set_option maxRecDepth 20000 in
theorem fl_X1_changeSetting_X1_0 : Cond.fieldLink RX1 11 (TX1 0).1 (TX1 0).2.1 (TX1 0).2.2.1 ∈ wsX1_changeSetting := by decide +kernel
theorem in_X1_films_X1 : ∀ x ∈ u_ws RX1 TX1 1, x ∈ wsX1_films := fun x h => List.mem_cons_of_mem _ (List.mem_append_right _ h)
set_option maxRecDepth 20000 in
theorem fl_X1_films_X1_0 : Cond.fieldLink RX1 11 (TX1 0).1 (TX1 0).2.1 (TX1 0).2.2.1 ∈ wsX1_films := by decide +kernel
theorem in_X1_hasFilm_X1 : ∀ x ∈ u_ws RX1 TX1 1, x ∈ wsX1_hasFilm := fun x h => List.mem_cons_of_mem _ (List.mem_append_right _ h)
set_option maxRecDepth 20000 in
theorem fl_X1_hasFilm_X1_0 : Cond.fieldLink RX1 11 (TX1 0).1 (TX1 0).2.1 (TX1 0).2.2.1 ∈ wsX1_hasFilm := by decide +kernel
theorem in_X1_addFilm_X1 : ∀ x ∈ u_ws RX1 TX1 1, x ∈ wsX1_addFilm := fun x h => List.mem_cons_of_mem _ (List.mem_append_right _ h)
set_option maxRecDepth 20000 in
theorem fl_X1_addFilm_X1_0 : Cond.fieldLink RX1 11 (TX1 0).1 (TX1 0).2.1 (TX1 0).2.2.1 ∈ wsX1_addFilm := by decide +kernel
theorem in_X1_fact_X1 : ∀ x ∈ u_ws RX1 TX1 1, x ∈ wsX1_fact := fun x h => List.mem_cons_of_mem _ (List.mem_append_right _ h)
set_option maxRecDepth 20000 in
theorem fl_X1_fact_X1_0 : Cond.fieldLink RX1 11 (TX1 0).1 (TX1 0).2.1 (TX1 0).2.2.1 ∈ wsX1_fact := by decide +kernel
theorem in_X1_showAt_X1 : ∀ x ∈ u_ws RX1 TX1 1, x ∈ wsX1_showAt := fun x h => List.mem_cons_of_mem _ (List.mem_append_right _ h)
set_option maxRecDepth 20000 in
theorem fl_X1_showAt_X1_0 : Cond.fieldLink RX1 11 (TX1 0).1 (TX1 0).2.1 (TX1 0).2.2.1 ∈ wsX1_showAt := by decide +kernel
theorem in_X1_replaceShow_X1 : ∀ x ∈ u_ws RX1 TX1 1, x ∈ wsX1_replaceShow := fun x h => List.mem_cons_of_mem _ (List.mem_append_right _ h)
set_option maxRecDepth 20000 in
theorem fl_X1_replaceShow_X1_0 : Cond.fieldLink RX1 11 (TX1 0).1 (TX1 0).2.1 (TX1 0).2.2.1 ∈ wsX1_replaceShow := by decide +kernel
theorem in_X1_canHold_X1 : ∀ x ∈ u_ws RX1 TX1 1, x ∈ wsX1_canHold := fun x h => List.mem_cons_of_mem _ (List.mem_append_right _ h)
set_option maxRecDepth 20000 in
theorem fl_X1_canHold_X1_0 : Cond.fieldLink RX1 11 (TX1 0).1 (TX1 0).2.1 (TX1 0).2.2.1 ∈ wsX1_canHold := by decide +kernel
theorem in_X1_shows_X1 : ∀ x ∈ u_ws RX1 TX1 1, x ∈ wsX1_shows := fun x h => List.mem_cons_of_mem _ (List.mem_append_right _ h)
set_option maxRecDepth 20000 in
theorem fl_X1_shows_X1_0 : Cond.fieldLink RX1 11 (TX1 0).1 (TX1 0).2.1 (TX1 0).2.2.1 ∈ wsX1_shows := by decide +kernel
theorem in_X1_firstDayShown_X1 : ∀ x ∈ u_ws RX1 TX1 1, x ∈ wsX1_firstDayShown := fun x h => List.mem_cons_of_mem _ (List.mem_append_right _ h)
set_option maxRecDepth 20000 in
theorem fl_X1_firstDayShown_X1_0 : Cond.fieldLink RX1 11 (TX1 0).1 (TX1 0).2.1 (TX1 0).2.2.1 ∈ wsX1_firstDayShown := by decide +kernel
theorem in_X1_rentOf_X1 : ∀ x ∈ u_ws RX1 TX1 1, x ∈ wsX1_rentOf := fun x h => List.mem_cons_of_mem _ (List.mem_append_right _ h)
set_option maxRecDepth 20000 in
theorem fl_X1_rentOf_X1_0 : Cond.fieldLink RX1 11 (TX1 0).1 (TX1 0).2.1 (TX1 0).2.2.1 ∈ wsX1_rentOf := by decide +kernel
theorem in_X1_changeRent_X1 : ∀ x ∈ u_ws RX1 TX1 1, x ∈ wsX1_changeRent := fun x h => List.mem_cons_of_mem _ (List.mem_append_right _ h)
set_option maxRecDepth 20000 in
theorem fl_X1_changeRent_X1_0 : Cond.fieldLink RX1 11 (TX1 0).1 (TX1 0).2.1 (TX1 0).2.2.1 ∈ wsX1_changeRent := by decide +kernel
theorem in_X1_rentsOf_X1 : ∀ x ∈ u_ws RX1 TX1 1, x ∈ wsX1_rentsOf := fun x h => List.mem_cons_of_mem _ (List.mem_append_right _ h)
set_option maxRecDepth 20000 in
theorem fl_X1_rentsOf_X1_0 : Cond.fieldLink RX1 11 (TX1 0).1 (TX1 0).2.1 (TX1 0).2.2.1 ∈ wsX1_rentsOf := by decide +kernel
theorem in_X2_init_X2 : ∀ x ∈ u_ws RX2 TX2 3, x ∈ wsX2_init := fun x h => List.mem_cons_of_mem _ (List.mem_append_right _ h)
set_option maxRecDepth 20000 in
theorem fl_X2_init_X2_0 : Cond.fieldLink RX2 13 (TX2 0).1 (TX2 0).2.1 (TX2 0).2.2.1 ∈ wsX2_init := by decide +kernel
theorem in_X2_size_X2 : ∀ x ∈ u_ws RX2 TX2 3, x ∈ wsX2_size := fun x h => List.mem_cons_of_mem _ (List.mem_append_right _ h)
set_option maxRecDepth 20000 in
theorem fl_X2_size_X2_2 : Cond.fieldLink RX2 16 (TX2 2).1 (TX2 2).2.1 (TX2 2).2.2.1 ∈ wsX2_size := by decide +kernel
theorem in_X2_record_X2 : ∀ x ∈ u_ws RX2 TX2 3, x ∈ wsX2_record := fun x h => List.mem_cons_of_mem _ (List.mem_append_left _ (List.mem_append_right _ h))
set_option maxRecDepth 20000 in
theorem fl_X2_record_X2_0 : Cond.fieldLink RX2 13 (TX2 0).1 (TX2 0).2.1 (TX2 0).2.2.1 ∈ wsX2_record := by decide +kernel
set_option maxRecDepth 20000 in
theorem fl_X2_record_X2_2 : Cond.fieldLink RX2 16 (TX2 2).1 (TX2 2).2.1 (TX2 2).2.2.1 ∈ wsX2_record := by decide +kernel
set_option maxRecDepth 20000 in
theorem fl_X2_record_X2_1 : Cond.fieldLink RX2 20 (TX2 1).1 (TX2 1).2.1 (TX2 1).2.2.1 ∈ wsX2_record := by decide +kernel
theorem in_X2_takeBack_X2 : ∀ x ∈ u_ws RX2 TX2 3, x ∈ wsX2_takeBack := fun x h => List.mem_cons_of_mem _ (List.mem_append_left _ (List.mem_append_right _ h))
set_option maxRecDepth 20000 in
theorem fl_X2_takeBack_X2_0 : Cond.fieldLink RX2 13 (TX2 0).1 (TX2 0).2.1 (TX2 0).2.2.1 ∈ wsX2_takeBack := by decide +kernel
set_option maxRecDepth 20000 in
theorem fl_X2_takeBack_X2_2 : Cond.fieldLink RX2 16 (TX2 2).1 (TX2 2).2.1 (TX2 2).2.2.1 ∈ wsX2_takeBack := by decide +kernel
set_option maxRecDepth 20000 in
theorem fl_X2_takeBack_X2_1 : Cond.fieldLink RX2 20 (TX2 1).1 (TX2 1).2.1 (TX2 1).2.2.1 ∈ wsX2_takeBack := by decide +kernel
theorem in_X3_init_X3 : ∀ x ∈ u_ws RX3 TX3 2, x ∈ wsX3_init := fun x h => List.mem_cons_of_mem _ (List.mem_append_right _ h)
set_option maxRecDepth 20000 in
theorem fl_X3_init_X3_0 : Cond.fieldLink RX3 11 (TX3 0).1 (TX3 0).2.1 (TX3 0).2.2.1 ∈ wsX3_init := by decide +kernel
theorem in_X3_length_X3 : ∀ x ∈ u_ws RX3 TX3 2, x ∈ wsX3_length := fun x h => List.mem_cons_of_mem _ (List.mem_append_right _ h)
set_option maxRecDepth 20000 in
theorem fl_X3_length_X3_1 : Cond.fieldLink RX3 15 (TX3 1).1 (TX3 1).2.1 (TX3 1).2.2.1 ∈ wsX3_length := by decide +kernel
theorem in_X3_empty_X3 : ∀ x ∈ u_ws RX3 TX3 2, x ∈ wsX3_empty := fun x h => List.mem_cons_of_mem _ (List.mem_append_right _ h)
set_option maxRecDepth 20000 in
theorem fl_X3_empty_X3_1 : Cond.fieldLink RX3 15 (TX3 1).1 (TX3 1).2.1 (TX3 1).2.2.1 ∈ wsX3_empty := by decide +kernel
theorem in_X3_append_X3 : ∀ x ∈ u_ws RX3 TX3 2, x ∈ wsX3_append := fun x h => List.mem_cons_of_mem _ (List.mem_append_right _ h)
set_option maxRecDepth 20000 in
theorem fl_X3_append_X3_0 : Cond.fieldLink RX3 11 (TX3 0).1 (TX3 0).2.1 (TX3 0).2.2.1 ∈ wsX3_append := by decide +kernel
set_option maxRecDepth 20000 in
theorem fl_X3_append_X3_1 : Cond.fieldLink RX3 15 (TX3 1).1 (TX3 1).2.1 (TX3 1).2.2.1 ∈ wsX3_append := by decide +kernel
set_option maxRecDepth 20000 in
theorem ct_X3_append_23 : Cond.constantLong RX3 23 (255) ∈ wsX3_append := by decide +kernel
set_option maxRecDepth 20000 in
theorem ct_X3_append_25 : Cond.constantLong RX3 25 (33) ∈ wsX3_append := by decide +kernel
set_option maxRecDepth 20000 in
theorem ct_X3_append_27 : Cond.constantLong RX3 27 (126) ∈ wsX3_append := by decide +kernel
set_option maxRecDepth 20000 in
theorem ct_X3_charactersIn_23 : Cond.constantLong RX3 23 (255) ∈ wsX3_charactersIn := by decide +kernel
set_option maxRecDepth 20000 in
theorem ct_X3_charactersIn_25 : Cond.constantLong RX3 25 (33) ∈ wsX3_charactersIn := by decide +kernel
set_option maxRecDepth 20000 in
theorem ct_X3_charactersIn_27 : Cond.constantLong RX3 27 (126) ∈ wsX3_charactersIn := by decide +kernel
theorem in_X3_firstFault_X3 : ∀ x ∈ u_ws RX3 TX3 2, x ∈ wsX3_firstFault := fun x h => List.mem_cons_of_mem _ (List.mem_append_right _ h)
set_option maxRecDepth 20000 in
theorem fl_X3_firstFault_X3_0 : Cond.fieldLink RX3 11 (TX3 0).1 (TX3 0).2.1 (TX3 0).2.2.1 ∈ wsX3_firstFault := by decide +kernel
set_option maxRecDepth 20000 in
theorem fl_X3_firstFault_X3_1 : Cond.fieldLink RX3 15 (TX3 1).1 (TX3 1).2.1 (TX3 1).2.2.1 ∈ wsX3_firstFault := by decide +kernel
theorem in_X3_characterAt_X3 : ∀ x ∈ u_ws RX3 TX3 2, x ∈ wsX3_characterAt := fun x h => List.mem_cons_of_mem _ (List.mem_append_right _ h)
set_option maxRecDepth 20000 in
theorem fl_X3_characterAt_X3_0 : Cond.fieldLink RX3 11 (TX3 0).1 (TX3 0).2.1 (TX3 0).2.2.1 ∈ wsX3_characterAt := by decide +kernel
set_option maxRecDepth 20000 in
theorem fl_X3_characterAt_X3_1 : Cond.fieldLink RX3 15 (TX3 1).1 (TX3 1).2.1 (TX3 1).2.2.1 ∈ wsX3_characterAt := by decide +kernel
theorem in_X3_isEndOfShow_X3 : ∀ x ∈ u_ws RX3 TX3 2, x ∈ wsX3_isEndOfShow := fun x h => List.mem_cons_of_mem _ (List.mem_append_right _ h)
set_option maxRecDepth 20000 in
theorem fl_X3_isEndOfShow_X3_0 : Cond.fieldLink RX3 11 (TX3 0).1 (TX3 0).2.1 (TX3 0).2.2.1 ∈ wsX3_isEndOfShow := by decide +kernel
set_option maxRecDepth 20000 in
theorem fl_X3_isEndOfShow_X3_1 : Cond.fieldLink RX3 15 (TX3 1).1 (TX3 1).2.1 (TX3 1).2.2.1 ∈ wsX3_isEndOfShow := by decide +kernel
theorem in_X3_filmAt_X3 : ∀ x ∈ u_ws RX3 TX3 2, x ∈ wsX3_filmAt := fun x h => List.mem_cons_of_mem _ (List.mem_append_right _ h)
set_option maxRecDepth 20000 in
theorem fl_X3_filmAt_X3_0 : Cond.fieldLink RX3 11 (TX3 0).1 (TX3 0).2.1 (TX3 0).2.2.1 ∈ wsX3_filmAt := by decide +kernel
set_option maxRecDepth 20000 in
theorem fl_X3_filmAt_X3_1 : Cond.fieldLink RX3 15 (TX3 1).1 (TX3 1).2.1 (TX3 1).2.2.1 ∈ wsX3_filmAt := by decide +kernel
theorem in_X3_partAt_X3 : ∀ x ∈ u_ws RX3 TX3 2, x ∈ wsX3_partAt := fun x h => List.mem_cons_of_mem _ (List.mem_append_right _ h)
set_option maxRecDepth 20000 in
theorem fl_X3_partAt_X3_0 : Cond.fieldLink RX3 11 (TX3 0).1 (TX3 0).2.1 (TX3 0).2.2.1 ∈ wsX3_partAt := by decide +kernel
set_option maxRecDepth 20000 in
theorem fl_X3_partAt_X3_1 : Cond.fieldLink RX3 15 (TX3 1).1 (TX3 1).2.1 (TX3 1).2.2.1 ∈ wsX3_partAt := by decide +kernel
theorem in_X3_dayAt_X3 : ∀ x ∈ u_ws RX3 TX3 2, x ∈ wsX3_dayAt := fun x h => List.mem_cons_of_mem _ (List.mem_append_right _ h)
set_option maxRecDepth 20000 in
theorem fl_X3_dayAt_X3_0 : Cond.fieldLink RX3 11 (TX3 0).1 (TX3 0).2.1 (TX3 0).2.2.1 ∈ wsX3_dayAt := by decide +kernel
set_option maxRecDepth 20000 in
theorem fl_X3_dayAt_X3_1 : Cond.fieldLink RX3 15 (TX3 1).1 (TX3 1).2.1 (TX3 1).2.2.1 ∈ wsX3_dayAt := by decide +kernel
theorem in_X4_init_X4 : ∀ x ∈ u_ws RX4 TX4 6, x ∈ wsX4_init := fun x h => List.mem_cons_of_mem _ (List.mem_append_left _ (List.mem_append_left _ (List.mem_append_left _ (List.mem_append_right _ h))))
set_option maxRecDepth 20000 in
theorem fl_X4_init_X4_0 : Cond.fieldLink RX4 12 (TX4 0).1 (TX4 0).2.1 (TX4 0).2.2.1 ∈ wsX4_init := by decide +kernel
set_option maxRecDepth 20000 in
theorem fl_X4_init_X4_1 : Cond.fieldLink RX4 19 (TX4 1).1 (TX4 1).2.1 (TX4 1).2.2.1 ∈ wsX4_init := by decide +kernel
set_option maxRecDepth 20000 in
theorem fl_X4_init_X4_2 : Cond.fieldLink RX4 26 (TX4 2).1 (TX4 2).2.1 (TX4 2).2.2.1 ∈ wsX4_init := by decide +kernel
set_option maxRecDepth 20000 in
theorem fl_X4_init_X4_3 : Cond.fieldLink RX4 33 (TX4 3).1 (TX4 3).2.1 (TX4 3).2.2.1 ∈ wsX4_init := by decide +kernel
set_option maxRecDepth 20000 in
theorem fl_X4_init_X4_4 : Cond.fieldLink RX4 39 (TX4 4).1 (TX4 4).2.1 (TX4 4).2.2.1 ∈ wsX4_init := by decide +kernel
set_option maxRecDepth 20000 in
theorem fl_X4_init_X4_5 : Cond.fieldLink RX4 42 (TX4 5).1 (TX4 5).2.1 (TX4 5).2.2.1 ∈ wsX4_init := by decide +kernel
theorem in_X4_set_X4 : ∀ x ∈ u_ws RX4 TX4 6, x ∈ wsX4_set := fun x h => List.mem_cons_of_mem _ (List.mem_append_left _ (List.mem_append_left _ (List.mem_append_right _ h)))
set_option maxRecDepth 20000 in
theorem fl_X4_set_X4_0 : Cond.fieldLink RX4 12 (TX4 0).1 (TX4 0).2.1 (TX4 0).2.2.1 ∈ wsX4_set := by decide +kernel
set_option maxRecDepth 20000 in
theorem fl_X4_set_X4_3 : Cond.fieldLink RX4 33 (TX4 3).1 (TX4 3).2.1 (TX4 3).2.2.1 ∈ wsX4_set := by decide +kernel
theorem in_X4_film_X4 : ∀ x ∈ u_ws RX4 TX4 6, x ∈ wsX4_film := fun x h => List.mem_cons_of_mem _ (List.mem_append_left _ (List.mem_append_left _ (List.mem_append_right _ h)))
set_option maxRecDepth 20000 in
theorem fl_X4_film_X4_0 : Cond.fieldLink RX4 12 (TX4 0).1 (TX4 0).2.1 (TX4 0).2.2.1 ∈ wsX4_film := by decide +kernel
set_option maxRecDepth 20000 in
theorem fl_X4_film_X4_3 : Cond.fieldLink RX4 33 (TX4 3).1 (TX4 3).2.1 (TX4 3).2.2.1 ∈ wsX4_film := by decide +kernel
theorem in_X4_show_X4 : ∀ x ∈ u_ws RX4 TX4 6, x ∈ wsX4_show := fun x h => List.mem_cons_of_mem _ (List.mem_append_left _ (List.mem_append_left _ (List.mem_append_right _ h)))
set_option maxRecDepth 20000 in
theorem fl_X4_show_X4_0 : Cond.fieldLink RX4 12 (TX4 0).1 (TX4 0).2.1 (TX4 0).2.2.1 ∈ wsX4_show := by decide +kernel
set_option maxRecDepth 20000 in
theorem fl_X4_show_X4_3 : Cond.fieldLink RX4 33 (TX4 3).1 (TX4 3).2.1 (TX4 3).2.2.1 ∈ wsX4_show := by decide +kernel
theorem in_X4_drop_X4 : ∀ x ∈ u_ws RX4 TX4 6, x ∈ wsX4_drop := fun x h => List.mem_cons_of_mem _ (List.mem_append_left _ (List.mem_append_left _ (List.mem_append_right _ h)))
set_option maxRecDepth 20000 in
theorem fl_X4_drop_X4_0 : Cond.fieldLink RX4 12 (TX4 0).1 (TX4 0).2.1 (TX4 0).2.2.1 ∈ wsX4_drop := by decide +kernel
set_option maxRecDepth 20000 in
theorem fl_X4_drop_X4_3 : Cond.fieldLink RX4 33 (TX4 3).1 (TX4 3).2.1 (TX4 3).2.2.1 ∈ wsX4_drop := by decide +kernel
theorem in_X4_exchange_X4 : ∀ x ∈ u_ws RX4 TX4 6, x ∈ wsX4_exchange := fun x h => List.mem_cons_of_mem _ (List.mem_append_left _ (List.mem_append_left _ (List.mem_append_left _ (List.mem_append_right _ h))))
set_option maxRecDepth 20000 in
theorem fl_X4_exchange_X4_0 : Cond.fieldLink RX4 12 (TX4 0).1 (TX4 0).2.1 (TX4 0).2.2.1 ∈ wsX4_exchange := by decide +kernel
set_option maxRecDepth 20000 in
theorem fl_X4_exchange_X4_1 : Cond.fieldLink RX4 19 (TX4 1).1 (TX4 1).2.1 (TX4 1).2.2.1 ∈ wsX4_exchange := by decide +kernel
set_option maxRecDepth 20000 in
theorem fl_X4_exchange_X4_3 : Cond.fieldLink RX4 33 (TX4 3).1 (TX4 3).2.1 (TX4 3).2.2.1 ∈ wsX4_exchange := by decide +kernel
set_option maxRecDepth 20000 in
theorem ct_X4_exchange_101 : Cond.constant RX4 101 (1000000) ∈ wsX4_exchange := by decide +kernel
theorem in_X4_let_X4 : ∀ x ∈ u_ws RX4 TX4 6, x ∈ wsX4_let := fun x h => List.mem_cons_of_mem _ (List.mem_append_left _ (List.mem_append_left _ (List.mem_append_right _ h)))
set_option maxRecDepth 20000 in
theorem fl_X4_let_X4_0 : Cond.fieldLink RX4 12 (TX4 0).1 (TX4 0).2.1 (TX4 0).2.2.1 ∈ wsX4_let := by decide +kernel
set_option maxRecDepth 20000 in
theorem fl_X4_let_X4_3 : Cond.fieldLink RX4 33 (TX4 3).1 (TX4 3).2.1 (TX4 3).2.2.1 ∈ wsX4_let := by decide +kernel
theorem in_X4_carryOut_X4 : ∀ x ∈ u_ws RX4 TX4 6, x ∈ wsX4_carryOut := fun x h => List.mem_cons_of_mem _ (List.mem_append_left _ (List.mem_append_left _ (List.mem_append_left _ (List.mem_append_right _ h))))
set_option maxRecDepth 20000 in
theorem fl_X4_carryOut_X4_0 : Cond.fieldLink RX4 12 (TX4 0).1 (TX4 0).2.1 (TX4 0).2.2.1 ∈ wsX4_carryOut := by decide +kernel
set_option maxRecDepth 20000 in
theorem fl_X4_carryOut_X4_2 : Cond.fieldLink RX4 26 (TX4 2).1 (TX4 2).2.1 (TX4 2).2.2.1 ∈ wsX4_carryOut := by decide +kernel
set_option maxRecDepth 20000 in
theorem fl_X4_carryOut_X4_3 : Cond.fieldLink RX4 33 (TX4 3).1 (TX4 3).2.1 (TX4 3).2.2.1 ∈ wsX4_carryOut := by decide +kernel
theorem in_X4_at_X4 : ∀ x ∈ u_ws RX4 TX4 6, x ∈ wsX4_at := fun x h => List.mem_cons_of_mem _ (List.mem_append_left _ (List.mem_append_left _ (List.mem_append_right _ h)))
set_option maxRecDepth 20000 in
theorem fl_X4_at_X4_0 : Cond.fieldLink RX4 12 (TX4 0).1 (TX4 0).2.1 (TX4 0).2.2.1 ∈ wsX4_at := by decide +kernel
set_option maxRecDepth 20000 in
theorem fl_X4_at_X4_1 : Cond.fieldLink RX4 19 (TX4 1).1 (TX4 1).2.1 (TX4 1).2.2.1 ∈ wsX4_at := by decide +kernel
theorem in_X4_of_X4 : ∀ x ∈ u_ws RX4 TX4 6, x ∈ wsX4_of := fun x h => List.mem_cons_of_mem _ (List.mem_append_left _ (List.mem_append_left _ (List.mem_append_right _ h)))
set_option maxRecDepth 20000 in
theorem fl_X4_of_X4_0 : Cond.fieldLink RX4 12 (TX4 0).1 (TX4 0).2.1 (TX4 0).2.2.1 ∈ wsX4_of := by decide +kernel
set_option maxRecDepth 20000 in
theorem fl_X4_of_X4_1 : Cond.fieldLink RX4 19 (TX4 1).1 (TX4 1).2.1 (TX4 1).2.2.1 ∈ wsX4_of := by decide +kernel
theorem in_X4_inWeek_X4 : ∀ x ∈ u_ws RX4 TX4 6, x ∈ wsX4_inWeek := fun x h => List.mem_cons_of_mem _ (List.mem_append_left _ (List.mem_append_left _ (List.mem_append_right _ h)))
set_option maxRecDepth 20000 in
theorem fl_X4_inWeek_X4_0 : Cond.fieldLink RX4 12 (TX4 0).1 (TX4 0).2.1 (TX4 0).2.2.1 ∈ wsX4_inWeek := by decide +kernel
set_option maxRecDepth 20000 in
theorem fl_X4_inWeek_X4_1 : Cond.fieldLink RX4 19 (TX4 1).1 (TX4 1).2.1 (TX4 1).2.2.1 ∈ wsX4_inWeek := by decide +kernel
theorem in_X4_week_X4 : ∀ x ∈ u_ws RX4 TX4 6, x ∈ wsX4_week := fun x h => List.mem_cons_of_mem _ (List.mem_append_left _ (List.mem_append_left _ (List.mem_append_right _ h)))
set_option maxRecDepth 20000 in
theorem fl_X4_week_X4_0 : Cond.fieldLink RX4 12 (TX4 0).1 (TX4 0).2.1 (TX4 0).2.2.1 ∈ wsX4_week := by decide +kernel
set_option maxRecDepth 20000 in
theorem fl_X4_week_X4_1 : Cond.fieldLink RX4 19 (TX4 1).1 (TX4 1).2.1 (TX4 1).2.2.1 ∈ wsX4_week := by decide +kernel
set_option maxRecDepth 20000 in
theorem ct_X4_week_101 : Cond.constant RX4 101 (1000000) ∈ wsX4_week := by decide +kernel
theorem in_X4_distributor_X4 : ∀ x ∈ u_ws RX4 TX4 6, x ∈ wsX4_distributor := fun x h => List.mem_cons_of_mem _ (List.mem_append_left _ (List.mem_append_left _ (List.mem_append_right _ h)))
set_option maxRecDepth 20000 in
theorem fl_X4_distributor_X4_0 : Cond.fieldLink RX4 12 (TX4 0).1 (TX4 0).2.1 (TX4 0).2.2.1 ∈ wsX4_distributor := by decide +kernel
set_option maxRecDepth 20000 in
theorem fl_X4_distributor_X4_1 : Cond.fieldLink RX4 19 (TX4 1).1 (TX4 1).2.1 (TX4 1).2.2.1 ∈ wsX4_distributor := by decide +kernel
theorem in_X4_rent_X4 : ∀ x ∈ u_ws RX4 TX4 6, x ∈ wsX4_rent := fun x h => List.mem_cons_of_mem _ (List.mem_append_left _ (List.mem_append_right _ h))
set_option maxRecDepth 20000 in
theorem fl_X4_rent_X4_0 : Cond.fieldLink RX4 12 (TX4 0).1 (TX4 0).2.1 (TX4 0).2.2.1 ∈ wsX4_rent := by decide +kernel
theorem in_X4_count_X4 : ∀ x ∈ u_ws RX4 TX4 6, x ∈ wsX4_count := fun x h => List.mem_cons_of_mem _ (List.mem_append_left _ (List.mem_append_left _ (List.mem_append_left _ (List.mem_append_left _ (List.mem_append_right _ h)))))
set_option maxRecDepth 20000 in
theorem fl_X4_count_X4_0 : Cond.fieldLink RX4 12 (TX4 0).1 (TX4 0).2.1 (TX4 0).2.2.1 ∈ wsX4_count := by decide +kernel
set_option maxRecDepth 20000 in
theorem fl_X4_count_X4_1 : Cond.fieldLink RX4 19 (TX4 1).1 (TX4 1).2.1 (TX4 1).2.2.1 ∈ wsX4_count := by decide +kernel
set_option maxRecDepth 20000 in
theorem fl_X4_count_X4_2 : Cond.fieldLink RX4 26 (TX4 2).1 (TX4 2).2.1 (TX4 2).2.2.1 ∈ wsX4_count := by decide +kernel
set_option maxRecDepth 20000 in
theorem fl_X4_count_X4_3 : Cond.fieldLink RX4 33 (TX4 3).1 (TX4 3).2.1 (TX4 3).2.2.1 ∈ wsX4_count := by decide +kernel
set_option maxRecDepth 20000 in
theorem ct_X4_count_101 : Cond.constant RX4 101 (1000000) ∈ wsX4_count := by decide +kernel
theorem in_X4_ifShown_X4 : ∀ x ∈ u_ws RX4 TX4 6, x ∈ wsX4_ifShown := fun x h => List.mem_cons_of_mem _ (List.mem_append_left _ (List.mem_append_left _ (List.mem_append_right _ h)))
set_option maxRecDepth 20000 in
theorem fl_X4_ifShown_X4_0 : Cond.fieldLink RX4 12 (TX4 0).1 (TX4 0).2.1 (TX4 0).2.2.1 ∈ wsX4_ifShown := by decide +kernel
set_option maxRecDepth 20000 in
theorem fl_X4_ifShown_X4_1 : Cond.fieldLink RX4 19 (TX4 1).1 (TX4 1).2.1 (TX4 1).2.2.1 ∈ wsX4_ifShown := by decide +kernel
set_option maxRecDepth 20000 in
theorem ct_X4_ifShown_101 : Cond.constant RX4 101 (1000000) ∈ wsX4_ifShown := by decide +kernel
theorem in_X4_bestFilm_X4 : ∀ x ∈ u_ws RX4 TX4 6, x ∈ wsX4_bestFilm := fun x h => List.mem_cons_of_mem _ (List.mem_append_left _ (List.mem_append_left _ (List.mem_append_right _ h)))
set_option maxRecDepth 20000 in
theorem fl_X4_bestFilm_X4_0 : Cond.fieldLink RX4 12 (TX4 0).1 (TX4 0).2.1 (TX4 0).2.2.1 ∈ wsX4_bestFilm := by decide +kernel
set_option maxRecDepth 20000 in
theorem fl_X4_bestFilm_X4_1 : Cond.fieldLink RX4 19 (TX4 1).1 (TX4 1).2.1 (TX4 1).2.2.1 ∈ wsX4_bestFilm := by decide +kernel
set_option maxRecDepth 20000 in
theorem ct_X4_bestFilm_101 : Cond.constant RX4 101 (1000000) ∈ wsX4_bestFilm := by decide +kernel
theorem in_X4_worstShow_X4 : ∀ x ∈ u_ws RX4 TX4 6, x ∈ wsX4_worstShow := fun x h => List.mem_cons_of_mem _ (List.mem_append_left _ (List.mem_append_left _ (List.mem_append_right _ h)))
set_option maxRecDepth 20000 in
theorem fl_X4_worstShow_X4_0 : Cond.fieldLink RX4 12 (TX4 0).1 (TX4 0).2.1 (TX4 0).2.2.1 ∈ wsX4_worstShow := by decide +kernel
set_option maxRecDepth 20000 in
theorem fl_X4_worstShow_X4_1 : Cond.fieldLink RX4 19 (TX4 1).1 (TX4 1).2.1 (TX4 1).2.2.1 ∈ wsX4_worstShow := by decide +kernel
set_option maxRecDepth 20000 in
theorem ct_X4_worstShow_101 : Cond.constant RX4 101 (1000000) ∈ wsX4_worstShow := by decide +kernel
theorem in_X4_priceFor_X4 : ∀ x ∈ u_ws RX4 TX4 6, x ∈ wsX4_priceFor := fun x h => List.mem_cons_of_mem _ (List.mem_append_left _ (List.mem_append_left _ (List.mem_append_right _ h)))
set_option maxRecDepth 20000 in
theorem fl_X4_priceFor_X4_0 : Cond.fieldLink RX4 12 (TX4 0).1 (TX4 0).2.1 (TX4 0).2.2.1 ∈ wsX4_priceFor := by decide +kernel
set_option maxRecDepth 20000 in
theorem fl_X4_priceFor_X4_1 : Cond.fieldLink RX4 19 (TX4 1).1 (TX4 1).2.1 (TX4 1).2.2.1 ∈ wsX4_priceFor := by decide +kernel
theorem in_X4_put_X4 : ∀ x ∈ u_ws RX4 TX4 6, x ∈ wsX4_put := fun x h => List.mem_cons_of_mem _ (List.mem_append_left _ (List.mem_append_right _ h))
set_option maxRecDepth 20000 in
theorem fl_X4_put_X4_2 : Cond.fieldLink RX4 26 (TX4 2).1 (TX4 2).2.1 (TX4 2).2.2.1 ∈ wsX4_put := by decide +kernel
theorem in_X4_wipe_X4 : ∀ x ∈ u_ws RX4 TX4 6, x ∈ wsX4_wipe := fun x h => List.mem_cons_of_mem _ (List.mem_append_left _ (List.mem_append_right _ h))
set_option maxRecDepth 20000 in
theorem fl_X4_wipe_X4_2 : Cond.fieldLink RX4 26 (TX4 2).1 (TX4 2).2.1 (TX4 2).2.2.1 ∈ wsX4_wipe := by decide +kernel
theorem in_X4_fault_X4 : ∀ x ∈ u_ws RX4 TX4 6, x ∈ wsX4_fault := fun x h => List.mem_cons_of_mem _ (List.mem_append_left _ (List.mem_append_right _ h))
set_option maxRecDepth 20000 in
theorem fl_X4_fault_X4_2 : Cond.fieldLink RX4 26 (TX4 2).1 (TX4 2).2.1 (TX4 2).2.2.1 ∈ wsX4_fault := by decide +kernel
theorem in_X4_undo_X4 : ∀ x ∈ u_ws RX4 TX4 6, x ∈ wsX4_undo := fun x h => List.mem_cons_of_mem _ (List.mem_append_left _ (List.mem_append_left _ (List.mem_append_right _ h)))
set_option maxRecDepth 20000 in
theorem fl_X4_undo_X4_0 : Cond.fieldLink RX4 12 (TX4 0).1 (TX4 0).2.1 (TX4 0).2.2.1 ∈ wsX4_undo := by decide +kernel
set_option maxRecDepth 20000 in
theorem fl_X4_undo_X4_3 : Cond.fieldLink RX4 33 (TX4 3).1 (TX4 3).2.1 (TX4 3).2.2.1 ∈ wsX4_undo := by decide +kernel
theorem in_X4_save_X4 : ∀ x ∈ u_ws RX4 TX4 6, x ∈ wsX4_save := fun x h => List.mem_cons_of_mem _ (List.mem_append_left _ (List.mem_append_right _ h))
set_option maxRecDepth 20000 in
theorem fl_X4_save_X4_0 : Cond.fieldLink RX4 12 (TX4 0).1 (TX4 0).2.1 (TX4 0).2.2.1 ∈ wsX4_save := by decide +kernel
set_option maxRecDepth 20000 in
theorem fl_X4_save_X4_4 : Cond.fieldLink RX4 39 (TX4 4).1 (TX4 4).2.1 (TX4 4).2.2.1 ∈ wsX4_save := by decide +kernel
set_option maxRecDepth 20000 in
theorem fl_X4_save_X4_5 : Cond.fieldLink RX4 42 (TX4 5).1 (TX4 5).2.1 (TX4 5).2.2.1 ∈ wsX4_save := by decide +kernel
theorem in_X4_restore_X4 : ∀ x ∈ u_ws RX4 TX4 6, x ∈ wsX4_restore := fun x h => List.mem_cons_of_mem _ (List.mem_append_left _ (List.mem_append_left _ (List.mem_append_right _ h)))
set_option maxRecDepth 20000 in
theorem fl_X4_restore_X4_0 : Cond.fieldLink RX4 12 (TX4 0).1 (TX4 0).2.1 (TX4 0).2.2.1 ∈ wsX4_restore := by decide +kernel
set_option maxRecDepth 20000 in
theorem fl_X4_restore_X4_3 : Cond.fieldLink RX4 33 (TX4 3).1 (TX4 3).2.1 (TX4 3).2.2.1 ∈ wsX4_restore := by decide +kernel
set_option maxRecDepth 20000 in
theorem fl_X4_restore_X4_4 : Cond.fieldLink RX4 39 (TX4 4).1 (TX4 4).2.1 (TX4 4).2.2.1 ∈ wsX4_restore := by decide +kernel
set_option maxRecDepth 20000 in
theorem fl_X4_restore_X4_5 : Cond.fieldLink RX4 42 (TX4 5).1 (TX4 5).2.1 (TX4 5).2.2.1 ∈ wsX4_restore := by decide +kernel
theorem in_X4_errorOfShow_X4 : ∀ x ∈ u_ws RX4 TX4 6, x ∈ wsX4_errorOfShow := fun x h => List.mem_cons_of_mem _ (List.mem_append_left _ (List.mem_append_right _ h))
set_option maxRecDepth 20000 in
theorem fl_X4_errorOfShow_X4_0 : Cond.fieldLink RX4 12 (TX4 0).1 (TX4 0).2.1 (TX4 0).2.2.1 ∈ wsX4_errorOfShow := by decide +kernel
theorem in_X4_dropShowsOfDay_X4 : ∀ x ∈ u_ws RX4 TX4 6, x ∈ wsX4_dropShowsOfDay := fun x h => List.mem_cons_of_mem _ (List.mem_append_left _ (List.mem_append_right _ h))
set_option maxRecDepth 20000 in
theorem fl_X4_dropShowsOfDay_X4_0 : Cond.fieldLink RX4 12 (TX4 0).1 (TX4 0).2.1 (TX4 0).2.2.1 ∈ wsX4_dropShowsOfDay := by decide +kernel
theorem in_X4_putInShowsOfPad_X4 : ∀ x ∈ u_ws RX4 TX4 6, x ∈ wsX4_putInShowsOfPad := fun x h => List.mem_cons_of_mem _ (List.mem_append_left _ (List.mem_append_left _ (List.mem_append_right _ h)))
set_option maxRecDepth 20000 in
theorem fl_X4_putInShowsOfPad_X4_0 : Cond.fieldLink RX4 12 (TX4 0).1 (TX4 0).2.1 (TX4 0).2.2.1 ∈ wsX4_putInShowsOfPad := by decide +kernel
set_option maxRecDepth 20000 in
theorem fl_X4_putInShowsOfPad_X4_2 : Cond.fieldLink RX4 26 (TX4 2).1 (TX4 2).2.1 (TX4 2).2.2.1 ∈ wsX4_putInShowsOfPad := by decide +kernel
theorem in_X4_sumOfFilm_X4 : ∀ x ∈ u_ws RX4 TX4 6, x ∈ wsX4_sumOfFilm := fun x h => List.mem_cons_of_mem _ (List.mem_append_left _ (List.mem_append_left _ (List.mem_append_right _ h)))
set_option maxRecDepth 20000 in
theorem fl_X4_sumOfFilm_X4_0 : Cond.fieldLink RX4 12 (TX4 0).1 (TX4 0).2.1 (TX4 0).2.2.1 ∈ wsX4_sumOfFilm := by decide +kernel
set_option maxRecDepth 20000 in
theorem fl_X4_sumOfFilm_X4_1 : Cond.fieldLink RX4 19 (TX4 1).1 (TX4 1).2.1 (TX4 1).2.2.1 ∈ wsX4_sumOfFilm := by decide +kernel
theorem in_X4_sumOfFilms_X4 : ∀ x ∈ u_ws RX4 TX4 6, x ∈ wsX4_sumOfFilms := fun x h => List.mem_cons_of_mem _ (List.mem_append_left _ (List.mem_append_left _ (List.mem_append_right _ h)))
set_option maxRecDepth 20000 in
theorem fl_X4_sumOfFilms_X4_0 : Cond.fieldLink RX4 12 (TX4 0).1 (TX4 0).2.1 (TX4 0).2.2.1 ∈ wsX4_sumOfFilms := by decide +kernel
set_option maxRecDepth 20000 in
theorem fl_X4_sumOfFilms_X4_1 : Cond.fieldLink RX4 19 (TX4 1).1 (TX4 1).2.1 (TX4 1).2.2.1 ∈ wsX4_sumOfFilms := by decide +kernel
theorem in_X4_sumOfFilmsInWeek_X4 : ∀ x ∈ u_ws RX4 TX4 6, x ∈ wsX4_sumOfFilmsInWeek := fun x h => List.mem_cons_of_mem _ (List.mem_append_left _ (List.mem_append_left _ (List.mem_append_right _ h)))
set_option maxRecDepth 20000 in
theorem fl_X4_sumOfFilmsInWeek_X4_0 : Cond.fieldLink RX4 12 (TX4 0).1 (TX4 0).2.1 (TX4 0).2.2.1 ∈ wsX4_sumOfFilmsInWeek := by decide +kernel
set_option maxRecDepth 20000 in
theorem fl_X4_sumOfFilmsInWeek_X4_1 : Cond.fieldLink RX4 19 (TX4 1).1 (TX4 1).2.1 (TX4 1).2.2.1 ∈ wsX4_sumOfFilmsInWeek := by decide +kernel
theorem in_X4_fullShows_X4 : ∀ x ∈ u_ws RX4 TX4 6, x ∈ wsX4_fullShows := fun x h => List.mem_cons_of_mem _ (List.mem_append_left _ (List.mem_append_left _ (List.mem_append_right _ h)))
set_option maxRecDepth 20000 in
theorem fl_X4_fullShows_X4_0 : Cond.fieldLink RX4 12 (TX4 0).1 (TX4 0).2.1 (TX4 0).2.2.1 ∈ wsX4_fullShows := by decide +kernel
set_option maxRecDepth 20000 in
theorem fl_X4_fullShows_X4_1 : Cond.fieldLink RX4 19 (TX4 1).1 (TX4 1).2.1 (TX4 1).2.2.1 ∈ wsX4_fullShows := by decide +kernel
theorem in_X4_leftOfFilm_X4 : ∀ x ∈ u_ws RX4 TX4 6, x ∈ wsX4_leftOfFilm := fun x h => List.mem_cons_of_mem _ (List.mem_append_left _ (List.mem_append_left _ (List.mem_append_right _ h)))
set_option maxRecDepth 20000 in
theorem fl_X4_leftOfFilm_X4_0 : Cond.fieldLink RX4 12 (TX4 0).1 (TX4 0).2.1 (TX4 0).2.2.1 ∈ wsX4_leftOfFilm := by decide +kernel
set_option maxRecDepth 20000 in
theorem fl_X4_leftOfFilm_X4_1 : Cond.fieldLink RX4 19 (TX4 1).1 (TX4 1).2.1 (TX4 1).2.2.1 ∈ wsX4_leftOfFilm := by decide +kernel
theorem in_X4_gainWith_X4 : ∀ x ∈ u_ws RX4 TX4 6, x ∈ wsX4_gainWith := fun x h => List.mem_cons_of_mem _ (List.mem_append_left _ (List.mem_append_left _ (List.mem_append_right _ h)))
set_option maxRecDepth 20000 in
theorem fl_X4_gainWith_X4_0 : Cond.fieldLink RX4 12 (TX4 0).1 (TX4 0).2.1 (TX4 0).2.2.1 ∈ wsX4_gainWith := by decide +kernel
set_option maxRecDepth 20000 in
theorem fl_X4_gainWith_X4_1 : Cond.fieldLink RX4 19 (TX4 1).1 (TX4 1).2.1 (TX4 1).2.2.1 ∈ wsX4_gainWith := by decide +kernel
theorem in_X5_init_X5 : ∀ x ∈ u_ws RX5 TX5 18, x ∈ wsX5_init := fun x h => List.mem_cons_of_mem _ (List.mem_append_right _ h)
set_option maxRecDepth 20000 in
theorem fl_X5_init_X5_0 : Cond.fieldLink RX5 7 (TX5 0).1 (TX5 0).2.1 (TX5 0).2.2.1 ∈ wsX5_init := by decide +kernel
set_option maxRecDepth 20000 in
theorem fl_X5_init_X5_1 : Cond.fieldLink RX5 13 (TX5 1).1 (TX5 1).2.1 (TX5 1).2.2.1 ∈ wsX5_init := by decide +kernel
set_option maxRecDepth 20000 in
theorem fl_X5_init_X5_3 : Cond.fieldLink RX5 16 (TX5 3).1 (TX5 3).2.1 (TX5 3).2.2.1 ∈ wsX5_init := by decide +kernel
set_option maxRecDepth 20000 in
theorem fl_X5_init_X5_4 : Cond.fieldLink RX5 19 (TX5 4).1 (TX5 4).2.1 (TX5 4).2.2.1 ∈ wsX5_init := by decide +kernel
set_option maxRecDepth 20000 in
theorem fl_X5_init_X5_5 : Cond.fieldLink RX5 22 (TX5 5).1 (TX5 5).2.1 (TX5 5).2.2.1 ∈ wsX5_init := by decide +kernel
set_option maxRecDepth 20000 in
theorem fl_X5_init_X5_7 : Cond.fieldLink RX5 25 (TX5 7).1 (TX5 7).2.1 (TX5 7).2.2.1 ∈ wsX5_init := by decide +kernel
set_option maxRecDepth 20000 in
theorem fl_X5_init_X5_8 : Cond.fieldLink RX5 28 (TX5 8).1 (TX5 8).2.1 (TX5 8).2.2.1 ∈ wsX5_init := by decide +kernel
set_option maxRecDepth 20000 in
theorem fl_X5_init_X5_9 : Cond.fieldLink RX5 31 (TX5 9).1 (TX5 9).2.1 (TX5 9).2.2.1 ∈ wsX5_init := by decide +kernel
set_option maxRecDepth 20000 in
theorem fl_X5_init_X5_10 : Cond.fieldLink RX5 34 (TX5 10).1 (TX5 10).2.1 (TX5 10).2.2.1 ∈ wsX5_init := by decide +kernel
set_option maxRecDepth 20000 in
theorem fl_X5_init_X5_11 : Cond.fieldLink RX5 37 (TX5 11).1 (TX5 11).2.1 (TX5 11).2.2.1 ∈ wsX5_init := by decide +kernel
set_option maxRecDepth 20000 in
theorem fl_X5_init_X5_12 : Cond.fieldLink RX5 40 (TX5 12).1 (TX5 12).2.1 (TX5 12).2.2.1 ∈ wsX5_init := by decide +kernel
set_option maxRecDepth 20000 in
theorem fl_X5_init_X5_13 : Cond.fieldLink RX5 43 (TX5 13).1 (TX5 13).2.1 (TX5 13).2.2.1 ∈ wsX5_init := by decide +kernel
theorem in_X5_record_X5 : ∀ x ∈ u_ws RX5 TX5 18, x ∈ wsX5_record := fun x h => List.mem_cons_of_mem _ (List.mem_append_right _ h)
set_option maxRecDepth 20000 in
theorem fl_X5_record_X5_0 : Cond.fieldLink RX5 7 (TX5 0).1 (TX5 0).2.1 (TX5 0).2.2.1 ∈ wsX5_record := by decide +kernel
set_option maxRecDepth 20000 in
theorem fl_X5_record_X5_1 : Cond.fieldLink RX5 13 (TX5 1).1 (TX5 1).2.1 (TX5 1).2.2.1 ∈ wsX5_record := by decide +kernel
set_option maxRecDepth 20000 in
theorem fl_X5_record_X5_2 : Cond.fieldLink RX5 46 (TX5 2).1 (TX5 2).2.1 (TX5 2).2.2.1 ∈ wsX5_record := by decide +kernel
theorem in_X5_isFilm_X5 : ∀ x ∈ u_ws RX5 TX5 18, x ∈ wsX5_isFilm := fun x h => List.mem_cons_of_mem _ (List.mem_append_right _ h)
set_option maxRecDepth 20000 in
theorem fl_X5_isFilm_X5_0 : Cond.fieldLink RX5 7 (TX5 0).1 (TX5 0).2.1 (TX5 0).2.2.1 ∈ wsX5_isFilm := by decide +kernel
theorem in_X5_filmPart_X5 : ∀ x ∈ u_ws RX5 TX5 18, x ∈ wsX5_filmPart := fun x h => List.mem_cons_of_mem _ (List.mem_append_right _ h)
set_option maxRecDepth 20000 in
theorem fl_X5_filmPart_X5_0 : Cond.fieldLink RX5 7 (TX5 0).1 (TX5 0).2.1 (TX5 0).2.2.1 ∈ wsX5_filmPart := by decide +kernel
theorem in_X5_showAt_X5 : ∀ x ∈ u_ws RX5 TX5 18, x ∈ wsX5_showAt := fun x h => List.mem_cons_of_mem _ (List.mem_append_right _ h)
set_option maxRecDepth 20000 in
theorem fl_X5_showAt_X5_0 : Cond.fieldLink RX5 7 (TX5 0).1 (TX5 0).2.1 (TX5 0).2.2.1 ∈ wsX5_showAt := by decide +kernel
theorem in_X5_isLet_X5 : ∀ x ∈ u_ws RX5 TX5 18, x ∈ wsX5_isLet := fun x h => List.mem_cons_of_mem _ (List.mem_append_right _ h)
set_option maxRecDepth 20000 in
theorem fl_X5_isLet_X5_0 : Cond.fieldLink RX5 7 (TX5 0).1 (TX5 0).2.1 (TX5 0).2.2.1 ∈ wsX5_isLet := by decide +kernel
theorem in_X5_fade_X5 : ∀ x ∈ u_ws RX5 TX5 18, x ∈ wsX5_fade := fun x h => List.mem_cons_of_mem _ (List.mem_append_right _ h)
set_option maxRecDepth 20000 in
theorem fl_X5_fade_X5_0 : Cond.fieldLink RX5 7 (TX5 0).1 (TX5 0).2.1 (TX5 0).2.2.1 ∈ wsX5_fade := by decide +kernel
set_option maxRecDepth 20000 in
theorem fl_X5_fade_X5_9 : Cond.fieldLink RX5 31 (TX5 9).1 (TX5 9).2.1 (TX5 9).2.2.1 ∈ wsX5_fade := by decide +kernel
theorem in_X5_findPeople_X5 : ∀ x ∈ u_ws RX5 TX5 18, x ∈ wsX5_findPeople := fun x h => List.mem_cons_of_mem _ (List.mem_append_right _ h)
set_option maxRecDepth 20000 in
theorem fl_X5_findPeople_X5_0 : Cond.fieldLink RX5 7 (TX5 0).1 (TX5 0).2.1 (TX5 0).2.2.1 ∈ wsX5_findPeople := by decide +kernel
set_option maxRecDepth 20000 in
theorem fl_X5_findPeople_X5_7 : Cond.fieldLink RX5 25 (TX5 7).1 (TX5 7).2.1 (TX5 7).2.2.1 ∈ wsX5_findPeople := by decide +kernel
set_option maxRecDepth 20000 in
theorem fl_X5_findPeople_X5_8 : Cond.fieldLink RX5 28 (TX5 8).1 (TX5 8).2.1 (TX5 8).2.2.1 ∈ wsX5_findPeople := by decide +kernel
set_option maxRecDepth 20000 in
theorem fl_X5_findPeople_X5_9 : Cond.fieldLink RX5 31 (TX5 9).1 (TX5 9).2.1 (TX5 9).2.2.1 ∈ wsX5_findPeople := by decide +kernel
theorem in_X5_findTakings_X5 : ∀ x ∈ u_ws RX5 TX5 18, x ∈ wsX5_findTakings := fun x h => List.mem_cons_of_mem _ (List.mem_append_right _ h)
set_option maxRecDepth 20000 in
theorem fl_X5_findTakings_X5_0 : Cond.fieldLink RX5 7 (TX5 0).1 (TX5 0).2.1 (TX5 0).2.2.1 ∈ wsX5_findTakings := by decide +kernel
set_option maxRecDepth 20000 in
theorem fl_X5_findTakings_X5_7 : Cond.fieldLink RX5 25 (TX5 7).1 (TX5 7).2.1 (TX5 7).2.2.1 ∈ wsX5_findTakings := by decide +kernel
set_option maxRecDepth 20000 in
theorem fl_X5_findTakings_X5_10 : Cond.fieldLink RX5 34 (TX5 10).1 (TX5 10).2.1 (TX5 10).2.2.1 ∈ wsX5_findTakings := by decide +kernel
set_option maxRecDepth 20000 in
theorem fl_X5_findTakings_X5_11 : Cond.fieldLink RX5 37 (TX5 11).1 (TX5 11).2.1 (TX5 11).2.2.1 ∈ wsX5_findTakings := by decide +kernel
theorem in_X5_shareOf_X5 : ∀ x ∈ u_ws RX5 TX5 18, x ∈ wsX5_shareOf := fun x h => List.mem_cons_of_mem _ (List.mem_append_right _ h)
set_option maxRecDepth 20000 in
theorem fl_X5_shareOf_X5_0 : Cond.fieldLink RX5 7 (TX5 0).1 (TX5 0).2.1 (TX5 0).2.2.1 ∈ wsX5_shareOf := by decide +kernel
theorem in_X5_shareOfTakings_X5 : ∀ x ∈ u_ws RX5 TX5 18, x ∈ wsX5_shareOfTakings := fun x h => List.mem_cons_of_mem _ (List.mem_append_right _ h)
set_option maxRecDepth 20000 in
theorem fl_X5_shareOfTakings_X5_11 : Cond.fieldLink RX5 37 (TX5 11).1 (TX5 11).2.1 (TX5 11).2.2.1 ∈ wsX5_shareOfTakings := by decide +kernel
set_option maxRecDepth 20000 in
theorem fl_X5_shareOfTakings_X5_12 : Cond.fieldLink RX5 40 (TX5 12).1 (TX5 12).2.1 (TX5 12).2.2.1 ∈ wsX5_shareOfTakings := by decide +kernel
theorem in_X5_findDues_X5 : ∀ x ∈ u_ws RX5 TX5 18, x ∈ wsX5_findDues := fun x h => List.mem_cons_of_mem _ (List.mem_append_right _ h)
set_option maxRecDepth 20000 in
theorem fl_X5_findDues_X5_0 : Cond.fieldLink RX5 7 (TX5 0).1 (TX5 0).2.1 (TX5 0).2.2.1 ∈ wsX5_findDues := by decide +kernel
set_option maxRecDepth 20000 in
theorem fl_X5_findDues_X5_10 : Cond.fieldLink RX5 34 (TX5 10).1 (TX5 10).2.1 (TX5 10).2.2.1 ∈ wsX5_findDues := by decide +kernel
set_option maxRecDepth 20000 in
theorem fl_X5_findDues_X5_11 : Cond.fieldLink RX5 37 (TX5 11).1 (TX5 11).2.1 (TX5 11).2.2.1 ∈ wsX5_findDues := by decide +kernel
set_option maxRecDepth 20000 in
theorem fl_X5_findDues_X5_12 : Cond.fieldLink RX5 40 (TX5 12).1 (TX5 12).2.1 (TX5 12).2.2.1 ∈ wsX5_findDues := by decide +kernel
set_option maxRecDepth 20000 in
theorem fl_X5_findDues_X5_13 : Cond.fieldLink RX5 43 (TX5 13).1 (TX5 13).2.1 (TX5 13).2.2.1 ∈ wsX5_findDues := by decide +kernel
theorem in_X5_reckon_X5 : ∀ x ∈ u_ws RX5 TX5 18, x ∈ wsX5_reckon := fun x h => List.mem_cons_of_mem _ (List.mem_append_right _ h)
set_option maxRecDepth 20000 in
theorem fl_X5_reckon_X5_0 : Cond.fieldLink RX5 7 (TX5 0).1 (TX5 0).2.1 (TX5 0).2.2.1 ∈ wsX5_reckon := by decide +kernel
set_option maxRecDepth 20000 in
theorem fl_X5_reckon_X5_7 : Cond.fieldLink RX5 25 (TX5 7).1 (TX5 7).2.1 (TX5 7).2.2.1 ∈ wsX5_reckon := by decide +kernel
set_option maxRecDepth 20000 in
theorem fl_X5_reckon_X5_8 : Cond.fieldLink RX5 28 (TX5 8).1 (TX5 8).2.1 (TX5 8).2.2.1 ∈ wsX5_reckon := by decide +kernel
set_option maxRecDepth 20000 in
theorem fl_X5_reckon_X5_9 : Cond.fieldLink RX5 31 (TX5 9).1 (TX5 9).2.1 (TX5 9).2.2.1 ∈ wsX5_reckon := by decide +kernel
set_option maxRecDepth 20000 in
theorem fl_X5_reckon_X5_10 : Cond.fieldLink RX5 34 (TX5 10).1 (TX5 10).2.1 (TX5 10).2.2.1 ∈ wsX5_reckon := by decide +kernel
set_option maxRecDepth 20000 in
theorem fl_X5_reckon_X5_11 : Cond.fieldLink RX5 37 (TX5 11).1 (TX5 11).2.1 (TX5 11).2.2.1 ∈ wsX5_reckon := by decide +kernel
set_option maxRecDepth 20000 in
theorem fl_X5_reckon_X5_12 : Cond.fieldLink RX5 40 (TX5 12).1 (TX5 12).2.1 (TX5 12).2.2.1 ∈ wsX5_reckon := by decide +kernel
set_option maxRecDepth 20000 in
theorem fl_X5_reckon_X5_13 : Cond.fieldLink RX5 43 (TX5 13).1 (TX5 13).2.1 (TX5 13).2.2.1 ∈ wsX5_reckon := by decide +kernel
theorem in_X5_rentsOf_X5 : ∀ x ∈ u_ws RX5 TX5 18, x ∈ wsX5_rentsOf := fun x h => List.mem_cons_of_mem _ (List.mem_append_right _ h)
set_option maxRecDepth 20000 in
theorem fl_X5_rentsOf_X5_0 : Cond.fieldLink RX5 7 (TX5 0).1 (TX5 0).2.1 (TX5 0).2.2.1 ∈ wsX5_rentsOf := by decide +kernel
theorem in_X5_peopleIn_X5 : ∀ x ∈ u_ws RX5 TX5 18, x ∈ wsX5_peopleIn := fun x h => List.mem_cons_of_mem _ (List.mem_append_right _ h)
set_option maxRecDepth 20000 in
theorem fl_X5_peopleIn_X5_7 : Cond.fieldLink RX5 25 (TX5 7).1 (TX5 7).2.1 (TX5 7).2.2.1 ∈ wsX5_peopleIn := by decide +kernel
theorem in_X5_leftOf_X5 : ∀ x ∈ u_ws RX5 TX5 18, x ∈ wsX5_leftOf := fun x h => List.mem_cons_of_mem _ (List.mem_append_right _ h)
set_option maxRecDepth 20000 in
theorem fl_X5_leftOf_X5_0 : Cond.fieldLink RX5 7 (TX5 0).1 (TX5 0).2.1 (TX5 0).2.2.1 ∈ wsX5_leftOf := by decide +kernel
set_option maxRecDepth 20000 in
theorem fl_X5_leftOf_X5_10 : Cond.fieldLink RX5 34 (TX5 10).1 (TX5 10).2.1 (TX5 10).2.2.1 ∈ wsX5_leftOf := by decide +kernel
set_option maxRecDepth 20000 in
theorem fl_X5_leftOf_X5_11 : Cond.fieldLink RX5 37 (TX5 11).1 (TX5 11).2.1 (TX5 11).2.2.1 ∈ wsX5_leftOf := by decide +kernel
set_option maxRecDepth 20000 in
theorem fl_X5_leftOf_X5_13 : Cond.fieldLink RX5 43 (TX5 13).1 (TX5 13).2.1 (TX5 13).2.2.1 ∈ wsX5_leftOf := by decide +kernel
theorem in_X5_leftNow_X5 : ∀ x ∈ u_ws RX5 TX5 18, x ∈ wsX5_leftNow := fun x h => List.mem_cons_of_mem _ (List.mem_append_right _ h)
set_option maxRecDepth 20000 in
theorem fl_X5_leftNow_X5_0 : Cond.fieldLink RX5 7 (TX5 0).1 (TX5 0).2.1 (TX5 0).2.2.1 ∈ wsX5_leftNow := by decide +kernel
set_option maxRecDepth 20000 in
theorem fl_X5_leftNow_X5_7 : Cond.fieldLink RX5 25 (TX5 7).1 (TX5 7).2.1 (TX5 7).2.2.1 ∈ wsX5_leftNow := by decide +kernel
set_option maxRecDepth 20000 in
theorem fl_X5_leftNow_X5_8 : Cond.fieldLink RX5 28 (TX5 8).1 (TX5 8).2.1 (TX5 8).2.2.1 ∈ wsX5_leftNow := by decide +kernel
set_option maxRecDepth 20000 in
theorem fl_X5_leftNow_X5_9 : Cond.fieldLink RX5 31 (TX5 9).1 (TX5 9).2.1 (TX5 9).2.2.1 ∈ wsX5_leftNow := by decide +kernel
set_option maxRecDepth 20000 in
theorem fl_X5_leftNow_X5_10 : Cond.fieldLink RX5 34 (TX5 10).1 (TX5 10).2.1 (TX5 10).2.2.1 ∈ wsX5_leftNow := by decide +kernel
set_option maxRecDepth 20000 in
theorem fl_X5_leftNow_X5_11 : Cond.fieldLink RX5 37 (TX5 11).1 (TX5 11).2.1 (TX5 11).2.2.1 ∈ wsX5_leftNow := by decide +kernel
set_option maxRecDepth 20000 in
theorem fl_X5_leftNow_X5_12 : Cond.fieldLink RX5 40 (TX5 12).1 (TX5 12).2.1 (TX5 12).2.2.1 ∈ wsX5_leftNow := by decide +kernel
set_option maxRecDepth 20000 in
theorem fl_X5_leftNow_X5_13 : Cond.fieldLink RX5 43 (TX5 13).1 (TX5 13).2.1 (TX5 13).2.2.1 ∈ wsX5_leftNow := by decide +kernel
theorem in_X5_set_X5 : ∀ x ∈ u_ws RX5 TX5 18, x ∈ wsX5_set := fun x h => List.mem_cons_of_mem _ (List.mem_append_right _ h)
set_option maxRecDepth 20000 in
theorem fl_X5_set_X5_0 : Cond.fieldLink RX5 7 (TX5 0).1 (TX5 0).2.1 (TX5 0).2.2.1 ∈ wsX5_set := by decide +kernel
set_option maxRecDepth 20000 in
theorem fl_X5_set_X5_1 : Cond.fieldLink RX5 13 (TX5 1).1 (TX5 1).2.1 (TX5 1).2.2.1 ∈ wsX5_set := by decide +kernel
set_option maxRecDepth 20000 in
theorem fl_X5_set_X5_2 : Cond.fieldLink RX5 46 (TX5 2).1 (TX5 2).2.1 (TX5 2).2.2.1 ∈ wsX5_set := by decide +kernel
theorem in_X5_film_X5 : ∀ x ∈ u_ws RX5 TX5 18, x ∈ wsX5_film := fun x h => List.mem_cons_of_mem _ (List.mem_append_right _ h)
set_option maxRecDepth 20000 in
theorem fl_X5_film_X5_0 : Cond.fieldLink RX5 7 (TX5 0).1 (TX5 0).2.1 (TX5 0).2.2.1 ∈ wsX5_film := by decide +kernel
set_option maxRecDepth 20000 in
theorem fl_X5_film_X5_1 : Cond.fieldLink RX5 13 (TX5 1).1 (TX5 1).2.1 (TX5 1).2.2.1 ∈ wsX5_film := by decide +kernel
set_option maxRecDepth 20000 in
theorem fl_X5_film_X5_2 : Cond.fieldLink RX5 46 (TX5 2).1 (TX5 2).2.1 (TX5 2).2.2.1 ∈ wsX5_film := by decide +kernel
theorem in_X5_canShow_X5 : ∀ x ∈ u_ws RX5 TX5 18, x ∈ wsX5_canShow := fun x h => List.mem_cons_of_mem _ (List.mem_append_right _ h)
set_option maxRecDepth 20000 in
theorem fl_X5_canShow_X5_0 : Cond.fieldLink RX5 7 (TX5 0).1 (TX5 0).2.1 (TX5 0).2.2.1 ∈ wsX5_canShow := by decide +kernel
theorem in_X5_whyNotShown_X5 : ∀ x ∈ u_ws RX5 TX5 18, x ∈ wsX5_whyNotShown := fun x h => List.mem_cons_of_mem _ (List.mem_append_right _ h)
set_option maxRecDepth 20000 in
theorem fl_X5_whyNotShown_X5_0 : Cond.fieldLink RX5 7 (TX5 0).1 (TX5 0).2.1 (TX5 0).2.2.1 ∈ wsX5_whyNotShown := by decide +kernel
theorem in_X5_show_X5 : ∀ x ∈ u_ws RX5 TX5 18, x ∈ wsX5_show := fun x h => List.mem_cons_of_mem _ (List.mem_append_right _ h)
set_option maxRecDepth 20000 in
theorem fl_X5_show_X5_0 : Cond.fieldLink RX5 7 (TX5 0).1 (TX5 0).2.1 (TX5 0).2.2.1 ∈ wsX5_show := by decide +kernel
set_option maxRecDepth 20000 in
theorem fl_X5_show_X5_1 : Cond.fieldLink RX5 13 (TX5 1).1 (TX5 1).2.1 (TX5 1).2.2.1 ∈ wsX5_show := by decide +kernel
set_option maxRecDepth 20000 in
theorem fl_X5_show_X5_2 : Cond.fieldLink RX5 46 (TX5 2).1 (TX5 2).2.1 (TX5 2).2.2.1 ∈ wsX5_show := by decide +kernel
theorem in_X5_drop_X5 : ∀ x ∈ u_ws RX5 TX5 18, x ∈ wsX5_drop := fun x h => List.mem_cons_of_mem _ (List.mem_append_right _ h)
set_option maxRecDepth 20000 in
theorem fl_X5_drop_X5_0 : Cond.fieldLink RX5 7 (TX5 0).1 (TX5 0).2.1 (TX5 0).2.2.1 ∈ wsX5_drop := by decide +kernel
set_option maxRecDepth 20000 in
theorem fl_X5_drop_X5_1 : Cond.fieldLink RX5 13 (TX5 1).1 (TX5 1).2.1 (TX5 1).2.2.1 ∈ wsX5_drop := by decide +kernel
set_option maxRecDepth 20000 in
theorem fl_X5_drop_X5_2 : Cond.fieldLink RX5 46 (TX5 2).1 (TX5 2).2.1 (TX5 2).2.2.1 ∈ wsX5_drop := by decide +kernel
theorem in_X5_canBe_X5 : ∀ x ∈ u_ws RX5 TX5 18, x ∈ wsX5_canBe := fun x h => List.mem_cons_of_mem _ (List.mem_append_right _ h)
set_option maxRecDepth 20000 in
theorem fl_X5_canBe_X5_0 : Cond.fieldLink RX5 7 (TX5 0).1 (TX5 0).2.1 (TX5 0).2.2.1 ∈ wsX5_canBe := by decide +kernel
theorem in_X5_exchange_X5 : ∀ x ∈ u_ws RX5 TX5 18, x ∈ wsX5_exchange := fun x h => List.mem_cons_of_mem _ (List.mem_append_right _ h)
set_option maxRecDepth 20000 in
theorem fl_X5_exchange_X5_0 : Cond.fieldLink RX5 7 (TX5 0).1 (TX5 0).2.1 (TX5 0).2.2.1 ∈ wsX5_exchange := by decide +kernel
set_option maxRecDepth 20000 in
theorem fl_X5_exchange_X5_1 : Cond.fieldLink RX5 13 (TX5 1).1 (TX5 1).2.1 (TX5 1).2.2.1 ∈ wsX5_exchange := by decide +kernel
set_option maxRecDepth 20000 in
theorem fl_X5_exchange_X5_7 : Cond.fieldLink RX5 25 (TX5 7).1 (TX5 7).2.1 (TX5 7).2.2.1 ∈ wsX5_exchange := by decide +kernel
set_option maxRecDepth 20000 in
theorem fl_X5_exchange_X5_8 : Cond.fieldLink RX5 28 (TX5 8).1 (TX5 8).2.1 (TX5 8).2.2.1 ∈ wsX5_exchange := by decide +kernel
set_option maxRecDepth 20000 in
theorem fl_X5_exchange_X5_9 : Cond.fieldLink RX5 31 (TX5 9).1 (TX5 9).2.1 (TX5 9).2.2.1 ∈ wsX5_exchange := by decide +kernel
set_option maxRecDepth 20000 in
theorem fl_X5_exchange_X5_10 : Cond.fieldLink RX5 34 (TX5 10).1 (TX5 10).2.1 (TX5 10).2.2.1 ∈ wsX5_exchange := by decide +kernel
set_option maxRecDepth 20000 in
theorem fl_X5_exchange_X5_11 : Cond.fieldLink RX5 37 (TX5 11).1 (TX5 11).2.1 (TX5 11).2.2.1 ∈ wsX5_exchange := by decide +kernel
set_option maxRecDepth 20000 in
theorem fl_X5_exchange_X5_12 : Cond.fieldLink RX5 40 (TX5 12).1 (TX5 12).2.1 (TX5 12).2.2.1 ∈ wsX5_exchange := by decide +kernel
set_option maxRecDepth 20000 in
theorem fl_X5_exchange_X5_13 : Cond.fieldLink RX5 43 (TX5 13).1 (TX5 13).2.1 (TX5 13).2.2.1 ∈ wsX5_exchange := by decide +kernel
set_option maxRecDepth 20000 in
theorem fl_X5_exchange_X5_2 : Cond.fieldLink RX5 46 (TX5 2).1 (TX5 2).2.1 (TX5 2).2.2.1 ∈ wsX5_exchange := by decide +kernel
set_option maxRecDepth 20000 in
theorem ct_X5_exchange_129 : Cond.constant RX5 129 (1000000) ∈ wsX5_exchange := by decide +kernel
theorem in_X5_let_X5 : ∀ x ∈ u_ws RX5 TX5 18, x ∈ wsX5_let := fun x h => List.mem_cons_of_mem _ (List.mem_append_right _ h)
set_option maxRecDepth 20000 in
theorem fl_X5_let_X5_0 : Cond.fieldLink RX5 7 (TX5 0).1 (TX5 0).2.1 (TX5 0).2.2.1 ∈ wsX5_let := by decide +kernel
set_option maxRecDepth 20000 in
theorem fl_X5_let_X5_1 : Cond.fieldLink RX5 13 (TX5 1).1 (TX5 1).2.1 (TX5 1).2.2.1 ∈ wsX5_let := by decide +kernel
set_option maxRecDepth 20000 in
theorem fl_X5_let_X5_2 : Cond.fieldLink RX5 46 (TX5 2).1 (TX5 2).2.1 (TX5 2).2.2.1 ∈ wsX5_let := by decide +kernel
theorem in_X5_at_X5 : ∀ x ∈ u_ws RX5 TX5 18, x ∈ wsX5_at := fun x h => List.mem_cons_of_mem _ (List.mem_append_right _ h)
set_option maxRecDepth 20000 in
theorem fl_X5_at_X5_0 : Cond.fieldLink RX5 7 (TX5 0).1 (TX5 0).2.1 (TX5 0).2.2.1 ∈ wsX5_at := by decide +kernel
set_option maxRecDepth 20000 in
theorem fl_X5_at_X5_7 : Cond.fieldLink RX5 25 (TX5 7).1 (TX5 7).2.1 (TX5 7).2.2.1 ∈ wsX5_at := by decide +kernel
set_option maxRecDepth 20000 in
theorem fl_X5_at_X5_8 : Cond.fieldLink RX5 28 (TX5 8).1 (TX5 8).2.1 (TX5 8).2.2.1 ∈ wsX5_at := by decide +kernel
set_option maxRecDepth 20000 in
theorem fl_X5_at_X5_9 : Cond.fieldLink RX5 31 (TX5 9).1 (TX5 9).2.1 (TX5 9).2.2.1 ∈ wsX5_at := by decide +kernel
set_option maxRecDepth 20000 in
theorem fl_X5_at_X5_10 : Cond.fieldLink RX5 34 (TX5 10).1 (TX5 10).2.1 (TX5 10).2.2.1 ∈ wsX5_at := by decide +kernel
set_option maxRecDepth 20000 in
theorem fl_X5_at_X5_11 : Cond.fieldLink RX5 37 (TX5 11).1 (TX5 11).2.1 (TX5 11).2.2.1 ∈ wsX5_at := by decide +kernel
set_option maxRecDepth 20000 in
theorem fl_X5_at_X5_12 : Cond.fieldLink RX5 40 (TX5 12).1 (TX5 12).2.1 (TX5 12).2.2.1 ∈ wsX5_at := by decide +kernel
set_option maxRecDepth 20000 in
theorem fl_X5_at_X5_13 : Cond.fieldLink RX5 43 (TX5 13).1 (TX5 13).2.1 (TX5 13).2.2.1 ∈ wsX5_at := by decide +kernel
theorem in_X5_peopleOf_X5 : ∀ x ∈ u_ws RX5 TX5 18, x ∈ wsX5_peopleOf := fun x h => List.mem_cons_of_mem _ (List.mem_append_right _ h)
set_option maxRecDepth 20000 in
theorem fl_X5_peopleOf_X5_0 : Cond.fieldLink RX5 7 (TX5 0).1 (TX5 0).2.1 (TX5 0).2.2.1 ∈ wsX5_peopleOf := by decide +kernel
set_option maxRecDepth 20000 in
theorem fl_X5_peopleOf_X5_7 : Cond.fieldLink RX5 25 (TX5 7).1 (TX5 7).2.1 (TX5 7).2.2.1 ∈ wsX5_peopleOf := by decide +kernel
theorem in_X5_firstShow_X5 : ∀ x ∈ u_ws RX5 TX5 18, x ∈ wsX5_firstShow := fun x h => List.mem_cons_of_mem _ (List.mem_append_right _ h)
set_option maxRecDepth 20000 in
theorem fl_X5_firstShow_X5_0 : Cond.fieldLink RX5 7 (TX5 0).1 (TX5 0).2.1 (TX5 0).2.2.1 ∈ wsX5_firstShow := by decide +kernel
theorem in_X5_of_X5 : ∀ x ∈ u_ws RX5 TX5 18, x ∈ wsX5_of := fun x h => List.mem_cons_of_mem _ (List.mem_append_right _ h)
set_option maxRecDepth 20000 in
theorem fl_X5_of_X5_0 : Cond.fieldLink RX5 7 (TX5 0).1 (TX5 0).2.1 (TX5 0).2.2.1 ∈ wsX5_of := by decide +kernel
set_option maxRecDepth 20000 in
theorem fl_X5_of_X5_7 : Cond.fieldLink RX5 25 (TX5 7).1 (TX5 7).2.1 (TX5 7).2.2.1 ∈ wsX5_of := by decide +kernel
set_option maxRecDepth 20000 in
theorem fl_X5_of_X5_8 : Cond.fieldLink RX5 28 (TX5 8).1 (TX5 8).2.1 (TX5 8).2.2.1 ∈ wsX5_of := by decide +kernel
set_option maxRecDepth 20000 in
theorem fl_X5_of_X5_9 : Cond.fieldLink RX5 31 (TX5 9).1 (TX5 9).2.1 (TX5 9).2.2.1 ∈ wsX5_of := by decide +kernel
set_option maxRecDepth 20000 in
theorem fl_X5_of_X5_10 : Cond.fieldLink RX5 34 (TX5 10).1 (TX5 10).2.1 (TX5 10).2.2.1 ∈ wsX5_of := by decide +kernel
set_option maxRecDepth 20000 in
theorem fl_X5_of_X5_11 : Cond.fieldLink RX5 37 (TX5 11).1 (TX5 11).2.1 (TX5 11).2.2.1 ∈ wsX5_of := by decide +kernel
set_option maxRecDepth 20000 in
theorem fl_X5_of_X5_12 : Cond.fieldLink RX5 40 (TX5 12).1 (TX5 12).2.1 (TX5 12).2.2.1 ∈ wsX5_of := by decide +kernel
set_option maxRecDepth 20000 in
theorem fl_X5_of_X5_13 : Cond.fieldLink RX5 43 (TX5 13).1 (TX5 13).2.1 (TX5 13).2.2.1 ∈ wsX5_of := by decide +kernel
theorem in_X5_inWeek_X5 : ∀ x ∈ u_ws RX5 TX5 18, x ∈ wsX5_inWeek := fun x h => List.mem_cons_of_mem _ (List.mem_append_right _ h)
set_option maxRecDepth 20000 in
theorem fl_X5_inWeek_X5_0 : Cond.fieldLink RX5 7 (TX5 0).1 (TX5 0).2.1 (TX5 0).2.2.1 ∈ wsX5_inWeek := by decide +kernel
set_option maxRecDepth 20000 in
theorem fl_X5_inWeek_X5_7 : Cond.fieldLink RX5 25 (TX5 7).1 (TX5 7).2.1 (TX5 7).2.2.1 ∈ wsX5_inWeek := by decide +kernel
set_option maxRecDepth 20000 in
theorem fl_X5_inWeek_X5_8 : Cond.fieldLink RX5 28 (TX5 8).1 (TX5 8).2.1 (TX5 8).2.2.1 ∈ wsX5_inWeek := by decide +kernel
set_option maxRecDepth 20000 in
theorem fl_X5_inWeek_X5_9 : Cond.fieldLink RX5 31 (TX5 9).1 (TX5 9).2.1 (TX5 9).2.2.1 ∈ wsX5_inWeek := by decide +kernel
set_option maxRecDepth 20000 in
theorem fl_X5_inWeek_X5_10 : Cond.fieldLink RX5 34 (TX5 10).1 (TX5 10).2.1 (TX5 10).2.2.1 ∈ wsX5_inWeek := by decide +kernel
set_option maxRecDepth 20000 in
theorem fl_X5_inWeek_X5_11 : Cond.fieldLink RX5 37 (TX5 11).1 (TX5 11).2.1 (TX5 11).2.2.1 ∈ wsX5_inWeek := by decide +kernel
set_option maxRecDepth 20000 in
theorem fl_X5_inWeek_X5_12 : Cond.fieldLink RX5 40 (TX5 12).1 (TX5 12).2.1 (TX5 12).2.2.1 ∈ wsX5_inWeek := by decide +kernel
set_option maxRecDepth 20000 in
theorem fl_X5_inWeek_X5_13 : Cond.fieldLink RX5 43 (TX5 13).1 (TX5 13).2.1 (TX5 13).2.2.1 ∈ wsX5_inWeek := by decide +kernel
theorem in_X5_week_X5 : ∀ x ∈ u_ws RX5 TX5 18, x ∈ wsX5_week := fun x h => List.mem_cons_of_mem _ (List.mem_append_right _ h)
set_option maxRecDepth 20000 in
theorem fl_X5_week_X5_0 : Cond.fieldLink RX5 7 (TX5 0).1 (TX5 0).2.1 (TX5 0).2.2.1 ∈ wsX5_week := by decide +kernel
set_option maxRecDepth 20000 in
theorem fl_X5_week_X5_7 : Cond.fieldLink RX5 25 (TX5 7).1 (TX5 7).2.1 (TX5 7).2.2.1 ∈ wsX5_week := by decide +kernel
set_option maxRecDepth 20000 in
theorem fl_X5_week_X5_8 : Cond.fieldLink RX5 28 (TX5 8).1 (TX5 8).2.1 (TX5 8).2.2.1 ∈ wsX5_week := by decide +kernel
set_option maxRecDepth 20000 in
theorem fl_X5_week_X5_9 : Cond.fieldLink RX5 31 (TX5 9).1 (TX5 9).2.1 (TX5 9).2.2.1 ∈ wsX5_week := by decide +kernel
set_option maxRecDepth 20000 in
theorem fl_X5_week_X5_10 : Cond.fieldLink RX5 34 (TX5 10).1 (TX5 10).2.1 (TX5 10).2.2.1 ∈ wsX5_week := by decide +kernel
set_option maxRecDepth 20000 in
theorem fl_X5_week_X5_11 : Cond.fieldLink RX5 37 (TX5 11).1 (TX5 11).2.1 (TX5 11).2.2.1 ∈ wsX5_week := by decide +kernel
set_option maxRecDepth 20000 in
theorem fl_X5_week_X5_12 : Cond.fieldLink RX5 40 (TX5 12).1 (TX5 12).2.1 (TX5 12).2.2.1 ∈ wsX5_week := by decide +kernel
set_option maxRecDepth 20000 in
theorem fl_X5_week_X5_13 : Cond.fieldLink RX5 43 (TX5 13).1 (TX5 13).2.1 (TX5 13).2.2.1 ∈ wsX5_week := by decide +kernel
set_option maxRecDepth 20000 in
theorem ct_X5_week_129 : Cond.constant RX5 129 (1000000) ∈ wsX5_week := by decide +kernel
theorem in_X5_distributor_X5 : ∀ x ∈ u_ws RX5 TX5 18, x ∈ wsX5_distributor := fun x h => List.mem_cons_of_mem _ (List.mem_append_right _ h)
set_option maxRecDepth 20000 in
theorem fl_X5_distributor_X5_0 : Cond.fieldLink RX5 7 (TX5 0).1 (TX5 0).2.1 (TX5 0).2.2.1 ∈ wsX5_distributor := by decide +kernel
set_option maxRecDepth 20000 in
theorem fl_X5_distributor_X5_7 : Cond.fieldLink RX5 25 (TX5 7).1 (TX5 7).2.1 (TX5 7).2.2.1 ∈ wsX5_distributor := by decide +kernel
set_option maxRecDepth 20000 in
theorem fl_X5_distributor_X5_8 : Cond.fieldLink RX5 28 (TX5 8).1 (TX5 8).2.1 (TX5 8).2.2.1 ∈ wsX5_distributor := by decide +kernel
set_option maxRecDepth 20000 in
theorem fl_X5_distributor_X5_9 : Cond.fieldLink RX5 31 (TX5 9).1 (TX5 9).2.1 (TX5 9).2.2.1 ∈ wsX5_distributor := by decide +kernel
set_option maxRecDepth 20000 in
theorem fl_X5_distributor_X5_10 : Cond.fieldLink RX5 34 (TX5 10).1 (TX5 10).2.1 (TX5 10).2.2.1 ∈ wsX5_distributor := by decide +kernel
set_option maxRecDepth 20000 in
theorem fl_X5_distributor_X5_11 : Cond.fieldLink RX5 37 (TX5 11).1 (TX5 11).2.1 (TX5 11).2.2.1 ∈ wsX5_distributor := by decide +kernel
set_option maxRecDepth 20000 in
theorem fl_X5_distributor_X5_12 : Cond.fieldLink RX5 40 (TX5 12).1 (TX5 12).2.1 (TX5 12).2.2.1 ∈ wsX5_distributor := by decide +kernel
set_option maxRecDepth 20000 in
theorem fl_X5_distributor_X5_13 : Cond.fieldLink RX5 43 (TX5 13).1 (TX5 13).2.1 (TX5 13).2.2.1 ∈ wsX5_distributor := by decide +kernel
theorem in_X5_rent_X5 : ∀ x ∈ u_ws RX5 TX5 18, x ∈ wsX5_rent := fun x h => List.mem_cons_of_mem _ (List.mem_append_right _ h)
set_option maxRecDepth 20000 in
theorem fl_X5_rent_X5_0 : Cond.fieldLink RX5 7 (TX5 0).1 (TX5 0).2.1 (TX5 0).2.2.1 ∈ wsX5_rent := by decide +kernel
theorem in_X5_fullShows_X5 : ∀ x ∈ u_ws RX5 TX5 18, x ∈ wsX5_fullShows := fun x h => List.mem_cons_of_mem _ (List.mem_append_right _ h)
set_option maxRecDepth 20000 in
theorem fl_X5_fullShows_X5_0 : Cond.fieldLink RX5 7 (TX5 0).1 (TX5 0).2.1 (TX5 0).2.2.1 ∈ wsX5_fullShows := by decide +kernel
set_option maxRecDepth 20000 in
theorem fl_X5_fullShows_X5_7 : Cond.fieldLink RX5 25 (TX5 7).1 (TX5 7).2.1 (TX5 7).2.2.1 ∈ wsX5_fullShows := by decide +kernel
theorem in_X5_count_X5 : ∀ x ∈ u_ws RX5 TX5 18, x ∈ wsX5_count := fun x h => List.mem_cons_of_mem _ (List.mem_append_right _ h)
set_option maxRecDepth 20000 in
theorem fl_X5_count_X5_0 : Cond.fieldLink RX5 7 (TX5 0).1 (TX5 0).2.1 (TX5 0).2.2.1 ∈ wsX5_count := by decide +kernel
set_option maxRecDepth 20000 in
theorem fl_X5_count_X5_7 : Cond.fieldLink RX5 25 (TX5 7).1 (TX5 7).2.1 (TX5 7).2.2.1 ∈ wsX5_count := by decide +kernel
set_option maxRecDepth 20000 in
theorem fl_X5_count_X5_8 : Cond.fieldLink RX5 28 (TX5 8).1 (TX5 8).2.1 (TX5 8).2.2.1 ∈ wsX5_count := by decide +kernel
set_option maxRecDepth 20000 in
theorem fl_X5_count_X5_9 : Cond.fieldLink RX5 31 (TX5 9).1 (TX5 9).2.1 (TX5 9).2.2.1 ∈ wsX5_count := by decide +kernel
set_option maxRecDepth 20000 in
theorem fl_X5_count_X5_10 : Cond.fieldLink RX5 34 (TX5 10).1 (TX5 10).2.1 (TX5 10).2.2.1 ∈ wsX5_count := by decide +kernel
set_option maxRecDepth 20000 in
theorem fl_X5_count_X5_11 : Cond.fieldLink RX5 37 (TX5 11).1 (TX5 11).2.1 (TX5 11).2.2.1 ∈ wsX5_count := by decide +kernel
set_option maxRecDepth 20000 in
theorem fl_X5_count_X5_12 : Cond.fieldLink RX5 40 (TX5 12).1 (TX5 12).2.1 (TX5 12).2.2.1 ∈ wsX5_count := by decide +kernel
set_option maxRecDepth 20000 in
theorem fl_X5_count_X5_13 : Cond.fieldLink RX5 43 (TX5 13).1 (TX5 13).2.1 (TX5 13).2.2.1 ∈ wsX5_count := by decide +kernel
set_option maxRecDepth 20000 in
theorem fl_X5_count_X5_2 : Cond.fieldLink RX5 46 (TX5 2).1 (TX5 2).2.1 (TX5 2).2.2.1 ∈ wsX5_count := by decide +kernel
set_option maxRecDepth 20000 in
theorem fl_X5_count_X5_6 : Cond.fieldLink RX5 145 (TX5 6).1 (TX5 6).2.1 (TX5 6).2.2.1 ∈ wsX5_count := by decide +kernel
set_option maxRecDepth 20000 in
theorem ct_X5_count_129 : Cond.constant RX5 129 (1000000) ∈ wsX5_count := by decide +kernel
theorem in_X5_moreWith_X5 : ∀ x ∈ u_ws RX5 TX5 18, x ∈ wsX5_moreWith := fun x h => List.mem_cons_of_mem _ (List.mem_append_right _ h)
set_option maxRecDepth 20000 in
theorem fl_X5_moreWith_X5_0 : Cond.fieldLink RX5 7 (TX5 0).1 (TX5 0).2.1 (TX5 0).2.2.1 ∈ wsX5_moreWith := by decide +kernel
set_option maxRecDepth 20000 in
theorem fl_X5_moreWith_X5_7 : Cond.fieldLink RX5 25 (TX5 7).1 (TX5 7).2.1 (TX5 7).2.2.1 ∈ wsX5_moreWith := by decide +kernel
set_option maxRecDepth 20000 in
theorem fl_X5_moreWith_X5_8 : Cond.fieldLink RX5 28 (TX5 8).1 (TX5 8).2.1 (TX5 8).2.2.1 ∈ wsX5_moreWith := by decide +kernel
set_option maxRecDepth 20000 in
theorem fl_X5_moreWith_X5_9 : Cond.fieldLink RX5 31 (TX5 9).1 (TX5 9).2.1 (TX5 9).2.2.1 ∈ wsX5_moreWith := by decide +kernel
set_option maxRecDepth 20000 in
theorem fl_X5_moreWith_X5_10 : Cond.fieldLink RX5 34 (TX5 10).1 (TX5 10).2.1 (TX5 10).2.2.1 ∈ wsX5_moreWith := by decide +kernel
set_option maxRecDepth 20000 in
theorem fl_X5_moreWith_X5_11 : Cond.fieldLink RX5 37 (TX5 11).1 (TX5 11).2.1 (TX5 11).2.2.1 ∈ wsX5_moreWith := by decide +kernel
set_option maxRecDepth 20000 in
theorem fl_X5_moreWith_X5_12 : Cond.fieldLink RX5 40 (TX5 12).1 (TX5 12).2.1 (TX5 12).2.2.1 ∈ wsX5_moreWith := by decide +kernel
set_option maxRecDepth 20000 in
theorem fl_X5_moreWith_X5_13 : Cond.fieldLink RX5 43 (TX5 13).1 (TX5 13).2.1 (TX5 13).2.2.1 ∈ wsX5_moreWith := by decide +kernel
theorem in_X5_ifShown_X5 : ∀ x ∈ u_ws RX5 TX5 18, x ∈ wsX5_ifShown := fun x h => List.mem_cons_of_mem _ (List.mem_append_right _ h)
set_option maxRecDepth 20000 in
theorem fl_X5_ifShown_X5_0 : Cond.fieldLink RX5 7 (TX5 0).1 (TX5 0).2.1 (TX5 0).2.2.1 ∈ wsX5_ifShown := by decide +kernel
set_option maxRecDepth 20000 in
theorem fl_X5_ifShown_X5_7 : Cond.fieldLink RX5 25 (TX5 7).1 (TX5 7).2.1 (TX5 7).2.2.1 ∈ wsX5_ifShown := by decide +kernel
set_option maxRecDepth 20000 in
theorem fl_X5_ifShown_X5_8 : Cond.fieldLink RX5 28 (TX5 8).1 (TX5 8).2.1 (TX5 8).2.2.1 ∈ wsX5_ifShown := by decide +kernel
set_option maxRecDepth 20000 in
theorem fl_X5_ifShown_X5_9 : Cond.fieldLink RX5 31 (TX5 9).1 (TX5 9).2.1 (TX5 9).2.2.1 ∈ wsX5_ifShown := by decide +kernel
set_option maxRecDepth 20000 in
theorem fl_X5_ifShown_X5_10 : Cond.fieldLink RX5 34 (TX5 10).1 (TX5 10).2.1 (TX5 10).2.2.1 ∈ wsX5_ifShown := by decide +kernel
set_option maxRecDepth 20000 in
theorem fl_X5_ifShown_X5_11 : Cond.fieldLink RX5 37 (TX5 11).1 (TX5 11).2.1 (TX5 11).2.2.1 ∈ wsX5_ifShown := by decide +kernel
set_option maxRecDepth 20000 in
theorem fl_X5_ifShown_X5_12 : Cond.fieldLink RX5 40 (TX5 12).1 (TX5 12).2.1 (TX5 12).2.2.1 ∈ wsX5_ifShown := by decide +kernel
set_option maxRecDepth 20000 in
theorem fl_X5_ifShown_X5_13 : Cond.fieldLink RX5 43 (TX5 13).1 (TX5 13).2.1 (TX5 13).2.2.1 ∈ wsX5_ifShown := by decide +kernel
set_option maxRecDepth 20000 in
theorem ct_X5_ifShown_129 : Cond.constant RX5 129 (1000000) ∈ wsX5_ifShown := by decide +kernel
theorem in_X5_bestFilm_X5 : ∀ x ∈ u_ws RX5 TX5 18, x ∈ wsX5_bestFilm := fun x h => List.mem_cons_of_mem _ (List.mem_append_right _ h)
set_option maxRecDepth 20000 in
theorem fl_X5_bestFilm_X5_0 : Cond.fieldLink RX5 7 (TX5 0).1 (TX5 0).2.1 (TX5 0).2.2.1 ∈ wsX5_bestFilm := by decide +kernel
set_option maxRecDepth 20000 in
theorem fl_X5_bestFilm_X5_7 : Cond.fieldLink RX5 25 (TX5 7).1 (TX5 7).2.1 (TX5 7).2.2.1 ∈ wsX5_bestFilm := by decide +kernel
set_option maxRecDepth 20000 in
theorem fl_X5_bestFilm_X5_8 : Cond.fieldLink RX5 28 (TX5 8).1 (TX5 8).2.1 (TX5 8).2.2.1 ∈ wsX5_bestFilm := by decide +kernel
set_option maxRecDepth 20000 in
theorem fl_X5_bestFilm_X5_9 : Cond.fieldLink RX5 31 (TX5 9).1 (TX5 9).2.1 (TX5 9).2.2.1 ∈ wsX5_bestFilm := by decide +kernel
set_option maxRecDepth 20000 in
theorem fl_X5_bestFilm_X5_10 : Cond.fieldLink RX5 34 (TX5 10).1 (TX5 10).2.1 (TX5 10).2.2.1 ∈ wsX5_bestFilm := by decide +kernel
set_option maxRecDepth 20000 in
theorem fl_X5_bestFilm_X5_11 : Cond.fieldLink RX5 37 (TX5 11).1 (TX5 11).2.1 (TX5 11).2.2.1 ∈ wsX5_bestFilm := by decide +kernel
set_option maxRecDepth 20000 in
theorem fl_X5_bestFilm_X5_12 : Cond.fieldLink RX5 40 (TX5 12).1 (TX5 12).2.1 (TX5 12).2.2.1 ∈ wsX5_bestFilm := by decide +kernel
set_option maxRecDepth 20000 in
theorem fl_X5_bestFilm_X5_13 : Cond.fieldLink RX5 43 (TX5 13).1 (TX5 13).2.1 (TX5 13).2.2.1 ∈ wsX5_bestFilm := by decide +kernel
set_option maxRecDepth 20000 in
theorem ct_X5_bestFilm_129 : Cond.constant RX5 129 (1000000) ∈ wsX5_bestFilm := by decide +kernel
theorem in_X5_worstShow_X5 : ∀ x ∈ u_ws RX5 TX5 18, x ∈ wsX5_worstShow := fun x h => List.mem_cons_of_mem _ (List.mem_append_right _ h)
set_option maxRecDepth 20000 in
theorem fl_X5_worstShow_X5_0 : Cond.fieldLink RX5 7 (TX5 0).1 (TX5 0).2.1 (TX5 0).2.2.1 ∈ wsX5_worstShow := by decide +kernel
set_option maxRecDepth 20000 in
theorem fl_X5_worstShow_X5_7 : Cond.fieldLink RX5 25 (TX5 7).1 (TX5 7).2.1 (TX5 7).2.2.1 ∈ wsX5_worstShow := by decide +kernel
set_option maxRecDepth 20000 in
theorem fl_X5_worstShow_X5_8 : Cond.fieldLink RX5 28 (TX5 8).1 (TX5 8).2.1 (TX5 8).2.2.1 ∈ wsX5_worstShow := by decide +kernel
set_option maxRecDepth 20000 in
theorem fl_X5_worstShow_X5_9 : Cond.fieldLink RX5 31 (TX5 9).1 (TX5 9).2.1 (TX5 9).2.2.1 ∈ wsX5_worstShow := by decide +kernel
set_option maxRecDepth 20000 in
theorem fl_X5_worstShow_X5_10 : Cond.fieldLink RX5 34 (TX5 10).1 (TX5 10).2.1 (TX5 10).2.2.1 ∈ wsX5_worstShow := by decide +kernel
set_option maxRecDepth 20000 in
theorem fl_X5_worstShow_X5_11 : Cond.fieldLink RX5 37 (TX5 11).1 (TX5 11).2.1 (TX5 11).2.2.1 ∈ wsX5_worstShow := by decide +kernel
set_option maxRecDepth 20000 in
theorem fl_X5_worstShow_X5_12 : Cond.fieldLink RX5 40 (TX5 12).1 (TX5 12).2.1 (TX5 12).2.2.1 ∈ wsX5_worstShow := by decide +kernel
set_option maxRecDepth 20000 in
theorem fl_X5_worstShow_X5_13 : Cond.fieldLink RX5 43 (TX5 13).1 (TX5 13).2.1 (TX5 13).2.2.1 ∈ wsX5_worstShow := by decide +kernel
set_option maxRecDepth 20000 in
theorem ct_X5_worstShow_129 : Cond.constant RX5 129 (1000000) ∈ wsX5_worstShow := by decide +kernel
theorem in_X5_priceFor_X5 : ∀ x ∈ u_ws RX5 TX5 18, x ∈ wsX5_priceFor := fun x h => List.mem_cons_of_mem _ (List.mem_append_right _ h)
set_option maxRecDepth 20000 in
theorem fl_X5_priceFor_X5_0 : Cond.fieldLink RX5 7 (TX5 0).1 (TX5 0).2.1 (TX5 0).2.2.1 ∈ wsX5_priceFor := by decide +kernel
set_option maxRecDepth 20000 in
theorem fl_X5_priceFor_X5_7 : Cond.fieldLink RX5 25 (TX5 7).1 (TX5 7).2.1 (TX5 7).2.2.1 ∈ wsX5_priceFor := by decide +kernel
set_option maxRecDepth 20000 in
theorem fl_X5_priceFor_X5_8 : Cond.fieldLink RX5 28 (TX5 8).1 (TX5 8).2.1 (TX5 8).2.2.1 ∈ wsX5_priceFor := by decide +kernel
set_option maxRecDepth 20000 in
theorem fl_X5_priceFor_X5_9 : Cond.fieldLink RX5 31 (TX5 9).1 (TX5 9).2.1 (TX5 9).2.2.1 ∈ wsX5_priceFor := by decide +kernel
set_option maxRecDepth 20000 in
theorem fl_X5_priceFor_X5_10 : Cond.fieldLink RX5 34 (TX5 10).1 (TX5 10).2.1 (TX5 10).2.2.1 ∈ wsX5_priceFor := by decide +kernel
set_option maxRecDepth 20000 in
theorem fl_X5_priceFor_X5_11 : Cond.fieldLink RX5 37 (TX5 11).1 (TX5 11).2.1 (TX5 11).2.2.1 ∈ wsX5_priceFor := by decide +kernel
set_option maxRecDepth 20000 in
theorem fl_X5_priceFor_X5_12 : Cond.fieldLink RX5 40 (TX5 12).1 (TX5 12).2.1 (TX5 12).2.2.1 ∈ wsX5_priceFor := by decide +kernel
set_option maxRecDepth 20000 in
theorem fl_X5_priceFor_X5_13 : Cond.fieldLink RX5 43 (TX5 13).1 (TX5 13).2.1 (TX5 13).2.2.1 ∈ wsX5_priceFor := by decide +kernel
theorem in_X5_put_X5 : ∀ x ∈ u_ws RX5 TX5 18, x ∈ wsX5_put := fun x h => List.mem_cons_of_mem _ (List.mem_append_right _ h)
set_option maxRecDepth 20000 in
theorem fl_X5_put_X5_5 : Cond.fieldLink RX5 22 (TX5 5).1 (TX5 5).2.1 (TX5 5).2.2.1 ∈ wsX5_put := by decide +kernel
set_option maxRecDepth 20000 in
theorem fl_X5_put_X5_6 : Cond.fieldLink RX5 145 (TX5 6).1 (TX5 6).2.1 (TX5 6).2.2.1 ∈ wsX5_put := by decide +kernel
set_option maxRecDepth 20000 in
theorem ct_X5_put_151 : Cond.constantLong RX5 151 (255) ∈ wsX5_put := by decide +kernel
theorem in_X5_wipe_X5 : ∀ x ∈ u_ws RX5 TX5 18, x ∈ wsX5_wipe := fun x h => List.mem_cons_of_mem _ (List.mem_append_right _ h)
set_option maxRecDepth 20000 in
theorem fl_X5_wipe_X5_6 : Cond.fieldLink RX5 145 (TX5 6).1 (TX5 6).2.1 (TX5 6).2.2.1 ∈ wsX5_wipe := by decide +kernel
theorem in_X5_character_X5 : ∀ x ∈ u_ws RX5 TX5 18, x ∈ wsX5_character := fun x h => List.mem_cons_of_mem _ (List.mem_append_right _ h)
set_option maxRecDepth 20000 in
theorem fl_X5_character_X5_5 : Cond.fieldLink RX5 22 (TX5 5).1 (TX5 5).2.1 (TX5 5).2.2.1 ∈ wsX5_character := by decide +kernel
set_option maxRecDepth 20000 in
theorem fl_X5_character_X5_6 : Cond.fieldLink RX5 145 (TX5 6).1 (TX5 6).2.1 (TX5 6).2.2.1 ∈ wsX5_character := by decide +kernel
theorem in_X5_takeDigit_X5 : ∀ x ∈ u_ws RX5 TX5 18, x ∈ wsX5_takeDigit := fun x h => List.mem_cons_of_mem _ (List.mem_append_right _ h)
set_option maxRecDepth 20000 in
theorem fl_X5_takeDigit_X5_5 : Cond.fieldLink RX5 22 (TX5 5).1 (TX5 5).2.1 (TX5 5).2.2.1 ∈ wsX5_takeDigit := by decide +kernel
set_option maxRecDepth 20000 in
theorem fl_X5_takeDigit_X5_6 : Cond.fieldLink RX5 145 (TX5 6).1 (TX5 6).2.1 (TX5 6).2.2.1 ∈ wsX5_takeDigit := by decide +kernel
set_option maxRecDepth 20000 in
theorem fl_X5_takeDigit_X5_14 : Cond.fieldLink RX5 153 (TX5 14).1 (TX5 14).2.1 (TX5 14).2.2.1 ∈ wsX5_takeDigit := by decide +kernel
theorem in_X5_takePart_X5 : ∀ x ∈ u_ws RX5 TX5 18, x ∈ wsX5_takePart := fun x h => List.mem_cons_of_mem _ (List.mem_append_right _ h)
set_option maxRecDepth 20000 in
theorem fl_X5_takePart_X5_5 : Cond.fieldLink RX5 22 (TX5 5).1 (TX5 5).2.1 (TX5 5).2.2.1 ∈ wsX5_takePart := by decide +kernel
set_option maxRecDepth 20000 in
theorem fl_X5_takePart_X5_6 : Cond.fieldLink RX5 145 (TX5 6).1 (TX5 6).2.1 (TX5 6).2.2.1 ∈ wsX5_takePart := by decide +kernel
set_option maxRecDepth 20000 in
theorem fl_X5_takePart_X5_14 : Cond.fieldLink RX5 153 (TX5 14).1 (TX5 14).2.1 (TX5 14).2.2.1 ∈ wsX5_takePart := by decide +kernel
theorem in_X5_takeDay_X5 : ∀ x ∈ u_ws RX5 TX5 18, x ∈ wsX5_takeDay := fun x h => List.mem_cons_of_mem _ (List.mem_append_right _ h)
set_option maxRecDepth 20000 in
theorem fl_X5_takeDay_X5_5 : Cond.fieldLink RX5 22 (TX5 5).1 (TX5 5).2.1 (TX5 5).2.2.1 ∈ wsX5_takeDay := by decide +kernel
set_option maxRecDepth 20000 in
theorem fl_X5_takeDay_X5_6 : Cond.fieldLink RX5 145 (TX5 6).1 (TX5 6).2.1 (TX5 6).2.2.1 ∈ wsX5_takeDay := by decide +kernel
set_option maxRecDepth 20000 in
theorem fl_X5_takeDay_X5_14 : Cond.fieldLink RX5 153 (TX5 14).1 (TX5 14).2.1 (TX5 14).2.2.1 ∈ wsX5_takeDay := by decide +kernel
theorem in_X5_readsShow_X5 : ∀ x ∈ u_ws RX5 TX5 18, x ∈ wsX5_readsShow := fun x h => List.mem_cons_of_mem _ (List.mem_append_right _ h)
set_option maxRecDepth 20000 in
theorem fl_X5_readsShow_X5_5 : Cond.fieldLink RX5 22 (TX5 5).1 (TX5 5).2.1 (TX5 5).2.2.1 ∈ wsX5_readsShow := by decide +kernel
set_option maxRecDepth 20000 in
theorem fl_X5_readsShow_X5_6 : Cond.fieldLink RX5 145 (TX5 6).1 (TX5 6).2.1 (TX5 6).2.2.1 ∈ wsX5_readsShow := by decide +kernel
set_option maxRecDepth 20000 in
theorem fl_X5_readsShow_X5_14 : Cond.fieldLink RX5 153 (TX5 14).1 (TX5 14).2.1 (TX5 14).2.2.1 ∈ wsX5_readsShow := by decide +kernel
set_option maxRecDepth 20000 in
theorem fl_X5_readsShow_X5_15 : Cond.fieldLink RX5 162 (TX5 15).1 (TX5 15).2.1 (TX5 15).2.2.1 ∈ wsX5_readsShow := by decide +kernel
set_option maxRecDepth 20000 in
theorem fl_X5_readsShow_X5_16 : Cond.fieldLink RX5 168 (TX5 16).1 (TX5 16).2.1 (TX5 16).2.2.1 ∈ wsX5_readsShow := by decide +kernel
set_option maxRecDepth 20000 in
theorem fl_X5_readsShow_X5_17 : Cond.fieldLink RX5 174 (TX5 17).1 (TX5 17).2.1 (TX5 17).2.2.1 ∈ wsX5_readsShow := by decide +kernel
theorem in_X5_isNext_X5 : ∀ x ∈ u_ws RX5 TX5 18, x ∈ wsX5_isNext := fun x h => List.mem_cons_of_mem _ (List.mem_append_right _ h)
set_option maxRecDepth 20000 in
theorem fl_X5_isNext_X5_5 : Cond.fieldLink RX5 22 (TX5 5).1 (TX5 5).2.1 (TX5 5).2.2.1 ∈ wsX5_isNext := by decide +kernel
set_option maxRecDepth 20000 in
theorem fl_X5_isNext_X5_6 : Cond.fieldLink RX5 145 (TX5 6).1 (TX5 6).2.1 (TX5 6).2.2.1 ∈ wsX5_isNext := by decide +kernel
set_option maxRecDepth 20000 in
theorem fl_X5_isNext_X5_14 : Cond.fieldLink RX5 153 (TX5 14).1 (TX5 14).2.1 (TX5 14).2.2.1 ∈ wsX5_isNext := by decide +kernel
theorem in_X5_findFault_X5 : ∀ x ∈ u_ws RX5 TX5 18, x ∈ wsX5_findFault := fun x h => List.mem_cons_of_mem _ (List.mem_append_right _ h)
set_option maxRecDepth 20000 in
theorem fl_X5_findFault_X5_5 : Cond.fieldLink RX5 22 (TX5 5).1 (TX5 5).2.1 (TX5 5).2.2.1 ∈ wsX5_findFault := by decide +kernel
set_option maxRecDepth 20000 in
theorem fl_X5_findFault_X5_6 : Cond.fieldLink RX5 145 (TX5 6).1 (TX5 6).2.1 (TX5 6).2.2.1 ∈ wsX5_findFault := by decide +kernel
set_option maxRecDepth 20000 in
theorem fl_X5_findFault_X5_14 : Cond.fieldLink RX5 153 (TX5 14).1 (TX5 14).2.1 (TX5 14).2.2.1 ∈ wsX5_findFault := by decide +kernel
set_option maxRecDepth 20000 in
theorem fl_X5_findFault_X5_15 : Cond.fieldLink RX5 162 (TX5 15).1 (TX5 15).2.1 (TX5 15).2.2.1 ∈ wsX5_findFault := by decide +kernel
set_option maxRecDepth 20000 in
theorem fl_X5_findFault_X5_16 : Cond.fieldLink RX5 168 (TX5 16).1 (TX5 16).2.1 (TX5 16).2.2.1 ∈ wsX5_findFault := by decide +kernel
set_option maxRecDepth 20000 in
theorem fl_X5_findFault_X5_17 : Cond.fieldLink RX5 174 (TX5 17).1 (TX5 17).2.1 (TX5 17).2.2.1 ∈ wsX5_findFault := by decide +kernel
theorem in_X5_fault_X5 : ∀ x ∈ u_ws RX5 TX5 18, x ∈ wsX5_fault := fun x h => List.mem_cons_of_mem _ (List.mem_append_right _ h)
set_option maxRecDepth 20000 in
theorem fl_X5_fault_X5_5 : Cond.fieldLink RX5 22 (TX5 5).1 (TX5 5).2.1 (TX5 5).2.2.1 ∈ wsX5_fault := by decide +kernel
set_option maxRecDepth 20000 in
theorem fl_X5_fault_X5_6 : Cond.fieldLink RX5 145 (TX5 6).1 (TX5 6).2.1 (TX5 6).2.2.1 ∈ wsX5_fault := by decide +kernel
set_option maxRecDepth 20000 in
theorem fl_X5_fault_X5_14 : Cond.fieldLink RX5 153 (TX5 14).1 (TX5 14).2.1 (TX5 14).2.2.1 ∈ wsX5_fault := by decide +kernel
set_option maxRecDepth 20000 in
theorem fl_X5_fault_X5_15 : Cond.fieldLink RX5 162 (TX5 15).1 (TX5 15).2.1 (TX5 15).2.2.1 ∈ wsX5_fault := by decide +kernel
set_option maxRecDepth 20000 in
theorem fl_X5_fault_X5_16 : Cond.fieldLink RX5 168 (TX5 16).1 (TX5 16).2.1 (TX5 16).2.2.1 ∈ wsX5_fault := by decide +kernel
set_option maxRecDepth 20000 in
theorem fl_X5_fault_X5_17 : Cond.fieldLink RX5 174 (TX5 17).1 (TX5 17).2.1 (TX5 17).2.2.1 ∈ wsX5_fault := by decide +kernel
theorem in_X5_carryOut_X5 : ∀ x ∈ u_ws RX5 TX5 18, x ∈ wsX5_carryOut := fun x h => List.mem_cons_of_mem _ (List.mem_append_right _ h)
set_option maxRecDepth 20000 in
theorem fl_X5_carryOut_X5_0 : Cond.fieldLink RX5 7 (TX5 0).1 (TX5 0).2.1 (TX5 0).2.2.1 ∈ wsX5_carryOut := by decide +kernel
set_option maxRecDepth 20000 in
theorem fl_X5_carryOut_X5_1 : Cond.fieldLink RX5 13 (TX5 1).1 (TX5 1).2.1 (TX5 1).2.2.1 ∈ wsX5_carryOut := by decide +kernel
set_option maxRecDepth 20000 in
theorem fl_X5_carryOut_X5_5 : Cond.fieldLink RX5 22 (TX5 5).1 (TX5 5).2.1 (TX5 5).2.2.1 ∈ wsX5_carryOut := by decide +kernel
set_option maxRecDepth 20000 in
theorem fl_X5_carryOut_X5_2 : Cond.fieldLink RX5 46 (TX5 2).1 (TX5 2).2.1 (TX5 2).2.2.1 ∈ wsX5_carryOut := by decide +kernel
set_option maxRecDepth 20000 in
theorem fl_X5_carryOut_X5_6 : Cond.fieldLink RX5 145 (TX5 6).1 (TX5 6).2.1 (TX5 6).2.2.1 ∈ wsX5_carryOut := by decide +kernel
set_option maxRecDepth 20000 in
theorem fl_X5_carryOut_X5_14 : Cond.fieldLink RX5 153 (TX5 14).1 (TX5 14).2.1 (TX5 14).2.2.1 ∈ wsX5_carryOut := by decide +kernel
set_option maxRecDepth 20000 in
theorem fl_X5_carryOut_X5_15 : Cond.fieldLink RX5 162 (TX5 15).1 (TX5 15).2.1 (TX5 15).2.2.1 ∈ wsX5_carryOut := by decide +kernel
set_option maxRecDepth 20000 in
theorem fl_X5_carryOut_X5_16 : Cond.fieldLink RX5 168 (TX5 16).1 (TX5 16).2.1 (TX5 16).2.2.1 ∈ wsX5_carryOut := by decide +kernel
set_option maxRecDepth 20000 in
theorem fl_X5_carryOut_X5_17 : Cond.fieldLink RX5 174 (TX5 17).1 (TX5 17).2.1 (TX5 17).2.2.1 ∈ wsX5_carryOut := by decide +kernel
theorem in_X5_undo_X5 : ∀ x ∈ u_ws RX5 TX5 18, x ∈ wsX5_undo := fun x h => List.mem_cons_of_mem _ (List.mem_append_right _ h)
set_option maxRecDepth 20000 in
theorem fl_X5_undo_X5_0 : Cond.fieldLink RX5 7 (TX5 0).1 (TX5 0).2.1 (TX5 0).2.2.1 ∈ wsX5_undo := by decide +kernel
set_option maxRecDepth 20000 in
theorem fl_X5_undo_X5_1 : Cond.fieldLink RX5 13 (TX5 1).1 (TX5 1).2.1 (TX5 1).2.2.1 ∈ wsX5_undo := by decide +kernel
set_option maxRecDepth 20000 in
theorem fl_X5_undo_X5_2 : Cond.fieldLink RX5 46 (TX5 2).1 (TX5 2).2.1 (TX5 2).2.2.1 ∈ wsX5_undo := by decide +kernel
theorem in_X5_showsMany_X5 : ∀ x ∈ u_ws RX5 TX5 18, x ∈ wsX5_showsMany := fun x h => List.mem_cons_of_mem _ (List.mem_append_right _ h)
set_option maxRecDepth 20000 in
theorem fl_X5_showsMany_X5_0 : Cond.fieldLink RX5 7 (TX5 0).1 (TX5 0).2.1 (TX5 0).2.2.1 ∈ wsX5_showsMany := by decide +kernel
theorem in_X5_save_X5 : ∀ x ∈ u_ws RX5 TX5 18, x ∈ wsX5_save := fun x h => List.mem_cons_of_mem _ (List.mem_append_right _ h)
set_option maxRecDepth 20000 in
theorem fl_X5_save_X5_0 : Cond.fieldLink RX5 7 (TX5 0).1 (TX5 0).2.1 (TX5 0).2.2.1 ∈ wsX5_save := by decide +kernel
set_option maxRecDepth 20000 in
theorem fl_X5_save_X5_3 : Cond.fieldLink RX5 16 (TX5 3).1 (TX5 3).2.1 (TX5 3).2.2.1 ∈ wsX5_save := by decide +kernel
set_option maxRecDepth 20000 in
theorem fl_X5_save_X5_4 : Cond.fieldLink RX5 19 (TX5 4).1 (TX5 4).2.1 (TX5 4).2.2.1 ∈ wsX5_save := by decide +kernel
theorem in_X5_restore_X5 : ∀ x ∈ u_ws RX5 TX5 18, x ∈ wsX5_restore := fun x h => List.mem_cons_of_mem _ (List.mem_append_right _ h)
set_option maxRecDepth 20000 in
theorem fl_X5_restore_X5_0 : Cond.fieldLink RX5 7 (TX5 0).1 (TX5 0).2.1 (TX5 0).2.2.1 ∈ wsX5_restore := by decide +kernel
set_option maxRecDepth 20000 in
theorem fl_X5_restore_X5_1 : Cond.fieldLink RX5 13 (TX5 1).1 (TX5 1).2.1 (TX5 1).2.2.1 ∈ wsX5_restore := by decide +kernel
set_option maxRecDepth 20000 in
theorem fl_X5_restore_X5_3 : Cond.fieldLink RX5 16 (TX5 3).1 (TX5 3).2.1 (TX5 3).2.2.1 ∈ wsX5_restore := by decide +kernel
set_option maxRecDepth 20000 in
theorem fl_X5_restore_X5_4 : Cond.fieldLink RX5 19 (TX5 4).1 (TX5 4).2.1 (TX5 4).2.2.1 ∈ wsX5_restore := by decide +kernel
set_option maxRecDepth 20000 in
theorem fl_X5_restore_X5_2 : Cond.fieldLink RX5 46 (TX5 2).1 (TX5 2).2.1 (TX5 2).2.2.1 ∈ wsX5_restore := by decide +kernel
theorem hd_X0_init : yX0_init.cls = RX0 ∧ yX0_init.cls ≠ "java/lang/invoke/MethodHandle" ∧ yX0_init.cls ≠ "java/lang/invoke/VarHandle" ∧ (parseMethodDescriptor yX0_init.desc).map (fun d => d.parameters.length) = some 0 := by decide +kernel
theorem hd_X0_follow : yX0_follow.cls = RX0 ∧ yX0_follow.cls ≠ "java/lang/invoke/MethodHandle" ∧ yX0_follow.cls ≠ "java/lang/invoke/VarHandle" ∧ (parseMethodDescriptor yX0_follow.desc).map (fun d => d.parameters.length) = some 2 := by decide +kernel
theorem hd_X0_followWeek : yX0_followWeek.cls = RX0 ∧ yX0_followWeek.cls ≠ "java/lang/invoke/MethodHandle" ∧ yX0_followWeek.cls ≠ "java/lang/invoke/VarHandle" ∧ (parseMethodDescriptor yX0_followWeek.desc).map (fun d => d.parameters.length) = some 4 := by decide +kernel
theorem hd_X0_peopleOf : yX0_peopleOf.cls = RX0 ∧ yX0_peopleOf.cls ≠ "java/lang/invoke/MethodHandle" ∧ yX0_peopleOf.cls ≠ "java/lang/invoke/VarHandle" ∧ (parseMethodDescriptor yX0_peopleOf.desc).map (fun d => d.parameters.length) = some 3 := by decide +kernel
theorem hd_X0_nextShare : yX0_nextShare.cls = RX0 ∧ yX0_nextShare.cls ≠ "java/lang/invoke/MethodHandle" ∧ yX0_nextShare.cls ≠ "java/lang/invoke/VarHandle" ∧ (parseMethodDescriptor yX0_nextShare.desc).map (fun d => d.parameters.length) = some 3 := by decide +kernel
theorem hd_X0_reckonWeek : yX0_reckonWeek.cls = RX0 ∧ yX0_reckonWeek.cls ≠ "java/lang/invoke/MethodHandle" ∧ yX0_reckonWeek.cls ≠ "java/lang/invoke/VarHandle" ∧ (parseMethodDescriptor yX0_reckonWeek.desc).map (fun d => d.parameters.length) = some 3 := by decide +kernel
theorem hd_X0_shareOfTakings : yX0_shareOfTakings.cls = RX0 ∧ yX0_shareOfTakings.cls ≠ "java/lang/invoke/MethodHandle" ∧ yX0_shareOfTakings.cls ≠ "java/lang/invoke/VarHandle" ∧ (parseMethodDescriptor yX0_shareOfTakings.desc).map (fun d => d.parameters.length) = some 1 := by decide +kernel
theorem hd_X0_dueAboveShare : yX0_dueAboveShare.cls = RX0 ∧ yX0_dueAboveShare.cls ≠ "java/lang/invoke/MethodHandle" ∧ yX0_dueAboveShare.cls ≠ "java/lang/invoke/VarHandle" ∧ (parseMethodDescriptor yX0_dueAboveShare.desc).map (fun d => d.parameters.length) = some 1 := by decide +kernel
theorem hd_X0_sumOfWeek : yX0_sumOfWeek.cls = RX0 ∧ yX0_sumOfWeek.cls ≠ "java/lang/invoke/MethodHandle" ∧ yX0_sumOfWeek.cls ≠ "java/lang/invoke/VarHandle" ∧ (parseMethodDescriptor yX0_sumOfWeek.desc).map (fun d => d.parameters.length) = some 2 := by decide +kernel
theorem hd_X0_sum : yX0_sum.cls = RX0 ∧ yX0_sum.cls ≠ "java/lang/invoke/MethodHandle" ∧ yX0_sum.cls ≠ "java/lang/invoke/VarHandle" ∧ (parseMethodDescriptor yX0_sum.desc).map (fun d => d.parameters.length) = some 1 := by decide +kernel
theorem hd_X0_shareIn : yX0_shareIn.cls = RX0 ∧ yX0_shareIn.cls ≠ "java/lang/invoke/MethodHandle" ∧ yX0_shareIn.cls ≠ "java/lang/invoke/VarHandle" ∧ (parseMethodDescriptor yX0_shareIn.desc).map (fun d => d.parameters.length) = some 1 := by decide +kernel
theorem hd_X0_peopleAt : yX0_peopleAt.cls = RX0 ∧ yX0_peopleAt.cls ≠ "java/lang/invoke/MethodHandle" ∧ yX0_peopleAt.cls ≠ "java/lang/invoke/VarHandle" ∧ (parseMethodDescriptor yX0_peopleAt.desc).map (fun d => d.parameters.length) = some 1 := by decide +kernel
theorem hd_X0_leftBehind : yX0_leftBehind.cls = RX0 ∧ yX0_leftBehind.cls ≠ "java/lang/invoke/MethodHandle" ∧ yX0_leftBehind.cls ≠ "java/lang/invoke/VarHandle" ∧ (parseMethodDescriptor yX0_leftBehind.desc).map (fun d => d.parameters.length) = some 1 := by decide +kernel
theorem hd_X0_fullShows : yX0_fullShows.cls = RX0 ∧ yX0_fullShows.cls ≠ "java/lang/invoke/MethodHandle" ∧ yX0_fullShows.cls ≠ "java/lang/invoke/VarHandle" ∧ (parseMethodDescriptor yX0_fullShows.desc).map (fun d => d.parameters.length) = some 0 := by decide +kernel
theorem hd_X0_leftAtEnd : yX0_leftAtEnd.cls = RX0 ∧ yX0_leftAtEnd.cls ≠ "java/lang/invoke/MethodHandle" ∧ yX0_leftAtEnd.cls ≠ "java/lang/invoke/VarHandle" ∧ (parseMethodDescriptor yX0_leftAtEnd.desc).map (fun d => d.parameters.length) = some 0 := by decide +kernel
theorem hd_X1_init : yX1_init.cls = RX1 ∧ yX1_init.cls ≠ "java/lang/invoke/MethodHandle" ∧ yX1_init.cls ≠ "java/lang/invoke/VarHandle" ∧ (parseMethodDescriptor yX1_init.desc).map (fun d => d.parameters.length) = some 0 := by decide +kernel
theorem hd_X1_copyTo : yX1_copyTo.cls = RX1 ∧ yX1_copyTo.cls ≠ "java/lang/invoke/MethodHandle" ∧ yX1_copyTo.cls ≠ "java/lang/invoke/VarHandle" ∧ (parseMethodDescriptor yX1_copyTo.desc).map (fun d => d.parameters.length) = some 1 := by decide +kernel
theorem hd_X1_copyFrom : yX1_copyFrom.cls = RX1 ∧ yX1_copyFrom.cls ≠ "java/lang/invoke/MethodHandle" ∧ yX1_copyFrom.cls ≠ "java/lang/invoke/VarHandle" ∧ (parseMethodDescriptor yX1_copyFrom.desc).map (fun d => d.parameters.length) = some 1 := by decide +kernel
theorem hd_X1_setting : yX1_setting.cls = RX1 ∧ yX1_setting.cls ≠ "java/lang/invoke/MethodHandle" ∧ yX1_setting.cls ≠ "java/lang/invoke/VarHandle" ∧ (parseMethodDescriptor yX1_setting.desc).map (fun d => d.parameters.length) = some 1 := by decide +kernel
theorem hd_X1_changeSetting : yX1_changeSetting.cls = RX1 ∧ yX1_changeSetting.cls ≠ "java/lang/invoke/MethodHandle" ∧ yX1_changeSetting.cls ≠ "java/lang/invoke/VarHandle" ∧ (parseMethodDescriptor yX1_changeSetting.desc).map (fun d => d.parameters.length) = some 2 := by decide +kernel
theorem hd_X1_films : yX1_films.cls = RX1 ∧ yX1_films.cls ≠ "java/lang/invoke/MethodHandle" ∧ yX1_films.cls ≠ "java/lang/invoke/VarHandle" ∧ (parseMethodDescriptor yX1_films.desc).map (fun d => d.parameters.length) = some 0 := by decide +kernel
theorem hd_X1_hasFilm : yX1_hasFilm.cls = RX1 ∧ yX1_hasFilm.cls ≠ "java/lang/invoke/MethodHandle" ∧ yX1_hasFilm.cls ≠ "java/lang/invoke/VarHandle" ∧ (parseMethodDescriptor yX1_hasFilm.desc).map (fun d => d.parameters.length) = some 1 := by decide +kernel
theorem hd_X1_addFilm : yX1_addFilm.cls = RX1 ∧ yX1_addFilm.cls ≠ "java/lang/invoke/MethodHandle" ∧ yX1_addFilm.cls ≠ "java/lang/invoke/VarHandle" ∧ (parseMethodDescriptor yX1_addFilm.desc).map (fun d => d.parameters.length) = some 5 := by decide +kernel
theorem hd_X1_fact : yX1_fact.cls = RX1 ∧ yX1_fact.cls ≠ "java/lang/invoke/MethodHandle" ∧ yX1_fact.cls ≠ "java/lang/invoke/VarHandle" ∧ (parseMethodDescriptor yX1_fact.desc).map (fun d => d.parameters.length) = some 2 := by decide +kernel
theorem hd_X1_showAt : yX1_showAt.cls = RX1 ∧ yX1_showAt.cls ≠ "java/lang/invoke/MethodHandle" ∧ yX1_showAt.cls ≠ "java/lang/invoke/VarHandle" ∧ (parseMethodDescriptor yX1_showAt.desc).map (fun d => d.parameters.length) = some 1 := by decide +kernel
theorem hd_X1_replaceShow : yX1_replaceShow.cls = RX1 ∧ yX1_replaceShow.cls ≠ "java/lang/invoke/MethodHandle" ∧ yX1_replaceShow.cls ≠ "java/lang/invoke/VarHandle" ∧ (parseMethodDescriptor yX1_replaceShow.desc).map (fun d => d.parameters.length) = some 2 := by decide +kernel
theorem hd_X1_canHold : yX1_canHold.cls = RX1 ∧ yX1_canHold.cls ≠ "java/lang/invoke/MethodHandle" ∧ yX1_canHold.cls ≠ "java/lang/invoke/VarHandle" ∧ (parseMethodDescriptor yX1_canHold.desc).map (fun d => d.parameters.length) = some 2 := by decide +kernel
theorem hd_X1_shows : yX1_shows.cls = RX1 ∧ yX1_shows.cls ≠ "java/lang/invoke/MethodHandle" ∧ yX1_shows.cls ≠ "java/lang/invoke/VarHandle" ∧ (parseMethodDescriptor yX1_shows.desc).map (fun d => d.parameters.length) = some 0 := by decide +kernel
theorem hd_X1_firstDayShown : yX1_firstDayShown.cls = RX1 ∧ yX1_firstDayShown.cls ≠ "java/lang/invoke/MethodHandle" ∧ yX1_firstDayShown.cls ≠ "java/lang/invoke/VarHandle" ∧ (parseMethodDescriptor yX1_firstDayShown.desc).map (fun d => d.parameters.length) = some 1 := by decide +kernel
theorem hd_X1_rentOf : yX1_rentOf.cls = RX1 ∧ yX1_rentOf.cls ≠ "java/lang/invoke/MethodHandle" ∧ yX1_rentOf.cls ≠ "java/lang/invoke/VarHandle" ∧ (parseMethodDescriptor yX1_rentOf.desc).map (fun d => d.parameters.length) = some 1 := by decide +kernel
theorem hd_X1_changeRent : yX1_changeRent.cls = RX1 ∧ yX1_changeRent.cls ≠ "java/lang/invoke/MethodHandle" ∧ yX1_changeRent.cls ≠ "java/lang/invoke/VarHandle" ∧ (parseMethodDescriptor yX1_changeRent.desc).map (fun d => d.parameters.length) = some 2 := by decide +kernel
theorem hd_X1_rentsOf : yX1_rentsOf.cls = RX1 ∧ yX1_rentsOf.cls ≠ "java/lang/invoke/MethodHandle" ∧ yX1_rentsOf.cls ≠ "java/lang/invoke/VarHandle" ∧ (parseMethodDescriptor yX1_rentsOf.desc).map (fun d => d.parameters.length) = some 2 := by decide +kernel
theorem hd_X2_init : yX2_init.cls = RX2 ∧ yX2_init.cls ≠ "java/lang/invoke/MethodHandle" ∧ yX2_init.cls ≠ "java/lang/invoke/VarHandle" ∧ (parseMethodDescriptor yX2_init.desc).map (fun d => d.parameters.length) = some 0 := by decide +kernel
theorem hd_X2_size : yX2_size.cls = RX2 ∧ yX2_size.cls ≠ "java/lang/invoke/MethodHandle" ∧ yX2_size.cls ≠ "java/lang/invoke/VarHandle" ∧ (parseMethodDescriptor yX2_size.desc).map (fun d => d.parameters.length) = some 0 := by decide +kernel
theorem hd_X2_record : yX2_record.cls = RX2 ∧ yX2_record.cls ≠ "java/lang/invoke/MethodHandle" ∧ yX2_record.cls ≠ "java/lang/invoke/VarHandle" ∧ (parseMethodDescriptor yX2_record.desc).map (fun d => d.parameters.length) = some 1 := by decide +kernel
theorem hd_X2_takeBack : yX2_takeBack.cls = RX2 ∧ yX2_takeBack.cls ≠ "java/lang/invoke/MethodHandle" ∧ yX2_takeBack.cls ≠ "java/lang/invoke/VarHandle" ∧ (parseMethodDescriptor yX2_takeBack.desc).map (fun d => d.parameters.length) = some 1 := by decide +kernel
theorem hd_X3_init : yX3_init.cls = RX3 ∧ yX3_init.cls ≠ "java/lang/invoke/MethodHandle" ∧ yX3_init.cls ≠ "java/lang/invoke/VarHandle" ∧ (parseMethodDescriptor yX3_init.desc).map (fun d => d.parameters.length) = some 0 := by decide +kernel
theorem hd_X3_length : yX3_length.cls = RX3 ∧ yX3_length.cls ≠ "java/lang/invoke/MethodHandle" ∧ yX3_length.cls ≠ "java/lang/invoke/VarHandle" ∧ (parseMethodDescriptor yX3_length.desc).map (fun d => d.parameters.length) = some 0 := by decide +kernel
theorem hd_X3_empty : yX3_empty.cls = RX3 ∧ yX3_empty.cls ≠ "java/lang/invoke/MethodHandle" ∧ yX3_empty.cls ≠ "java/lang/invoke/VarHandle" ∧ (parseMethodDescriptor yX3_empty.desc).map (fun d => d.parameters.length) = some 0 := by decide +kernel
theorem hd_X3_append : yX3_append.cls = RX3 ∧ yX3_append.cls ≠ "java/lang/invoke/MethodHandle" ∧ yX3_append.cls ≠ "java/lang/invoke/VarHandle" ∧ (parseMethodDescriptor yX3_append.desc).map (fun d => d.parameters.length) = some 1 := by decide +kernel
theorem hd_X3_charactersIn : yX3_charactersIn.cls = RX3 ∧ yX3_charactersIn.cls ≠ "java/lang/invoke/MethodHandle" ∧ yX3_charactersIn.cls ≠ "java/lang/invoke/VarHandle" ∧ (parseMethodDescriptor yX3_charactersIn.desc).map (fun d => d.parameters.length) = some 1 := by decide +kernel
theorem hd_X3_firstFault : yX3_firstFault.cls = RX3 ∧ yX3_firstFault.cls ≠ "java/lang/invoke/MethodHandle" ∧ yX3_firstFault.cls ≠ "java/lang/invoke/VarHandle" ∧ (parseMethodDescriptor yX3_firstFault.desc).map (fun d => d.parameters.length) = some 0 := by decide +kernel
theorem hd_X3_behind : yX3_behind.cls = RX3 ∧ yX3_behind.cls ≠ "java/lang/invoke/MethodHandle" ∧ yX3_behind.cls ≠ "java/lang/invoke/VarHandle" ∧ (parseMethodDescriptor yX3_behind.desc).map (fun d => d.parameters.length) = some 2 := by decide +kernel
theorem hd_X3_behindFirstDigit : yX3_behindFirstDigit.cls = RX3 ∧ yX3_behindFirstDigit.cls ≠ "java/lang/invoke/MethodHandle" ∧ yX3_behindFirstDigit.cls ≠ "java/lang/invoke/VarHandle" ∧ (parseMethodDescriptor yX3_behindFirstDigit.desc).map (fun d => d.parameters.length) = some 1 := by decide +kernel
theorem hd_X3_behindDay : yX3_behindDay.cls = RX3 ∧ yX3_behindDay.cls ≠ "java/lang/invoke/MethodHandle" ∧ yX3_behindDay.cls ≠ "java/lang/invoke/VarHandle" ∧ (parseMethodDescriptor yX3_behindDay.desc).map (fun d => d.parameters.length) = some 1 := by decide +kernel
theorem hd_X3_isBetween : yX3_isBetween.cls = RX3 ∧ yX3_isBetween.cls ≠ "java/lang/invoke/MethodHandle" ∧ yX3_isBetween.cls ≠ "java/lang/invoke/VarHandle" ∧ (parseMethodDescriptor yX3_isBetween.desc).map (fun d => d.parameters.length) = some 3 := by decide +kernel
theorem hd_X3_characterAt : yX3_characterAt.cls = RX3 ∧ yX3_characterAt.cls ≠ "java/lang/invoke/MethodHandle" ∧ yX3_characterAt.cls ≠ "java/lang/invoke/VarHandle" ∧ (parseMethodDescriptor yX3_characterAt.desc).map (fun d => d.parameters.length) = some 1 := by decide +kernel
theorem hd_X3_isEndOfShow : yX3_isEndOfShow.cls = RX3 ∧ yX3_isEndOfShow.cls ≠ "java/lang/invoke/MethodHandle" ∧ yX3_isEndOfShow.cls ≠ "java/lang/invoke/VarHandle" ∧ (parseMethodDescriptor yX3_isEndOfShow.desc).map (fun d => d.parameters.length) = some 1 := by decide +kernel
theorem hd_X3_filmAt : yX3_filmAt.cls = RX3 ∧ yX3_filmAt.cls ≠ "java/lang/invoke/MethodHandle" ∧ yX3_filmAt.cls ≠ "java/lang/invoke/VarHandle" ∧ (parseMethodDescriptor yX3_filmAt.desc).map (fun d => d.parameters.length) = some 1 := by decide +kernel
theorem hd_X3_partAt : yX3_partAt.cls = RX3 ∧ yX3_partAt.cls ≠ "java/lang/invoke/MethodHandle" ∧ yX3_partAt.cls ≠ "java/lang/invoke/VarHandle" ∧ (parseMethodDescriptor yX3_partAt.desc).map (fun d => d.parameters.length) = some 1 := by decide +kernel
theorem hd_X3_dayAt : yX3_dayAt.cls = RX3 ∧ yX3_dayAt.cls ≠ "java/lang/invoke/MethodHandle" ∧ yX3_dayAt.cls ≠ "java/lang/invoke/VarHandle" ∧ (parseMethodDescriptor yX3_dayAt.desc).map (fun d => d.parameters.length) = some 2 := by decide +kernel
theorem hd_X4_init : yX4_init.cls = RX4 ∧ yX4_init.cls ≠ "java/lang/invoke/MethodHandle" ∧ yX4_init.cls ≠ "java/lang/invoke/VarHandle" ∧ (parseMethodDescriptor yX4_init.desc).map (fun d => d.parameters.length) = some 0 := by decide +kernel
theorem hd_X4_set : yX4_set.cls = RX4 ∧ yX4_set.cls ≠ "java/lang/invoke/MethodHandle" ∧ yX4_set.cls ≠ "java/lang/invoke/VarHandle" ∧ (parseMethodDescriptor yX4_set.desc).map (fun d => d.parameters.length) = some 2 := by decide +kernel
theorem hd_X4_film : yX4_film.cls = RX4 ∧ yX4_film.cls ≠ "java/lang/invoke/MethodHandle" ∧ yX4_film.cls ≠ "java/lang/invoke/VarHandle" ∧ (parseMethodDescriptor yX4_film.desc).map (fun d => d.parameters.length) = some 5 := by decide +kernel
theorem hd_X4_show : yX4_show.cls = RX4 ∧ yX4_show.cls ≠ "java/lang/invoke/MethodHandle" ∧ yX4_show.cls ≠ "java/lang/invoke/VarHandle" ∧ (parseMethodDescriptor yX4_show.desc).map (fun d => d.parameters.length) = some 3 := by decide +kernel
theorem hd_X4_drop : yX4_drop.cls = RX4 ∧ yX4_drop.cls ≠ "java/lang/invoke/MethodHandle" ∧ yX4_drop.cls ≠ "java/lang/invoke/VarHandle" ∧ (parseMethodDescriptor yX4_drop.desc).map (fun d => d.parameters.length) = some 2 := by decide +kernel
theorem hd_X4_exchange : yX4_exchange.cls = RX4 ∧ yX4_exchange.cls ≠ "java/lang/invoke/MethodHandle" ∧ yX4_exchange.cls ≠ "java/lang/invoke/VarHandle" ∧ (parseMethodDescriptor yX4_exchange.desc).map (fun d => d.parameters.length) = some 4 := by decide +kernel
theorem hd_X4_let : yX4_let.cls = RX4 ∧ yX4_let.cls ≠ "java/lang/invoke/MethodHandle" ∧ yX4_let.cls ≠ "java/lang/invoke/VarHandle" ∧ (parseMethodDescriptor yX4_let.desc).map (fun d => d.parameters.length) = some 2 := by decide +kernel
theorem hd_X4_carryOut : yX4_carryOut.cls = RX4 ∧ yX4_carryOut.cls ≠ "java/lang/invoke/MethodHandle" ∧ yX4_carryOut.cls ≠ "java/lang/invoke/VarHandle" ∧ (parseMethodDescriptor yX4_carryOut.desc).map (fun d => d.parameters.length) = some 0 := by decide +kernel
theorem hd_X4_at : yX4_at.cls = RX4 ∧ yX4_at.cls ≠ "java/lang/invoke/MethodHandle" ∧ yX4_at.cls ≠ "java/lang/invoke/VarHandle" ∧ (parseMethodDescriptor yX4_at.desc).map (fun d => d.parameters.length) = some 3 := by decide +kernel
theorem hd_X4_of : yX4_of.cls = RX4 ∧ yX4_of.cls ≠ "java/lang/invoke/MethodHandle" ∧ yX4_of.cls ≠ "java/lang/invoke/VarHandle" ∧ (parseMethodDescriptor yX4_of.desc).map (fun d => d.parameters.length) = some 2 := by decide +kernel
theorem hd_X4_inWeek : yX4_inWeek.cls = RX4 ∧ yX4_inWeek.cls ≠ "java/lang/invoke/MethodHandle" ∧ yX4_inWeek.cls ≠ "java/lang/invoke/VarHandle" ∧ (parseMethodDescriptor yX4_inWeek.desc).map (fun d => d.parameters.length) = some 3 := by decide +kernel
theorem hd_X4_week : yX4_week.cls = RX4 ∧ yX4_week.cls ≠ "java/lang/invoke/MethodHandle" ∧ yX4_week.cls ≠ "java/lang/invoke/VarHandle" ∧ (parseMethodDescriptor yX4_week.desc).map (fun d => d.parameters.length) = some 2 := by decide +kernel
theorem hd_X4_distributor : yX4_distributor.cls = RX4 ∧ yX4_distributor.cls ≠ "java/lang/invoke/MethodHandle" ∧ yX4_distributor.cls ≠ "java/lang/invoke/VarHandle" ∧ (parseMethodDescriptor yX4_distributor.desc).map (fun d => d.parameters.length) = some 2 := by decide +kernel
theorem hd_X4_rent : yX4_rent.cls = RX4 ∧ yX4_rent.cls ≠ "java/lang/invoke/MethodHandle" ∧ yX4_rent.cls ≠ "java/lang/invoke/VarHandle" ∧ (parseMethodDescriptor yX4_rent.desc).map (fun d => d.parameters.length) = some 1 := by decide +kernel
theorem hd_X4_count : yX4_count.cls = RX4 ∧ yX4_count.cls ≠ "java/lang/invoke/MethodHandle" ∧ yX4_count.cls ≠ "java/lang/invoke/VarHandle" ∧ (parseMethodDescriptor yX4_count.desc).map (fun d => d.parameters.length) = some 1 := by decide +kernel
theorem hd_X4_ifShown : yX4_ifShown.cls = RX4 ∧ yX4_ifShown.cls ≠ "java/lang/invoke/MethodHandle" ∧ yX4_ifShown.cls ≠ "java/lang/invoke/VarHandle" ∧ (parseMethodDescriptor yX4_ifShown.desc).map (fun d => d.parameters.length) = some 3 := by decide +kernel
theorem hd_X4_bestFilm : yX4_bestFilm.cls = RX4 ∧ yX4_bestFilm.cls ≠ "java/lang/invoke/MethodHandle" ∧ yX4_bestFilm.cls ≠ "java/lang/invoke/VarHandle" ∧ (parseMethodDescriptor yX4_bestFilm.desc).map (fun d => d.parameters.length) = some 3 := by decide +kernel
theorem hd_X4_worstShow : yX4_worstShow.cls = RX4 ∧ yX4_worstShow.cls ≠ "java/lang/invoke/MethodHandle" ∧ yX4_worstShow.cls ≠ "java/lang/invoke/VarHandle" ∧ (parseMethodDescriptor yX4_worstShow.desc).map (fun d => d.parameters.length) = some 1 := by decide +kernel
theorem hd_X4_priceFor : yX4_priceFor.cls = RX4 ∧ yX4_priceFor.cls ≠ "java/lang/invoke/MethodHandle" ∧ yX4_priceFor.cls ≠ "java/lang/invoke/VarHandle" ∧ (parseMethodDescriptor yX4_priceFor.desc).map (fun d => d.parameters.length) = some 3 := by decide +kernel
theorem hd_X4_put : yX4_put.cls = RX4 ∧ yX4_put.cls ≠ "java/lang/invoke/MethodHandle" ∧ yX4_put.cls ≠ "java/lang/invoke/VarHandle" ∧ (parseMethodDescriptor yX4_put.desc).map (fun d => d.parameters.length) = some 1 := by decide +kernel
theorem hd_X4_wipe : yX4_wipe.cls = RX4 ∧ yX4_wipe.cls ≠ "java/lang/invoke/MethodHandle" ∧ yX4_wipe.cls ≠ "java/lang/invoke/VarHandle" ∧ (parseMethodDescriptor yX4_wipe.desc).map (fun d => d.parameters.length) = some 0 := by decide +kernel
theorem hd_X4_fault : yX4_fault.cls = RX4 ∧ yX4_fault.cls ≠ "java/lang/invoke/MethodHandle" ∧ yX4_fault.cls ≠ "java/lang/invoke/VarHandle" ∧ (parseMethodDescriptor yX4_fault.desc).map (fun d => d.parameters.length) = some 0 := by decide +kernel
theorem hd_X4_undo : yX4_undo.cls = RX4 ∧ yX4_undo.cls ≠ "java/lang/invoke/MethodHandle" ∧ yX4_undo.cls ≠ "java/lang/invoke/VarHandle" ∧ (parseMethodDescriptor yX4_undo.desc).map (fun d => d.parameters.length) = some 0 := by decide +kernel
theorem hd_X4_save : yX4_save.cls = RX4 ∧ yX4_save.cls ≠ "java/lang/invoke/MethodHandle" ∧ yX4_save.cls ≠ "java/lang/invoke/VarHandle" ∧ (parseMethodDescriptor yX4_save.desc).map (fun d => d.parameters.length) = some 1 := by decide +kernel
theorem hd_X4_restore : yX4_restore.cls = RX4 ∧ yX4_restore.cls ≠ "java/lang/invoke/MethodHandle" ∧ yX4_restore.cls ≠ "java/lang/invoke/VarHandle" ∧ (parseMethodDescriptor yX4_restore.desc).map (fun d => d.parameters.length) = some 1 := by decide +kernel
theorem hd_X4_isWithin : yX4_isWithin.cls = RX4 ∧ yX4_isWithin.cls ≠ "java/lang/invoke/MethodHandle" ∧ yX4_isWithin.cls ≠ "java/lang/invoke/VarHandle" ∧ (parseMethodDescriptor yX4_isWithin.desc).map (fun d => d.parameters.length) = some 3 := by decide +kernel
theorem hd_X4_isDay : yX4_isDay.cls = RX4 ∧ yX4_isDay.cls ≠ "java/lang/invoke/MethodHandle" ∧ yX4_isDay.cls ≠ "java/lang/invoke/VarHandle" ∧ (parseMethodDescriptor yX4_isDay.desc).map (fun d => d.parameters.length) = some 1 := by decide +kernel
theorem hd_X4_isWeek : yX4_isWeek.cls = RX4 ∧ yX4_isWeek.cls ≠ "java/lang/invoke/MethodHandle" ∧ yX4_isWeek.cls ≠ "java/lang/invoke/VarHandle" ∧ (parseMethodDescriptor yX4_isWeek.desc).map (fun d => d.parameters.length) = some 1 := by decide +kernel
theorem hd_X4_isPlace : yX4_isPlace.cls = RX4 ∧ yX4_isPlace.cls ≠ "java/lang/invoke/MethodHandle" ∧ yX4_isPlace.cls ≠ "java/lang/invoke/VarHandle" ∧ (parseMethodDescriptor yX4_isPlace.desc).map (fun d => d.parameters.length) = some 2 := by decide +kernel
theorem hd_X4_placeOf : yX4_placeOf.cls = RX4 ∧ yX4_placeOf.cls ≠ "java/lang/invoke/MethodHandle" ∧ yX4_placeOf.cls ≠ "java/lang/invoke/VarHandle" ∧ (parseMethodDescriptor yX4_placeOf.desc).map (fun d => d.parameters.length) = some 2 := by decide +kernel
theorem hd_X4_errorOfShow : yX4_errorOfShow.cls = RX4 ∧ yX4_errorOfShow.cls ≠ "java/lang/invoke/MethodHandle" ∧ yX4_errorOfShow.cls ≠ "java/lang/invoke/VarHandle" ∧ (parseMethodDescriptor yX4_errorOfShow.desc).map (fun d => d.parameters.length) = some 3 := by decide +kernel
theorem hd_X4_dropShowsOfDay : yX4_dropShowsOfDay.cls = RX4 ∧ yX4_dropShowsOfDay.cls ≠ "java/lang/invoke/MethodHandle" ∧ yX4_dropShowsOfDay.cls ≠ "java/lang/invoke/VarHandle" ∧ (parseMethodDescriptor yX4_dropShowsOfDay.desc).map (fun d => d.parameters.length) = some 1 := by decide +kernel
theorem hd_X4_putInShowsOfPad : yX4_putInShowsOfPad.cls = RX4 ∧ yX4_putInShowsOfPad.cls ≠ "java/lang/invoke/MethodHandle" ∧ yX4_putInShowsOfPad.cls ≠ "java/lang/invoke/VarHandle" ∧ (parseMethodDescriptor yX4_putInShowsOfPad.desc).map (fun d => d.parameters.length) = some 0 := by decide +kernel
theorem hd_X4_sumOfFilm : yX4_sumOfFilm.cls = RX4 ∧ yX4_sumOfFilm.cls ≠ "java/lang/invoke/MethodHandle" ∧ yX4_sumOfFilm.cls ≠ "java/lang/invoke/VarHandle" ∧ (parseMethodDescriptor yX4_sumOfFilm.desc).map (fun d => d.parameters.length) = some 2 := by decide +kernel
theorem hd_X4_sumOfFilms : yX4_sumOfFilms.cls = RX4 ∧ yX4_sumOfFilms.cls ≠ "java/lang/invoke/MethodHandle" ∧ yX4_sumOfFilms.cls ≠ "java/lang/invoke/VarHandle" ∧ (parseMethodDescriptor yX4_sumOfFilms.desc).map (fun d => d.parameters.length) = some 1 := by decide +kernel
theorem hd_X4_sumOfFilmsInWeek : yX4_sumOfFilmsInWeek.cls = RX4 ∧ yX4_sumOfFilmsInWeek.cls ≠ "java/lang/invoke/MethodHandle" ∧ yX4_sumOfFilmsInWeek.cls ≠ "java/lang/invoke/VarHandle" ∧ (parseMethodDescriptor yX4_sumOfFilmsInWeek.desc).map (fun d => d.parameters.length) = some 2 := by decide +kernel
theorem hd_X4_fullShows : yX4_fullShows.cls = RX4 ∧ yX4_fullShows.cls ≠ "java/lang/invoke/MethodHandle" ∧ yX4_fullShows.cls ≠ "java/lang/invoke/VarHandle" ∧ (parseMethodDescriptor yX4_fullShows.desc).map (fun d => d.parameters.length) = some 0 := by decide +kernel
theorem hd_X4_leftOfFilm : yX4_leftOfFilm.cls = RX4 ∧ yX4_leftOfFilm.cls ≠ "java/lang/invoke/MethodHandle" ∧ yX4_leftOfFilm.cls ≠ "java/lang/invoke/VarHandle" ∧ (parseMethodDescriptor yX4_leftOfFilm.desc).map (fun d => d.parameters.length) = some 1 := by decide +kernel
theorem hd_X4_gainWith : yX4_gainWith.cls = RX4 ∧ yX4_gainWith.cls ≠ "java/lang/invoke/MethodHandle" ∧ yX4_gainWith.cls ≠ "java/lang/invoke/VarHandle" ∧ (parseMethodDescriptor yX4_gainWith.desc).map (fun d => d.parameters.length) = some 2 := by decide +kernel
theorem hd_X5_init : yX5_init.cls = RX5 ∧ yX5_init.cls ≠ "java/lang/invoke/MethodHandle" ∧ yX5_init.cls ≠ "java/lang/invoke/VarHandle" ∧ (parseMethodDescriptor yX5_init.desc).map (fun d => d.parameters.length) = some 0 := by decide +kernel
theorem hd_X5_moves : yX5_moves.cls = RX5 ∧ yX5_moves.cls ≠ "java/lang/invoke/MethodHandle" ∧ yX5_moves.cls ≠ "java/lang/invoke/VarHandle" ∧ (parseMethodDescriptor yX5_moves.desc).map (fun d => d.parameters.length) = some 4 := by decide +kernel
theorem hd_X5_within : yX5_within.cls = RX5 ∧ yX5_within.cls ≠ "java/lang/invoke/MethodHandle" ∧ yX5_within.cls ≠ "java/lang/invoke/VarHandle" ∧ (parseMethodDescriptor yX5_within.desc).map (fun d => d.parameters.length) = some 3 := by decide +kernel
theorem hd_X5_record : yX5_record.cls = RX5 ∧ yX5_record.cls ≠ "java/lang/invoke/MethodHandle" ∧ yX5_record.cls ≠ "java/lang/invoke/VarHandle" ∧ (parseMethodDescriptor yX5_record.desc).map (fun d => d.parameters.length) = some 0 := by decide +kernel
theorem hd_X5_isFilm : yX5_isFilm.cls = RX5 ∧ yX5_isFilm.cls ≠ "java/lang/invoke/MethodHandle" ∧ yX5_isFilm.cls ≠ "java/lang/invoke/VarHandle" ∧ (parseMethodDescriptor yX5_isFilm.desc).map (fun d => d.parameters.length) = some 1 := by decide +kernel
theorem hd_X5_filmPart : yX5_filmPart.cls = RX5 ∧ yX5_filmPart.cls ≠ "java/lang/invoke/MethodHandle" ∧ yX5_filmPart.cls ≠ "java/lang/invoke/VarHandle" ∧ (parseMethodDescriptor yX5_filmPart.desc).map (fun d => d.parameters.length) = some 2 := by decide +kernel
theorem hd_X5_isPart : yX5_isPart.cls = RX5 ∧ yX5_isPart.cls ≠ "java/lang/invoke/MethodHandle" ∧ yX5_isPart.cls ≠ "java/lang/invoke/VarHandle" ∧ (parseMethodDescriptor yX5_isPart.desc).map (fun d => d.parameters.length) = some 2 := by decide +kernel
theorem hd_X5_showAt : yX5_showAt.cls = RX5 ∧ yX5_showAt.cls ≠ "java/lang/invoke/MethodHandle" ∧ yX5_showAt.cls ≠ "java/lang/invoke/VarHandle" ∧ (parseMethodDescriptor yX5_showAt.desc).map (fun d => d.parameters.length) = some 2 := by decide +kernel
theorem hd_X5_isLet : yX5_isLet.cls = RX5 ∧ yX5_isLet.cls ≠ "java/lang/invoke/MethodHandle" ∧ yX5_isLet.cls ≠ "java/lang/invoke/VarHandle" ∧ (parseMethodDescriptor yX5_isLet.desc).map (fun d => d.parameters.length) = some 1 := by decide +kernel
theorem hd_X5_fade : yX5_fade.cls = RX5 ∧ yX5_fade.cls ≠ "java/lang/invoke/MethodHandle" ∧ yX5_fade.cls ≠ "java/lang/invoke/VarHandle" ∧ (parseMethodDescriptor yX5_fade.desc).map (fun d => d.parameters.length) = some 1 := by decide +kernel
theorem hd_X5_findPeople : yX5_findPeople.cls = RX5 ∧ yX5_findPeople.cls ≠ "java/lang/invoke/MethodHandle" ∧ yX5_findPeople.cls ≠ "java/lang/invoke/VarHandle" ∧ (parseMethodDescriptor yX5_findPeople.desc).map (fun d => d.parameters.length) = some 0 := by decide +kernel
theorem hd_X5_findTakings : yX5_findTakings.cls = RX5 ∧ yX5_findTakings.cls ≠ "java/lang/invoke/MethodHandle" ∧ yX5_findTakings.cls ≠ "java/lang/invoke/VarHandle" ∧ (parseMethodDescriptor yX5_findTakings.desc).map (fun d => d.parameters.length) = some 0 := by decide +kernel
theorem hd_X5_shareOf : yX5_shareOf.cls = RX5 ∧ yX5_shareOf.cls ≠ "java/lang/invoke/MethodHandle" ∧ yX5_shareOf.cls ≠ "java/lang/invoke/VarHandle" ∧ (parseMethodDescriptor yX5_shareOf.desc).map (fun d => d.parameters.length) = some 2 := by decide +kernel
theorem hd_X5_shareOfTakings : yX5_shareOfTakings.cls = RX5 ∧ yX5_shareOfTakings.cls ≠ "java/lang/invoke/MethodHandle" ∧ yX5_shareOfTakings.cls ≠ "java/lang/invoke/VarHandle" ∧ (parseMethodDescriptor yX5_shareOfTakings.desc).map (fun d => d.parameters.length) = some 1 := by decide +kernel
theorem hd_X5_findDues : yX5_findDues.cls = RX5 ∧ yX5_findDues.cls ≠ "java/lang/invoke/MethodHandle" ∧ yX5_findDues.cls ≠ "java/lang/invoke/VarHandle" ∧ (parseMethodDescriptor yX5_findDues.desc).map (fun d => d.parameters.length) = some 0 := by decide +kernel
theorem hd_X5_reckon : yX5_reckon.cls = RX5 ∧ yX5_reckon.cls ≠ "java/lang/invoke/MethodHandle" ∧ yX5_reckon.cls ≠ "java/lang/invoke/VarHandle" ∧ (parseMethodDescriptor yX5_reckon.desc).map (fun d => d.parameters.length) = some 0 := by decide +kernel
theorem hd_X5_sumOf : yX5_sumOf.cls = RX5 ∧ yX5_sumOf.cls ≠ "java/lang/invoke/MethodHandle" ∧ yX5_sumOf.cls ≠ "java/lang/invoke/VarHandle" ∧ (parseMethodDescriptor yX5_sumOf.desc).map (fun d => d.parameters.length) = some 2 := by decide +kernel
theorem hd_X5_sumOfFilm : yX5_sumOfFilm.cls = RX5 ∧ yX5_sumOfFilm.cls ≠ "java/lang/invoke/MethodHandle" ∧ yX5_sumOfFilm.cls ≠ "java/lang/invoke/VarHandle" ∧ (parseMethodDescriptor yX5_sumOfFilm.desc).map (fun d => d.parameters.length) = some 2 := by decide +kernel
theorem hd_X5_rentsOf : yX5_rentsOf.cls = RX5 ∧ yX5_rentsOf.cls ≠ "java/lang/invoke/MethodHandle" ∧ yX5_rentsOf.cls ≠ "java/lang/invoke/VarHandle" ∧ (parseMethodDescriptor yX5_rentsOf.desc).map (fun d => d.parameters.length) = some 1 := by decide +kernel
theorem hd_X5_peopleIn : yX5_peopleIn.cls = RX5 ∧ yX5_peopleIn.cls ≠ "java/lang/invoke/MethodHandle" ∧ yX5_peopleIn.cls ≠ "java/lang/invoke/VarHandle" ∧ (parseMethodDescriptor yX5_peopleIn.desc).map (fun d => d.parameters.length) = some 1 := by decide +kernel
theorem hd_X5_leftOf : yX5_leftOf.cls = RX5 ∧ yX5_leftOf.cls ≠ "java/lang/invoke/MethodHandle" ∧ yX5_leftOf.cls ≠ "java/lang/invoke/VarHandle" ∧ (parseMethodDescriptor yX5_leftOf.desc).map (fun d => d.parameters.length) = some 1 := by decide +kernel
theorem hd_X5_leftNow : yX5_leftNow.cls = RX5 ∧ yX5_leftNow.cls ≠ "java/lang/invoke/MethodHandle" ∧ yX5_leftNow.cls ≠ "java/lang/invoke/VarHandle" ∧ (parseMethodDescriptor yX5_leftNow.desc).map (fun d => d.parameters.length) = some 0 := by decide +kernel
theorem hd_X5_isValue : yX5_isValue.cls = RX5 ∧ yX5_isValue.cls ≠ "java/lang/invoke/MethodHandle" ∧ yX5_isValue.cls ≠ "java/lang/invoke/VarHandle" ∧ (parseMethodDescriptor yX5_isValue.desc).map (fun d => d.parameters.length) = some 2 := by decide +kernel
theorem hd_X5_set : yX5_set.cls = RX5 ∧ yX5_set.cls ≠ "java/lang/invoke/MethodHandle" ∧ yX5_set.cls ≠ "java/lang/invoke/VarHandle" ∧ (parseMethodDescriptor yX5_set.desc).map (fun d => d.parameters.length) = some 2 := by decide +kernel
theorem hd_X5_film : yX5_film.cls = RX5 ∧ yX5_film.cls ≠ "java/lang/invoke/MethodHandle" ∧ yX5_film.cls ≠ "java/lang/invoke/VarHandle" ∧ (parseMethodDescriptor yX5_film.desc).map (fun d => d.parameters.length) = some 5 := by decide +kernel
theorem hd_X5_canShow : yX5_canShow.cls = RX5 ∧ yX5_canShow.cls ≠ "java/lang/invoke/MethodHandle" ∧ yX5_canShow.cls ≠ "java/lang/invoke/VarHandle" ∧ (parseMethodDescriptor yX5_canShow.desc).map (fun d => d.parameters.length) = some 2 := by decide +kernel
theorem hd_X5_whyNotShown : yX5_whyNotShown.cls = RX5 ∧ yX5_whyNotShown.cls ≠ "java/lang/invoke/MethodHandle" ∧ yX5_whyNotShown.cls ≠ "java/lang/invoke/VarHandle" ∧ (parseMethodDescriptor yX5_whyNotShown.desc).map (fun d => d.parameters.length) = some 3 := by decide +kernel
theorem hd_X5_show : yX5_show.cls = RX5 ∧ yX5_show.cls ≠ "java/lang/invoke/MethodHandle" ∧ yX5_show.cls ≠ "java/lang/invoke/VarHandle" ∧ (parseMethodDescriptor yX5_show.desc).map (fun d => d.parameters.length) = some 3 := by decide +kernel
theorem hd_X5_drop : yX5_drop.cls = RX5 ∧ yX5_drop.cls ≠ "java/lang/invoke/MethodHandle" ∧ yX5_drop.cls ≠ "java/lang/invoke/VarHandle" ∧ (parseMethodDescriptor yX5_drop.desc).map (fun d => d.parameters.length) = some 2 := by decide +kernel
theorem hd_X5_canBe : yX5_canBe.cls = RX5 ∧ yX5_canBe.cls ≠ "java/lang/invoke/MethodHandle" ∧ yX5_canBe.cls ≠ "java/lang/invoke/VarHandle" ∧ (parseMethodDescriptor yX5_canBe.desc).map (fun d => d.parameters.length) = some 2 := by decide +kernel
theorem hd_X5_exchange : yX5_exchange.cls = RX5 ∧ yX5_exchange.cls ≠ "java/lang/invoke/MethodHandle" ∧ yX5_exchange.cls ≠ "java/lang/invoke/VarHandle" ∧ (parseMethodDescriptor yX5_exchange.desc).map (fun d => d.parameters.length) = some 4 := by decide +kernel
theorem hd_X5_let : yX5_let.cls = RX5 ∧ yX5_let.cls ≠ "java/lang/invoke/MethodHandle" ∧ yX5_let.cls ≠ "java/lang/invoke/VarHandle" ∧ (parseMethodDescriptor yX5_let.desc).map (fun d => d.parameters.length) = some 2 := by decide +kernel
theorem hd_X5_at : yX5_at.cls = RX5 ∧ yX5_at.cls ≠ "java/lang/invoke/MethodHandle" ∧ yX5_at.cls ≠ "java/lang/invoke/VarHandle" ∧ (parseMethodDescriptor yX5_at.desc).map (fun d => d.parameters.length) = some 3 := by decide +kernel
theorem hd_X5_peopleOf : yX5_peopleOf.cls = RX5 ∧ yX5_peopleOf.cls ≠ "java/lang/invoke/MethodHandle" ∧ yX5_peopleOf.cls ≠ "java/lang/invoke/VarHandle" ∧ (parseMethodDescriptor yX5_peopleOf.desc).map (fun d => d.parameters.length) = some 1 := by decide +kernel
theorem hd_X5_firstShow : yX5_firstShow.cls = RX5 ∧ yX5_firstShow.cls ≠ "java/lang/invoke/MethodHandle" ∧ yX5_firstShow.cls ≠ "java/lang/invoke/VarHandle" ∧ (parseMethodDescriptor yX5_firstShow.desc).map (fun d => d.parameters.length) = some 1 := by decide +kernel
theorem hd_X5_of : yX5_of.cls = RX5 ∧ yX5_of.cls ≠ "java/lang/invoke/MethodHandle" ∧ yX5_of.cls ≠ "java/lang/invoke/VarHandle" ∧ (parseMethodDescriptor yX5_of.desc).map (fun d => d.parameters.length) = some 2 := by decide +kernel
theorem hd_X5_inWeek : yX5_inWeek.cls = RX5 ∧ yX5_inWeek.cls ≠ "java/lang/invoke/MethodHandle" ∧ yX5_inWeek.cls ≠ "java/lang/invoke/VarHandle" ∧ (parseMethodDescriptor yX5_inWeek.desc).map (fun d => d.parameters.length) = some 3 := by decide +kernel
theorem hd_X5_week : yX5_week.cls = RX5 ∧ yX5_week.cls ≠ "java/lang/invoke/MethodHandle" ∧ yX5_week.cls ≠ "java/lang/invoke/VarHandle" ∧ (parseMethodDescriptor yX5_week.desc).map (fun d => d.parameters.length) = some 2 := by decide +kernel
theorem hd_X5_distributor : yX5_distributor.cls = RX5 ∧ yX5_distributor.cls ≠ "java/lang/invoke/MethodHandle" ∧ yX5_distributor.cls ≠ "java/lang/invoke/VarHandle" ∧ (parseMethodDescriptor yX5_distributor.desc).map (fun d => d.parameters.length) = some 2 := by decide +kernel
theorem hd_X5_rent : yX5_rent.cls = RX5 ∧ yX5_rent.cls ≠ "java/lang/invoke/MethodHandle" ∧ yX5_rent.cls ≠ "java/lang/invoke/VarHandle" ∧ (parseMethodDescriptor yX5_rent.desc).map (fun d => d.parameters.length) = some 1 := by decide +kernel
theorem hd_X5_fullShows : yX5_fullShows.cls = RX5 ∧ yX5_fullShows.cls ≠ "java/lang/invoke/MethodHandle" ∧ yX5_fullShows.cls ≠ "java/lang/invoke/VarHandle" ∧ (parseMethodDescriptor yX5_fullShows.desc).map (fun d => d.parameters.length) = some 0 := by decide +kernel
theorem hd_X5_count : yX5_count.cls = RX5 ∧ yX5_count.cls ≠ "java/lang/invoke/MethodHandle" ∧ yX5_count.cls ≠ "java/lang/invoke/VarHandle" ∧ (parseMethodDescriptor yX5_count.desc).map (fun d => d.parameters.length) = some 1 := by decide +kernel
theorem hd_X5_moreWith : yX5_moreWith.cls = RX5 ∧ yX5_moreWith.cls ≠ "java/lang/invoke/MethodHandle" ∧ yX5_moreWith.cls ≠ "java/lang/invoke/VarHandle" ∧ (parseMethodDescriptor yX5_moreWith.desc).map (fun d => d.parameters.length) = some 2 := by decide +kernel
theorem hd_X5_ifShown : yX5_ifShown.cls = RX5 ∧ yX5_ifShown.cls ≠ "java/lang/invoke/MethodHandle" ∧ yX5_ifShown.cls ≠ "java/lang/invoke/VarHandle" ∧ (parseMethodDescriptor yX5_ifShown.desc).map (fun d => d.parameters.length) = some 3 := by decide +kernel
theorem hd_X5_bestFilm : yX5_bestFilm.cls = RX5 ∧ yX5_bestFilm.cls ≠ "java/lang/invoke/MethodHandle" ∧ yX5_bestFilm.cls ≠ "java/lang/invoke/VarHandle" ∧ (parseMethodDescriptor yX5_bestFilm.desc).map (fun d => d.parameters.length) = some 3 := by decide +kernel
theorem hd_X5_worstShow : yX5_worstShow.cls = RX5 ∧ yX5_worstShow.cls ≠ "java/lang/invoke/MethodHandle" ∧ yX5_worstShow.cls ≠ "java/lang/invoke/VarHandle" ∧ (parseMethodDescriptor yX5_worstShow.desc).map (fun d => d.parameters.length) = some 1 := by decide +kernel
theorem hd_X5_priceFor : yX5_priceFor.cls = RX5 ∧ yX5_priceFor.cls ≠ "java/lang/invoke/MethodHandle" ∧ yX5_priceFor.cls ≠ "java/lang/invoke/VarHandle" ∧ (parseMethodDescriptor yX5_priceFor.desc).map (fun d => d.parameters.length) = some 3 := by decide +kernel
theorem hd_X5_put : yX5_put.cls = RX5 ∧ yX5_put.cls ≠ "java/lang/invoke/MethodHandle" ∧ yX5_put.cls ≠ "java/lang/invoke/VarHandle" ∧ (parseMethodDescriptor yX5_put.desc).map (fun d => d.parameters.length) = some 1 := by decide +kernel
theorem hd_X5_wipe : yX5_wipe.cls = RX5 ∧ yX5_wipe.cls ≠ "java/lang/invoke/MethodHandle" ∧ yX5_wipe.cls ≠ "java/lang/invoke/VarHandle" ∧ (parseMethodDescriptor yX5_wipe.desc).map (fun d => d.parameters.length) = some 0 := by decide +kernel
theorem hd_X5_character : yX5_character.cls = RX5 ∧ yX5_character.cls ≠ "java/lang/invoke/MethodHandle" ∧ yX5_character.cls ≠ "java/lang/invoke/VarHandle" ∧ (parseMethodDescriptor yX5_character.desc).map (fun d => d.parameters.length) = some 1 := by decide +kernel
theorem hd_X5_takeDigit : yX5_takeDigit.cls = RX5 ∧ yX5_takeDigit.cls ≠ "java/lang/invoke/MethodHandle" ∧ yX5_takeDigit.cls ≠ "java/lang/invoke/VarHandle" ∧ (parseMethodDescriptor yX5_takeDigit.desc).map (fun d => d.parameters.length) = some 1 := by decide +kernel
theorem hd_X5_takePart : yX5_takePart.cls = RX5 ∧ yX5_takePart.cls ≠ "java/lang/invoke/MethodHandle" ∧ yX5_takePart.cls ≠ "java/lang/invoke/VarHandle" ∧ (parseMethodDescriptor yX5_takePart.desc).map (fun d => d.parameters.length) = some 0 := by decide +kernel
theorem hd_X5_takeDay : yX5_takeDay.cls = RX5 ∧ yX5_takeDay.cls ≠ "java/lang/invoke/MethodHandle" ∧ yX5_takeDay.cls ≠ "java/lang/invoke/VarHandle" ∧ (parseMethodDescriptor yX5_takeDay.desc).map (fun d => d.parameters.length) = some 0 := by decide +kernel
theorem hd_X5_readsShow : yX5_readsShow.cls = RX5 ∧ yX5_readsShow.cls ≠ "java/lang/invoke/MethodHandle" ∧ yX5_readsShow.cls ≠ "java/lang/invoke/VarHandle" ∧ (parseMethodDescriptor yX5_readsShow.desc).map (fun d => d.parameters.length) = some 0 := by decide +kernel
theorem hd_X5_isNext : yX5_isNext.cls = RX5 ∧ yX5_isNext.cls ≠ "java/lang/invoke/MethodHandle" ∧ yX5_isNext.cls ≠ "java/lang/invoke/VarHandle" ∧ (parseMethodDescriptor yX5_isNext.desc).map (fun d => d.parameters.length) = some 0 := by decide +kernel
theorem hd_X5_findFault : yX5_findFault.cls = RX5 ∧ yX5_findFault.cls ≠ "java/lang/invoke/MethodHandle" ∧ yX5_findFault.cls ≠ "java/lang/invoke/VarHandle" ∧ (parseMethodDescriptor yX5_findFault.desc).map (fun d => d.parameters.length) = some 0 := by decide +kernel
theorem hd_X5_fault : yX5_fault.cls = RX5 ∧ yX5_fault.cls ≠ "java/lang/invoke/MethodHandle" ∧ yX5_fault.cls ≠ "java/lang/invoke/VarHandle" ∧ (parseMethodDescriptor yX5_fault.desc).map (fun d => d.parameters.length) = some 0 := by decide +kernel
theorem hd_X5_carryOut : yX5_carryOut.cls = RX5 ∧ yX5_carryOut.cls ≠ "java/lang/invoke/MethodHandle" ∧ yX5_carryOut.cls ≠ "java/lang/invoke/VarHandle" ∧ (parseMethodDescriptor yX5_carryOut.desc).map (fun d => d.parameters.length) = some 0 := by decide +kernel
theorem hd_X5_undo : yX5_undo.cls = RX5 ∧ yX5_undo.cls ≠ "java/lang/invoke/MethodHandle" ∧ yX5_undo.cls ≠ "java/lang/invoke/VarHandle" ∧ (parseMethodDescriptor yX5_undo.desc).map (fun d => d.parameters.length) = some 0 := by decide +kernel
theorem hd_X5_showsMany : yX5_showsMany.cls = RX5 ∧ yX5_showsMany.cls ≠ "java/lang/invoke/MethodHandle" ∧ yX5_showsMany.cls ≠ "java/lang/invoke/VarHandle" ∧ (parseMethodDescriptor yX5_showsMany.desc).map (fun d => d.parameters.length) = some 0 := by decide +kernel
theorem hd_X5_save : yX5_save.cls = RX5 ∧ yX5_save.cls ≠ "java/lang/invoke/MethodHandle" ∧ yX5_save.cls ≠ "java/lang/invoke/VarHandle" ∧ (parseMethodDescriptor yX5_save.desc).map (fun d => d.parameters.length) = some 1 := by decide +kernel
theorem hd_X5_restore : yX5_restore.cls = RX5 ∧ yX5_restore.cls ≠ "java/lang/invoke/MethodHandle" ∧ yX5_restore.cls ≠ "java/lang/invoke/VarHandle" ∧ (parseMethodDescriptor yX5_restore.desc).map (fun d => d.parameters.length) = some 1 := by decide +kernel
theorem ic_m6 : Int32.ofInt (-6) = -6 := by decide
theorem ic_m5 : Int32.ofInt (-5) = -5 := by decide
theorem ic_m4 : Int32.ofInt (-4) = -4 := by decide
theorem ic_m3 : Int32.ofInt (-3) = -3 := by decide
theorem ic_m2 : Int32.ofInt (-2) = -2 := by decide
theorem ic_m1 : Int32.ofInt (-1) = -1 := by decide
theorem ic_0 : Int32.ofInt (0) = 0 := by decide
theorem ic_1 : Int32.ofInt (1) = 1 := by decide
theorem ic_2 : Int32.ofInt (2) = 2 := by decide
theorem ic_3 : Int32.ofInt (3) = 3 := by decide
theorem ic_4 : Int32.ofInt (4) = 4 := by decide
theorem ic_5 : Int32.ofInt (5) = 5 := by decide
theorem bp_m6 : (Int8.ofInt (-6)).toInt32 = -6 := by decide
theorem bp_m5 : (Int8.ofInt (-5)).toInt32 = -5 := by decide
theorem bp_m4 : (Int8.ofInt (-4)).toInt32 = -4 := by decide
theorem bp_m3 : (Int8.ofInt (-3)).toInt32 = -3 := by decide
theorem bp_m2 : (Int8.ofInt (-2)).toInt32 = -2 := by decide
theorem bp_6 : (Int8.ofInt (6)).toInt32 = 6 := by decide
theorem bp_7 : (Int8.ofInt (7)).toInt32 = 7 := by decide
theorem bp_8 : (Int8.ofInt (8)).toInt32 = 8 := by decide
theorem bp_9 : (Int8.ofInt (9)).toInt32 = 9 := by decide
theorem bp_10 : (Int8.ofInt (10)).toInt32 = 10 := by decide
theorem bp_12 : (Int8.ofInt (12)).toInt32 = 12 := by decide
theorem bp_14 : (Int8.ofInt (14)).toInt32 = 14 := by decide
theorem bp_20 : (Int8.ofInt (20)).toInt32 = 20 := by decide
theorem bp_25 : (Int8.ofInt (25)).toInt32 = 25 := by decide
theorem bp_28 : (Int8.ofInt (28)).toInt32 = 28 := by decide
theorem bp_30 : (Int8.ofInt (30)).toInt32 = 30 := by decide
theorem bp_31 : (Int8.ofInt (31)).toInt32 = 31 := by decide
theorem bp_33 : (Int8.ofInt (33)).toInt32 = 33 := by decide
theorem bp_34 : (Int8.ofInt (34)).toInt32 = 34 := by decide
theorem bp_35 : (Int8.ofInt (35)).toInt32 = 35 := by decide
theorem bp_40 : (Int8.ofInt (40)).toInt32 = 40 := by decide
theorem bp_44 : (Int8.ofInt (44)).toInt32 = 44 := by decide
theorem bp_46 : (Int8.ofInt (46)).toInt32 = 46 := by decide
theorem bp_48 : (Int8.ofInt (48)).toInt32 = 48 := by decide
theorem bp_49 : (Int8.ofInt (49)).toInt32 = 49 := by decide
theorem bp_50 : (Int8.ofInt (50)).toInt32 = 50 := by decide
theorem bp_51 : (Int8.ofInt (51)).toInt32 = 51 := by decide
theorem bp_52 : (Int8.ofInt (52)).toInt32 = 52 := by decide
theorem bp_55 : (Int8.ofInt (55)).toInt32 = 55 := by decide
theorem bp_57 : (Int8.ofInt (57)).toInt32 = 57 := by decide
theorem bp_60 : (Int8.ofInt (60)).toInt32 = 60 := by decide
theorem bp_69 : (Int8.ofInt (69)).toInt32 = 69 := by decide
theorem bp_70 : (Int8.ofInt (70)).toInt32 = 70 := by decide
theorem bp_80 : (Int8.ofInt (80)).toInt32 = 80 := by decide
theorem bp_90 : (Int8.ofInt (90)).toInt32 = 90 := by decide
theorem bp_97 : (Int8.ofInt (97)).toInt32 = 97 := by decide
theorem bp_100 : (Int8.ofInt (100)).toInt32 = 100 := by decide
theorem bp_101 : (Int8.ofInt (101)).toInt32 = 101 := by decide
theorem bp_116 : (Int8.ofInt (116)).toInt32 = 116 := by decide
theorem bp_126 : (Int8.ofInt (126)).toInt32 = 126 := by decide
theorem sp_151 : (Int16.ofInt (151)).toInt32 = 151 := by decide
theorem sp_200 : (Int16.ofInt (200)).toInt32 = 200 := by decide
theorem sp_300 : (Int16.ofInt (300)).toInt32 = 300 := by decide
theorem sp_302 : (Int16.ofInt (302)).toInt32 = 302 := by decide
theorem sp_500 : (Int16.ofInt (500)).toInt32 = 500 := by decide
theorem sp_755 : (Int16.ofInt (755)).toInt32 = 755 := by decide
theorem sp_906 : (Int16.ofInt (906)).toInt32 = 906 := by decide
theorem sp_999 : (Int16.ofInt (999)).toInt32 = 999 := by decide
theorem sp_5000 : (Int16.ofInt (5000)).toInt32 = 5000 := by decide
theorem inc9 (d : Nat) : nI d + Int32.ofInt 1 = nI (d + 1) := nI_1 d
theorem dec9 (d : Nat) : nI (d + 1) + Int32.ofInt (-1) = nI d := by rw [show Int32.ofInt (-1) = (-1 : Int32) by decide]; exact pk_m1 d

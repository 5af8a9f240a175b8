/-! ===== BEGIN words of one list among another's, by their places ===== -/
theorem goodIn_r {big : List Cond} (ws : List Cond) (ps : List Nat) (hp : ws = ps.filterMap (fun i => big[i]?)) (h : ws.all goodWord = true) : GoodIn big ws := by
  intro w hw
  have h1 := List.all_eq_true.mp h w hw
  rw [hp] at hw
  obtain ⟨i, -, hi⟩ := List.mem_filterMap.mp hw
  have hm : w ∈ big := by first | exact List.mem_of_getElem? hi | exact List.getElem?_mem hi
  exact ⟨hm, good_of_word h1⟩
theorem goodIn_app {big a b : List Cond} (ha : GoodIn big a) (hb : GoodIn big b) : GoodIn big (a ++ b) := fun w h => (List.mem_append.mp h).elim (ha w) (hb w)
theorem goodIn_ca {big a b : List Cond} {c : Cond} (ha : GoodIn big (c :: a)) (hb : GoodIn big b) : GoodIn big (c :: (a ++ b)) := fun w h => (List.mem_cons.mp h).elim (fun e => ha w (List.mem_cons.mpr (Or.inl e))) (fun h => (List.mem_append.mp h).elim (fun h => ha w (List.mem_cons.mpr (Or.inr h))) (hb w))
theorem goodIn_sub {big ws : List Cond} (hm : ∀ w ∈ ws, w ∈ big) (h : ws.all goodWord = true) : GoodIn big ws := fun w hw => ⟨hm w hw, good_of_word (List.all_eq_true.mp h w hw)⟩
/-! ===== END ===== -/


/-! ===== BEGIN printed: names, fields, word lists, decode rows ===== -/
def RX0 : String := "VillageCinema$FilmRun"
def TX0 : u_T := fun k => match k with
  | 0 => ("VillageCinema$FilmRun", "peopleAt", "[I", true)
  | 1 => ("VillageCinema$FilmRun", "leftBehind", "[I", true)
  | 2 => ("VillageCinema$FilmRun", "sums", "[I", true)
  | 3 => ("VillageCinema$FilmRun", "shares", "[I", true)
  | 4 => ("VillageCinema$FilmRun", "fullShows", "I", false)
  | _ => ("VillageCinema$FilmRun", "leftAtEnd", "I", false)
def tyX0 : Nat → FieldType := fun k => match k with
  | 0 => .array .int
  | 1 => .array .int
  | 2 => .array .int
  | 3 => .array .int
  | 4 => .int
  | _ => .int
abbrev wsX00 : List Cond := u_ws RX0 TX0 6
theorem nmX0 : ∀ a, a < 6 → ∀ b, b < 6 → a ≠ b → (TX0 a).2.1 ≠ (TX0 b).2.1 := by decide +kernel
theorem tyX0_ok : ∀ k, k < 6 → parseFieldDescriptor (TX0 k).2.2.1 = some (tyX0 k) := by decide +kernel
abbrev cX0_init : ByteArray := prog_2_method_1_code
def yX0_init : MethodName := ⟨RX0, "<init>", "()V"⟩
abbrev cX0_follow : ByteArray := prog_2_method_2_code
def yX0_follow : MethodName := ⟨RX0, "follow", "(LVillageCinema$Hall;I)V"⟩
abbrev cX0_followWeek : ByteArray := prog_2_method_3_code
def yX0_followWeek : MethodName := ⟨RX0, "followWeek", "(LVillageCinema$Hall;III)I"⟩
abbrev cX0_peopleOf : ByteArray := prog_2_method_4_code
def yX0_peopleOf : MethodName := ⟨RX0, "peopleOf", "(LVillageCinema$Hall;II)I"⟩
abbrev cX0_nextShare : ByteArray := prog_2_method_5_code
def yX0_nextShare : MethodName := ⟨RX0, "nextShare", "(IIZ)I"⟩
abbrev cX0_reckonWeek : ByteArray := prog_2_method_6_code
def yX0_reckonWeek : MethodName := ⟨RX0, "reckonWeek", "(LVillageCinema$Hall;II)V"⟩
abbrev cX0_shareOfTakings : ByteArray := prog_2_method_7_code
def yX0_shareOfTakings : MethodName := ⟨RX0, "shareOfTakings", "(I)I"⟩
abbrev cX0_dueAboveShare : ByteArray := prog_2_method_8_code
def yX0_dueAboveShare : MethodName := ⟨RX0, "dueAboveShare", "(I)I"⟩
abbrev cX0_sumOfWeek : ByteArray := prog_2_method_9_code
def yX0_sumOfWeek : MethodName := ⟨RX0, "sumOfWeek", "(II)I"⟩
abbrev cX0_sum : ByteArray := prog_2_method_10_code
def yX0_sum : MethodName := ⟨RX0, "sum", "(I)I"⟩
abbrev cX0_shareIn : ByteArray := prog_2_method_11_code
def yX0_shareIn : MethodName := ⟨RX0, "shareIn", "(I)I"⟩
abbrev cX0_peopleAt : ByteArray := prog_2_method_12_code
def yX0_peopleAt : MethodName := ⟨RX0, "peopleAt", "(I)I"⟩
abbrev cX0_leftBehind : ByteArray := prog_2_method_13_code
def yX0_leftBehind : MethodName := ⟨RX0, "leftBehind", "(I)I"⟩
abbrev cX0_fullShows : ByteArray := prog_2_method_14_code
def yX0_fullShows : MethodName := ⟨RX0, "fullShows", "()I"⟩
abbrev cX0_leftAtEnd : ByteArray := prog_2_method_15_code
def yX0_leftAtEnd : MethodName := ⟨RX0, "leftAtEnd", "()I"⟩
def RX1 : String := "VillageCinema$Hall"
def TX1 : u_T := fun k => match k with
  | _ => ("VillageCinema$Hall", "row", "[I", true)
def tyX1 : Nat → FieldType := fun k => match k with
  | _ => .array .int
abbrev wsX10 : List Cond := u_ws RX1 TX1 1
theorem nmX1 : ∀ a, a < 1 → ∀ b, b < 1 → a ≠ b → (TX1 a).2.1 ≠ (TX1 b).2.1 := by decide +kernel
theorem tyX1_ok : ∀ k, k < 1 → parseFieldDescriptor (TX1 k).2.2.1 = some (tyX1 k) := by decide +kernel
abbrev cX1_init : ByteArray := prog_3_method_1_code
def yX1_init : MethodName := ⟨RX1, "<init>", "()V"⟩
abbrev cX1_copyTo : ByteArray := prog_3_method_2_code
def yX1_copyTo : MethodName := ⟨RX1, "copyTo", "([I)V"⟩
abbrev cX1_setting : ByteArray := prog_3_method_4_code
def yX1_setting : MethodName := ⟨RX1, "setting", "(I)I"⟩
abbrev cX1_changeSetting : ByteArray := prog_3_method_5_code
def yX1_changeSetting : MethodName := ⟨RX1, "changeSetting", "(II)I"⟩
abbrev cX1_films : ByteArray := prog_3_method_6_code
def yX1_films : MethodName := ⟨RX1, "films", "()I"⟩
abbrev cX1_hasFilm : ByteArray := prog_3_method_7_code
def yX1_hasFilm : MethodName := ⟨RX1, "hasFilm", "(I)Z"⟩
abbrev cX1_addFilm : ByteArray := prog_3_method_8_code
def yX1_addFilm : MethodName := ⟨RX1, "addFilm", "(IIIII)I"⟩
abbrev cX1_fact : ByteArray := prog_3_method_9_code
def yX1_fact : MethodName := ⟨RX1, "fact", "(II)I"⟩
abbrev cX1_showAt : ByteArray := prog_3_method_10_code
def yX1_showAt : MethodName := ⟨RX1, "showAt", "(I)I"⟩
abbrev cX1_replaceShow : ByteArray := prog_3_method_11_code
def yX1_replaceShow : MethodName := ⟨RX1, "replaceShow", "(II)I"⟩
abbrev cX1_canHold : ByteArray := prog_3_method_12_code
def yX1_canHold : MethodName := ⟨RX1, "canHold", "(II)Z"⟩
abbrev cX1_firstDayShown : ByteArray := prog_3_method_14_code
def yX1_firstDayShown : MethodName := ⟨RX1, "firstDayShown", "(I)I"⟩
abbrev cX1_rentOf : ByteArray := prog_3_method_15_code
def yX1_rentOf : MethodName := ⟨RX1, "rentOf", "(I)I"⟩
abbrev cX1_changeRent : ByteArray := prog_3_method_16_code
def yX1_changeRent : MethodName := ⟨RX1, "changeRent", "(II)V"⟩
abbrev cX1_rentsOf : ByteArray := prog_3_method_17_code
def yX1_rentsOf : MethodName := ⟨RX1, "rentsOf", "(II)I"⟩
def RX2 : String := "VillageCinema$History"
def TX2 : u_T := fun k => match k with
  | 0 => ("VillageCinema$History", "states", "[[I", true)
  | 1 => ("VillageCinema$History", "oldest", "I", false)
  | _ => ("VillageCinema$History", "size", "I", false)
def tyX2 : Nat → FieldType := fun k => match k with
  | 0 => .array (.array .int)
  | 1 => .int
  | _ => .int
abbrev wsX20 : List Cond := u_ws RX2 TX2 3
theorem nmX2 : ∀ a, a < 3 → ∀ b, b < 3 → a ≠ b → (TX2 a).2.1 ≠ (TX2 b).2.1 := by decide +kernel
theorem tyX2_ok : ∀ k, k < 3 → parseFieldDescriptor (TX2 k).2.2.1 = some (tyX2 k) := by decide +kernel
abbrev cX2_init : ByteArray := prog_4_method_1_code
def yX2_init : MethodName := ⟨RX2, "<init>", "()V"⟩
abbrev cX2_size : ByteArray := prog_4_method_2_code
def yX2_size : MethodName := ⟨RX2, "size", "()I"⟩
abbrev cX2_record : ByteArray := prog_4_method_3_code
def yX2_record : MethodName := ⟨RX2, "record", "(LVillageCinema$Hall;)V"⟩
def RX3 : String := "VillageCinema$Pad"
def TX3 : u_T := fun k => match k with
  | 0 => ("VillageCinema$Pad", "text", "[C", true)
  | _ => ("VillageCinema$Pad", "length", "I", false)
def tyX3 : Nat → FieldType := fun k => match k with
  | 0 => .array .char
  | _ => .int
abbrev wsX30 : List Cond := u_ws RX3 TX3 2
theorem nmX3 : ∀ a, a < 2 → ∀ b, b < 2 → a ≠ b → (TX3 a).2.1 ≠ (TX3 b).2.1 := by decide +kernel
theorem tyX3_ok : ∀ k, k < 2 → parseFieldDescriptor (TX3 k).2.2.1 = some (tyX3 k) := by decide +kernel
abbrev cX3_init : ByteArray := prog_5_method_1_code
def yX3_init : MethodName := ⟨RX3, "<init>", "()V"⟩
abbrev cX3_length : ByteArray := prog_5_method_2_code
def yX3_length : MethodName := ⟨RX3, "length", "()I"⟩
def RX4 : String := "VillageCinema"
def TX4 : u_T := fun k => match k with
  | 0 => ("VillageCinema", "hall", "LVillageCinema$Hall;", true)
  | 1 => ("VillageCinema", "run", "LVillageCinema$FilmRun;", true)
  | 2 => ("VillageCinema", "pad", "LVillageCinema$Pad;", true)
  | 3 => ("VillageCinema", "history", "LVillageCinema$History;", true)
  | 4 => ("VillageCinema", "slots", "[[I", true)
  | _ => ("VillageCinema", "saved", "[Z", true)
def tyX4 : Nat → FieldType := fun k => match k with
  | 0 => .object "VillageCinema$Hall"
  | 1 => .object "VillageCinema$FilmRun"
  | 2 => .object "VillageCinema$Pad"
  | 3 => .object "VillageCinema$History"
  | 4 => .array (.array .int)
  | _ => .array .boolean
abbrev wsX40 : List Cond := u_ws RX4 TX4 6
theorem nmX4 : ∀ a, a < 6 → ∀ b, b < 6 → a ≠ b → (TX4 a).2.1 ≠ (TX4 b).2.1 := by decide +kernel
theorem tyX4_ok : ∀ k, k < 6 → parseFieldDescriptor (TX4 k).2.2.1 = some (tyX4 k) := by decide +kernel
abbrev cX4_init : ByteArray := prog_1_method_1_code
def yX4_init : MethodName := ⟨RX4, "<init>", "()V"⟩
abbrev cX4_set : ByteArray := prog_1_method_2_code
def yX4_set : MethodName := ⟨RX4, "set", "(II)I"⟩
abbrev cX4_film : ByteArray := prog_1_method_3_code
def yX4_film : MethodName := ⟨RX4, "film", "(IIIII)I"⟩
abbrev cX4_show : ByteArray := prog_1_method_4_code
def yX4_show : MethodName := ⟨RX4, "show", "(III)I"⟩
abbrev cX4_drop : ByteArray := prog_1_method_5_code
def yX4_drop : MethodName := ⟨RX4, "drop", "(II)I"⟩
abbrev cX4_exchange : ByteArray := prog_1_method_6_code
def yX4_exchange : MethodName := ⟨RX4, "exchange", "(IIII)I"⟩
abbrev cX4_let : ByteArray := prog_1_method_7_code
def yX4_let : MethodName := ⟨RX4, "let", "(II)I"⟩
abbrev cX4_at : ByteArray := prog_1_method_9_code
def yX4_at : MethodName := ⟨RX4, "at", "(III)I"⟩
abbrev cX4_of : ByteArray := prog_1_method_10_code
def yX4_of : MethodName := ⟨RX4, "of", "(II)I"⟩
abbrev cX4_inWeek : ByteArray := prog_1_method_11_code
def yX4_inWeek : MethodName := ⟨RX4, "inWeek", "(III)I"⟩
abbrev cX4_week : ByteArray := prog_1_method_12_code
def yX4_week : MethodName := ⟨RX4, "week", "(II)I"⟩
abbrev cX4_rent : ByteArray := prog_1_method_14_code
def yX4_rent : MethodName := ⟨RX4, "rent", "(I)I"⟩
abbrev cX4_count : ByteArray := prog_1_method_15_code
def yX4_count : MethodName := ⟨RX4, "count", "(I)I"⟩
abbrev cX4_ifShown : ByteArray := prog_1_method_16_code
def yX4_ifShown : MethodName := ⟨RX4, "ifShown", "(III)I"⟩
abbrev cX4_isWithin : ByteArray := prog_1_method_26_code
def yX4_isWithin : MethodName := ⟨RX4, "isWithin", "(III)Z"⟩
abbrev cX4_isDay : ByteArray := prog_1_method_27_code
def yX4_isDay : MethodName := ⟨RX4, "isDay", "(I)Z"⟩
abbrev cX4_isWeek : ByteArray := prog_1_method_28_code
def yX4_isWeek : MethodName := ⟨RX4, "isWeek", "(I)Z"⟩
abbrev cX4_isPlace : ByteArray := prog_1_method_29_code
def yX4_isPlace : MethodName := ⟨RX4, "isPlace", "(II)Z"⟩
abbrev cX4_placeOf : ByteArray := prog_1_method_30_code
def yX4_placeOf : MethodName := ⟨RX4, "placeOf", "(II)I"⟩
abbrev cX4_errorOfShow : ByteArray := prog_1_method_31_code
def yX4_errorOfShow : MethodName := ⟨RX4, "errorOfShow", "(III)I"⟩
abbrev cX4_dropShowsOfDay : ByteArray := prog_1_method_32_code
def yX4_dropShowsOfDay : MethodName := ⟨RX4, "dropShowsOfDay", "(I)I"⟩
abbrev cX4_sumOfFilm : ByteArray := prog_1_method_34_code
def yX4_sumOfFilm : MethodName := ⟨RX4, "sumOfFilm", "(II)I"⟩
abbrev cX4_sumOfFilms : ByteArray := prog_1_method_35_code
def yX4_sumOfFilms : MethodName := ⟨RX4, "sumOfFilms", "(I)I"⟩
abbrev cX4_sumOfFilmsInWeek : ByteArray := prog_1_method_36_code
def yX4_sumOfFilmsInWeek : MethodName := ⟨RX4, "sumOfFilmsInWeek", "(II)I"⟩
abbrev cX4_fullShows : ByteArray := prog_1_method_37_code
def yX4_fullShows : MethodName := ⟨RX4, "fullShows", "()I"⟩
abbrev cX4_leftOfFilm : ByteArray := prog_1_method_38_code
def yX4_leftOfFilm : MethodName := ⟨RX4, "leftOfFilm", "(I)I"⟩
abbrev cX4_gainWith : ByteArray := prog_1_method_39_code
def yX4_gainWith : MethodName := ⟨RX4, "gainWith", "(II)I"⟩
def RX5 : String := "VillageCinemaModel"
def TX5 : u_T := fun k => match k with
  | _ => ("", "", "", false)
def tyX5 : Nat → FieldType := fun k => match k with
  | _ => .int
abbrev wsX50 : List Cond := u_ws RX5 TX5 0
theorem nmX5 : ∀ a, a < 0 → ∀ b, b < 0 → a ≠ b → (TX5 a).2.1 ≠ (TX5 b).2.1 := by decide +kernel
theorem tyX5_ok : ∀ k, k < 0 → parseFieldDescriptor (TX5 k).2.2.1 = some (tyX5 k) := by decide +kernel
def RJ9 : String := "java/lang/Math"
def TJ9 : u_T := fun k => match k with
  | _ => ("", "", "", false)
def tyJ9 : Nat → FieldType := fun k => match k with
  | _ => .int
abbrev wsJ90 : List Cond := u_ws RJ9 TJ9 0
theorem nmJ9 : ∀ a, a < 0 → ∀ b, b < 0 → a ≠ b → (TJ9 a).2.1 ≠ (TJ9 b).2.1 := by decide +kernel
theorem tyJ9_ok : ∀ k, k < 0 → parseFieldDescriptor (TJ9 k).2.2.1 = some (tyJ9 k) := by decide +kernel
abbrev cJ9_max_7cf53 : ByteArray := prog_8_method_65_code
def yJ9_max_7cf53 : MethodName := ⟨RJ9, "max", "(II)I"⟩
abbrev cJ9_min_7cf53 : ByteArray := prog_8_method_69_code
def yJ9_min_7cf53 : MethodName := ⟨RJ9, "min", "(II)I"⟩
def RJ10 : String := "java/lang/System"
def TJ10 : u_T := fun k => match k with
  | _ => ("", "", "", false)
def tyJ10 : Nat → FieldType := fun k => match k with
  | _ => .int
abbrev wsJ100 : List Cond := u_ws RJ10 TJ10 0
theorem nmJ10 : ∀ a, a < 0 → ∀ b, b < 0 → a ≠ b → (TJ10 a).2.1 ≠ (TJ10 b).2.1 := by decide +kernel
theorem tyJ10_ok : ∀ k, k < 0 → parseFieldDescriptor (TJ10 k).2.2.1 = some (tyJ10 k) := by decide +kernel
def RL : String := "VillageCinemaLaw"
abbrev cL_cell : ByteArray := method_2_code
def yL_cell : MethodName := ⟨RL, "cell", "([II)I"⟩
abbrev cL_low : ByteArray := method_3_code
def yL_low : MethodName := ⟨RL, "low", "(II)I"⟩
abbrev cL_leftAt : ByteArray := method_4_code
def yL_leftAt : MethodName := ⟨RL, "leftAt", "(II[I[I[I[I)I"⟩
abbrev cL_coming : ByteArray := method_5_code
def yL_coming : MethodName := ⟨RL, "coming", "(II[I)I"⟩
abbrev cL_film : ByteArray := method_6_code
def yL_film : MethodName := ⟨RL, "film", "(II[I[I)I"⟩
abbrev cL_people : ByteArray := method_7_code
def yL_people : MethodName := ⟨RL, "people", "(II[I[I[I[I)I"⟩
abbrev cL_shows : ByteArray := method_8_code
def yL_shows : MethodName := ⟨RL, "shows", "(II[I[I)I"⟩
abbrev cL_takings : ByteArray := method_9_code
def yL_takings : MethodName := ⟨RL, "takings", "(II[I[I[I[I)I"⟩
abbrev cL_share : ByteArray := method_10_code
def yL_share : MethodName := ⟨RL, "share", "(II[I[I[I)I"⟩
abbrev cL_due : ByteArray := method_11_code
def yL_due : MethodName := ⟨RL, "due", "(II[I[I[I[I)I"⟩
abbrev cL_left : ByteArray := method_12_code
def yL_left : MethodName := ⟨RL, "left", "([I[I[I[I[I)I"⟩
abbrev cL_same : ByteArray := method_13_code
def yL_same : MethodName := ⟨RL, "same", "(LVillageCinema;I[I[I[I[I[I)Z"⟩
abbrev cL_law : ByteArray := code
def yL_law : MethodName := ⟨RL, "law", "([I)Z"⟩
abbrev vwCl : List vw_C := [(RX0, TX0, 6), (RX1, TX1, 1), (RX2, TX2, 3), (RX3, TX3, 2), (RX4, TX4, 6)]

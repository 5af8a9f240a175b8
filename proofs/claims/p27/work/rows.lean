section
-- ===== PART A: goes FIRST, ahead of the names: the tables' words, and 'selects' of the private methods out of them =====
/-- a private method of a class that the tables say can be made, by its rows of tables_1 -/
def lw_okq (q : MethodName × Nat) : Prop := (q.1.cls ≠ "java/lang/invoke/MethodHandle" ∧ q.1.cls ≠ "java/lang/invoke/VarHandle") ∧ Cond.instantiable q.1.cls q.2 ∈ tables_1 ∧ Cond.privateMethod q.1 ∈ tables_1 ∧ Cond.instanceMethod q.1 ∈ tables_1
theorem lw_p0 : lw_okq (⟨"VillageCinema", "errorOfShow", "(III)I"⟩, 6) := ⟨⟨by decide +kernel, by decide +kernel⟩, List.mem_of_getElem? (i := 9) (by decide +kernel), List.mem_of_getElem? (i := 154) (by decide +kernel), List.mem_of_getElem? (i := 155) (by decide +kernel)⟩
theorem lw_p1 : lw_okq (⟨"VillageCinema", "sumOfFilms", "(I)I"⟩, 6) := ⟨⟨by decide +kernel, by decide +kernel⟩, List.mem_of_getElem? (i := 9) (by decide +kernel), List.mem_of_getElem? (i := 197) (by decide +kernel), List.mem_of_getElem? (i := 198) (by decide +kernel)⟩
theorem lw_p2 : lw_okq (⟨"VillageCinema", "sumOfFilm", "(II)I"⟩, 6) := ⟨⟨by decide +kernel, by decide +kernel⟩, List.mem_of_getElem? (i := 9) (by decide +kernel), List.mem_of_getElem? (i := 201) (by decide +kernel), List.mem_of_getElem? (i := 202) (by decide +kernel)⟩
theorem lw_p3 : lw_okq (⟨"VillageCinema$FilmRun", "followWeek", "(LVillageCinema$Hall;III)I"⟩, 6) := ⟨⟨by decide +kernel, by decide +kernel⟩, List.mem_of_getElem? (i := 33) (by decide +kernel), List.mem_of_getElem? (i := 210) (by decide +kernel), List.mem_of_getElem? (i := 211) (by decide +kernel)⟩
theorem lw_p4 : lw_okq (⟨"VillageCinema$FilmRun", "reckonWeek", "(LVillageCinema$Hall;II)V"⟩, 6) := ⟨⟨by decide +kernel, by decide +kernel⟩, List.mem_of_getElem? (i := 33) (by decide +kernel), List.mem_of_getElem? (i := 235) (by decide +kernel), List.mem_of_getElem? (i := 236) (by decide +kernel)⟩
theorem lw_p5 : lw_okq (⟨"VillageCinema$FilmRun", "shareOfTakings", "(I)I"⟩, 6) := ⟨⟨by decide +kernel, by decide +kernel⟩, List.mem_of_getElem? (i := 33) (by decide +kernel), List.mem_of_getElem? (i := 239) (by decide +kernel), List.mem_of_getElem? (i := 240) (by decide +kernel)⟩
theorem lw_p6 : lw_okq (⟨"VillageCinema", "dropShowsOfDay", "(I)I"⟩, 6) := ⟨⟨by decide +kernel, by decide +kernel⟩, List.mem_of_getElem? (i := 9) (by decide +kernel), List.mem_of_getElem? (i := 256) (by decide +kernel), List.mem_of_getElem? (i := 257) (by decide +kernel)⟩
theorem lw_p7 : lw_okq (⟨"VillageCinema", "gainWith", "(II)I"⟩, 6) := ⟨⟨by decide +kernel, by decide +kernel⟩, List.mem_of_getElem? (i := 9) (by decide +kernel), List.mem_of_getElem? (i := 264) (by decide +kernel), List.mem_of_getElem? (i := 265) (by decide +kernel)⟩
theorem lw_p8 : lw_okq (⟨"VillageCinema", "leftOfFilm", "(I)I"⟩, 6) := ⟨⟨by decide +kernel, by decide +kernel⟩, List.mem_of_getElem? (i := 9) (by decide +kernel), List.mem_of_getElem? (i := 268) (by decide +kernel), List.mem_of_getElem? (i := 269) (by decide +kernel)⟩
theorem lw_p9 : lw_okq (⟨"VillageCinema", "sumOfFilmsInWeek", "(II)I"⟩, 6) := ⟨⟨by decide +kernel, by decide +kernel⟩, List.mem_of_getElem? (i := 9) (by decide +kernel), List.mem_of_getElem? (i := 363) (by decide +kernel), List.mem_of_getElem? (i := 364) (by decide +kernel)⟩
theorem lw_p10 : lw_okq (⟨"VillageCinema", "fullShows", "()I"⟩, 6) := ⟨⟨by decide +kernel, by decide +kernel⟩, List.mem_of_getElem? (i := 9) (by decide +kernel), List.mem_of_getElem? (i := 376) (by decide +kernel), List.mem_of_getElem? (i := 377) (by decide +kernel)⟩
def lw_privs_1 : List (MethodName × Nat) := [(⟨"VillageCinema", "errorOfShow", "(III)I"⟩, 6), (⟨"VillageCinema", "sumOfFilms", "(I)I"⟩, 6), (⟨"VillageCinema", "sumOfFilm", "(II)I"⟩, 6), (⟨"VillageCinema$FilmRun", "followWeek", "(LVillageCinema$Hall;III)I"⟩, 6), (⟨"VillageCinema$FilmRun", "reckonWeek", "(LVillageCinema$Hall;II)V"⟩, 6), (⟨"VillageCinema$FilmRun", "shareOfTakings", "(I)I"⟩, 6), (⟨"VillageCinema", "dropShowsOfDay", "(I)I"⟩, 6), (⟨"VillageCinema", "gainWith", "(II)I"⟩, 6), (⟨"VillageCinema", "leftOfFilm", "(I)I"⟩, 6), (⟨"VillageCinema", "sumOfFilmsInWeek", "(II)I"⟩, 6), (⟨"VillageCinema", "fullShows", "()I"⟩, 6)]
theorem lw_r1 : ∀ q ∈ lw_privs_1, lw_okq q := List.forall_mem_cons.mpr ⟨lw_p0, List.forall_mem_cons.mpr ⟨lw_p1, List.forall_mem_cons.mpr ⟨lw_p2, List.forall_mem_cons.mpr ⟨lw_p3, List.forall_mem_cons.mpr ⟨lw_p4, List.forall_mem_cons.mpr ⟨lw_p5, List.forall_mem_cons.mpr ⟨lw_p6, List.forall_mem_cons.mpr ⟨lw_p7, List.forall_mem_cons.mpr ⟨lw_p8, List.forall_mem_cons.mpr ⟨lw_p9, List.forall_mem_cons.mpr ⟨lw_p10, fun _ h => absurd h List.not_mem_nil⟩⟩⟩⟩⟩⟩⟩⟩⟩⟩⟩
def lw_privs : List (MethodName × Nat) := lw_privs_1
def lw_tbl : List Cond := k2_sels lw_privs ++ tables_1
theorem lw_privs_ok : ∀ q ∈ lw_privs, lw_okq q := lw_r1
end
section
/-! ===== BEGIN words of one list among another's, by their places ===== -/
theorem goodIn_r {big : List Cond} (ws : List Cond) (ps : List Nat) (hp : ws = ps.filterMap (fun i => big[i]?)) (h : ws.all goodWord = true) : GoodIn big ws := by
  intro w hw
  have h1 := List.all_eq_true.mp h w hw
  rw [hp] at hw
  obtain ⟨i, -, hi⟩ := List.mem_filterMap.mp hw
  have hm : w ∈ big := by first | exact List.mem_of_getElem? hi | exact List.getElem?_mem hi
  exact ⟨hm, good_of_word h1⟩
theorem goodIn_app {big a b : List Cond} (ha : GoodIn big a) (hb : GoodIn big b) : GoodIn big (a ++ b) := fun w h => (List.mem_append.mp h).elim (ha w) (hb w)
theorem goodIn_ca {big a b : List Cond} {c : Cond} (ha : GoodIn big (c :: a)) (hb : GoodIn big b) : GoodIn big (c :: (a ++ b)) := fun w h => (List.mem_cons.mp h).elim (fun e => ha w (List.mem_cons.mpr (Or.inl e))) (fun h => (List.mem_append.mp h).elim (fun h => ha w (List.mem_cons.mpr (Or.inr h))) (hb w))
theorem goodIn_sub {big ws : List Cond} (hm : ∀ w ∈ ws, w ∈ big) (h : ws.all goodWord = true) : GoodIn big ws := fun w hw => ⟨hm w hw, good_of_word (List.all_eq_true.mp h w hw)⟩
/-! ===== END ===== -/


/-! ===== BEGIN printed: names, fields, word lists, decode rows ===== -/
def RX0 : String := "VillageCinema$FilmRun"
def TX0 : u_T := fun k => match k with
  | 0 => ("VillageCinema$FilmRun", "peopleAt", "[I", true)
  | 1 => ("VillageCinema$FilmRun", "leftBehind", "[I", true)
  | 2 => ("VillageCinema$FilmRun", "sums", "[I", true)
  | 3 => ("VillageCinema$FilmRun", "shares", "[I", true)
  | 4 => ("VillageCinema$FilmRun", "fullShows", "I", false)
  | _ => ("VillageCinema$FilmRun", "leftAtEnd", "I", false)
def tyX0 : Nat → FieldType := fun k => match k with
  | 0 => .array .int
  | 1 => .array .int
  | 2 => .array .int
  | 3 => .array .int
  | 4 => .int
  | _ => .int
abbrev wsX00 : List Cond := u_ws RX0 TX0 6
theorem nmX0 : ∀ a, a < 6 → ∀ b, b < 6 → a ≠ b → (TX0 a).2.1 ≠ (TX0 b).2.1 := by decide +kernel
theorem tyX0_ok : ∀ k, k < 6 → parseFieldDescriptor (TX0 k).2.2.1 = some (tyX0 k) := by decide +kernel
abbrev cX0_init : ByteArray := prog_2_method_1_code
def yX0_init : MethodName := ⟨RX0, "<init>", "()V"⟩
abbrev cX0_follow : ByteArray := prog_2_method_2_code
def yX0_follow : MethodName := ⟨RX0, "follow", "(LVillageCinema$Hall;I)V"⟩
abbrev cX0_followWeek : ByteArray := prog_2_method_3_code
def yX0_followWeek : MethodName := ⟨RX0, "followWeek", "(LVillageCinema$Hall;III)I"⟩
abbrev cX0_peopleOf : ByteArray := prog_2_method_4_code
def yX0_peopleOf : MethodName := ⟨RX0, "peopleOf", "(LVillageCinema$Hall;II)I"⟩
abbrev cX0_nextShare : ByteArray := prog_2_method_5_code
def yX0_nextShare : MethodName := ⟨RX0, "nextShare", "(IIZ)I"⟩
abbrev cX0_reckonWeek : ByteArray := prog_2_method_6_code
def yX0_reckonWeek : MethodName := ⟨RX0, "reckonWeek", "(LVillageCinema$Hall;II)V"⟩
abbrev cX0_shareOfTakings : ByteArray := prog_2_method_7_code
def yX0_shareOfTakings : MethodName := ⟨RX0, "shareOfTakings", "(I)I"⟩
abbrev cX0_dueAboveShare : ByteArray := prog_2_method_8_code
def yX0_dueAboveShare : MethodName := ⟨RX0, "dueAboveShare", "(I)I"⟩
abbrev cX0_sumOfWeek : ByteArray := prog_2_method_9_code
def yX0_sumOfWeek : MethodName := ⟨RX0, "sumOfWeek", "(II)I"⟩
abbrev cX0_sum : ByteArray := prog_2_method_10_code
def yX0_sum : MethodName := ⟨RX0, "sum", "(I)I"⟩
abbrev cX0_shareIn : ByteArray := prog_2_method_11_code
def yX0_shareIn : MethodName := ⟨RX0, "shareIn", "(I)I"⟩
abbrev cX0_peopleAt : ByteArray := prog_2_method_12_code
def yX0_peopleAt : MethodName := ⟨RX0, "peopleAt", "(I)I"⟩
abbrev cX0_leftBehind : ByteArray := prog_2_method_13_code
def yX0_leftBehind : MethodName := ⟨RX0, "leftBehind", "(I)I"⟩
abbrev cX0_fullShows : ByteArray := prog_2_method_14_code
def yX0_fullShows : MethodName := ⟨RX0, "fullShows", "()I"⟩
abbrev cX0_leftAtEnd : ByteArray := prog_2_method_15_code
def yX0_leftAtEnd : MethodName := ⟨RX0, "leftAtEnd", "()I"⟩
def RX1 : String := "VillageCinema$Hall"
def TX1 : u_T := fun k => match k with
  | _ => ("VillageCinema$Hall", "row", "[I", true)
def tyX1 : Nat → FieldType := fun k => match k with
  | _ => .array .int
abbrev wsX10 : List Cond := u_ws RX1 TX1 1
theorem nmX1 : ∀ a, a < 1 → ∀ b, b < 1 → a ≠ b → (TX1 a).2.1 ≠ (TX1 b).2.1 := by decide +kernel
theorem tyX1_ok : ∀ k, k < 1 → parseFieldDescriptor (TX1 k).2.2.1 = some (tyX1 k) := by decide +kernel
abbrev cX1_init : ByteArray := prog_3_method_1_code
def yX1_init : MethodName := ⟨RX1, "<init>", "()V"⟩
abbrev cX1_copyTo : ByteArray := prog_3_method_2_code
def yX1_copyTo : MethodName := ⟨RX1, "copyTo", "([I)V"⟩
abbrev cX1_setting : ByteArray := prog_3_method_4_code
def yX1_setting : MethodName := ⟨RX1, "setting", "(I)I"⟩
abbrev cX1_changeSetting : ByteArray := prog_3_method_5_code
def yX1_changeSetting : MethodName := ⟨RX1, "changeSetting", "(II)I"⟩
abbrev cX1_films : ByteArray := prog_3_method_6_code
def yX1_films : MethodName := ⟨RX1, "films", "()I"⟩
abbrev cX1_hasFilm : ByteArray := prog_3_method_7_code
def yX1_hasFilm : MethodName := ⟨RX1, "hasFilm", "(I)Z"⟩
abbrev cX1_addFilm : ByteArray := prog_3_method_8_code
def yX1_addFilm : MethodName := ⟨RX1, "addFilm", "(IIIII)I"⟩
abbrev cX1_fact : ByteArray := prog_3_method_9_code
def yX1_fact : MethodName := ⟨RX1, "fact", "(II)I"⟩
abbrev cX1_showAt : ByteArray := prog_3_method_10_code
def yX1_showAt : MethodName := ⟨RX1, "showAt", "(I)I"⟩
abbrev cX1_replaceShow : ByteArray := prog_3_method_11_code
def yX1_replaceShow : MethodName := ⟨RX1, "replaceShow", "(II)I"⟩
abbrev cX1_canHold : ByteArray := prog_3_method_12_code
def yX1_canHold : MethodName := ⟨RX1, "canHold", "(II)Z"⟩
abbrev cX1_firstDayShown : ByteArray := prog_3_method_14_code
def yX1_firstDayShown : MethodName := ⟨RX1, "firstDayShown", "(I)I"⟩
abbrev cX1_rentOf : ByteArray := prog_3_method_15_code
def yX1_rentOf : MethodName := ⟨RX1, "rentOf", "(I)I"⟩
abbrev cX1_changeRent : ByteArray := prog_3_method_16_code
def yX1_changeRent : MethodName := ⟨RX1, "changeRent", "(II)V"⟩
abbrev cX1_rentsOf : ByteArray := prog_3_method_17_code
def yX1_rentsOf : MethodName := ⟨RX1, "rentsOf", "(II)I"⟩
def RX2 : String := "VillageCinema$History"
def TX2 : u_T := fun k => match k with
  | 0 => ("VillageCinema$History", "states", "[[I", true)
  | 1 => ("VillageCinema$History", "oldest", "I", false)
  | _ => ("VillageCinema$History", "size", "I", false)
def tyX2 : Nat → FieldType := fun k => match k with
  | 0 => .array (.array .int)
  | 1 => .int
  | _ => .int
abbrev wsX20 : List Cond := u_ws RX2 TX2 3
theorem nmX2 : ∀ a, a < 3 → ∀ b, b < 3 → a ≠ b → (TX2 a).2.1 ≠ (TX2 b).2.1 := by decide +kernel
theorem tyX2_ok : ∀ k, k < 3 → parseFieldDescriptor (TX2 k).2.2.1 = some (tyX2 k) := by decide +kernel
abbrev cX2_init : ByteArray := prog_4_method_1_code
def yX2_init : MethodName := ⟨RX2, "<init>", "()V"⟩
abbrev cX2_size : ByteArray := prog_4_method_2_code
def yX2_size : MethodName := ⟨RX2, "size", "()I"⟩
abbrev cX2_record : ByteArray := prog_4_method_3_code
def yX2_record : MethodName := ⟨RX2, "record", "(LVillageCinema$Hall;)V"⟩
def RX3 : String := "VillageCinema$Pad"
def TX3 : u_T := fun k => match k with
  | 0 => ("VillageCinema$Pad", "text", "[C", true)
  | _ => ("VillageCinema$Pad", "length", "I", false)
def tyX3 : Nat → FieldType := fun k => match k with
  | 0 => .array .char
  | _ => .int
abbrev wsX30 : List Cond := u_ws RX3 TX3 2
theorem nmX3 : ∀ a, a < 2 → ∀ b, b < 2 → a ≠ b → (TX3 a).2.1 ≠ (TX3 b).2.1 := by decide +kernel
theorem tyX3_ok : ∀ k, k < 2 → parseFieldDescriptor (TX3 k).2.2.1 = some (tyX3 k) := by decide +kernel
abbrev cX3_init : ByteArray := prog_5_method_1_code
def yX3_init : MethodName := ⟨RX3, "<init>", "()V"⟩
abbrev cX3_length : ByteArray := prog_5_method_2_code
def yX3_length : MethodName := ⟨RX3, "length", "()I"⟩
def RX4 : String := "VillageCinema"
def TX4 : u_T := fun k => match k with
  | 0 => ("VillageCinema", "hall", "LVillageCinema$Hall;", true)
  | 1 => ("VillageCinema", "run", "LVillageCinema$FilmRun;", true)
  | 2 => ("VillageCinema", "pad", "LVillageCinema$Pad;", true)
  | 3 => ("VillageCinema", "history", "LVillageCinema$History;", true)
  | 4 => ("VillageCinema", "slots", "[[I", true)
  | _ => ("VillageCinema", "saved", "[Z", true)
def tyX4 : Nat → FieldType := fun k => match k with
  | 0 => .object "VillageCinema$Hall"
  | 1 => .object "VillageCinema$FilmRun"
  | 2 => .object "VillageCinema$Pad"
  | 3 => .object "VillageCinema$History"
  | 4 => .array (.array .int)
  | _ => .array .boolean
abbrev wsX40 : List Cond := u_ws RX4 TX4 6
theorem nmX4 : ∀ a, a < 6 → ∀ b, b < 6 → a ≠ b → (TX4 a).2.1 ≠ (TX4 b).2.1 := by decide +kernel
theorem tyX4_ok : ∀ k, k < 6 → parseFieldDescriptor (TX4 k).2.2.1 = some (tyX4 k) := by decide +kernel
abbrev cX4_init : ByteArray := prog_1_method_1_code
def yX4_init : MethodName := ⟨RX4, "<init>", "()V"⟩
abbrev cX4_set : ByteArray := prog_1_method_2_code
def yX4_set : MethodName := ⟨RX4, "set", "(II)I"⟩
abbrev cX4_film : ByteArray := prog_1_method_3_code
def yX4_film : MethodName := ⟨RX4, "film", "(IIIII)I"⟩
abbrev cX4_show : ByteArray := prog_1_method_4_code
def yX4_show : MethodName := ⟨RX4, "show", "(III)I"⟩
abbrev cX4_drop : ByteArray := prog_1_method_5_code
def yX4_drop : MethodName := ⟨RX4, "drop", "(II)I"⟩
abbrev cX4_exchange : ByteArray := prog_1_method_6_code
def yX4_exchange : MethodName := ⟨RX4, "exchange", "(IIII)I"⟩
abbrev cX4_let : ByteArray := prog_1_method_7_code
def yX4_let : MethodName := ⟨RX4, "let", "(II)I"⟩
abbrev cX4_at : ByteArray := prog_1_method_9_code
def yX4_at : MethodName := ⟨RX4, "at", "(III)I"⟩
abbrev cX4_of : ByteArray := prog_1_method_10_code
def yX4_of : MethodName := ⟨RX4, "of", "(II)I"⟩
abbrev cX4_inWeek : ByteArray := prog_1_method_11_code
def yX4_inWeek : MethodName := ⟨RX4, "inWeek", "(III)I"⟩
abbrev cX4_week : ByteArray := prog_1_method_12_code
def yX4_week : MethodName := ⟨RX4, "week", "(II)I"⟩
abbrev cX4_rent : ByteArray := prog_1_method_14_code
def yX4_rent : MethodName := ⟨RX4, "rent", "(I)I"⟩
abbrev cX4_count : ByteArray := prog_1_method_15_code
def yX4_count : MethodName := ⟨RX4, "count", "(I)I"⟩
abbrev cX4_ifShown : ByteArray := prog_1_method_16_code
def yX4_ifShown : MethodName := ⟨RX4, "ifShown", "(III)I"⟩
abbrev cX4_isWithin : ByteArray := prog_1_method_26_code
def yX4_isWithin : MethodName := ⟨RX4, "isWithin", "(III)Z"⟩
abbrev cX4_isDay : ByteArray := prog_1_method_27_code
def yX4_isDay : MethodName := ⟨RX4, "isDay", "(I)Z"⟩
abbrev cX4_isWeek : ByteArray := prog_1_method_28_code
def yX4_isWeek : MethodName := ⟨RX4, "isWeek", "(I)Z"⟩
abbrev cX4_isPlace : ByteArray := prog_1_method_29_code
def yX4_isPlace : MethodName := ⟨RX4, "isPlace", "(II)Z"⟩
abbrev cX4_placeOf : ByteArray := prog_1_method_30_code
def yX4_placeOf : MethodName := ⟨RX4, "placeOf", "(II)I"⟩
abbrev cX4_errorOfShow : ByteArray := prog_1_method_31_code
def yX4_errorOfShow : MethodName := ⟨RX4, "errorOfShow", "(III)I"⟩
abbrev cX4_dropShowsOfDay : ByteArray := prog_1_method_32_code
def yX4_dropShowsOfDay : MethodName := ⟨RX4, "dropShowsOfDay", "(I)I"⟩
abbrev cX4_sumOfFilm : ByteArray := prog_1_method_34_code
def yX4_sumOfFilm : MethodName := ⟨RX4, "sumOfFilm", "(II)I"⟩
abbrev cX4_sumOfFilms : ByteArray := prog_1_method_35_code
def yX4_sumOfFilms : MethodName := ⟨RX4, "sumOfFilms", "(I)I"⟩
abbrev cX4_sumOfFilmsInWeek : ByteArray := prog_1_method_36_code
def yX4_sumOfFilmsInWeek : MethodName := ⟨RX4, "sumOfFilmsInWeek", "(II)I"⟩
abbrev cX4_fullShows : ByteArray := prog_1_method_37_code
def yX4_fullShows : MethodName := ⟨RX4, "fullShows", "()I"⟩
abbrev cX4_leftOfFilm : ByteArray := prog_1_method_38_code
def yX4_leftOfFilm : MethodName := ⟨RX4, "leftOfFilm", "(I)I"⟩
abbrev cX4_gainWith : ByteArray := prog_1_method_39_code
def yX4_gainWith : MethodName := ⟨RX4, "gainWith", "(II)I"⟩
def RX5 : String := "VillageCinemaModel"
def TX5 : u_T := fun k => match k with
  | _ => ("", "", "", false)
def tyX5 : Nat → FieldType := fun k => match k with
  | _ => .int
abbrev wsX50 : List Cond := u_ws RX5 TX5 0
theorem nmX5 : ∀ a, a < 0 → ∀ b, b < 0 → a ≠ b → (TX5 a).2.1 ≠ (TX5 b).2.1 := by decide +kernel
theorem tyX5_ok : ∀ k, k < 0 → parseFieldDescriptor (TX5 k).2.2.1 = some (tyX5 k) := by decide +kernel
def RJ9 : String := "java/lang/Math"
def TJ9 : u_T := fun k => match k with
  | _ => ("", "", "", false)
def tyJ9 : Nat → FieldType := fun k => match k with
  | _ => .int
abbrev wsJ90 : List Cond := u_ws RJ9 TJ9 0
theorem nmJ9 : ∀ a, a < 0 → ∀ b, b < 0 → a ≠ b → (TJ9 a).2.1 ≠ (TJ9 b).2.1 := by decide +kernel
theorem tyJ9_ok : ∀ k, k < 0 → parseFieldDescriptor (TJ9 k).2.2.1 = some (tyJ9 k) := by decide +kernel
abbrev cJ9_max_7cf53 : ByteArray := prog_8_method_65_code
def yJ9_max_7cf53 : MethodName := ⟨RJ9, "max", "(II)I"⟩
abbrev cJ9_min_7cf53 : ByteArray := prog_8_method_69_code
def yJ9_min_7cf53 : MethodName := ⟨RJ9, "min", "(II)I"⟩
def RJ10 : String := "java/lang/System"
def TJ10 : u_T := fun k => match k with
  | _ => ("", "", "", false)
def tyJ10 : Nat → FieldType := fun k => match k with
  | _ => .int
abbrev wsJ100 : List Cond := u_ws RJ10 TJ10 0
theorem nmJ10 : ∀ a, a < 0 → ∀ b, b < 0 → a ≠ b → (TJ10 a).2.1 ≠ (TJ10 b).2.1 := by decide +kernel
theorem tyJ10_ok : ∀ k, k < 0 → parseFieldDescriptor (TJ10 k).2.2.1 = some (tyJ10 k) := by decide +kernel
def RL : String := "VillageCinemaLaw"
abbrev cL_cell : ByteArray := method_2_code
def yL_cell : MethodName := ⟨RL, "cell", "([II)I"⟩
abbrev cL_low : ByteArray := method_3_code
def yL_low : MethodName := ⟨RL, "low", "(II)I"⟩
abbrev cL_leftAt : ByteArray := method_4_code
def yL_leftAt : MethodName := ⟨RL, "leftAt", "(II[I[I[I[I)I"⟩
abbrev cL_coming : ByteArray := method_5_code
def yL_coming : MethodName := ⟨RL, "coming", "(II[I)I"⟩
abbrev cL_film : ByteArray := method_6_code
def yL_film : MethodName := ⟨RL, "film", "(II[I[I)I"⟩
abbrev cL_people : ByteArray := method_7_code
def yL_people : MethodName := ⟨RL, "people", "(II[I[I[I[I)I"⟩
abbrev cL_shows : ByteArray := method_8_code
def yL_shows : MethodName := ⟨RL, "shows", "(II[I[I)I"⟩
abbrev cL_takings : ByteArray := method_9_code
def yL_takings : MethodName := ⟨RL, "takings", "(II[I[I[I[I)I"⟩
abbrev cL_share : ByteArray := method_10_code
def yL_share : MethodName := ⟨RL, "share", "(II[I[I[I)I"⟩
abbrev cL_due : ByteArray := method_11_code
def yL_due : MethodName := ⟨RL, "due", "(II[I[I[I[I)I"⟩
abbrev cL_left : ByteArray := method_12_code
def yL_left : MethodName := ⟨RL, "left", "([I[I[I[I[I)I"⟩
abbrev cL_same : ByteArray := method_13_code
def yL_same : MethodName := ⟨RL, "same", "(LVillageCinema;I[I[I[I[I[I)Z"⟩
abbrev cL_law : ByteArray := code
def yL_law : MethodName := ⟨RL, "law", "([I)Z"⟩
abbrev vwCl : List vw_C := [(RX0, TX0, 6), (RX1, TX1, 1), (RX2, TX2, 3), (RX3, TX3, 2), (RX4, TX4, 6)]
end
section
def wsX0_init : List Cond := .code yX0_init cX0_init 1 none :: ([.methodLink RX0 3 objectInit, .instanceMethod objectInit, .code objectInit ⟨#[0xb1]⟩ 1 none, .arrayClass .int, .fieldLink RX0 9 "VillageCinema$FilmRun" "peopleAt" "[I", .fieldLink RX0 15 "VillageCinema$FilmRun" "leftBehind" "[I", .fieldLink RX0 18 "VillageCinema$FilmRun" "sums" "[I", .fieldLink RX0 21 "VillageCinema$FilmRun" "shares" "[I"] ++ wsX00)
def wsX1_fact : List Cond := .code yX1_fact cX1_fact 3 (some .int) :: ([.fieldLink RX1 11 "VillageCinema$Hall" "row" "[I"] ++ wsX10)
def wsX1_showAt : List Cond := .code yX1_showAt cX1_showAt 2 (some .int) :: ([.fieldLink RX1 11 "VillageCinema$Hall" "row" "[I"] ++ wsX10)
def wsX1_setting : List Cond := .code yX1_setting cX1_setting 2 (some .int) :: ([.fieldLink RX1 11 "VillageCinema$Hall" "row" "[I"] ++ wsX10)
def wsX0_peopleOf : List Cond := .code yX0_peopleOf cX0_peopleOf 4 (some .int) :: ([.methodLink RX0 63 Lib.Math.min.name, .static Lib.Math.min.name, .initialized "java/lang/Math", .code Lib.Math.min.name Lib.Math.min.code 2 (some .int), .methodLink RX0 60 yX1_setting, .instanceMethod yX1_setting, .selects RX1 yX1_setting yX1_setting, .initialized RX1, .code yX1_setting cX1_setting 2 (some .int), .fieldLink RX1 11 "VillageCinema$Hall" "row" "[I"] ++ wsX10)
def wsX0_followWeek : List Cond := .code yX0_followWeek cX0_followWeek 10 (some .int) :: ([.fieldLink RX0 9 "VillageCinema$FilmRun" "peopleAt" "[I", .fieldLink RX0 15 "VillageCinema$FilmRun" "leftBehind" "[I", .fieldLink RX0 30 "VillageCinema$FilmRun" "fullShows" "I", .fieldLink RX0 18 "VillageCinema$FilmRun" "sums" "[I", .methodLink RX0 52 yX1_showAt, .instanceMethod yX1_showAt, .selects RX1 yX1_showAt yX1_showAt, .initialized RX1, .code yX1_showAt cX1_showAt 2 (some .int), .fieldLink RX1 11 "VillageCinema$Hall" "row" "[I", .methodLink RX0 56 yX0_peopleOf, .static yX0_peopleOf, .initialized RX0, .code yX0_peopleOf cX0_peopleOf 4 (some .int), .methodLink RX0 63 Lib.Math.min.name, .static Lib.Math.min.name, .initialized "java/lang/Math", .code Lib.Math.min.name Lib.Math.min.code 2 (some .int), .methodLink RX0 60 yX1_setting, .instanceMethod yX1_setting, .selects RX1 yX1_setting yX1_setting, .code yX1_setting cX1_setting 2 (some .int)] ++ wsX00 ++ wsX10)
def wsX0_sumOfWeek : List Cond := .code yX0_sumOfWeek cX0_sumOfWeek 3 (some .int) :: ([.fieldLink RX0 18 "VillageCinema$FilmRun" "sums" "[I"] ++ wsX00)
def wsX0_nextShare : List Cond := .code yX0_nextShare cX0_nextShare 3 (some .int) :: ([.methodLink RX0 68 Lib.Math.max.name, .static Lib.Math.max.name, .initialized "java/lang/Math", .code Lib.Math.max.name Lib.Math.max.code 2 (some .int)])
def wsX0_shareOfTakings : List Cond := .code yX0_shareOfTakings cX0_shareOfTakings 2 (some .int) :: ([.fieldLink RX0 21 "VillageCinema$FilmRun" "shares" "[I", .methodLink RX0 38 yX0_sumOfWeek, .instanceMethod yX0_sumOfWeek, .selects RX0 yX0_sumOfWeek yX0_sumOfWeek, .initialized RX0, .code yX0_sumOfWeek cX0_sumOfWeek 3 (some .int), .fieldLink RX0 18 "VillageCinema$FilmRun" "sums" "[I"] ++ wsX00)
def wsX0_reckonWeek : List Cond := .code yX0_reckonWeek cX0_reckonWeek 7 none :: ([.fieldLink RX0 18 "VillageCinema$FilmRun" "sums" "[I", .methodLink RX0 68 Lib.Math.max.name, .static Lib.Math.max.name, .initialized "java/lang/Math", .code Lib.Math.max.name Lib.Math.max.code 2 (some .int), .methodLink RX0 38 yX0_sumOfWeek, .instanceMethod yX0_sumOfWeek, .selects RX0 yX0_sumOfWeek yX0_sumOfWeek, .initialized RX0, .code yX0_sumOfWeek cX0_sumOfWeek 3 (some .int), .methodLink RX0 60 yX1_setting, .instanceMethod yX1_setting, .selects RX1 yX1_setting yX1_setting, .initialized RX1, .code yX1_setting cX1_setting 2 (some .int), .fieldLink RX1 11 "VillageCinema$Hall" "row" "[I", .methodLink RX0 71 yX0_shareOfTakings, .instanceMethod yX0_shareOfTakings, .selects RX0 yX0_shareOfTakings yX0_shareOfTakings, .code yX0_shareOfTakings cX0_shareOfTakings 2 (some .int), .fieldLink RX0 21 "VillageCinema$FilmRun" "shares" "[I"] ++ wsX00 ++ wsX10)
def wsX0_follow_r1 : List Cond := [Cond.fieldLink RX0 30 "VillageCinema$FilmRun" "fullShows" "I", Cond.fieldLink RX0 21 "VillageCinema$FilmRun" "shares" "[I", Cond.fieldLink RX0 49 "VillageCinema$FilmRun" "leftAtEnd" "I", Cond.methodLink RX0 24 yX1_fact, Cond.instanceMethod yX1_fact, Cond.selects RX1 yX1_fact yX1_fact, Cond.initialized RX1, Cond.code yX1_fact cX1_fact 3 (some .int), Cond.fieldLink RX1 11 "VillageCinema$Hall" "row" "[I", Cond.methodLink RX0 34 yX0_followWeek, Cond.instanceMethod yX0_followWeek, Cond.selects RX0 yX0_followWeek yX0_followWeek, Cond.initialized RX0, Cond.code yX0_followWeek cX0_followWeek 10 (some .int), Cond.fieldLink RX0 9 "VillageCinema$FilmRun" "peopleAt" "[I", Cond.fieldLink RX0 15 "VillageCinema$FilmRun" "leftBehind" "[I", Cond.fieldLink RX0 18 "VillageCinema$FilmRun" "sums" "[I", Cond.methodLink RX0 52 yX1_showAt, Cond.instanceMethod yX1_showAt, Cond.selects RX1 yX1_showAt yX1_showAt, Cond.code yX1_showAt cX1_showAt 2 (some .int), Cond.methodLink RX0 56 yX0_peopleOf, Cond.static yX0_peopleOf, Cond.code yX0_peopleOf cX0_peopleOf 4 (some .int)]
def wsX0_follow_r2 : List Cond := [Cond.methodLink RX0 63 Lib.Math.min.name, Cond.static Lib.Math.min.name, Cond.initialized "java/lang/Math", Cond.code Lib.Math.min.name Lib.Math.min.code 2 (some .int), Cond.methodLink RX0 60 yX1_setting, Cond.instanceMethod yX1_setting, Cond.selects RX1 yX1_setting yX1_setting, Cond.code yX1_setting cX1_setting 2 (some .int), Cond.methodLink RX0 38 yX0_sumOfWeek, Cond.instanceMethod yX0_sumOfWeek, Cond.selects RX0 yX0_sumOfWeek yX0_sumOfWeek, Cond.code yX0_sumOfWeek cX0_sumOfWeek 3 (some .int), Cond.methodLink RX0 41 yX0_nextShare, Cond.static yX0_nextShare, Cond.code yX0_nextShare cX0_nextShare 3 (some .int), Cond.methodLink RX0 68 Lib.Math.max.name, Cond.static Lib.Math.max.name, Cond.code Lib.Math.max.name Lib.Math.max.code 2 (some .int), Cond.methodLink RX0 45 yX0_reckonWeek, Cond.instanceMethod yX0_reckonWeek, Cond.selects RX0 yX0_reckonWeek yX0_reckonWeek, Cond.code yX0_reckonWeek cX0_reckonWeek 7 none, Cond.methodLink RX0 71 yX0_shareOfTakings, Cond.instanceMethod yX0_shareOfTakings]
def wsX0_follow_r3 : List Cond := [Cond.selects RX0 yX0_shareOfTakings yX0_shareOfTakings, Cond.code yX0_shareOfTakings cX0_shareOfTakings 2 (some .int)]
def wsX0_follow : List Cond := .code yX0_follow cX0_follow 7 none :: ((wsX0_follow_r1 ++ (wsX0_follow_r2 ++ wsX0_follow_r3)) ++ wsX00 ++ wsX10)
def wsX0_dueAboveShare : List Cond := .code yX0_dueAboveShare cX0_dueAboveShare 2 (some .int) :: ([.methodLink RX0 38 yX0_sumOfWeek, .instanceMethod yX0_sumOfWeek, .selects RX0 yX0_sumOfWeek yX0_sumOfWeek, .initialized RX0, .code yX0_sumOfWeek cX0_sumOfWeek 3 (some .int), .fieldLink RX0 18 "VillageCinema$FilmRun" "sums" "[I", .methodLink RX0 71 yX0_shareOfTakings, .instanceMethod yX0_shareOfTakings, .selects RX0 yX0_shareOfTakings yX0_shareOfTakings, .code yX0_shareOfTakings cX0_shareOfTakings 2 (some .int), .fieldLink RX0 21 "VillageCinema$FilmRun" "shares" "[I"] ++ wsX00)
def wsX0_sum : List Cond := .code yX0_sum cX0_sum 4 (some .int) :: ([.methodLink RX0 38 yX0_sumOfWeek, .instanceMethod yX0_sumOfWeek, .selects RX0 yX0_sumOfWeek yX0_sumOfWeek, .initialized RX0, .code yX0_sumOfWeek cX0_sumOfWeek 3 (some .int), .fieldLink RX0 18 "VillageCinema$FilmRun" "sums" "[I"] ++ wsX00)
def wsX0_shareIn : List Cond := .code yX0_shareIn cX0_shareIn 2 (some .int) :: ([.fieldLink RX0 21 "VillageCinema$FilmRun" "shares" "[I"] ++ wsX00)
def wsX0_peopleAt : List Cond := .code yX0_peopleAt cX0_peopleAt 2 (some .int) :: ([.fieldLink RX0 9 "VillageCinema$FilmRun" "peopleAt" "[I"] ++ wsX00)
def wsX0_leftBehind : List Cond := .code yX0_leftBehind cX0_leftBehind 2 (some .int) :: ([.fieldLink RX0 15 "VillageCinema$FilmRun" "leftBehind" "[I"] ++ wsX00)
def wsX0_fullShows : List Cond := .code yX0_fullShows cX0_fullShows 1 (some .int) :: ([.fieldLink RX0 30 "VillageCinema$FilmRun" "fullShows" "I"] ++ wsX00)
def wsX0_leftAtEnd : List Cond := .code yX0_leftAtEnd cX0_leftAtEnd 1 (some .int) :: ([.fieldLink RX0 49 "VillageCinema$FilmRun" "leftAtEnd" "I"] ++ wsX00)
def wsX1_init : List Cond := .code yX1_init cX1_init 2 none :: ([.methodLink RX1 5 objectInit, .instanceMethod objectInit, .code objectInit ⟨#[0xb1]⟩ 1 none, .arrayClass .int, .fieldLink RX1 11 "VillageCinema$Hall" "row" "[I", .methodLink RX1 18 arraycopyName, .native arraycopyName, .static arraycopyName, .initialized "java/lang/System"] ++ wsX10)
def wsX1_copyTo : List Cond := .code yX1_copyTo cX1_copyTo 2 none :: ([.fieldLink RX1 11 "VillageCinema$Hall" "row" "[I", .methodLink RX1 18 arraycopyName, .native arraycopyName, .static arraycopyName, .initialized "java/lang/System"] ++ wsX10)
def wsX1_changeSetting : List Cond := .code yX1_changeSetting cX1_changeSetting 4 (some .int) :: ([.fieldLink RX1 11 "VillageCinema$Hall" "row" "[I"] ++ wsX10)
def wsX1_films : List Cond := .code yX1_films cX1_films 1 (some .int) :: ([.fieldLink RX1 11 "VillageCinema$Hall" "row" "[I"] ++ wsX10)
def wsX1_hasFilm : List Cond := .code yX1_hasFilm cX1_hasFilm 2 (some .boolean) :: ([.methodLink RX1 24 yX1_films, .instanceMethod yX1_films, .selects RX1 yX1_films yX1_films, .initialized RX1, .code yX1_films cX1_films 1 (some .int), .fieldLink RX1 11 "VillageCinema$Hall" "row" "[I"] ++ wsX10)
def wsX1_addFilm : List Cond := .code yX1_addFilm cX1_addFilm 8 (some .int) :: ([.fieldLink RX1 11 "VillageCinema$Hall" "row" "[I", .methodLink RX1 24 yX1_films, .instanceMethod yX1_films, .selects RX1 yX1_films yX1_films, .initialized RX1, .code yX1_films cX1_films 1 (some .int)] ++ wsX10)
def wsX1_replaceShow : List Cond := .code yX1_replaceShow cX1_replaceShow 4 (some .int) :: ([.fieldLink RX1 11 "VillageCinema$Hall" "row" "[I"] ++ wsX10)
def wsX1_rentOf : List Cond := .code yX1_rentOf cX1_rentOf 2 (some .int) :: ([.fieldLink RX1 11 "VillageCinema$Hall" "row" "[I"] ++ wsX10)
def wsX1_canHold : List Cond := .code yX1_canHold cX1_canHold 3 (some .boolean) :: ([.methodLink RX1 28 yX1_rentOf, .instanceMethod yX1_rentOf, .selects RX1 yX1_rentOf yX1_rentOf, .initialized RX1, .code yX1_rentOf cX1_rentOf 2 (some .int), .fieldLink RX1 11 "VillageCinema$Hall" "row" "[I", .methodLink RX1 32 yX1_hasFilm, .instanceMethod yX1_hasFilm, .selects RX1 yX1_hasFilm yX1_hasFilm, .code yX1_hasFilm cX1_hasFilm 2 (some .boolean), .methodLink RX1 24 yX1_films, .instanceMethod yX1_films, .selects RX1 yX1_films yX1_films, .code yX1_films cX1_films 1 (some .int), .methodLink RX1 36 yX1_fact, .instanceMethod yX1_fact, .selects RX1 yX1_fact yX1_fact, .code yX1_fact cX1_fact 3 (some .int)] ++ wsX10)
def wsX1_firstDayShown : List Cond := .code yX1_firstDayShown cX1_firstDayShown 3 (some .int) :: ([.methodLink RX1 40 yX1_showAt, .instanceMethod yX1_showAt, .selects RX1 yX1_showAt yX1_showAt, .initialized RX1, .code yX1_showAt cX1_showAt 2 (some .int), .fieldLink RX1 11 "VillageCinema$Hall" "row" "[I"] ++ wsX10)
def wsX1_changeRent : List Cond := .code yX1_changeRent cX1_changeRent 3 none :: ([.fieldLink RX1 11 "VillageCinema$Hall" "row" "[I"] ++ wsX10)
def wsX1_rentsOf : List Cond := .code yX1_rentsOf cX1_rentsOf 5 (some .int) :: ([.methodLink RX1 28 yX1_rentOf, .instanceMethod yX1_rentOf, .selects RX1 yX1_rentOf yX1_rentOf, .initialized RX1, .code yX1_rentOf cX1_rentOf 2 (some .int), .fieldLink RX1 11 "VillageCinema$Hall" "row" "[I"] ++ wsX10)
def wsX2_init : List Cond := .code yX2_init cX2_init 1 none :: ([.methodLink RX2 1 objectInit, .instanceMethod objectInit, .code objectInit ⟨#[0xb1]⟩ 1 none, .classLink RX2 11 "[[I", .arrayClass .int, .fieldLink RX2 13 "VillageCinema$History" "states" "[[I"] ++ wsX20)
def wsX2_size : List Cond := .code yX2_size cX2_size 1 (some .int) :: ([.fieldLink RX2 16 "VillageCinema$History" "size" "I"] ++ wsX20)
def wsX2_record : List Cond := .code yX2_record cX2_record 2 none :: ([.fieldLink RX2 13 "VillageCinema$History" "states" "[[I", .fieldLink RX2 20 "VillageCinema$History" "oldest" "I", .fieldLink RX2 16 "VillageCinema$History" "size" "I", .methodLink RX2 23 yX1_copyTo, .instanceMethod yX1_copyTo, .selects RX1 yX1_copyTo yX1_copyTo, .initialized RX1, .code yX1_copyTo cX1_copyTo 2 none, .fieldLink RX1 11 "VillageCinema$Hall" "row" "[I", .methodLink RX1 18 arraycopyName, .native arraycopyName, .static arraycopyName, .initialized "java/lang/System"] ++ wsX20 ++ wsX10)
def wsX3_init : List Cond := .code yX3_init cX3_init 1 none :: ([.methodLink RX3 3 objectInit, .instanceMethod objectInit, .code objectInit ⟨#[0xb1]⟩ 1 none, .arrayClass .char, .fieldLink RX3 11 "VillageCinema$Pad" "text" "[C"] ++ wsX30)
def wsX3_length : List Cond := .code yX3_length cX3_length 1 (some .int) :: ([.fieldLink RX3 15 "VillageCinema$Pad" "length" "I"] ++ wsX30)
def wsX4_init_r1 : List Cond := [Cond.methodLink RX4 3 objectInit, Cond.instanceMethod objectInit, Cond.code objectInit ⟨#[0xb1]⟩ 1 none, Cond.classLink RX4 9 RX1, Cond.instantiable RX1 1, Cond.initialized RX1, Cond.fieldLink RX4 12 "VillageCinema" "hall" "LVillageCinema$Hall;", Cond.classLink RX4 16 RX0, Cond.instantiable RX0 6, Cond.initialized RX0, Cond.fieldLink RX4 19 "VillageCinema" "run" "LVillageCinema$FilmRun;", Cond.classLink RX4 23 RX3, Cond.instantiable RX3 2, Cond.initialized RX3, Cond.fieldLink RX4 26 "VillageCinema" "pad" "LVillageCinema$Pad;", Cond.classLink RX4 30 RX2, Cond.instantiable RX2 3, Cond.initialized RX2, Cond.fieldLink RX4 33 "VillageCinema" "history" "LVillageCinema$History;", Cond.classLink RX4 37 "[[I", Cond.arrayClass .int, Cond.fieldLink RX4 39 "VillageCinema" "slots" "[[I", Cond.arrayClass .boolean, Cond.fieldLink RX4 42 "VillageCinema" "saved" "[Z"]
def wsX4_init_r2 : List Cond := [Cond.methodLink RX4 11 yX1_init, Cond.instanceMethod yX1_init, Cond.code yX1_init cX1_init 2 none, Cond.methodLink RX1 5 objectInit, Cond.fieldLink RX1 11 "VillageCinema$Hall" "row" "[I", Cond.methodLink RX1 18 arraycopyName, Cond.native arraycopyName, Cond.static arraycopyName, Cond.initialized "java/lang/System", Cond.instanceMethod yX0_init, Cond.code yX0_init cX0_init 1 none, Cond.methodLink RX0 3 objectInit, Cond.fieldLink RX0 9 "VillageCinema$FilmRun" "peopleAt" "[I", Cond.fieldLink RX0 15 "VillageCinema$FilmRun" "leftBehind" "[I", Cond.fieldLink RX0 18 "VillageCinema$FilmRun" "sums" "[I", Cond.fieldLink RX0 21 "VillageCinema$FilmRun" "shares" "[I", Cond.instanceMethod yX3_init, Cond.code yX3_init cX3_init 1 none, Cond.methodLink RX3 3 objectInit, Cond.arrayClass .char, Cond.fieldLink RX3 11 "VillageCinema$Pad" "text" "[C", Cond.instanceMethod yX2_init, Cond.code yX2_init cX2_init 1 none, Cond.methodLink RX2 1 objectInit]
def wsX4_init_r3 : List Cond := [Cond.classLink RX2 11 "[[I", Cond.fieldLink RX2 13 "VillageCinema$History" "states" "[[I"]
def wsX4_init : List Cond := .code yX4_init cX4_init 1 none :: ((wsX4_init_r1 ++ (wsX4_init_r2 ++ wsX4_init_r3)) ++ wsX10 ++ wsX40 ++ wsX00 ++ wsX30 ++ wsX20)
def wsX4_isWithin : List Cond := .code yX4_isWithin cX4_isWithin 3 (some .boolean) :: ([])
def wsX4_set_r1 : List Cond := [Cond.fieldLink RX4 50 "VillageCinema" "LEAST_SETTING" "[I", Cond.fieldLink RX4 54 "VillageCinema" "MOST_SETTING" "[I", Cond.fieldLink RX4 33 "VillageCinema" "history" "LVillageCinema$History;", Cond.fieldLink RX4 12 "VillageCinema" "hall" "LVillageCinema$Hall;", Cond.methodLink RX4 46 yX4_isWithin, Cond.static yX4_isWithin, Cond.initialized RX4, Cond.code yX4_isWithin cX4_isWithin 3 (some .boolean), Cond.methodLink RX4 57 yX2_record, Cond.instanceMethod yX2_record, Cond.selects RX2 yX2_record yX2_record, Cond.initialized RX2, Cond.code yX2_record cX2_record 2 none, Cond.fieldLink RX2 13 "VillageCinema$History" "states" "[[I", Cond.fieldLink RX2 20 "VillageCinema$History" "oldest" "I", Cond.fieldLink RX2 16 "VillageCinema$History" "size" "I", Cond.methodLink RX2 23 yX1_copyTo, Cond.instanceMethod yX1_copyTo, Cond.selects RX1 yX1_copyTo yX1_copyTo, Cond.initialized RX1, Cond.code yX1_copyTo cX1_copyTo 2 none, Cond.fieldLink RX1 11 "VillageCinema$Hall" "row" "[I", Cond.methodLink RX1 18 arraycopyName, Cond.native arraycopyName]
def wsX4_set_r2 : List Cond := [Cond.static arraycopyName, Cond.initialized "java/lang/System", Cond.methodLink RX4 61 yX1_changeSetting, Cond.instanceMethod yX1_changeSetting, Cond.selects RX1 yX1_changeSetting yX1_changeSetting, Cond.code yX1_changeSetting cX1_changeSetting 4 (some .int)]
def wsX4_set : List Cond := .code yX4_set cX4_set 3 (some .int) :: ((wsX4_set_r1 ++ wsX4_set_r2) ++ wsX40 ++ wsX20 ++ wsX10)
def wsX4_isDay : List Cond := .code yX4_isDay cX4_isDay 1 (some .boolean) :: ([.methodLink RX4 46 yX4_isWithin, .static yX4_isWithin, .initialized RX4, .code yX4_isWithin cX4_isWithin 3 (some .boolean)])
def wsX4_film_r1 : List Cond := [Cond.fieldLink RX4 12 "VillageCinema" "hall" "LVillageCinema$Hall;", Cond.fieldLink RX4 33 "VillageCinema" "history" "LVillageCinema$History;", Cond.methodLink RX4 46 yX4_isWithin, Cond.static yX4_isWithin, Cond.initialized RX4, Cond.code yX4_isWithin cX4_isWithin 3 (some .boolean), Cond.methodLink RX4 65 yX4_isDay, Cond.static yX4_isDay, Cond.code yX4_isDay cX4_isDay 1 (some .boolean), Cond.methodLink RX4 69 yX1_films, Cond.instanceMethod yX1_films, Cond.selects RX1 yX1_films yX1_films, Cond.initialized RX1, Cond.code yX1_films cX1_films 1 (some .int), Cond.fieldLink RX1 11 "VillageCinema$Hall" "row" "[I", Cond.methodLink RX4 57 yX2_record, Cond.instanceMethod yX2_record, Cond.selects RX2 yX2_record yX2_record, Cond.initialized RX2, Cond.code yX2_record cX2_record 2 none, Cond.fieldLink RX2 13 "VillageCinema$History" "states" "[[I", Cond.fieldLink RX2 20 "VillageCinema$History" "oldest" "I", Cond.fieldLink RX2 16 "VillageCinema$History" "size" "I", Cond.methodLink RX2 23 yX1_copyTo]
def wsX4_film_r2 : List Cond := [Cond.instanceMethod yX1_copyTo, Cond.selects RX1 yX1_copyTo yX1_copyTo, Cond.code yX1_copyTo cX1_copyTo 2 none, Cond.methodLink RX1 18 arraycopyName, Cond.native arraycopyName, Cond.static arraycopyName, Cond.initialized "java/lang/System", Cond.methodLink RX4 73 yX1_addFilm, Cond.instanceMethod yX1_addFilm, Cond.selects RX1 yX1_addFilm yX1_addFilm, Cond.code yX1_addFilm cX1_addFilm 8 (some .int), Cond.methodLink RX1 24 yX1_films]
def wsX4_film : List Cond := .code yX4_film cX4_film 6 (some .int) :: ((wsX4_film_r1 ++ wsX4_film_r2) ++ wsX40 ++ wsX10 ++ wsX20)
def wsX4_isPlace : List Cond := .code yX4_isPlace cX4_isPlace 2 (some .boolean) :: ([.methodLink RX4 65 yX4_isDay, .static yX4_isDay, .initialized RX4, .code yX4_isDay cX4_isDay 1 (some .boolean), .methodLink RX4 46 yX4_isWithin, .static yX4_isWithin, .code yX4_isWithin cX4_isWithin 3 (some .boolean)])
def wsX4_errorOfShow_r1 : List Cond := [Cond.fieldLink RX4 12 "VillageCinema" "hall" "LVillageCinema$Hall;", Cond.methodLink RX4 118 yX1_hasFilm, Cond.instanceMethod yX1_hasFilm, Cond.selects RX1 yX1_hasFilm yX1_hasFilm, Cond.initialized RX1, Cond.code yX1_hasFilm cX1_hasFilm 2 (some .boolean), Cond.methodLink RX1 24 yX1_films, Cond.instanceMethod yX1_films, Cond.selects RX1 yX1_films yX1_films, Cond.code yX1_films cX1_films 1 (some .int), Cond.fieldLink RX1 11 "VillageCinema$Hall" "row" "[I", Cond.methodLink RX4 87 yX4_isPlace, Cond.static yX4_isPlace, Cond.initialized RX4, Cond.code yX4_isPlace cX4_isPlace 2 (some .boolean), Cond.methodLink RX4 65 yX4_isDay, Cond.static yX4_isDay, Cond.code yX4_isDay cX4_isDay 1 (some .boolean), Cond.methodLink RX4 46 yX4_isWithin, Cond.static yX4_isWithin, Cond.code yX4_isWithin cX4_isWithin 3 (some .boolean), Cond.methodLink RX4 95 yX1_canHold, Cond.instanceMethod yX1_canHold, Cond.selects RX1 yX1_canHold yX1_canHold]
def wsX4_errorOfShow_r2 : List Cond := [Cond.code yX1_canHold cX1_canHold 3 (some .boolean), Cond.methodLink RX1 28 yX1_rentOf, Cond.instanceMethod yX1_rentOf, Cond.selects RX1 yX1_rentOf yX1_rentOf, Cond.code yX1_rentOf cX1_rentOf 2 (some .int), Cond.methodLink RX1 32 yX1_hasFilm, Cond.methodLink RX1 36 yX1_fact, Cond.instanceMethod yX1_fact, Cond.selects RX1 yX1_fact yX1_fact, Cond.code yX1_fact cX1_fact 3 (some .int)]
def wsX4_errorOfShow : List Cond := .code yX4_errorOfShow cX4_errorOfShow 4 (some .int) :: ((wsX4_errorOfShow_r1 ++ wsX4_errorOfShow_r2) ++ wsX40 ++ wsX10)
def wsX4_placeOf : List Cond := .code yX4_placeOf cX4_placeOf 2 (some .int) :: ([])
def wsX4_show_r1 : List Cond := [Cond.fieldLink RX4 33 "VillageCinema" "history" "LVillageCinema$History;", Cond.fieldLink RX4 12 "VillageCinema" "hall" "LVillageCinema$Hall;", Cond.methodLink RX4 77 yX4_errorOfShow, Cond.instanceMethod yX4_errorOfShow, Cond.selects RX4 yX4_errorOfShow yX4_errorOfShow, Cond.initialized RX4, Cond.code yX4_errorOfShow cX4_errorOfShow 4 (some .int), Cond.methodLink RX4 118 yX1_hasFilm, Cond.instanceMethod yX1_hasFilm, Cond.selects RX1 yX1_hasFilm yX1_hasFilm, Cond.initialized RX1, Cond.code yX1_hasFilm cX1_hasFilm 2 (some .boolean), Cond.methodLink RX1 24 yX1_films, Cond.instanceMethod yX1_films, Cond.selects RX1 yX1_films yX1_films, Cond.code yX1_films cX1_films 1 (some .int), Cond.fieldLink RX1 11 "VillageCinema$Hall" "row" "[I", Cond.methodLink RX4 87 yX4_isPlace, Cond.static yX4_isPlace, Cond.code yX4_isPlace cX4_isPlace 2 (some .boolean), Cond.methodLink RX4 65 yX4_isDay, Cond.static yX4_isDay, Cond.code yX4_isDay cX4_isDay 1 (some .boolean), Cond.methodLink RX4 46 yX4_isWithin]
def wsX4_show_r2 : List Cond := [Cond.static yX4_isWithin, Cond.code yX4_isWithin cX4_isWithin 3 (some .boolean), Cond.methodLink RX4 95 yX1_canHold, Cond.instanceMethod yX1_canHold, Cond.selects RX1 yX1_canHold yX1_canHold, Cond.code yX1_canHold cX1_canHold 3 (some .boolean), Cond.methodLink RX1 28 yX1_rentOf, Cond.instanceMethod yX1_rentOf, Cond.selects RX1 yX1_rentOf yX1_rentOf, Cond.code yX1_rentOf cX1_rentOf 2 (some .int), Cond.methodLink RX1 32 yX1_hasFilm, Cond.methodLink RX1 36 yX1_fact, Cond.instanceMethod yX1_fact, Cond.selects RX1 yX1_fact yX1_fact, Cond.code yX1_fact cX1_fact 3 (some .int), Cond.methodLink RX4 57 yX2_record, Cond.instanceMethod yX2_record, Cond.selects RX2 yX2_record yX2_record, Cond.initialized RX2, Cond.code yX2_record cX2_record 2 none, Cond.fieldLink RX2 13 "VillageCinema$History" "states" "[[I", Cond.fieldLink RX2 20 "VillageCinema$History" "oldest" "I", Cond.fieldLink RX2 16 "VillageCinema$History" "size" "I", Cond.methodLink RX2 23 yX1_copyTo]
def wsX4_show_r3 : List Cond := [Cond.instanceMethod yX1_copyTo, Cond.selects RX1 yX1_copyTo yX1_copyTo, Cond.code yX1_copyTo cX1_copyTo 2 none, Cond.methodLink RX1 18 arraycopyName, Cond.native arraycopyName, Cond.static arraycopyName, Cond.initialized "java/lang/System", Cond.methodLink RX4 81 yX4_placeOf, Cond.static yX4_placeOf, Cond.code yX4_placeOf cX4_placeOf 2 (some .int), Cond.methodLink RX4 84 yX1_replaceShow, Cond.instanceMethod yX1_replaceShow, Cond.selects RX1 yX1_replaceShow yX1_replaceShow, Cond.code yX1_replaceShow cX1_replaceShow 4 (some .int)]
def wsX4_show : List Cond := .code yX4_show cX4_show 5 (some .int) :: ((wsX4_show_r1 ++ (wsX4_show_r2 ++ wsX4_show_r3)) ++ wsX40 ++ wsX10 ++ wsX20)
def wsX4_drop_r1 : List Cond := [Cond.fieldLink RX4 12 "VillageCinema" "hall" "LVillageCinema$Hall;", Cond.fieldLink RX4 33 "VillageCinema" "history" "LVillageCinema$History;", Cond.methodLink RX4 87 yX4_isPlace, Cond.static yX4_isPlace, Cond.initialized RX4, Cond.code yX4_isPlace cX4_isPlace 2 (some .boolean), Cond.methodLink RX4 65 yX4_isDay, Cond.static yX4_isDay, Cond.code yX4_isDay cX4_isDay 1 (some .boolean), Cond.methodLink RX4 46 yX4_isWithin, Cond.static yX4_isWithin, Cond.code yX4_isWithin cX4_isWithin 3 (some .boolean), Cond.methodLink RX4 81 yX4_placeOf, Cond.static yX4_placeOf, Cond.code yX4_placeOf cX4_placeOf 2 (some .int), Cond.methodLink RX4 91 yX1_showAt, Cond.instanceMethod yX1_showAt, Cond.selects RX1 yX1_showAt yX1_showAt, Cond.initialized RX1, Cond.code yX1_showAt cX1_showAt 2 (some .int), Cond.fieldLink RX1 11 "VillageCinema$Hall" "row" "[I", Cond.methodLink RX4 57 yX2_record, Cond.instanceMethod yX2_record, Cond.selects RX2 yX2_record yX2_record]
def wsX4_drop_r2 : List Cond := [Cond.initialized RX2, Cond.code yX2_record cX2_record 2 none, Cond.fieldLink RX2 13 "VillageCinema$History" "states" "[[I", Cond.fieldLink RX2 20 "VillageCinema$History" "oldest" "I", Cond.fieldLink RX2 16 "VillageCinema$History" "size" "I", Cond.methodLink RX2 23 yX1_copyTo, Cond.instanceMethod yX1_copyTo, Cond.selects RX1 yX1_copyTo yX1_copyTo, Cond.code yX1_copyTo cX1_copyTo 2 none, Cond.methodLink RX1 18 arraycopyName, Cond.native arraycopyName, Cond.static arraycopyName, Cond.initialized "java/lang/System", Cond.methodLink RX4 84 yX1_replaceShow, Cond.instanceMethod yX1_replaceShow, Cond.selects RX1 yX1_replaceShow yX1_replaceShow, Cond.code yX1_replaceShow cX1_replaceShow 4 (some .int)]
def wsX4_drop : List Cond := .code yX4_drop cX4_drop 4 (some .int) :: ((wsX4_drop_r1 ++ wsX4_drop_r2) ++ wsX40 ++ wsX10 ++ wsX20)
def wsX4_sumOfFilm_r1 : List Cond := [Cond.fieldLink RX4 19 "VillageCinema" "run" "LVillageCinema$FilmRun;", Cond.fieldLink RX4 12 "VillageCinema" "hall" "LVillageCinema$Hall;", Cond.methodLink RX4 121 yX0_follow, Cond.instanceMethod yX0_follow, Cond.selects RX0 yX0_follow yX0_follow, Cond.initialized RX0, Cond.code yX0_follow cX0_follow 7 none, Cond.fieldLink RX0 30 "VillageCinema$FilmRun" "fullShows" "I", Cond.fieldLink RX0 21 "VillageCinema$FilmRun" "shares" "[I", Cond.fieldLink RX0 49 "VillageCinema$FilmRun" "leftAtEnd" "I", Cond.methodLink RX0 24 yX1_fact, Cond.instanceMethod yX1_fact, Cond.selects RX1 yX1_fact yX1_fact, Cond.initialized RX1, Cond.code yX1_fact cX1_fact 3 (some .int), Cond.fieldLink RX1 11 "VillageCinema$Hall" "row" "[I", Cond.methodLink RX0 34 yX0_followWeek, Cond.instanceMethod yX0_followWeek, Cond.selects RX0 yX0_followWeek yX0_followWeek, Cond.code yX0_followWeek cX0_followWeek 10 (some .int), Cond.fieldLink RX0 9 "VillageCinema$FilmRun" "peopleAt" "[I", Cond.fieldLink RX0 15 "VillageCinema$FilmRun" "leftBehind" "[I", Cond.fieldLink RX0 18 "VillageCinema$FilmRun" "sums" "[I", Cond.methodLink RX0 52 yX1_showAt]
def wsX4_sumOfFilm_r2 : List Cond := [Cond.instanceMethod yX1_showAt, Cond.selects RX1 yX1_showAt yX1_showAt, Cond.code yX1_showAt cX1_showAt 2 (some .int), Cond.methodLink RX0 56 yX0_peopleOf, Cond.static yX0_peopleOf, Cond.code yX0_peopleOf cX0_peopleOf 4 (some .int), Cond.methodLink RX0 63 Lib.Math.min.name, Cond.static Lib.Math.min.name, Cond.initialized "java/lang/Math", Cond.code Lib.Math.min.name Lib.Math.min.code 2 (some .int), Cond.methodLink RX0 60 yX1_setting, Cond.instanceMethod yX1_setting, Cond.selects RX1 yX1_setting yX1_setting, Cond.code yX1_setting cX1_setting 2 (some .int), Cond.methodLink RX0 38 yX0_sumOfWeek, Cond.instanceMethod yX0_sumOfWeek, Cond.selects RX0 yX0_sumOfWeek yX0_sumOfWeek, Cond.code yX0_sumOfWeek cX0_sumOfWeek 3 (some .int), Cond.methodLink RX0 41 yX0_nextShare, Cond.static yX0_nextShare, Cond.code yX0_nextShare cX0_nextShare 3 (some .int), Cond.methodLink RX0 68 Lib.Math.max.name, Cond.static Lib.Math.max.name, Cond.code Lib.Math.max.name Lib.Math.max.code 2 (some .int)]
def wsX4_sumOfFilm_r3 : List Cond := [Cond.methodLink RX0 45 yX0_reckonWeek, Cond.instanceMethod yX0_reckonWeek, Cond.selects RX0 yX0_reckonWeek yX0_reckonWeek, Cond.code yX0_reckonWeek cX0_reckonWeek 7 none, Cond.methodLink RX0 71 yX0_shareOfTakings, Cond.instanceMethod yX0_shareOfTakings, Cond.selects RX0 yX0_shareOfTakings yX0_shareOfTakings, Cond.code yX0_shareOfTakings cX0_shareOfTakings 2 (some .int), Cond.methodLink RX4 143 yX0_sum, Cond.instanceMethod yX0_sum, Cond.selects RX0 yX0_sum yX0_sum, Cond.code yX0_sum cX0_sum 4 (some .int)]
def wsX4_sumOfFilm : List Cond := .code yX4_sumOfFilm cX4_sumOfFilm 3 (some .int) :: ((wsX4_sumOfFilm_r1 ++ (wsX4_sumOfFilm_r2 ++ wsX4_sumOfFilm_r3)) ++ wsX40 ++ wsX00 ++ wsX10)
def wsX4_sumOfFilms_r1 : List Cond := [Cond.fieldLink RX4 12 "VillageCinema" "hall" "LVillageCinema$Hall;", Cond.methodLink RX4 69 yX1_films, Cond.instanceMethod yX1_films, Cond.selects RX1 yX1_films yX1_films, Cond.initialized RX1, Cond.code yX1_films cX1_films 1 (some .int), Cond.fieldLink RX1 11 "VillageCinema$Hall" "row" "[I", Cond.methodLink RX4 164 yX4_sumOfFilm, Cond.instanceMethod yX4_sumOfFilm, Cond.selects RX4 yX4_sumOfFilm yX4_sumOfFilm, Cond.initialized RX4, Cond.code yX4_sumOfFilm cX4_sumOfFilm 3 (some .int), Cond.fieldLink RX4 19 "VillageCinema" "run" "LVillageCinema$FilmRun;", Cond.methodLink RX4 121 yX0_follow, Cond.instanceMethod yX0_follow, Cond.selects RX0 yX0_follow yX0_follow, Cond.initialized RX0, Cond.code yX0_follow cX0_follow 7 none, Cond.fieldLink RX0 30 "VillageCinema$FilmRun" "fullShows" "I", Cond.fieldLink RX0 21 "VillageCinema$FilmRun" "shares" "[I", Cond.fieldLink RX0 49 "VillageCinema$FilmRun" "leftAtEnd" "I", Cond.methodLink RX0 24 yX1_fact, Cond.instanceMethod yX1_fact, Cond.selects RX1 yX1_fact yX1_fact]
def wsX4_sumOfFilms_r2 : List Cond := [Cond.code yX1_fact cX1_fact 3 (some .int), Cond.methodLink RX0 34 yX0_followWeek, Cond.instanceMethod yX0_followWeek, Cond.selects RX0 yX0_followWeek yX0_followWeek, Cond.code yX0_followWeek cX0_followWeek 10 (some .int), Cond.fieldLink RX0 9 "VillageCinema$FilmRun" "peopleAt" "[I", Cond.fieldLink RX0 15 "VillageCinema$FilmRun" "leftBehind" "[I", Cond.fieldLink RX0 18 "VillageCinema$FilmRun" "sums" "[I", Cond.methodLink RX0 52 yX1_showAt, Cond.instanceMethod yX1_showAt, Cond.selects RX1 yX1_showAt yX1_showAt, Cond.code yX1_showAt cX1_showAt 2 (some .int), Cond.methodLink RX0 56 yX0_peopleOf, Cond.static yX0_peopleOf, Cond.code yX0_peopleOf cX0_peopleOf 4 (some .int), Cond.methodLink RX0 63 Lib.Math.min.name, Cond.static Lib.Math.min.name, Cond.initialized "java/lang/Math", Cond.code Lib.Math.min.name Lib.Math.min.code 2 (some .int), Cond.methodLink RX0 60 yX1_setting, Cond.instanceMethod yX1_setting, Cond.selects RX1 yX1_setting yX1_setting, Cond.code yX1_setting cX1_setting 2 (some .int), Cond.methodLink RX0 38 yX0_sumOfWeek]
def wsX4_sumOfFilms_r3 : List Cond := [Cond.instanceMethod yX0_sumOfWeek, Cond.selects RX0 yX0_sumOfWeek yX0_sumOfWeek, Cond.code yX0_sumOfWeek cX0_sumOfWeek 3 (some .int), Cond.methodLink RX0 41 yX0_nextShare, Cond.static yX0_nextShare, Cond.code yX0_nextShare cX0_nextShare 3 (some .int), Cond.methodLink RX0 68 Lib.Math.max.name, Cond.static Lib.Math.max.name, Cond.code Lib.Math.max.name Lib.Math.max.code 2 (some .int), Cond.methodLink RX0 45 yX0_reckonWeek, Cond.instanceMethod yX0_reckonWeek, Cond.selects RX0 yX0_reckonWeek yX0_reckonWeek, Cond.code yX0_reckonWeek cX0_reckonWeek 7 none, Cond.methodLink RX0 71 yX0_shareOfTakings, Cond.instanceMethod yX0_shareOfTakings, Cond.selects RX0 yX0_shareOfTakings yX0_shareOfTakings, Cond.code yX0_shareOfTakings cX0_shareOfTakings 2 (some .int), Cond.methodLink RX4 143 yX0_sum, Cond.instanceMethod yX0_sum, Cond.selects RX0 yX0_sum yX0_sum, Cond.code yX0_sum cX0_sum 4 (some .int)]
def wsX4_sumOfFilms : List Cond := .code yX4_sumOfFilms cX4_sumOfFilms 4 (some .int) :: ((wsX4_sumOfFilms_r1 ++ (wsX4_sumOfFilms_r2 ++ wsX4_sumOfFilms_r3)) ++ wsX40 ++ wsX10 ++ wsX00)
def wsX4_exchange_r1 : List Cond := [Cond.fieldLink RX4 12 "VillageCinema" "hall" "LVillageCinema$Hall;", Cond.fieldLink RX4 33 "VillageCinema" "history" "LVillageCinema$History;", Cond.constant RX4 101 (1000000), Cond.methodLink RX4 87 yX4_isPlace, Cond.static yX4_isPlace, Cond.initialized RX4, Cond.code yX4_isPlace cX4_isPlace 2 (some .boolean), Cond.methodLink RX4 65 yX4_isDay, Cond.static yX4_isDay, Cond.code yX4_isDay cX4_isDay 1 (some .boolean), Cond.methodLink RX4 46 yX4_isWithin, Cond.static yX4_isWithin, Cond.code yX4_isWithin cX4_isWithin 3 (some .boolean), Cond.methodLink RX4 81 yX4_placeOf, Cond.static yX4_placeOf, Cond.code yX4_placeOf cX4_placeOf 2 (some .int), Cond.methodLink RX4 91 yX1_showAt, Cond.instanceMethod yX1_showAt, Cond.selects RX1 yX1_showAt yX1_showAt, Cond.initialized RX1, Cond.code yX1_showAt cX1_showAt 2 (some .int), Cond.fieldLink RX1 11 "VillageCinema$Hall" "row" "[I", Cond.methodLink RX4 95 yX1_canHold, Cond.instanceMethod yX1_canHold]
def wsX4_exchange_r2 : List Cond := [Cond.selects RX1 yX1_canHold yX1_canHold, Cond.code yX1_canHold cX1_canHold 3 (some .boolean), Cond.methodLink RX1 28 yX1_rentOf, Cond.instanceMethod yX1_rentOf, Cond.selects RX1 yX1_rentOf yX1_rentOf, Cond.code yX1_rentOf cX1_rentOf 2 (some .int), Cond.methodLink RX1 32 yX1_hasFilm, Cond.instanceMethod yX1_hasFilm, Cond.selects RX1 yX1_hasFilm yX1_hasFilm, Cond.code yX1_hasFilm cX1_hasFilm 2 (some .boolean), Cond.methodLink RX1 24 yX1_films, Cond.instanceMethod yX1_films, Cond.selects RX1 yX1_films yX1_films, Cond.code yX1_films cX1_films 1 (some .int), Cond.methodLink RX1 36 yX1_fact, Cond.instanceMethod yX1_fact, Cond.selects RX1 yX1_fact yX1_fact, Cond.code yX1_fact cX1_fact 3 (some .int), Cond.methodLink RX4 98 yX4_sumOfFilms, Cond.instanceMethod yX4_sumOfFilms, Cond.selects RX4 yX4_sumOfFilms yX4_sumOfFilms, Cond.code yX4_sumOfFilms cX4_sumOfFilms 4 (some .int), Cond.methodLink RX4 69 yX1_films, Cond.methodLink RX4 164 yX4_sumOfFilm]
def wsX4_exchange_r3 : List Cond := [Cond.instanceMethod yX4_sumOfFilm, Cond.selects RX4 yX4_sumOfFilm yX4_sumOfFilm, Cond.code yX4_sumOfFilm cX4_sumOfFilm 3 (some .int), Cond.fieldLink RX4 19 "VillageCinema" "run" "LVillageCinema$FilmRun;", Cond.methodLink RX4 121 yX0_follow, Cond.instanceMethod yX0_follow, Cond.selects RX0 yX0_follow yX0_follow, Cond.initialized RX0, Cond.code yX0_follow cX0_follow 7 none, Cond.fieldLink RX0 30 "VillageCinema$FilmRun" "fullShows" "I", Cond.fieldLink RX0 21 "VillageCinema$FilmRun" "shares" "[I", Cond.fieldLink RX0 49 "VillageCinema$FilmRun" "leftAtEnd" "I", Cond.methodLink RX0 24 yX1_fact, Cond.methodLink RX0 34 yX0_followWeek, Cond.instanceMethod yX0_followWeek, Cond.selects RX0 yX0_followWeek yX0_followWeek, Cond.code yX0_followWeek cX0_followWeek 10 (some .int), Cond.fieldLink RX0 9 "VillageCinema$FilmRun" "peopleAt" "[I", Cond.fieldLink RX0 15 "VillageCinema$FilmRun" "leftBehind" "[I", Cond.fieldLink RX0 18 "VillageCinema$FilmRun" "sums" "[I", Cond.methodLink RX0 52 yX1_showAt, Cond.methodLink RX0 56 yX0_peopleOf, Cond.static yX0_peopleOf, Cond.code yX0_peopleOf cX0_peopleOf 4 (some .int)]
def wsX4_exchange_r4 : List Cond := [Cond.methodLink RX0 63 Lib.Math.min.name, Cond.static Lib.Math.min.name, Cond.initialized "java/lang/Math", Cond.code Lib.Math.min.name Lib.Math.min.code 2 (some .int), Cond.methodLink RX0 60 yX1_setting, Cond.instanceMethod yX1_setting, Cond.selects RX1 yX1_setting yX1_setting, Cond.code yX1_setting cX1_setting 2 (some .int), Cond.methodLink RX0 38 yX0_sumOfWeek, Cond.instanceMethod yX0_sumOfWeek, Cond.selects RX0 yX0_sumOfWeek yX0_sumOfWeek, Cond.code yX0_sumOfWeek cX0_sumOfWeek 3 (some .int), Cond.methodLink RX0 41 yX0_nextShare, Cond.static yX0_nextShare, Cond.code yX0_nextShare cX0_nextShare 3 (some .int), Cond.methodLink RX0 68 Lib.Math.max.name, Cond.static Lib.Math.max.name, Cond.code Lib.Math.max.name Lib.Math.max.code 2 (some .int), Cond.methodLink RX0 45 yX0_reckonWeek, Cond.instanceMethod yX0_reckonWeek, Cond.selects RX0 yX0_reckonWeek yX0_reckonWeek, Cond.code yX0_reckonWeek cX0_reckonWeek 7 none, Cond.methodLink RX0 71 yX0_shareOfTakings, Cond.instanceMethod yX0_shareOfTakings]
def wsX4_exchange_r5 : List Cond := [Cond.selects RX0 yX0_shareOfTakings yX0_shareOfTakings, Cond.code yX0_shareOfTakings cX0_shareOfTakings 2 (some .int), Cond.methodLink RX4 143 yX0_sum, Cond.instanceMethod yX0_sum, Cond.selects RX0 yX0_sum yX0_sum, Cond.code yX0_sum cX0_sum 4 (some .int), Cond.methodLink RX4 57 yX2_record, Cond.instanceMethod yX2_record, Cond.selects RX2 yX2_record yX2_record, Cond.initialized RX2, Cond.code yX2_record cX2_record 2 none, Cond.fieldLink RX2 13 "VillageCinema$History" "states" "[[I", Cond.fieldLink RX2 20 "VillageCinema$History" "oldest" "I", Cond.fieldLink RX2 16 "VillageCinema$History" "size" "I", Cond.methodLink RX2 23 yX1_copyTo, Cond.instanceMethod yX1_copyTo, Cond.selects RX1 yX1_copyTo yX1_copyTo, Cond.code yX1_copyTo cX1_copyTo 2 none, Cond.methodLink RX1 18 arraycopyName, Cond.native arraycopyName, Cond.static arraycopyName, Cond.initialized "java/lang/System", Cond.methodLink RX4 84 yX1_replaceShow, Cond.instanceMethod yX1_replaceShow]
def wsX4_exchange_r6 : List Cond := [Cond.selects RX1 yX1_replaceShow yX1_replaceShow, Cond.code yX1_replaceShow cX1_replaceShow 4 (some .int)]
def wsX4_exchange : List Cond := .code yX4_exchange cX4_exchange 9 (some .int) :: ((wsX4_exchange_r1 ++ (wsX4_exchange_r2 ++ (wsX4_exchange_r3 ++ (wsX4_exchange_r4 ++ (wsX4_exchange_r5 ++ wsX4_exchange_r6))))) ++ wsX40 ++ wsX10 ++ wsX00 ++ wsX20)
def wsX4_dropShowsOfDay : List Cond := .code yX4_dropShowsOfDay cX4_dropShowsOfDay 4 (some .int) :: ([.fieldLink RX4 12 "VillageCinema" "hall" "LVillageCinema$Hall;", .methodLink RX4 81 yX4_placeOf, .static yX4_placeOf, .initialized RX4, .code yX4_placeOf cX4_placeOf 2 (some .int), .methodLink RX4 84 yX1_replaceShow, .instanceMethod yX1_replaceShow, .selects RX1 yX1_replaceShow yX1_replaceShow, .initialized RX1, .code yX1_replaceShow cX1_replaceShow 4 (some .int), .fieldLink RX1 11 "VillageCinema$Hall" "row" "[I"] ++ wsX40 ++ wsX10)
def wsX4_let_r1 : List Cond := [Cond.fieldLink RX4 33 "VillageCinema" "history" "LVillageCinema$History;", Cond.fieldLink RX4 12 "VillageCinema" "hall" "LVillageCinema$Hall;", Cond.methodLink RX4 65 yX4_isDay, Cond.static yX4_isDay, Cond.initialized RX4, Cond.code yX4_isDay cX4_isDay 1 (some .boolean), Cond.methodLink RX4 46 yX4_isWithin, Cond.static yX4_isWithin, Cond.code yX4_isWithin cX4_isWithin 3 (some .boolean), Cond.methodLink RX4 57 yX2_record, Cond.instanceMethod yX2_record, Cond.selects RX2 yX2_record yX2_record, Cond.initialized RX2, Cond.code yX2_record cX2_record 2 none, Cond.fieldLink RX2 13 "VillageCinema$History" "states" "[[I", Cond.fieldLink RX2 20 "VillageCinema$History" "oldest" "I", Cond.fieldLink RX2 16 "VillageCinema$History" "size" "I", Cond.methodLink RX2 23 yX1_copyTo, Cond.instanceMethod yX1_copyTo, Cond.selects RX1 yX1_copyTo yX1_copyTo, Cond.initialized RX1, Cond.code yX1_copyTo cX1_copyTo 2 none, Cond.fieldLink RX1 11 "VillageCinema$Hall" "row" "[I", Cond.methodLink RX1 18 arraycopyName]
def wsX4_let_r2 : List Cond := [Cond.native arraycopyName, Cond.static arraycopyName, Cond.initialized "java/lang/System", Cond.methodLink RX4 102 yX1_changeRent, Cond.instanceMethod yX1_changeRent, Cond.selects RX1 yX1_changeRent yX1_changeRent, Cond.code yX1_changeRent cX1_changeRent 3 none, Cond.methodLink RX4 106 yX4_dropShowsOfDay, Cond.instanceMethod yX4_dropShowsOfDay, Cond.selects RX4 yX4_dropShowsOfDay yX4_dropShowsOfDay, Cond.code yX4_dropShowsOfDay cX4_dropShowsOfDay 4 (some .int), Cond.methodLink RX4 81 yX4_placeOf, Cond.static yX4_placeOf, Cond.code yX4_placeOf cX4_placeOf 2 (some .int), Cond.methodLink RX4 84 yX1_replaceShow, Cond.instanceMethod yX1_replaceShow, Cond.selects RX1 yX1_replaceShow yX1_replaceShow, Cond.code yX1_replaceShow cX1_replaceShow 4 (some .int)]
def wsX4_let : List Cond := .code yX4_let cX4_let 3 (some .int) :: ((wsX4_let_r1 ++ wsX4_let_r2) ++ wsX40 ++ wsX20 ++ wsX10)
def wsX4_at_r1 : List Cond := [Cond.fieldLink RX4 12 "VillageCinema" "hall" "LVillageCinema$Hall;", Cond.fieldLink RX4 19 "VillageCinema" "run" "LVillageCinema$FilmRun;", Cond.methodLink RX4 87 yX4_isPlace, Cond.static yX4_isPlace, Cond.initialized RX4, Cond.code yX4_isPlace cX4_isPlace 2 (some .boolean), Cond.methodLink RX4 65 yX4_isDay, Cond.static yX4_isDay, Cond.code yX4_isDay cX4_isDay 1 (some .boolean), Cond.methodLink RX4 46 yX4_isWithin, Cond.static yX4_isWithin, Cond.code yX4_isWithin cX4_isWithin 3 (some .boolean), Cond.methodLink RX4 81 yX4_placeOf, Cond.static yX4_placeOf, Cond.code yX4_placeOf cX4_placeOf 2 (some .int), Cond.methodLink RX4 91 yX1_showAt, Cond.instanceMethod yX1_showAt, Cond.selects RX1 yX1_showAt yX1_showAt, Cond.initialized RX1, Cond.code yX1_showAt cX1_showAt 2 (some .int), Cond.fieldLink RX1 11 "VillageCinema$Hall" "row" "[I", Cond.methodLink RX4 118 yX1_hasFilm, Cond.instanceMethod yX1_hasFilm, Cond.selects RX1 yX1_hasFilm yX1_hasFilm]
def wsX4_at_r2 : List Cond := [Cond.code yX1_hasFilm cX1_hasFilm 2 (some .boolean), Cond.methodLink RX1 24 yX1_films, Cond.instanceMethod yX1_films, Cond.selects RX1 yX1_films yX1_films, Cond.code yX1_films cX1_films 1 (some .int), Cond.methodLink RX4 121 yX0_follow, Cond.instanceMethod yX0_follow, Cond.selects RX0 yX0_follow yX0_follow, Cond.initialized RX0, Cond.code yX0_follow cX0_follow 7 none, Cond.fieldLink RX0 30 "VillageCinema$FilmRun" "fullShows" "I", Cond.fieldLink RX0 21 "VillageCinema$FilmRun" "shares" "[I", Cond.fieldLink RX0 49 "VillageCinema$FilmRun" "leftAtEnd" "I", Cond.methodLink RX0 24 yX1_fact, Cond.instanceMethod yX1_fact, Cond.selects RX1 yX1_fact yX1_fact, Cond.code yX1_fact cX1_fact 3 (some .int), Cond.methodLink RX0 34 yX0_followWeek, Cond.instanceMethod yX0_followWeek, Cond.selects RX0 yX0_followWeek yX0_followWeek, Cond.code yX0_followWeek cX0_followWeek 10 (some .int), Cond.fieldLink RX0 9 "VillageCinema$FilmRun" "peopleAt" "[I", Cond.fieldLink RX0 15 "VillageCinema$FilmRun" "leftBehind" "[I", Cond.fieldLink RX0 18 "VillageCinema$FilmRun" "sums" "[I"]
def wsX4_at_r3 : List Cond := [Cond.methodLink RX0 52 yX1_showAt, Cond.methodLink RX0 56 yX0_peopleOf, Cond.static yX0_peopleOf, Cond.code yX0_peopleOf cX0_peopleOf 4 (some .int), Cond.methodLink RX0 63 Lib.Math.min.name, Cond.static Lib.Math.min.name, Cond.initialized "java/lang/Math", Cond.code Lib.Math.min.name Lib.Math.min.code 2 (some .int), Cond.methodLink RX0 60 yX1_setting, Cond.instanceMethod yX1_setting, Cond.selects RX1 yX1_setting yX1_setting, Cond.code yX1_setting cX1_setting 2 (some .int), Cond.methodLink RX0 38 yX0_sumOfWeek, Cond.instanceMethod yX0_sumOfWeek, Cond.selects RX0 yX0_sumOfWeek yX0_sumOfWeek, Cond.code yX0_sumOfWeek cX0_sumOfWeek 3 (some .int), Cond.methodLink RX0 41 yX0_nextShare, Cond.static yX0_nextShare, Cond.code yX0_nextShare cX0_nextShare 3 (some .int), Cond.methodLink RX0 68 Lib.Math.max.name, Cond.static Lib.Math.max.name, Cond.code Lib.Math.max.name Lib.Math.max.code 2 (some .int), Cond.methodLink RX0 45 yX0_reckonWeek, Cond.instanceMethod yX0_reckonWeek]
def wsX4_at_r4 : List Cond := [Cond.selects RX0 yX0_reckonWeek yX0_reckonWeek, Cond.code yX0_reckonWeek cX0_reckonWeek 7 none, Cond.methodLink RX0 71 yX0_shareOfTakings, Cond.instanceMethod yX0_shareOfTakings, Cond.selects RX0 yX0_shareOfTakings yX0_shareOfTakings, Cond.code yX0_shareOfTakings cX0_shareOfTakings 2 (some .int), Cond.methodLink RX4 125 yX0_peopleAt, Cond.instanceMethod yX0_peopleAt, Cond.selects RX0 yX0_peopleAt yX0_peopleAt, Cond.code yX0_peopleAt cX0_peopleAt 2 (some .int), Cond.methodLink RX4 128 yX1_setting, Cond.methodLink RX4 131 yX0_leftBehind, Cond.instanceMethod yX0_leftBehind, Cond.selects RX0 yX0_leftBehind yX0_leftBehind, Cond.code yX0_leftBehind cX0_leftBehind 2 (some .int)]
def wsX4_at : List Cond := .code yX4_at cX4_at 6 (some .int) :: ((wsX4_at_r1 ++ (wsX4_at_r2 ++ (wsX4_at_r3 ++ wsX4_at_r4))) ++ wsX40 ++ wsX10 ++ wsX00)
def wsX4_of_r1 : List Cond := [Cond.fieldLink RX4 12 "VillageCinema" "hall" "LVillageCinema$Hall;", Cond.fieldLink RX4 19 "VillageCinema" "run" "LVillageCinema$FilmRun;", Cond.methodLink RX4 118 yX1_hasFilm, Cond.instanceMethod yX1_hasFilm, Cond.selects RX1 yX1_hasFilm yX1_hasFilm, Cond.initialized RX1, Cond.code yX1_hasFilm cX1_hasFilm 2 (some .boolean), Cond.methodLink RX1 24 yX1_films, Cond.instanceMethod yX1_films, Cond.selects RX1 yX1_films yX1_films, Cond.code yX1_films cX1_films 1 (some .int), Cond.fieldLink RX1 11 "VillageCinema$Hall" "row" "[I", Cond.methodLink RX4 46 yX4_isWithin, Cond.static yX4_isWithin, Cond.initialized RX4, Cond.code yX4_isWithin cX4_isWithin 3 (some .boolean), Cond.methodLink RX4 134 yX1_fact, Cond.instanceMethod yX1_fact, Cond.selects RX1 yX1_fact yX1_fact, Cond.code yX1_fact cX1_fact 3 (some .int), Cond.methodLink RX4 137 yX1_firstDayShown, Cond.instanceMethod yX1_firstDayShown, Cond.selects RX1 yX1_firstDayShown yX1_firstDayShown, Cond.code yX1_firstDayShown cX1_firstDayShown 3 (some .int)]
def wsX4_of_r2 : List Cond := [Cond.methodLink RX1 40 yX1_showAt, Cond.instanceMethod yX1_showAt, Cond.selects RX1 yX1_showAt yX1_showAt, Cond.code yX1_showAt cX1_showAt 2 (some .int), Cond.methodLink RX4 121 yX0_follow, Cond.instanceMethod yX0_follow, Cond.selects RX0 yX0_follow yX0_follow, Cond.initialized RX0, Cond.code yX0_follow cX0_follow 7 none, Cond.fieldLink RX0 30 "VillageCinema$FilmRun" "fullShows" "I", Cond.fieldLink RX0 21 "VillageCinema$FilmRun" "shares" "[I", Cond.fieldLink RX0 49 "VillageCinema$FilmRun" "leftAtEnd" "I", Cond.methodLink RX0 24 yX1_fact, Cond.methodLink RX0 34 yX0_followWeek, Cond.instanceMethod yX0_followWeek, Cond.selects RX0 yX0_followWeek yX0_followWeek, Cond.code yX0_followWeek cX0_followWeek 10 (some .int), Cond.fieldLink RX0 9 "VillageCinema$FilmRun" "peopleAt" "[I", Cond.fieldLink RX0 15 "VillageCinema$FilmRun" "leftBehind" "[I", Cond.fieldLink RX0 18 "VillageCinema$FilmRun" "sums" "[I", Cond.methodLink RX0 52 yX1_showAt, Cond.methodLink RX0 56 yX0_peopleOf, Cond.static yX0_peopleOf, Cond.code yX0_peopleOf cX0_peopleOf 4 (some .int)]
def wsX4_of_r3 : List Cond := [Cond.methodLink RX0 63 Lib.Math.min.name, Cond.static Lib.Math.min.name, Cond.initialized "java/lang/Math", Cond.code Lib.Math.min.name Lib.Math.min.code 2 (some .int), Cond.methodLink RX0 60 yX1_setting, Cond.instanceMethod yX1_setting, Cond.selects RX1 yX1_setting yX1_setting, Cond.code yX1_setting cX1_setting 2 (some .int), Cond.methodLink RX0 38 yX0_sumOfWeek, Cond.instanceMethod yX0_sumOfWeek, Cond.selects RX0 yX0_sumOfWeek yX0_sumOfWeek, Cond.code yX0_sumOfWeek cX0_sumOfWeek 3 (some .int), Cond.methodLink RX0 41 yX0_nextShare, Cond.static yX0_nextShare, Cond.code yX0_nextShare cX0_nextShare 3 (some .int), Cond.methodLink RX0 68 Lib.Math.max.name, Cond.static Lib.Math.max.name, Cond.code Lib.Math.max.name Lib.Math.max.code 2 (some .int), Cond.methodLink RX0 45 yX0_reckonWeek, Cond.instanceMethod yX0_reckonWeek, Cond.selects RX0 yX0_reckonWeek yX0_reckonWeek, Cond.code yX0_reckonWeek cX0_reckonWeek 7 none, Cond.methodLink RX0 71 yX0_shareOfTakings, Cond.instanceMethod yX0_shareOfTakings]
def wsX4_of_r4 : List Cond := [Cond.selects RX0 yX0_shareOfTakings yX0_shareOfTakings, Cond.code yX0_shareOfTakings cX0_shareOfTakings 2 (some .int), Cond.methodLink RX4 140 yX0_leftAtEnd, Cond.instanceMethod yX0_leftAtEnd, Cond.selects RX0 yX0_leftAtEnd yX0_leftAtEnd, Cond.code yX0_leftAtEnd cX0_leftAtEnd 1 (some .int), Cond.methodLink RX4 143 yX0_sum, Cond.instanceMethod yX0_sum, Cond.selects RX0 yX0_sum yX0_sum, Cond.code yX0_sum cX0_sum 4 (some .int)]
def wsX4_of : List Cond := .code yX4_of cX4_of 3 (some .int) :: ((wsX4_of_r1 ++ (wsX4_of_r2 ++ (wsX4_of_r3 ++ wsX4_of_r4))) ++ wsX40 ++ wsX10 ++ wsX00)
def wsX4_isWeek : List Cond := .code yX4_isWeek cX4_isWeek 1 (some .boolean) :: ([.methodLink RX4 46 yX4_isWithin, .static yX4_isWithin, .initialized RX4, .code yX4_isWithin cX4_isWithin 3 (some .boolean)])
def wsX4_inWeek_r1 : List Cond := [Cond.fieldLink RX4 12 "VillageCinema" "hall" "LVillageCinema$Hall;", Cond.fieldLink RX4 19 "VillageCinema" "run" "LVillageCinema$FilmRun;", Cond.methodLink RX4 118 yX1_hasFilm, Cond.instanceMethod yX1_hasFilm, Cond.selects RX1 yX1_hasFilm yX1_hasFilm, Cond.initialized RX1, Cond.code yX1_hasFilm cX1_hasFilm 2 (some .boolean), Cond.methodLink RX1 24 yX1_films, Cond.instanceMethod yX1_films, Cond.selects RX1 yX1_films yX1_films, Cond.code yX1_films cX1_films 1 (some .int), Cond.fieldLink RX1 11 "VillageCinema$Hall" "row" "[I", Cond.methodLink RX4 146 yX4_isWeek, Cond.static yX4_isWeek, Cond.initialized RX4, Cond.code yX4_isWeek cX4_isWeek 1 (some .boolean), Cond.methodLink RX4 46 yX4_isWithin, Cond.static yX4_isWithin, Cond.code yX4_isWithin cX4_isWithin 3 (some .boolean), Cond.methodLink RX4 121 yX0_follow, Cond.instanceMethod yX0_follow, Cond.selects RX0 yX0_follow yX0_follow, Cond.initialized RX0, Cond.code yX0_follow cX0_follow 7 none]
def wsX4_inWeek_r2 : List Cond := [Cond.fieldLink RX0 30 "VillageCinema$FilmRun" "fullShows" "I", Cond.fieldLink RX0 21 "VillageCinema$FilmRun" "shares" "[I", Cond.fieldLink RX0 49 "VillageCinema$FilmRun" "leftAtEnd" "I", Cond.methodLink RX0 24 yX1_fact, Cond.instanceMethod yX1_fact, Cond.selects RX1 yX1_fact yX1_fact, Cond.code yX1_fact cX1_fact 3 (some .int), Cond.methodLink RX0 34 yX0_followWeek, Cond.instanceMethod yX0_followWeek, Cond.selects RX0 yX0_followWeek yX0_followWeek, Cond.code yX0_followWeek cX0_followWeek 10 (some .int), Cond.fieldLink RX0 9 "VillageCinema$FilmRun" "peopleAt" "[I", Cond.fieldLink RX0 15 "VillageCinema$FilmRun" "leftBehind" "[I", Cond.fieldLink RX0 18 "VillageCinema$FilmRun" "sums" "[I", Cond.methodLink RX0 52 yX1_showAt, Cond.instanceMethod yX1_showAt, Cond.selects RX1 yX1_showAt yX1_showAt, Cond.code yX1_showAt cX1_showAt 2 (some .int), Cond.methodLink RX0 56 yX0_peopleOf, Cond.static yX0_peopleOf, Cond.code yX0_peopleOf cX0_peopleOf 4 (some .int), Cond.methodLink RX0 63 Lib.Math.min.name, Cond.static Lib.Math.min.name, Cond.initialized "java/lang/Math"]
def wsX4_inWeek_r3 : List Cond := [Cond.code Lib.Math.min.name Lib.Math.min.code 2 (some .int), Cond.methodLink RX0 60 yX1_setting, Cond.instanceMethod yX1_setting, Cond.selects RX1 yX1_setting yX1_setting, Cond.code yX1_setting cX1_setting 2 (some .int), Cond.methodLink RX0 38 yX0_sumOfWeek, Cond.instanceMethod yX0_sumOfWeek, Cond.selects RX0 yX0_sumOfWeek yX0_sumOfWeek, Cond.code yX0_sumOfWeek cX0_sumOfWeek 3 (some .int), Cond.methodLink RX0 41 yX0_nextShare, Cond.static yX0_nextShare, Cond.code yX0_nextShare cX0_nextShare 3 (some .int), Cond.methodLink RX0 68 Lib.Math.max.name, Cond.static Lib.Math.max.name, Cond.code Lib.Math.max.name Lib.Math.max.code 2 (some .int), Cond.methodLink RX0 45 yX0_reckonWeek, Cond.instanceMethod yX0_reckonWeek, Cond.selects RX0 yX0_reckonWeek yX0_reckonWeek, Cond.code yX0_reckonWeek cX0_reckonWeek 7 none, Cond.methodLink RX0 71 yX0_shareOfTakings, Cond.instanceMethod yX0_shareOfTakings, Cond.selects RX0 yX0_shareOfTakings yX0_shareOfTakings, Cond.code yX0_shareOfTakings cX0_shareOfTakings 2 (some .int), Cond.methodLink RX4 149 yX0_sumOfWeek]
def wsX4_inWeek_r4 : List Cond := [Cond.methodLink RX4 152 yX0_shareIn, Cond.instanceMethod yX0_shareIn, Cond.selects RX0 yX0_shareIn yX0_shareIn, Cond.code yX0_shareIn cX0_shareIn 2 (some .int), Cond.methodLink RX4 155 yX0_dueAboveShare, Cond.instanceMethod yX0_dueAboveShare, Cond.selects RX0 yX0_dueAboveShare yX0_dueAboveShare, Cond.code yX0_dueAboveShare cX0_dueAboveShare 2 (some .int)]
def wsX4_inWeek : List Cond := .code yX4_inWeek cX4_inWeek 4 (some .int) :: ((wsX4_inWeek_r1 ++ (wsX4_inWeek_r2 ++ (wsX4_inWeek_r3 ++ wsX4_inWeek_r4))) ++ wsX40 ++ wsX10 ++ wsX00)
def wsX4_sumOfFilmsInWeek_r1 : List Cond := [Cond.fieldLink RX4 12 "VillageCinema" "hall" "LVillageCinema$Hall;", Cond.fieldLink RX4 19 "VillageCinema" "run" "LVillageCinema$FilmRun;", Cond.methodLink RX4 69 yX1_films, Cond.instanceMethod yX1_films, Cond.selects RX1 yX1_films yX1_films, Cond.initialized RX1, Cond.code yX1_films cX1_films 1 (some .int), Cond.fieldLink RX1 11 "VillageCinema$Hall" "row" "[I", Cond.methodLink RX4 121 yX0_follow, Cond.instanceMethod yX0_follow, Cond.selects RX0 yX0_follow yX0_follow, Cond.initialized RX0, Cond.code yX0_follow cX0_follow 7 none, Cond.fieldLink RX0 30 "VillageCinema$FilmRun" "fullShows" "I", Cond.fieldLink RX0 21 "VillageCinema$FilmRun" "shares" "[I", Cond.fieldLink RX0 49 "VillageCinema$FilmRun" "leftAtEnd" "I", Cond.methodLink RX0 24 yX1_fact, Cond.instanceMethod yX1_fact, Cond.selects RX1 yX1_fact yX1_fact, Cond.code yX1_fact cX1_fact 3 (some .int), Cond.methodLink RX0 34 yX0_followWeek, Cond.instanceMethod yX0_followWeek, Cond.selects RX0 yX0_followWeek yX0_followWeek, Cond.code yX0_followWeek cX0_followWeek 10 (some .int)]
def wsX4_sumOfFilmsInWeek_r2 : List Cond := [Cond.fieldLink RX0 9 "VillageCinema$FilmRun" "peopleAt" "[I", Cond.fieldLink RX0 15 "VillageCinema$FilmRun" "leftBehind" "[I", Cond.fieldLink RX0 18 "VillageCinema$FilmRun" "sums" "[I", Cond.methodLink RX0 52 yX1_showAt, Cond.instanceMethod yX1_showAt, Cond.selects RX1 yX1_showAt yX1_showAt, Cond.code yX1_showAt cX1_showAt 2 (some .int), Cond.methodLink RX0 56 yX0_peopleOf, Cond.static yX0_peopleOf, Cond.code yX0_peopleOf cX0_peopleOf 4 (some .int), Cond.methodLink RX0 63 Lib.Math.min.name, Cond.static Lib.Math.min.name, Cond.initialized "java/lang/Math", Cond.code Lib.Math.min.name Lib.Math.min.code 2 (some .int), Cond.methodLink RX0 60 yX1_setting, Cond.instanceMethod yX1_setting, Cond.selects RX1 yX1_setting yX1_setting, Cond.code yX1_setting cX1_setting 2 (some .int), Cond.methodLink RX0 38 yX0_sumOfWeek, Cond.instanceMethod yX0_sumOfWeek, Cond.selects RX0 yX0_sumOfWeek yX0_sumOfWeek, Cond.code yX0_sumOfWeek cX0_sumOfWeek 3 (some .int), Cond.methodLink RX0 41 yX0_nextShare, Cond.static yX0_nextShare]
def wsX4_sumOfFilmsInWeek_r3 : List Cond := [Cond.code yX0_nextShare cX0_nextShare 3 (some .int), Cond.methodLink RX0 68 Lib.Math.max.name, Cond.static Lib.Math.max.name, Cond.code Lib.Math.max.name Lib.Math.max.code 2 (some .int), Cond.methodLink RX0 45 yX0_reckonWeek, Cond.instanceMethod yX0_reckonWeek, Cond.selects RX0 yX0_reckonWeek yX0_reckonWeek, Cond.code yX0_reckonWeek cX0_reckonWeek 7 none, Cond.methodLink RX0 71 yX0_shareOfTakings, Cond.instanceMethod yX0_shareOfTakings, Cond.selects RX0 yX0_shareOfTakings yX0_shareOfTakings, Cond.code yX0_shareOfTakings cX0_shareOfTakings 2 (some .int), Cond.methodLink RX4 149 yX0_sumOfWeek]
def wsX4_sumOfFilmsInWeek : List Cond := .code yX4_sumOfFilmsInWeek cX4_sumOfFilmsInWeek 5 (some .int) :: ((wsX4_sumOfFilmsInWeek_r1 ++ (wsX4_sumOfFilmsInWeek_r2 ++ wsX4_sumOfFilmsInWeek_r3)) ++ wsX40 ++ wsX10 ++ wsX00)
def wsX4_week_r1 : List Cond := [Cond.fieldLink RX4 12 "VillageCinema" "hall" "LVillageCinema$Hall;", Cond.constant RX4 101 (1000000), Cond.methodLink RX4 146 yX4_isWeek, Cond.static yX4_isWeek, Cond.initialized RX4, Cond.code yX4_isWeek cX4_isWeek 1 (some .boolean), Cond.methodLink RX4 46 yX4_isWithin, Cond.static yX4_isWithin, Cond.code yX4_isWithin cX4_isWithin 3 (some .boolean), Cond.methodLink RX4 158 yX4_sumOfFilmsInWeek, Cond.instanceMethod yX4_sumOfFilmsInWeek, Cond.selects RX4 yX4_sumOfFilmsInWeek yX4_sumOfFilmsInWeek, Cond.code yX4_sumOfFilmsInWeek cX4_sumOfFilmsInWeek 5 (some .int), Cond.fieldLink RX4 19 "VillageCinema" "run" "LVillageCinema$FilmRun;", Cond.methodLink RX4 69 yX1_films, Cond.instanceMethod yX1_films, Cond.selects RX1 yX1_films yX1_films, Cond.initialized RX1, Cond.code yX1_films cX1_films 1 (some .int), Cond.fieldLink RX1 11 "VillageCinema$Hall" "row" "[I", Cond.methodLink RX4 121 yX0_follow, Cond.instanceMethod yX0_follow, Cond.selects RX0 yX0_follow yX0_follow, Cond.initialized RX0]
def wsX4_week_r2 : List Cond := [Cond.code yX0_follow cX0_follow 7 none, Cond.fieldLink RX0 30 "VillageCinema$FilmRun" "fullShows" "I", Cond.fieldLink RX0 21 "VillageCinema$FilmRun" "shares" "[I", Cond.fieldLink RX0 49 "VillageCinema$FilmRun" "leftAtEnd" "I", Cond.methodLink RX0 24 yX1_fact, Cond.instanceMethod yX1_fact, Cond.selects RX1 yX1_fact yX1_fact, Cond.code yX1_fact cX1_fact 3 (some .int), Cond.methodLink RX0 34 yX0_followWeek, Cond.instanceMethod yX0_followWeek, Cond.selects RX0 yX0_followWeek yX0_followWeek, Cond.code yX0_followWeek cX0_followWeek 10 (some .int), Cond.fieldLink RX0 9 "VillageCinema$FilmRun" "peopleAt" "[I", Cond.fieldLink RX0 15 "VillageCinema$FilmRun" "leftBehind" "[I", Cond.fieldLink RX0 18 "VillageCinema$FilmRun" "sums" "[I", Cond.methodLink RX0 52 yX1_showAt, Cond.instanceMethod yX1_showAt, Cond.selects RX1 yX1_showAt yX1_showAt, Cond.code yX1_showAt cX1_showAt 2 (some .int), Cond.methodLink RX0 56 yX0_peopleOf, Cond.static yX0_peopleOf, Cond.code yX0_peopleOf cX0_peopleOf 4 (some .int), Cond.methodLink RX0 63 Lib.Math.min.name, Cond.static Lib.Math.min.name]
def wsX4_week_r3 : List Cond := [Cond.initialized "java/lang/Math", Cond.code Lib.Math.min.name Lib.Math.min.code 2 (some .int), Cond.methodLink RX0 60 yX1_setting, Cond.instanceMethod yX1_setting, Cond.selects RX1 yX1_setting yX1_setting, Cond.code yX1_setting cX1_setting 2 (some .int), Cond.methodLink RX0 38 yX0_sumOfWeek, Cond.instanceMethod yX0_sumOfWeek, Cond.selects RX0 yX0_sumOfWeek yX0_sumOfWeek, Cond.code yX0_sumOfWeek cX0_sumOfWeek 3 (some .int), Cond.methodLink RX0 41 yX0_nextShare, Cond.static yX0_nextShare, Cond.code yX0_nextShare cX0_nextShare 3 (some .int), Cond.methodLink RX0 68 Lib.Math.max.name, Cond.static Lib.Math.max.name, Cond.code Lib.Math.max.name Lib.Math.max.code 2 (some .int), Cond.methodLink RX0 45 yX0_reckonWeek, Cond.instanceMethod yX0_reckonWeek, Cond.selects RX0 yX0_reckonWeek yX0_reckonWeek, Cond.code yX0_reckonWeek cX0_reckonWeek 7 none, Cond.methodLink RX0 71 yX0_shareOfTakings, Cond.instanceMethod yX0_shareOfTakings, Cond.selects RX0 yX0_shareOfTakings yX0_shareOfTakings, Cond.code yX0_shareOfTakings cX0_shareOfTakings 2 (some .int)]
def wsX4_week_r4 : List Cond := [Cond.methodLink RX4 149 yX0_sumOfWeek, Cond.methodLink RX4 161 yX1_rentsOf, Cond.instanceMethod yX1_rentsOf, Cond.selects RX1 yX1_rentsOf yX1_rentsOf, Cond.code yX1_rentsOf cX1_rentsOf 5 (some .int), Cond.methodLink RX1 28 yX1_rentOf, Cond.instanceMethod yX1_rentOf, Cond.selects RX1 yX1_rentOf yX1_rentOf, Cond.code yX1_rentOf cX1_rentOf 2 (some .int)]
def wsX4_week : List Cond := .code yX4_week cX4_week 5 (some .int) :: ((wsX4_week_r1 ++ (wsX4_week_r2 ++ (wsX4_week_r3 ++ wsX4_week_r4))) ++ wsX40 ++ wsX10 ++ wsX00)
def wsX4_rent : List Cond := .code yX4_rent cX4_rent 2 (some .int) :: ([.fieldLink RX4 12 "VillageCinema" "hall" "LVillageCinema$Hall;", .methodLink RX4 65 yX4_isDay, .static yX4_isDay, .initialized RX4, .code yX4_isDay cX4_isDay 1 (some .boolean), .methodLink RX4 46 yX4_isWithin, .static yX4_isWithin, .code yX4_isWithin cX4_isWithin 3 (some .boolean), .methodLink RX4 167 yX1_rentOf, .instanceMethod yX1_rentOf, .selects RX1 yX1_rentOf yX1_rentOf, .initialized RX1, .code yX1_rentOf cX1_rentOf 2 (some .int), .fieldLink RX1 11 "VillageCinema$Hall" "row" "[I"] ++ wsX40 ++ wsX10)
def wsX4_fullShows_r1 : List Cond := [Cond.fieldLink RX4 12 "VillageCinema" "hall" "LVillageCinema$Hall;", Cond.fieldLink RX4 19 "VillageCinema" "run" "LVillageCinema$FilmRun;", Cond.methodLink RX4 69 yX1_films, Cond.instanceMethod yX1_films, Cond.selects RX1 yX1_films yX1_films, Cond.initialized RX1, Cond.code yX1_films cX1_films 1 (some .int), Cond.fieldLink RX1 11 "VillageCinema$Hall" "row" "[I", Cond.methodLink RX4 121 yX0_follow, Cond.instanceMethod yX0_follow, Cond.selects RX0 yX0_follow yX0_follow, Cond.initialized RX0, Cond.code yX0_follow cX0_follow 7 none, Cond.fieldLink RX0 30 "VillageCinema$FilmRun" "fullShows" "I", Cond.fieldLink RX0 21 "VillageCinema$FilmRun" "shares" "[I", Cond.fieldLink RX0 49 "VillageCinema$FilmRun" "leftAtEnd" "I", Cond.methodLink RX0 24 yX1_fact, Cond.instanceMethod yX1_fact, Cond.selects RX1 yX1_fact yX1_fact, Cond.code yX1_fact cX1_fact 3 (some .int), Cond.methodLink RX0 34 yX0_followWeek, Cond.instanceMethod yX0_followWeek, Cond.selects RX0 yX0_followWeek yX0_followWeek, Cond.code yX0_followWeek cX0_followWeek 10 (some .int)]
def wsX4_fullShows_r2 : List Cond := [Cond.fieldLink RX0 9 "VillageCinema$FilmRun" "peopleAt" "[I", Cond.fieldLink RX0 15 "VillageCinema$FilmRun" "leftBehind" "[I", Cond.fieldLink RX0 18 "VillageCinema$FilmRun" "sums" "[I", Cond.methodLink RX0 52 yX1_showAt, Cond.instanceMethod yX1_showAt, Cond.selects RX1 yX1_showAt yX1_showAt, Cond.code yX1_showAt cX1_showAt 2 (some .int), Cond.methodLink RX0 56 yX0_peopleOf, Cond.static yX0_peopleOf, Cond.code yX0_peopleOf cX0_peopleOf 4 (some .int), Cond.methodLink RX0 63 Lib.Math.min.name, Cond.static Lib.Math.min.name, Cond.initialized "java/lang/Math", Cond.code Lib.Math.min.name Lib.Math.min.code 2 (some .int), Cond.methodLink RX0 60 yX1_setting, Cond.instanceMethod yX1_setting, Cond.selects RX1 yX1_setting yX1_setting, Cond.code yX1_setting cX1_setting 2 (some .int), Cond.methodLink RX0 38 yX0_sumOfWeek, Cond.instanceMethod yX0_sumOfWeek, Cond.selects RX0 yX0_sumOfWeek yX0_sumOfWeek, Cond.code yX0_sumOfWeek cX0_sumOfWeek 3 (some .int), Cond.methodLink RX0 41 yX0_nextShare, Cond.static yX0_nextShare]
def wsX4_fullShows_r3 : List Cond := [Cond.code yX0_nextShare cX0_nextShare 3 (some .int), Cond.methodLink RX0 68 Lib.Math.max.name, Cond.static Lib.Math.max.name, Cond.code Lib.Math.max.name Lib.Math.max.code 2 (some .int), Cond.methodLink RX0 45 yX0_reckonWeek, Cond.instanceMethod yX0_reckonWeek, Cond.selects RX0 yX0_reckonWeek yX0_reckonWeek, Cond.code yX0_reckonWeek cX0_reckonWeek 7 none, Cond.methodLink RX0 71 yX0_shareOfTakings, Cond.instanceMethod yX0_shareOfTakings, Cond.selects RX0 yX0_shareOfTakings yX0_shareOfTakings, Cond.code yX0_shareOfTakings cX0_shareOfTakings 2 (some .int), Cond.methodLink RX4 211 yX0_fullShows, Cond.instanceMethod yX0_fullShows, Cond.selects RX0 yX0_fullShows yX0_fullShows, Cond.code yX0_fullShows cX0_fullShows 1 (some .int)]
def wsX4_fullShows : List Cond := .code yX4_fullShows cX4_fullShows 3 (some .int) :: ((wsX4_fullShows_r1 ++ (wsX4_fullShows_r2 ++ wsX4_fullShows_r3)) ++ wsX40 ++ wsX10 ++ wsX00)
def wsX4_count_r1 : List Cond := [Cond.fieldLink RX4 12 "VillageCinema" "hall" "LVillageCinema$Hall;", Cond.constant RX4 101 (1000000), Cond.fieldLink RX4 26 "VillageCinema" "pad" "LVillageCinema$Pad;", Cond.fieldLink RX4 33 "VillageCinema" "history" "LVillageCinema$History;", Cond.methodLink RX4 46 yX4_isWithin, Cond.static yX4_isWithin, Cond.initialized RX4, Cond.code yX4_isWithin cX4_isWithin 3 (some .boolean), Cond.methodLink RX4 128 yX1_setting, Cond.instanceMethod yX1_setting, Cond.selects RX1 yX1_setting yX1_setting, Cond.initialized RX1, Cond.code yX1_setting cX1_setting 2 (some .int), Cond.fieldLink RX1 11 "VillageCinema$Hall" "row" "[I", Cond.methodLink RX4 69 yX1_films, Cond.instanceMethod yX1_films, Cond.selects RX1 yX1_films yX1_films, Cond.code yX1_films cX1_films 1 (some .int), Cond.methodLink RX4 98 yX4_sumOfFilms, Cond.instanceMethod yX4_sumOfFilms, Cond.selects RX4 yX4_sumOfFilms yX4_sumOfFilms, Cond.code yX4_sumOfFilms cX4_sumOfFilms 4 (some .int), Cond.methodLink RX4 164 yX4_sumOfFilm, Cond.instanceMethod yX4_sumOfFilm]
def wsX4_count_r2 : List Cond := [Cond.selects RX4 yX4_sumOfFilm yX4_sumOfFilm, Cond.code yX4_sumOfFilm cX4_sumOfFilm 3 (some .int), Cond.fieldLink RX4 19 "VillageCinema" "run" "LVillageCinema$FilmRun;", Cond.methodLink RX4 121 yX0_follow, Cond.instanceMethod yX0_follow, Cond.selects RX0 yX0_follow yX0_follow, Cond.initialized RX0, Cond.code yX0_follow cX0_follow 7 none, Cond.fieldLink RX0 30 "VillageCinema$FilmRun" "fullShows" "I", Cond.fieldLink RX0 21 "VillageCinema$FilmRun" "shares" "[I", Cond.fieldLink RX0 49 "VillageCinema$FilmRun" "leftAtEnd" "I", Cond.methodLink RX0 24 yX1_fact, Cond.instanceMethod yX1_fact, Cond.selects RX1 yX1_fact yX1_fact, Cond.code yX1_fact cX1_fact 3 (some .int), Cond.methodLink RX0 34 yX0_followWeek, Cond.instanceMethod yX0_followWeek, Cond.selects RX0 yX0_followWeek yX0_followWeek, Cond.code yX0_followWeek cX0_followWeek 10 (some .int), Cond.fieldLink RX0 9 "VillageCinema$FilmRun" "peopleAt" "[I", Cond.fieldLink RX0 15 "VillageCinema$FilmRun" "leftBehind" "[I", Cond.fieldLink RX0 18 "VillageCinema$FilmRun" "sums" "[I", Cond.methodLink RX0 52 yX1_showAt, Cond.instanceMethod yX1_showAt]
def wsX4_count_r3 : List Cond := [Cond.selects RX1 yX1_showAt yX1_showAt, Cond.code yX1_showAt cX1_showAt 2 (some .int), Cond.methodLink RX0 56 yX0_peopleOf, Cond.static yX0_peopleOf, Cond.code yX0_peopleOf cX0_peopleOf 4 (some .int), Cond.methodLink RX0 63 Lib.Math.min.name, Cond.static Lib.Math.min.name, Cond.initialized "java/lang/Math", Cond.code Lib.Math.min.name Lib.Math.min.code 2 (some .int), Cond.methodLink RX0 60 yX1_setting, Cond.methodLink RX0 38 yX0_sumOfWeek, Cond.instanceMethod yX0_sumOfWeek, Cond.selects RX0 yX0_sumOfWeek yX0_sumOfWeek, Cond.code yX0_sumOfWeek cX0_sumOfWeek 3 (some .int), Cond.methodLink RX0 41 yX0_nextShare, Cond.static yX0_nextShare, Cond.code yX0_nextShare cX0_nextShare 3 (some .int), Cond.methodLink RX0 68 Lib.Math.max.name, Cond.static Lib.Math.max.name, Cond.code Lib.Math.max.name Lib.Math.max.code 2 (some .int), Cond.methodLink RX0 45 yX0_reckonWeek, Cond.instanceMethod yX0_reckonWeek, Cond.selects RX0 yX0_reckonWeek yX0_reckonWeek, Cond.code yX0_reckonWeek cX0_reckonWeek 7 none]
def wsX4_count_r4 : List Cond := [Cond.methodLink RX0 71 yX0_shareOfTakings, Cond.instanceMethod yX0_shareOfTakings, Cond.selects RX0 yX0_shareOfTakings yX0_shareOfTakings, Cond.code yX0_shareOfTakings cX0_shareOfTakings 2 (some .int), Cond.methodLink RX4 143 yX0_sum, Cond.instanceMethod yX0_sum, Cond.selects RX0 yX0_sum yX0_sum, Cond.code yX0_sum cX0_sum 4 (some .int), Cond.methodLink RX4 161 yX1_rentsOf, Cond.instanceMethod yX1_rentsOf, Cond.selects RX1 yX1_rentsOf yX1_rentsOf, Cond.code yX1_rentsOf cX1_rentsOf 5 (some .int), Cond.methodLink RX1 28 yX1_rentOf, Cond.instanceMethod yX1_rentOf, Cond.selects RX1 yX1_rentOf yX1_rentOf, Cond.code yX1_rentOf cX1_rentOf 2 (some .int), Cond.methodLink RX4 170 yX4_fullShows, Cond.instanceMethod yX4_fullShows, Cond.selects RX4 yX4_fullShows yX4_fullShows, Cond.code yX4_fullShows cX4_fullShows 3 (some .int), Cond.methodLink RX4 211 yX0_fullShows, Cond.instanceMethod yX0_fullShows, Cond.selects RX0 yX0_fullShows yX0_fullShows, Cond.code yX0_fullShows cX0_fullShows 1 (some .int)]
def wsX4_count_r5 : List Cond := [Cond.methodLink RX4 173 yX3_length, Cond.instanceMethod yX3_length, Cond.selects RX3 yX3_length yX3_length, Cond.initialized RX3, Cond.code yX3_length cX3_length 1 (some .int), Cond.fieldLink RX3 15 "VillageCinema$Pad" "length" "I", Cond.methodLink RX4 176 yX2_size, Cond.instanceMethod yX2_size, Cond.selects RX2 yX2_size yX2_size, Cond.initialized RX2, Cond.code yX2_size cX2_size 1 (some .int), Cond.fieldLink RX2 16 "VillageCinema$History" "size" "I"]
def wsX4_count : List Cond := .code yX4_count cX4_count 2 (some .int) :: ((wsX4_count_r1 ++ (wsX4_count_r2 ++ (wsX4_count_r3 ++ (wsX4_count_r4 ++ wsX4_count_r5)))) ++ wsX40 ++ wsX10 ++ wsX00 ++ wsX30 ++ wsX20)
def wsX4_leftOfFilm_r1 : List Cond := [Cond.fieldLink RX4 12 "VillageCinema" "hall" "LVillageCinema$Hall;", Cond.fieldLink RX4 19 "VillageCinema" "run" "LVillageCinema$FilmRun;", Cond.methodLink RX4 118 yX1_hasFilm, Cond.instanceMethod yX1_hasFilm, Cond.selects RX1 yX1_hasFilm yX1_hasFilm, Cond.initialized RX1, Cond.code yX1_hasFilm cX1_hasFilm 2 (some .boolean), Cond.methodLink RX1 24 yX1_films, Cond.instanceMethod yX1_films, Cond.selects RX1 yX1_films yX1_films, Cond.code yX1_films cX1_films 1 (some .int), Cond.fieldLink RX1 11 "VillageCinema$Hall" "row" "[I", Cond.methodLink RX4 121 yX0_follow, Cond.instanceMethod yX0_follow, Cond.selects RX0 yX0_follow yX0_follow, Cond.initialized RX0, Cond.code yX0_follow cX0_follow 7 none, Cond.fieldLink RX0 30 "VillageCinema$FilmRun" "fullShows" "I", Cond.fieldLink RX0 21 "VillageCinema$FilmRun" "shares" "[I", Cond.fieldLink RX0 49 "VillageCinema$FilmRun" "leftAtEnd" "I", Cond.methodLink RX0 24 yX1_fact, Cond.instanceMethod yX1_fact, Cond.selects RX1 yX1_fact yX1_fact, Cond.code yX1_fact cX1_fact 3 (some .int)]
def wsX4_leftOfFilm_r2 : List Cond := [Cond.methodLink RX0 34 yX0_followWeek, Cond.instanceMethod yX0_followWeek, Cond.selects RX0 yX0_followWeek yX0_followWeek, Cond.code yX0_followWeek cX0_followWeek 10 (some .int), Cond.fieldLink RX0 9 "VillageCinema$FilmRun" "peopleAt" "[I", Cond.fieldLink RX0 15 "VillageCinema$FilmRun" "leftBehind" "[I", Cond.fieldLink RX0 18 "VillageCinema$FilmRun" "sums" "[I", Cond.methodLink RX0 52 yX1_showAt, Cond.instanceMethod yX1_showAt, Cond.selects RX1 yX1_showAt yX1_showAt, Cond.code yX1_showAt cX1_showAt 2 (some .int), Cond.methodLink RX0 56 yX0_peopleOf, Cond.static yX0_peopleOf, Cond.code yX0_peopleOf cX0_peopleOf 4 (some .int), Cond.methodLink RX0 63 Lib.Math.min.name, Cond.static Lib.Math.min.name, Cond.initialized "java/lang/Math", Cond.code Lib.Math.min.name Lib.Math.min.code 2 (some .int), Cond.methodLink RX0 60 yX1_setting, Cond.instanceMethod yX1_setting, Cond.selects RX1 yX1_setting yX1_setting, Cond.code yX1_setting cX1_setting 2 (some .int), Cond.methodLink RX0 38 yX0_sumOfWeek, Cond.instanceMethod yX0_sumOfWeek]
def wsX4_leftOfFilm_r3 : List Cond := [Cond.selects RX0 yX0_sumOfWeek yX0_sumOfWeek, Cond.code yX0_sumOfWeek cX0_sumOfWeek 3 (some .int), Cond.methodLink RX0 41 yX0_nextShare, Cond.static yX0_nextShare, Cond.code yX0_nextShare cX0_nextShare 3 (some .int), Cond.methodLink RX0 68 Lib.Math.max.name, Cond.static Lib.Math.max.name, Cond.code Lib.Math.max.name Lib.Math.max.code 2 (some .int), Cond.methodLink RX0 45 yX0_reckonWeek, Cond.instanceMethod yX0_reckonWeek, Cond.selects RX0 yX0_reckonWeek yX0_reckonWeek, Cond.code yX0_reckonWeek cX0_reckonWeek 7 none, Cond.methodLink RX0 71 yX0_shareOfTakings, Cond.instanceMethod yX0_shareOfTakings, Cond.selects RX0 yX0_shareOfTakings yX0_shareOfTakings, Cond.code yX0_shareOfTakings cX0_shareOfTakings 2 (some .int), Cond.methodLink RX4 143 yX0_sum, Cond.instanceMethod yX0_sum, Cond.selects RX0 yX0_sum yX0_sum, Cond.code yX0_sum cX0_sum 4 (some .int)]
def wsX4_leftOfFilm : List Cond := .code yX4_leftOfFilm cX4_leftOfFilm 2 (some .int) :: ((wsX4_leftOfFilm_r1 ++ (wsX4_leftOfFilm_r2 ++ wsX4_leftOfFilm_r3)) ++ wsX40 ++ wsX10 ++ wsX00)
def wsX4_gainWith_r1 : List Cond := [Cond.fieldLink RX4 12 "VillageCinema" "hall" "LVillageCinema$Hall;", Cond.methodLink RX4 91 yX1_showAt, Cond.instanceMethod yX1_showAt, Cond.selects RX1 yX1_showAt yX1_showAt, Cond.initialized RX1, Cond.code yX1_showAt cX1_showAt 2 (some .int), Cond.fieldLink RX1 11 "VillageCinema$Hall" "row" "[I", Cond.methodLink RX4 212 yX4_leftOfFilm, Cond.instanceMethod yX4_leftOfFilm, Cond.selects RX4 yX4_leftOfFilm yX4_leftOfFilm, Cond.initialized RX4, Cond.code yX4_leftOfFilm cX4_leftOfFilm 2 (some .int), Cond.fieldLink RX4 19 "VillageCinema" "run" "LVillageCinema$FilmRun;", Cond.methodLink RX4 118 yX1_hasFilm, Cond.instanceMethod yX1_hasFilm, Cond.selects RX1 yX1_hasFilm yX1_hasFilm, Cond.code yX1_hasFilm cX1_hasFilm 2 (some .boolean), Cond.methodLink RX1 24 yX1_films, Cond.instanceMethod yX1_films, Cond.selects RX1 yX1_films yX1_films, Cond.code yX1_films cX1_films 1 (some .int), Cond.methodLink RX4 121 yX0_follow, Cond.instanceMethod yX0_follow, Cond.selects RX0 yX0_follow yX0_follow]
def wsX4_gainWith_r2 : List Cond := [Cond.initialized RX0, Cond.code yX0_follow cX0_follow 7 none, Cond.fieldLink RX0 30 "VillageCinema$FilmRun" "fullShows" "I", Cond.fieldLink RX0 21 "VillageCinema$FilmRun" "shares" "[I", Cond.fieldLink RX0 49 "VillageCinema$FilmRun" "leftAtEnd" "I", Cond.methodLink RX0 24 yX1_fact, Cond.instanceMethod yX1_fact, Cond.selects RX1 yX1_fact yX1_fact, Cond.code yX1_fact cX1_fact 3 (some .int), Cond.methodLink RX0 34 yX0_followWeek, Cond.instanceMethod yX0_followWeek, Cond.selects RX0 yX0_followWeek yX0_followWeek, Cond.code yX0_followWeek cX0_followWeek 10 (some .int), Cond.fieldLink RX0 9 "VillageCinema$FilmRun" "peopleAt" "[I", Cond.fieldLink RX0 15 "VillageCinema$FilmRun" "leftBehind" "[I", Cond.fieldLink RX0 18 "VillageCinema$FilmRun" "sums" "[I", Cond.methodLink RX0 52 yX1_showAt, Cond.methodLink RX0 56 yX0_peopleOf, Cond.static yX0_peopleOf, Cond.code yX0_peopleOf cX0_peopleOf 4 (some .int), Cond.methodLink RX0 63 Lib.Math.min.name, Cond.static Lib.Math.min.name, Cond.initialized "java/lang/Math", Cond.code Lib.Math.min.name Lib.Math.min.code 2 (some .int)]
def wsX4_gainWith_r3 : List Cond := [Cond.methodLink RX0 60 yX1_setting, Cond.instanceMethod yX1_setting, Cond.selects RX1 yX1_setting yX1_setting, Cond.code yX1_setting cX1_setting 2 (some .int), Cond.methodLink RX0 38 yX0_sumOfWeek, Cond.instanceMethod yX0_sumOfWeek, Cond.selects RX0 yX0_sumOfWeek yX0_sumOfWeek, Cond.code yX0_sumOfWeek cX0_sumOfWeek 3 (some .int), Cond.methodLink RX0 41 yX0_nextShare, Cond.static yX0_nextShare, Cond.code yX0_nextShare cX0_nextShare 3 (some .int), Cond.methodLink RX0 68 Lib.Math.max.name, Cond.static Lib.Math.max.name, Cond.code Lib.Math.max.name Lib.Math.max.code 2 (some .int), Cond.methodLink RX0 45 yX0_reckonWeek, Cond.instanceMethod yX0_reckonWeek, Cond.selects RX0 yX0_reckonWeek yX0_reckonWeek, Cond.code yX0_reckonWeek cX0_reckonWeek 7 none, Cond.methodLink RX0 71 yX0_shareOfTakings, Cond.instanceMethod yX0_shareOfTakings, Cond.selects RX0 yX0_shareOfTakings yX0_shareOfTakings, Cond.code yX0_shareOfTakings cX0_shareOfTakings 2 (some .int), Cond.methodLink RX4 143 yX0_sum, Cond.instanceMethod yX0_sum]
def wsX4_gainWith_r4 : List Cond := [Cond.selects RX0 yX0_sum yX0_sum, Cond.code yX0_sum cX0_sum 4 (some .int), Cond.methodLink RX4 84 yX1_replaceShow, Cond.instanceMethod yX1_replaceShow, Cond.selects RX1 yX1_replaceShow yX1_replaceShow, Cond.code yX1_replaceShow cX1_replaceShow 4 (some .int)]
def wsX4_gainWith : List Cond := .code yX4_gainWith cX4_gainWith 6 (some .int) :: ((wsX4_gainWith_r1 ++ (wsX4_gainWith_r2 ++ (wsX4_gainWith_r3 ++ wsX4_gainWith_r4))) ++ wsX40 ++ wsX10 ++ wsX00)
def wsX4_ifShown_r1 : List Cond := [Cond.constant RX4 101 (1000000), Cond.methodLink RX4 77 yX4_errorOfShow, Cond.instanceMethod yX4_errorOfShow, Cond.selects RX4 yX4_errorOfShow yX4_errorOfShow, Cond.initialized RX4, Cond.code yX4_errorOfShow cX4_errorOfShow 4 (some .int), Cond.fieldLink RX4 12 "VillageCinema" "hall" "LVillageCinema$Hall;", Cond.methodLink RX4 118 yX1_hasFilm, Cond.instanceMethod yX1_hasFilm, Cond.selects RX1 yX1_hasFilm yX1_hasFilm, Cond.initialized RX1, Cond.code yX1_hasFilm cX1_hasFilm 2 (some .boolean), Cond.methodLink RX1 24 yX1_films, Cond.instanceMethod yX1_films, Cond.selects RX1 yX1_films yX1_films, Cond.code yX1_films cX1_films 1 (some .int), Cond.fieldLink RX1 11 "VillageCinema$Hall" "row" "[I", Cond.methodLink RX4 87 yX4_isPlace, Cond.static yX4_isPlace, Cond.code yX4_isPlace cX4_isPlace 2 (some .boolean), Cond.methodLink RX4 65 yX4_isDay, Cond.static yX4_isDay, Cond.code yX4_isDay cX4_isDay 1 (some .boolean), Cond.methodLink RX4 46 yX4_isWithin]
def wsX4_ifShown_r2 : List Cond := [Cond.static yX4_isWithin, Cond.code yX4_isWithin cX4_isWithin 3 (some .boolean), Cond.methodLink RX4 95 yX1_canHold, Cond.instanceMethod yX1_canHold, Cond.selects RX1 yX1_canHold yX1_canHold, Cond.code yX1_canHold cX1_canHold 3 (some .boolean), Cond.methodLink RX1 28 yX1_rentOf, Cond.instanceMethod yX1_rentOf, Cond.selects RX1 yX1_rentOf yX1_rentOf, Cond.code yX1_rentOf cX1_rentOf 2 (some .int), Cond.methodLink RX1 32 yX1_hasFilm, Cond.methodLink RX1 36 yX1_fact, Cond.instanceMethod yX1_fact, Cond.selects RX1 yX1_fact yX1_fact, Cond.code yX1_fact cX1_fact 3 (some .int), Cond.methodLink RX4 81 yX4_placeOf, Cond.static yX4_placeOf, Cond.code yX4_placeOf cX4_placeOf 2 (some .int), Cond.methodLink RX4 179 yX4_gainWith, Cond.instanceMethod yX4_gainWith, Cond.selects RX4 yX4_gainWith yX4_gainWith, Cond.code yX4_gainWith cX4_gainWith 6 (some .int), Cond.methodLink RX4 91 yX1_showAt, Cond.instanceMethod yX1_showAt]
def wsX4_ifShown_r3 : List Cond := [Cond.selects RX1 yX1_showAt yX1_showAt, Cond.code yX1_showAt cX1_showAt 2 (some .int), Cond.methodLink RX4 212 yX4_leftOfFilm, Cond.instanceMethod yX4_leftOfFilm, Cond.selects RX4 yX4_leftOfFilm yX4_leftOfFilm, Cond.code yX4_leftOfFilm cX4_leftOfFilm 2 (some .int), Cond.fieldLink RX4 19 "VillageCinema" "run" "LVillageCinema$FilmRun;", Cond.methodLink RX4 121 yX0_follow, Cond.instanceMethod yX0_follow, Cond.selects RX0 yX0_follow yX0_follow, Cond.initialized RX0, Cond.code yX0_follow cX0_follow 7 none, Cond.fieldLink RX0 30 "VillageCinema$FilmRun" "fullShows" "I", Cond.fieldLink RX0 21 "VillageCinema$FilmRun" "shares" "[I", Cond.fieldLink RX0 49 "VillageCinema$FilmRun" "leftAtEnd" "I", Cond.methodLink RX0 24 yX1_fact, Cond.methodLink RX0 34 yX0_followWeek, Cond.instanceMethod yX0_followWeek, Cond.selects RX0 yX0_followWeek yX0_followWeek, Cond.code yX0_followWeek cX0_followWeek 10 (some .int), Cond.fieldLink RX0 9 "VillageCinema$FilmRun" "peopleAt" "[I", Cond.fieldLink RX0 15 "VillageCinema$FilmRun" "leftBehind" "[I", Cond.fieldLink RX0 18 "VillageCinema$FilmRun" "sums" "[I", Cond.methodLink RX0 52 yX1_showAt]
def wsX4_ifShown_r4 : List Cond := [Cond.methodLink RX0 56 yX0_peopleOf, Cond.static yX0_peopleOf, Cond.code yX0_peopleOf cX0_peopleOf 4 (some .int), Cond.methodLink RX0 63 Lib.Math.min.name, Cond.static Lib.Math.min.name, Cond.initialized "java/lang/Math", Cond.code Lib.Math.min.name Lib.Math.min.code 2 (some .int), Cond.methodLink RX0 60 yX1_setting, Cond.instanceMethod yX1_setting, Cond.selects RX1 yX1_setting yX1_setting, Cond.code yX1_setting cX1_setting 2 (some .int), Cond.methodLink RX0 38 yX0_sumOfWeek, Cond.instanceMethod yX0_sumOfWeek, Cond.selects RX0 yX0_sumOfWeek yX0_sumOfWeek, Cond.code yX0_sumOfWeek cX0_sumOfWeek 3 (some .int), Cond.methodLink RX0 41 yX0_nextShare, Cond.static yX0_nextShare, Cond.code yX0_nextShare cX0_nextShare 3 (some .int), Cond.methodLink RX0 68 Lib.Math.max.name, Cond.static Lib.Math.max.name, Cond.code Lib.Math.max.name Lib.Math.max.code 2 (some .int), Cond.methodLink RX0 45 yX0_reckonWeek, Cond.instanceMethod yX0_reckonWeek, Cond.selects RX0 yX0_reckonWeek yX0_reckonWeek]
def wsX4_ifShown_r5 : List Cond := [Cond.code yX0_reckonWeek cX0_reckonWeek 7 none, Cond.methodLink RX0 71 yX0_shareOfTakings, Cond.instanceMethod yX0_shareOfTakings, Cond.selects RX0 yX0_shareOfTakings yX0_shareOfTakings, Cond.code yX0_shareOfTakings cX0_shareOfTakings 2 (some .int), Cond.methodLink RX4 143 yX0_sum, Cond.instanceMethod yX0_sum, Cond.selects RX0 yX0_sum yX0_sum, Cond.code yX0_sum cX0_sum 4 (some .int), Cond.methodLink RX4 84 yX1_replaceShow, Cond.instanceMethod yX1_replaceShow, Cond.selects RX1 yX1_replaceShow yX1_replaceShow, Cond.code yX1_replaceShow cX1_replaceShow 4 (some .int)]
def wsX4_ifShown : List Cond := .code yX4_ifShown cX4_ifShown 5 (some .int) :: ((wsX4_ifShown_r1 ++ (wsX4_ifShown_r2 ++ (wsX4_ifShown_r3 ++ (wsX4_ifShown_r4 ++ wsX4_ifShown_r5)))) ++ wsX40 ++ wsX10 ++ wsX00)
def wsJ9_max_7cf53 : List Cond := .code yJ9_max_7cf53 cJ9_max_7cf53 2 (some .int) :: ([])
def wsJ9_min_7cf53 : List Cond := .code yJ9_min_7cf53 cJ9_min_7cf53 2 (some .int) :: ([])
def wsL_cell : List Cond := .code yL_cell cL_cell 2 (some .int) :: ([.constant RL 7 (760123163), .constant RL 8 (1518091113)])
def wsL_low : List Cond := .code yL_low cL_low 2 (some .int) :: ([.constant RL 9 (2147483647)])
def wsL_coming : List Cond := .code yL_coming cL_coming 4 (some .int) :: ([])
def wsL_leftAt : List Cond := .code yL_leftAt cL_leftAt 10 (some .int) :: ([.methodLink RL 10 yL_coming, .static yL_coming, .initialized RL, .code yL_coming cL_coming 4 (some .int)])
def wsL_film : List Cond := .code yL_film cL_film 4 (some .int) :: ([])
def wsL_people : List Cond := .code yL_people cL_people 7 (some .int) :: ([.methodLink RL 16 yL_film, .static yL_film, .initialized RL, .code yL_film cL_film 4 (some .int), .methodLink RL 20 yL_leftAt, .static yL_leftAt, .code yL_leftAt cL_leftAt 10 (some .int), .methodLink RL 10 yL_coming, .static yL_coming, .code yL_coming cL_coming 4 (some .int)])
def wsL_shows : List Cond := .code yL_shows cL_shows 6 (some .int) :: ([])
def wsL_takings : List Cond := .code yL_takings cL_takings 9 (some .int) :: ([.methodLink RL 16 yL_film, .static yL_film, .initialized RL, .code yL_film cL_film 4 (some .int), .methodLink RL 24 yL_people, .static yL_people, .code yL_people cL_people 7 (some .int), .methodLink RL 20 yL_leftAt, .static yL_leftAt, .code yL_leftAt cL_leftAt 10 (some .int), .methodLink RL 10 yL_coming, .static yL_coming, .code yL_coming cL_coming 4 (some .int)])
def wsL_share : List Cond := .code yL_share cL_share 7 (some .int) :: ([.methodLink RL 27 yL_shows, .static yL_shows, .initialized RL, .code yL_shows cL_shows 6 (some .int)])
def wsL_due : List Cond := .code yL_due cL_due 7 (some .int) :: ([.methodLink RL 27 yL_shows, .static yL_shows, .initialized RL, .code yL_shows cL_shows 6 (some .int), .methodLink RL 30 yL_takings, .static yL_takings, .code yL_takings cL_takings 9 (some .int), .methodLink RL 16 yL_film, .static yL_film, .code yL_film cL_film 4 (some .int), .methodLink RL 24 yL_people, .static yL_people, .code yL_people cL_people 7 (some .int), .methodLink RL 20 yL_leftAt, .static yL_leftAt, .code yL_leftAt cL_leftAt 10 (some .int), .methodLink RL 10 yL_coming, .static yL_coming, .code yL_coming cL_coming 4 (some .int), .methodLink RL 33 yL_share, .static yL_share, .code yL_share cL_share 7 (some .int)])
def wsL_left_r1 : List Cond := [Cond.methodLink RL 30 yL_takings, Cond.static yL_takings, Cond.initialized RL, Cond.code yL_takings cL_takings 9 (some .int), Cond.methodLink RL 16 yL_film, Cond.static yL_film, Cond.code yL_film cL_film 4 (some .int), Cond.methodLink RL 24 yL_people, Cond.static yL_people, Cond.code yL_people cL_people 7 (some .int), Cond.methodLink RL 20 yL_leftAt, Cond.static yL_leftAt, Cond.code yL_leftAt cL_leftAt 10 (some .int), Cond.methodLink RL 10 yL_coming, Cond.static yL_coming, Cond.code yL_coming cL_coming 4 (some .int), Cond.methodLink RL 37 yL_due, Cond.static yL_due, Cond.code yL_due cL_due 7 (some .int), Cond.methodLink RL 27 yL_shows, Cond.static yL_shows, Cond.code yL_shows cL_shows 6 (some .int), Cond.methodLink RL 33 yL_share, Cond.static yL_share]
def wsL_left_r2 : List Cond := [Cond.code yL_share cL_share 7 (some .int)]
def wsL_left : List Cond := .code yL_left cL_left 8 (some .int) :: ((wsL_left_r1 ++ wsL_left_r2))
def wsL_same_r1 : List Cond := [Cond.constant RL 63 (1000000), Cond.methodLink RL 40 yX4_rent, Cond.instanceMethod yX4_rent, Cond.selects RX4 yX4_rent yX4_rent, Cond.initialized RX4, Cond.code yX4_rent cX4_rent 2 (some .int), Cond.fieldLink RX4 12 "VillageCinema" "hall" "LVillageCinema$Hall;", Cond.methodLink RX4 65 yX4_isDay, Cond.static yX4_isDay, Cond.code yX4_isDay cX4_isDay 1 (some .boolean), Cond.methodLink RX4 46 yX4_isWithin, Cond.static yX4_isWithin, Cond.code yX4_isWithin cX4_isWithin 3 (some .boolean), Cond.methodLink RX4 167 yX1_rentOf, Cond.instanceMethod yX1_rentOf, Cond.selects RX1 yX1_rentOf yX1_rentOf, Cond.initialized RX1, Cond.code yX1_rentOf cX1_rentOf 2 (some .int), Cond.fieldLink RX1 11 "VillageCinema$Hall" "row" "[I", Cond.methodLink RL 16 yL_film, Cond.static yL_film, Cond.initialized RL, Cond.code yL_film cL_film 4 (some .int), Cond.methodLink RL 24 yL_people]
def wsL_same_r2 : List Cond := [Cond.static yL_people, Cond.code yL_people cL_people 7 (some .int), Cond.methodLink RL 20 yL_leftAt, Cond.static yL_leftAt, Cond.code yL_leftAt cL_leftAt 10 (some .int), Cond.methodLink RL 10 yL_coming, Cond.static yL_coming, Cond.code yL_coming cL_coming 4 (some .int), Cond.methodLink RL 46 yX4_at, Cond.instanceMethod yX4_at, Cond.selects RX4 yX4_at yX4_at, Cond.code yX4_at cX4_at 6 (some .int), Cond.fieldLink RX4 19 "VillageCinema" "run" "LVillageCinema$FilmRun;", Cond.methodLink RX4 87 yX4_isPlace, Cond.static yX4_isPlace, Cond.code yX4_isPlace cX4_isPlace 2 (some .boolean), Cond.methodLink RX4 81 yX4_placeOf, Cond.static yX4_placeOf, Cond.code yX4_placeOf cX4_placeOf 2 (some .int), Cond.methodLink RX4 91 yX1_showAt, Cond.instanceMethod yX1_showAt, Cond.selects RX1 yX1_showAt yX1_showAt, Cond.code yX1_showAt cX1_showAt 2 (some .int), Cond.methodLink RX4 118 yX1_hasFilm]
def wsL_same_r3 : List Cond := [Cond.instanceMethod yX1_hasFilm, Cond.selects RX1 yX1_hasFilm yX1_hasFilm, Cond.code yX1_hasFilm cX1_hasFilm 2 (some .boolean), Cond.methodLink RX1 24 yX1_films, Cond.instanceMethod yX1_films, Cond.selects RX1 yX1_films yX1_films, Cond.code yX1_films cX1_films 1 (some .int), Cond.methodLink RX4 121 yX0_follow, Cond.instanceMethod yX0_follow, Cond.selects RX0 yX0_follow yX0_follow, Cond.initialized RX0, Cond.code yX0_follow cX0_follow 7 none, Cond.fieldLink RX0 30 "VillageCinema$FilmRun" "fullShows" "I", Cond.fieldLink RX0 21 "VillageCinema$FilmRun" "shares" "[I", Cond.fieldLink RX0 49 "VillageCinema$FilmRun" "leftAtEnd" "I", Cond.methodLink RX0 24 yX1_fact, Cond.instanceMethod yX1_fact, Cond.selects RX1 yX1_fact yX1_fact, Cond.code yX1_fact cX1_fact 3 (some .int), Cond.methodLink RX0 34 yX0_followWeek, Cond.instanceMethod yX0_followWeek, Cond.selects RX0 yX0_followWeek yX0_followWeek, Cond.code yX0_followWeek cX0_followWeek 10 (some .int), Cond.fieldLink RX0 9 "VillageCinema$FilmRun" "peopleAt" "[I"]
def wsL_same_r4 : List Cond := [Cond.fieldLink RX0 15 "VillageCinema$FilmRun" "leftBehind" "[I", Cond.fieldLink RX0 18 "VillageCinema$FilmRun" "sums" "[I", Cond.methodLink RX0 52 yX1_showAt, Cond.methodLink RX0 56 yX0_peopleOf, Cond.static yX0_peopleOf, Cond.code yX0_peopleOf cX0_peopleOf 4 (some .int), Cond.methodLink RX0 63 Lib.Math.min.name, Cond.static Lib.Math.min.name, Cond.initialized "java/lang/Math", Cond.code Lib.Math.min.name Lib.Math.min.code 2 (some .int), Cond.methodLink RX0 60 yX1_setting, Cond.instanceMethod yX1_setting, Cond.selects RX1 yX1_setting yX1_setting, Cond.code yX1_setting cX1_setting 2 (some .int), Cond.methodLink RX0 38 yX0_sumOfWeek, Cond.instanceMethod yX0_sumOfWeek, Cond.selects RX0 yX0_sumOfWeek yX0_sumOfWeek, Cond.code yX0_sumOfWeek cX0_sumOfWeek 3 (some .int), Cond.methodLink RX0 41 yX0_nextShare, Cond.static yX0_nextShare, Cond.code yX0_nextShare cX0_nextShare 3 (some .int), Cond.methodLink RX0 68 Lib.Math.max.name, Cond.static Lib.Math.max.name, Cond.code Lib.Math.max.name Lib.Math.max.code 2 (some .int)]
def wsL_same_r5 : List Cond := [Cond.methodLink RX0 45 yX0_reckonWeek, Cond.instanceMethod yX0_reckonWeek, Cond.selects RX0 yX0_reckonWeek yX0_reckonWeek, Cond.code yX0_reckonWeek cX0_reckonWeek 7 none, Cond.methodLink RX0 71 yX0_shareOfTakings, Cond.instanceMethod yX0_shareOfTakings, Cond.selects RX0 yX0_shareOfTakings yX0_shareOfTakings, Cond.code yX0_shareOfTakings cX0_shareOfTakings 2 (some .int), Cond.methodLink RX4 125 yX0_peopleAt, Cond.instanceMethod yX0_peopleAt, Cond.selects RX0 yX0_peopleAt yX0_peopleAt, Cond.code yX0_peopleAt cX0_peopleAt 2 (some .int), Cond.methodLink RX4 128 yX1_setting, Cond.methodLink RX4 131 yX0_leftBehind, Cond.instanceMethod yX0_leftBehind, Cond.selects RX0 yX0_leftBehind yX0_leftBehind, Cond.code yX0_leftBehind cX0_leftBehind 2 (some .int), Cond.methodLink RL 50 yX4_of, Cond.instanceMethod yX4_of, Cond.selects RX4 yX4_of yX4_of, Cond.code yX4_of cX4_of 3 (some .int), Cond.methodLink RX4 134 yX1_fact, Cond.methodLink RX4 137 yX1_firstDayShown, Cond.instanceMethod yX1_firstDayShown]
def wsL_same_r6 : List Cond := [Cond.selects RX1 yX1_firstDayShown yX1_firstDayShown, Cond.code yX1_firstDayShown cX1_firstDayShown 3 (some .int), Cond.methodLink RX1 40 yX1_showAt, Cond.methodLink RX4 140 yX0_leftAtEnd, Cond.instanceMethod yX0_leftAtEnd, Cond.selects RX0 yX0_leftAtEnd yX0_leftAtEnd, Cond.code yX0_leftAtEnd cX0_leftAtEnd 1 (some .int), Cond.methodLink RX4 143 yX0_sum, Cond.instanceMethod yX0_sum, Cond.selects RX0 yX0_sum yX0_sum, Cond.code yX0_sum cX0_sum 4 (some .int), Cond.methodLink RL 30 yL_takings, Cond.static yL_takings, Cond.code yL_takings cL_takings 9 (some .int), Cond.methodLink RL 33 yL_share, Cond.static yL_share, Cond.code yL_share cL_share 7 (some .int), Cond.methodLink RL 27 yL_shows, Cond.static yL_shows, Cond.code yL_shows cL_shows 6 (some .int), Cond.methodLink RL 37 yL_due, Cond.static yL_due, Cond.code yL_due cL_due 7 (some .int), Cond.methodLink RL 54 yX4_inWeek]
def wsL_same_r7 : List Cond := [Cond.instanceMethod yX4_inWeek, Cond.selects RX4 yX4_inWeek yX4_inWeek, Cond.code yX4_inWeek cX4_inWeek 4 (some .int), Cond.methodLink RX4 146 yX4_isWeek, Cond.static yX4_isWeek, Cond.code yX4_isWeek cX4_isWeek 1 (some .boolean), Cond.methodLink RX4 149 yX0_sumOfWeek, Cond.methodLink RX4 152 yX0_shareIn, Cond.instanceMethod yX0_shareIn, Cond.selects RX0 yX0_shareIn yX0_shareIn, Cond.code yX0_shareIn cX0_shareIn 2 (some .int), Cond.methodLink RX4 155 yX0_dueAboveShare, Cond.instanceMethod yX0_dueAboveShare, Cond.selects RX0 yX0_dueAboveShare yX0_dueAboveShare, Cond.code yX0_dueAboveShare cX0_dueAboveShare 2 (some .int), Cond.methodLink RL 57 yL_low, Cond.static yL_low, Cond.code yL_low cL_low 2 (some .int), Cond.constant RL 9 (2147483647), Cond.methodLink RL 60 yX4_week, Cond.instanceMethod yX4_week, Cond.selects RX4 yX4_week yX4_week, Cond.code yX4_week cX4_week 5 (some .int), Cond.constant RX4 101 (1000000)]
def wsL_same_r8 : List Cond := [Cond.methodLink RX4 158 yX4_sumOfFilmsInWeek, Cond.instanceMethod yX4_sumOfFilmsInWeek, Cond.selects RX4 yX4_sumOfFilmsInWeek yX4_sumOfFilmsInWeek, Cond.code yX4_sumOfFilmsInWeek cX4_sumOfFilmsInWeek 5 (some .int), Cond.methodLink RX4 69 yX1_films, Cond.methodLink RX4 161 yX1_rentsOf, Cond.instanceMethod yX1_rentsOf, Cond.selects RX1 yX1_rentsOf yX1_rentsOf, Cond.code yX1_rentsOf cX1_rentsOf 5 (some .int), Cond.methodLink RX1 28 yX1_rentOf, Cond.methodLink RL 64 yX4_count, Cond.instanceMethod yX4_count, Cond.selects RX4 yX4_count yX4_count, Cond.code yX4_count cX4_count 2 (some .int), Cond.fieldLink RX4 26 "VillageCinema" "pad" "LVillageCinema$Pad;", Cond.fieldLink RX4 33 "VillageCinema" "history" "LVillageCinema$History;", Cond.methodLink RX4 98 yX4_sumOfFilms, Cond.instanceMethod yX4_sumOfFilms, Cond.selects RX4 yX4_sumOfFilms yX4_sumOfFilms, Cond.code yX4_sumOfFilms cX4_sumOfFilms 4 (some .int), Cond.methodLink RX4 164 yX4_sumOfFilm, Cond.instanceMethod yX4_sumOfFilm, Cond.selects RX4 yX4_sumOfFilm yX4_sumOfFilm, Cond.code yX4_sumOfFilm cX4_sumOfFilm 3 (some .int)]
def wsL_same_r9 : List Cond := [Cond.methodLink RX4 170 yX4_fullShows, Cond.instanceMethod yX4_fullShows, Cond.selects RX4 yX4_fullShows yX4_fullShows, Cond.code yX4_fullShows cX4_fullShows 3 (some .int), Cond.methodLink RX4 211 yX0_fullShows, Cond.instanceMethod yX0_fullShows, Cond.selects RX0 yX0_fullShows yX0_fullShows, Cond.code yX0_fullShows cX0_fullShows 1 (some .int), Cond.methodLink RX4 173 yX3_length, Cond.instanceMethod yX3_length, Cond.selects RX3 yX3_length yX3_length, Cond.initialized RX3, Cond.code yX3_length cX3_length 1 (some .int), Cond.fieldLink RX3 15 "VillageCinema$Pad" "length" "I", Cond.methodLink RX4 176 yX2_size, Cond.instanceMethod yX2_size, Cond.selects RX2 yX2_size yX2_size, Cond.initialized RX2, Cond.code yX2_size cX2_size 1 (some .int), Cond.fieldLink RX2 16 "VillageCinema$History" "size" "I", Cond.methodLink RL 67 yL_left, Cond.static yL_left, Cond.code yL_left cL_left 8 (some .int)]
def wsL_same : List Cond := .code yL_same cL_same 22 (some .boolean) :: ((wsL_same_r1 ++ (wsL_same_r2 ++ (wsL_same_r3 ++ (wsL_same_r4 ++ (wsL_same_r5 ++ (wsL_same_r6 ++ (wsL_same_r7 ++ (wsL_same_r8 ++ wsL_same_r9)))))))) ++ wsX40 ++ wsX10 ++ wsX00 ++ wsX30 ++ wsX20)
def wsL_law_r1 : List Cond := [Cond.classLink RL 41 RX4, Cond.instantiable RX4 6, Cond.initialized RX4, Cond.arrayClass .int, Cond.constant RL 63 (1000000), Cond.methodLink RL 71 yX4_init, Cond.instanceMethod yX4_init, Cond.code yX4_init cX4_init 1 none, Cond.methodLink RX4 3 objectInit, Cond.instanceMethod objectInit, Cond.code objectInit ⟨#[0xb1]⟩ 1 none, Cond.classLink RX4 9 RX1, Cond.instantiable RX1 1, Cond.initialized RX1, Cond.fieldLink RX4 12 "VillageCinema" "hall" "LVillageCinema$Hall;", Cond.classLink RX4 16 RX0, Cond.instantiable RX0 6, Cond.initialized RX0, Cond.fieldLink RX4 19 "VillageCinema" "run" "LVillageCinema$FilmRun;", Cond.classLink RX4 23 RX3, Cond.instantiable RX3 2, Cond.initialized RX3, Cond.fieldLink RX4 26 "VillageCinema" "pad" "LVillageCinema$Pad;", Cond.classLink RX4 30 RX2]
def wsL_law_r2 : List Cond := [Cond.instantiable RX2 3, Cond.initialized RX2, Cond.fieldLink RX4 33 "VillageCinema" "history" "LVillageCinema$History;", Cond.classLink RX4 37 "[[I", Cond.fieldLink RX4 39 "VillageCinema" "slots" "[[I", Cond.arrayClass .boolean, Cond.fieldLink RX4 42 "VillageCinema" "saved" "[Z", Cond.methodLink RX4 11 yX1_init, Cond.instanceMethod yX1_init, Cond.code yX1_init cX1_init 2 none, Cond.methodLink RX1 5 objectInit, Cond.fieldLink RX1 11 "VillageCinema$Hall" "row" "[I", Cond.methodLink RX1 18 arraycopyName, Cond.native arraycopyName, Cond.static arraycopyName, Cond.initialized "java/lang/System", Cond.instanceMethod yX0_init, Cond.code yX0_init cX0_init 1 none, Cond.methodLink RX0 3 objectInit, Cond.fieldLink RX0 9 "VillageCinema$FilmRun" "peopleAt" "[I", Cond.fieldLink RX0 15 "VillageCinema$FilmRun" "leftBehind" "[I", Cond.fieldLink RX0 18 "VillageCinema$FilmRun" "sums" "[I", Cond.fieldLink RX0 21 "VillageCinema$FilmRun" "shares" "[I", Cond.instanceMethod yX3_init]
def wsL_law_r3 : List Cond := [Cond.code yX3_init cX3_init 1 none, Cond.methodLink RX3 3 objectInit, Cond.arrayClass .char, Cond.fieldLink RX3 11 "VillageCinema$Pad" "text" "[C", Cond.instanceMethod yX2_init, Cond.code yX2_init cX2_init 1 none, Cond.methodLink RX2 1 objectInit, Cond.classLink RX2 11 "[[I", Cond.fieldLink RX2 13 "VillageCinema$History" "states" "[[I", Cond.methodLink RL 72 yL_cell, Cond.static yL_cell, Cond.initialized RL, Cond.code yL_cell cL_cell 2 (some .int), Cond.constant RL 7 (760123163), Cond.constant RL 8 (1518091113), Cond.methodLink RL 57 yL_low, Cond.static yL_low, Cond.code yL_low cL_low 2 (some .int), Cond.constant RL 9 (2147483647), Cond.methodLink RL 76 yX4_film, Cond.instanceMethod yX4_film, Cond.selects RX4 yX4_film yX4_film, Cond.code yX4_film cX4_film 6 (some .int), Cond.methodLink RX4 46 yX4_isWithin]
def wsL_law_r4 : List Cond := [Cond.static yX4_isWithin, Cond.code yX4_isWithin cX4_isWithin 3 (some .boolean), Cond.methodLink RX4 65 yX4_isDay, Cond.static yX4_isDay, Cond.code yX4_isDay cX4_isDay 1 (some .boolean), Cond.methodLink RX4 69 yX1_films, Cond.instanceMethod yX1_films, Cond.selects RX1 yX1_films yX1_films, Cond.code yX1_films cX1_films 1 (some .int), Cond.methodLink RX4 57 yX2_record, Cond.instanceMethod yX2_record, Cond.selects RX2 yX2_record yX2_record, Cond.code yX2_record cX2_record 2 none, Cond.fieldLink RX2 20 "VillageCinema$History" "oldest" "I", Cond.fieldLink RX2 16 "VillageCinema$History" "size" "I", Cond.methodLink RX2 23 yX1_copyTo, Cond.instanceMethod yX1_copyTo, Cond.selects RX1 yX1_copyTo yX1_copyTo, Cond.code yX1_copyTo cX1_copyTo 2 none, Cond.methodLink RX4 73 yX1_addFilm, Cond.instanceMethod yX1_addFilm, Cond.selects RX1 yX1_addFilm yX1_addFilm, Cond.code yX1_addFilm cX1_addFilm 8 (some .int), Cond.methodLink RX1 24 yX1_films]
def wsL_law_r5 : List Cond := [Cond.methodLink RL 16 yL_film, Cond.static yL_film, Cond.code yL_film cL_film 4 (some .int), Cond.methodLink RL 67 yL_left, Cond.static yL_left, Cond.code yL_left cL_left 8 (some .int), Cond.methodLink RL 30 yL_takings, Cond.static yL_takings, Cond.code yL_takings cL_takings 9 (some .int), Cond.methodLink RL 24 yL_people, Cond.static yL_people, Cond.code yL_people cL_people 7 (some .int), Cond.methodLink RL 20 yL_leftAt, Cond.static yL_leftAt, Cond.code yL_leftAt cL_leftAt 10 (some .int), Cond.methodLink RL 10 yL_coming, Cond.static yL_coming, Cond.code yL_coming cL_coming 4 (some .int), Cond.methodLink RL 37 yL_due, Cond.static yL_due, Cond.code yL_due cL_due 7 (some .int), Cond.methodLink RL 27 yL_shows, Cond.static yL_shows, Cond.code yL_shows cL_shows 6 (some .int)]
def wsL_law_r6 : List Cond := [Cond.methodLink RL 33 yL_share, Cond.static yL_share, Cond.code yL_share cL_share 7 (some .int), Cond.methodLink RL 79 yX4_ifShown, Cond.instanceMethod yX4_ifShown, Cond.selects RX4 yX4_ifShown yX4_ifShown, Cond.code yX4_ifShown cX4_ifShown 5 (some .int), Cond.constant RX4 101 (1000000), Cond.methodLink RX4 77 yX4_errorOfShow, Cond.instanceMethod yX4_errorOfShow, Cond.selects RX4 yX4_errorOfShow yX4_errorOfShow, Cond.code yX4_errorOfShow cX4_errorOfShow 4 (some .int), Cond.methodLink RX4 118 yX1_hasFilm, Cond.instanceMethod yX1_hasFilm, Cond.selects RX1 yX1_hasFilm yX1_hasFilm, Cond.code yX1_hasFilm cX1_hasFilm 2 (some .boolean), Cond.methodLink RX4 87 yX4_isPlace, Cond.static yX4_isPlace, Cond.code yX4_isPlace cX4_isPlace 2 (some .boolean), Cond.methodLink RX4 95 yX1_canHold, Cond.instanceMethod yX1_canHold, Cond.selects RX1 yX1_canHold yX1_canHold, Cond.code yX1_canHold cX1_canHold 3 (some .boolean), Cond.methodLink RX1 28 yX1_rentOf]
def wsL_law_r7 : List Cond := [Cond.instanceMethod yX1_rentOf, Cond.selects RX1 yX1_rentOf yX1_rentOf, Cond.code yX1_rentOf cX1_rentOf 2 (some .int), Cond.methodLink RX1 32 yX1_hasFilm, Cond.methodLink RX1 36 yX1_fact, Cond.instanceMethod yX1_fact, Cond.selects RX1 yX1_fact yX1_fact, Cond.code yX1_fact cX1_fact 3 (some .int), Cond.methodLink RX4 81 yX4_placeOf, Cond.static yX4_placeOf, Cond.code yX4_placeOf cX4_placeOf 2 (some .int), Cond.methodLink RX4 179 yX4_gainWith, Cond.instanceMethod yX4_gainWith, Cond.selects RX4 yX4_gainWith yX4_gainWith, Cond.code yX4_gainWith cX4_gainWith 6 (some .int), Cond.methodLink RX4 91 yX1_showAt, Cond.instanceMethod yX1_showAt, Cond.selects RX1 yX1_showAt yX1_showAt, Cond.code yX1_showAt cX1_showAt 2 (some .int), Cond.methodLink RX4 212 yX4_leftOfFilm, Cond.instanceMethod yX4_leftOfFilm, Cond.selects RX4 yX4_leftOfFilm yX4_leftOfFilm, Cond.code yX4_leftOfFilm cX4_leftOfFilm 2 (some .int), Cond.methodLink RX4 121 yX0_follow]
def wsL_law_r8 : List Cond := [Cond.instanceMethod yX0_follow, Cond.selects RX0 yX0_follow yX0_follow, Cond.code yX0_follow cX0_follow 7 none, Cond.fieldLink RX0 30 "VillageCinema$FilmRun" "fullShows" "I", Cond.fieldLink RX0 49 "VillageCinema$FilmRun" "leftAtEnd" "I", Cond.methodLink RX0 24 yX1_fact, Cond.methodLink RX0 34 yX0_followWeek, Cond.instanceMethod yX0_followWeek, Cond.selects RX0 yX0_followWeek yX0_followWeek, Cond.code yX0_followWeek cX0_followWeek 10 (some .int), Cond.methodLink RX0 52 yX1_showAt, Cond.methodLink RX0 56 yX0_peopleOf, Cond.static yX0_peopleOf, Cond.code yX0_peopleOf cX0_peopleOf 4 (some .int), Cond.methodLink RX0 63 Lib.Math.min.name, Cond.static Lib.Math.min.name, Cond.initialized "java/lang/Math", Cond.code Lib.Math.min.name Lib.Math.min.code 2 (some .int), Cond.methodLink RX0 60 yX1_setting, Cond.instanceMethod yX1_setting, Cond.selects RX1 yX1_setting yX1_setting, Cond.code yX1_setting cX1_setting 2 (some .int), Cond.methodLink RX0 38 yX0_sumOfWeek, Cond.instanceMethod yX0_sumOfWeek]
def wsL_law_r9 : List Cond := [Cond.selects RX0 yX0_sumOfWeek yX0_sumOfWeek, Cond.code yX0_sumOfWeek cX0_sumOfWeek 3 (some .int), Cond.methodLink RX0 41 yX0_nextShare, Cond.static yX0_nextShare, Cond.code yX0_nextShare cX0_nextShare 3 (some .int), Cond.methodLink RX0 68 Lib.Math.max.name, Cond.static Lib.Math.max.name, Cond.code Lib.Math.max.name Lib.Math.max.code 2 (some .int), Cond.methodLink RX0 45 yX0_reckonWeek, Cond.instanceMethod yX0_reckonWeek, Cond.selects RX0 yX0_reckonWeek yX0_reckonWeek, Cond.code yX0_reckonWeek cX0_reckonWeek 7 none, Cond.methodLink RX0 71 yX0_shareOfTakings, Cond.instanceMethod yX0_shareOfTakings, Cond.selects RX0 yX0_shareOfTakings yX0_shareOfTakings, Cond.code yX0_shareOfTakings cX0_shareOfTakings 2 (some .int), Cond.methodLink RX4 143 yX0_sum, Cond.instanceMethod yX0_sum, Cond.selects RX0 yX0_sum yX0_sum, Cond.code yX0_sum cX0_sum 4 (some .int), Cond.methodLink RX4 84 yX1_replaceShow, Cond.instanceMethod yX1_replaceShow, Cond.selects RX1 yX1_replaceShow yX1_replaceShow, Cond.code yX1_replaceShow cX1_replaceShow 4 (some .int)]
def wsL_law_r10 : List Cond := [Cond.methodLink RL 82 yX4_show, Cond.instanceMethod yX4_show, Cond.selects RX4 yX4_show yX4_show, Cond.code yX4_show cX4_show 5 (some .int), Cond.methodLink RL 85 yX4_drop, Cond.instanceMethod yX4_drop, Cond.selects RX4 yX4_drop yX4_drop, Cond.code yX4_drop cX4_drop 4 (some .int), Cond.methodLink RL 88 yX4_exchange, Cond.instanceMethod yX4_exchange, Cond.selects RX4 yX4_exchange yX4_exchange, Cond.code yX4_exchange cX4_exchange 9 (some .int), Cond.methodLink RX4 98 yX4_sumOfFilms, Cond.instanceMethod yX4_sumOfFilms, Cond.selects RX4 yX4_sumOfFilms yX4_sumOfFilms, Cond.code yX4_sumOfFilms cX4_sumOfFilms 4 (some .int), Cond.methodLink RX4 164 yX4_sumOfFilm, Cond.instanceMethod yX4_sumOfFilm, Cond.selects RX4 yX4_sumOfFilm yX4_sumOfFilm, Cond.code yX4_sumOfFilm cX4_sumOfFilm 3 (some .int), Cond.methodLink RL 92 yX4_let, Cond.instanceMethod yX4_let, Cond.selects RX4 yX4_let yX4_let, Cond.code yX4_let cX4_let 3 (some .int)]
def wsL_law_r11 : List Cond := [Cond.methodLink RX4 102 yX1_changeRent, Cond.instanceMethod yX1_changeRent, Cond.selects RX1 yX1_changeRent yX1_changeRent, Cond.code yX1_changeRent cX1_changeRent 3 none, Cond.methodLink RX4 106 yX4_dropShowsOfDay, Cond.instanceMethod yX4_dropShowsOfDay, Cond.selects RX4 yX4_dropShowsOfDay yX4_dropShowsOfDay, Cond.code yX4_dropShowsOfDay cX4_dropShowsOfDay 4 (some .int), Cond.methodLink RL 95 yX4_set, Cond.instanceMethod yX4_set, Cond.selects RX4 yX4_set yX4_set, Cond.code yX4_set cX4_set 3 (some .int), Cond.fieldLink RX4 50 "VillageCinema" "LEAST_SETTING" "[I", Cond.fieldLink RX4 54 "VillageCinema" "MOST_SETTING" "[I", Cond.methodLink RX4 61 yX1_changeSetting, Cond.instanceMethod yX1_changeSetting, Cond.selects RX1 yX1_changeSetting yX1_changeSetting, Cond.code yX1_changeSetting cX1_changeSetting 4 (some .int), Cond.methodLink RL 98 yL_same, Cond.static yL_same, Cond.code yL_same cL_same 22 (some .boolean), Cond.methodLink RL 40 yX4_rent, Cond.instanceMethod yX4_rent, Cond.selects RX4 yX4_rent yX4_rent]
def wsL_law_r12 : List Cond := [Cond.code yX4_rent cX4_rent 2 (some .int), Cond.methodLink RX4 167 yX1_rentOf, Cond.methodLink RL 46 yX4_at, Cond.instanceMethod yX4_at, Cond.selects RX4 yX4_at yX4_at, Cond.code yX4_at cX4_at 6 (some .int), Cond.methodLink RX4 125 yX0_peopleAt, Cond.instanceMethod yX0_peopleAt, Cond.selects RX0 yX0_peopleAt yX0_peopleAt, Cond.code yX0_peopleAt cX0_peopleAt 2 (some .int), Cond.methodLink RX4 128 yX1_setting, Cond.methodLink RX4 131 yX0_leftBehind, Cond.instanceMethod yX0_leftBehind, Cond.selects RX0 yX0_leftBehind yX0_leftBehind, Cond.code yX0_leftBehind cX0_leftBehind 2 (some .int), Cond.methodLink RL 50 yX4_of, Cond.instanceMethod yX4_of, Cond.selects RX4 yX4_of yX4_of, Cond.code yX4_of cX4_of 3 (some .int), Cond.methodLink RX4 134 yX1_fact, Cond.methodLink RX4 137 yX1_firstDayShown, Cond.instanceMethod yX1_firstDayShown, Cond.selects RX1 yX1_firstDayShown yX1_firstDayShown, Cond.code yX1_firstDayShown cX1_firstDayShown 3 (some .int)]
def wsL_law_r13 : List Cond := [Cond.methodLink RX1 40 yX1_showAt, Cond.methodLink RX4 140 yX0_leftAtEnd, Cond.instanceMethod yX0_leftAtEnd, Cond.selects RX0 yX0_leftAtEnd yX0_leftAtEnd, Cond.code yX0_leftAtEnd cX0_leftAtEnd 1 (some .int), Cond.methodLink RL 54 yX4_inWeek, Cond.instanceMethod yX4_inWeek, Cond.selects RX4 yX4_inWeek yX4_inWeek, Cond.code yX4_inWeek cX4_inWeek 4 (some .int), Cond.methodLink RX4 146 yX4_isWeek, Cond.static yX4_isWeek, Cond.code yX4_isWeek cX4_isWeek 1 (some .boolean), Cond.methodLink RX4 149 yX0_sumOfWeek, Cond.methodLink RX4 152 yX0_shareIn, Cond.instanceMethod yX0_shareIn, Cond.selects RX0 yX0_shareIn yX0_shareIn, Cond.code yX0_shareIn cX0_shareIn 2 (some .int), Cond.methodLink RX4 155 yX0_dueAboveShare, Cond.instanceMethod yX0_dueAboveShare, Cond.selects RX0 yX0_dueAboveShare yX0_dueAboveShare, Cond.code yX0_dueAboveShare cX0_dueAboveShare 2 (some .int), Cond.methodLink RL 60 yX4_week, Cond.instanceMethod yX4_week, Cond.selects RX4 yX4_week yX4_week]
def wsL_law_r14 : List Cond := [Cond.code yX4_week cX4_week 5 (some .int), Cond.methodLink RX4 158 yX4_sumOfFilmsInWeek, Cond.instanceMethod yX4_sumOfFilmsInWeek, Cond.selects RX4 yX4_sumOfFilmsInWeek yX4_sumOfFilmsInWeek, Cond.code yX4_sumOfFilmsInWeek cX4_sumOfFilmsInWeek 5 (some .int), Cond.methodLink RX4 161 yX1_rentsOf, Cond.instanceMethod yX1_rentsOf, Cond.selects RX1 yX1_rentsOf yX1_rentsOf, Cond.code yX1_rentsOf cX1_rentsOf 5 (some .int), Cond.methodLink RL 64 yX4_count, Cond.instanceMethod yX4_count, Cond.selects RX4 yX4_count yX4_count, Cond.code yX4_count cX4_count 2 (some .int), Cond.methodLink RX4 170 yX4_fullShows, Cond.instanceMethod yX4_fullShows, Cond.selects RX4 yX4_fullShows yX4_fullShows, Cond.code yX4_fullShows cX4_fullShows 3 (some .int), Cond.methodLink RX4 211 yX0_fullShows, Cond.instanceMethod yX0_fullShows, Cond.selects RX0 yX0_fullShows yX0_fullShows, Cond.code yX0_fullShows cX0_fullShows 1 (some .int), Cond.methodLink RX4 173 yX3_length, Cond.instanceMethod yX3_length, Cond.selects RX3 yX3_length yX3_length]
def wsL_law_r15 : List Cond := [Cond.code yX3_length cX3_length 1 (some .int), Cond.fieldLink RX3 15 "VillageCinema$Pad" "length" "I", Cond.methodLink RX4 176 yX2_size, Cond.instanceMethod yX2_size, Cond.selects RX2 yX2_size yX2_size, Cond.code yX2_size cX2_size 1 (some .int)]
def wsL_law : List Cond := (wsL_law_r1 ++ (wsL_law_r2 ++ (wsL_law_r3 ++ (wsL_law_r4 ++ (wsL_law_r5 ++ (wsL_law_r6 ++ (wsL_law_r7 ++ (wsL_law_r8 ++ (wsL_law_r9 ++ (wsL_law_r10 ++ (wsL_law_r11 ++ (wsL_law_r12 ++ (wsL_law_r13 ++ (wsL_law_r14 ++ wsL_law_r15)))))))))))))) ++ wsX40 ++ wsX10 ++ wsX00 ++ wsX30 ++ wsX20 ++ ([] : List Cond)
theorem inJ9 : ∀ w ∈ wsJ90, w ∈ lw_tbl := by decide +kernel
theorem inJ10 : ∀ w ∈ wsJ100, w ∈ lw_tbl := by decide +kernel
theorem dX0_init_0 : decode cX0_init 0 = .ok (.aload_n 0, 1) := by decide +kernel
theorem dX0_init_1 : decode cX0_init 1 = .ok (.invokespecial 3, 3) := by decide +kernel
theorem dX0_init_4 : decode cX0_init 4 = .ok (.aload_n 0, 1) := by decide +kernel
theorem dX0_init_5 : decode cX0_init 5 = .ok (.bipush 70, 2) := by decide +kernel
theorem dX0_init_7 : decode cX0_init 7 = .ok (.newarray .int, 2) := by decide +kernel
theorem dX0_init_9 : decode cX0_init 9 = .ok (.putfield 9, 3) := by decide +kernel
theorem dX0_init_12 : decode cX0_init 12 = .ok (.aload_n 0, 1) := by decide +kernel
theorem dX0_init_13 : decode cX0_init 13 = .ok (.bipush 70, 2) := by decide +kernel
theorem dX0_init_15 : decode cX0_init 15 = .ok (.newarray .int, 2) := by decide +kernel
theorem dX0_init_17 : decode cX0_init 17 = .ok (.putfield 15, 3) := by decide +kernel
theorem dX0_init_20 : decode cX0_init 20 = .ok (.aload_n 0, 1) := by decide +kernel
theorem dX0_init_21 : decode cX0_init 21 = .ok (.bipush 25, 2) := by decide +kernel
theorem dX0_init_23 : decode cX0_init 23 = .ok (.newarray .int, 2) := by decide +kernel
theorem dX0_init_25 : decode cX0_init 25 = .ok (.putfield 18, 3) := by decide +kernel
theorem dX0_init_28 : decode cX0_init 28 = .ok (.aload_n 0, 1) := by decide +kernel
theorem dX0_init_29 : decode cX0_init 29 = .ok (.iconst 5, 1) := by decide +kernel
theorem dX0_init_30 : decode cX0_init 30 = .ok (.newarray .int, 2) := by decide +kernel
theorem dX0_init_32 : decode cX0_init 32 = .ok (.putfield 21, 3) := by decide +kernel
theorem dX0_init_35 : decode cX0_init 35 = .ok (.return_, 1) := by decide +kernel
set_option maxRecDepth 20000 in
theorem ggX0_follow_X1_fact : GoodIn wsX0_follow wsX1_fact := goodIn_r _ [8, 9, 57] (by decide +kernel) (by decide +kernel)
set_option maxRecDepth 20000 in
theorem gX0_follow_X1_fact : GoodIn wsX0_follow (wsV RX0 24 RX1 yX1_fact wsX1_fact) := goodIn_app (goodIn_of _ (by decide +kernel)) ggX0_follow_X1_fact
set_option maxRecDepth 20000 in
theorem ggX0_follow_X0_followWeek : GoodIn wsX0_follow wsX0_followWeek := goodIn_r _ [14, 15, 16, 1, 17, 18, 19, 20, 7, 21, 9, 22, 23, 13, 24, 25, 26, 27, 28, 29, 30, 31, 32, 51, 52, 53, 54, 55, 56, 57] (by decide +kernel) (by decide +kernel)
set_option maxRecDepth 20000 in
theorem gX0_follow_X0_followWeek : GoodIn wsX0_follow (wsV RX0 34 RX0 yX0_followWeek wsX0_followWeek) := goodIn_app (goodIn_of _ (by decide +kernel)) ggX0_follow_X0_followWeek
set_option maxRecDepth 20000 in
theorem ggX0_follow_X0_sumOfWeek : GoodIn wsX0_follow wsX0_sumOfWeek := goodIn_r _ [36, 17, 51, 52, 53, 54, 55, 56] (by decide +kernel) (by decide +kernel)
set_option maxRecDepth 20000 in
theorem gX0_follow_X0_sumOfWeek : GoodIn wsX0_follow (wsV RX0 38 RX0 yX0_sumOfWeek wsX0_sumOfWeek) := goodIn_app (goodIn_of _ (by decide +kernel)) ggX0_follow_X0_sumOfWeek
set_option maxRecDepth 20000 in
theorem ggX0_follow_X0_nextShare : GoodIn wsX0_follow wsX0_nextShare := goodIn_r _ [39, 40, 41, 27, 42] (by decide +kernel) (by decide +kernel)
set_option maxRecDepth 20000 in
theorem gX0_follow_X0_nextShare : GoodIn wsX0_follow (va_wsS RX0 41 yX0_nextShare wsX0_nextShare) := goodIn_app (goodIn_of _ (by decide +kernel)) ggX0_follow_X0_nextShare
set_option maxRecDepth 20000 in
theorem ggX0_follow_X0_reckonWeek : GoodIn wsX0_follow wsX0_reckonWeek := goodIn_r _ [46, 17, 40, 41, 27, 42, 33, 34, 35, 13, 36, 29, 30, 31, 7, 32, 9, 47, 48, 49, 50, 2, 51, 52, 53, 54, 55, 56, 57] (by decide +kernel) (by decide +kernel)
set_option maxRecDepth 20000 in
theorem gX0_follow_X0_reckonWeek : GoodIn wsX0_follow (wsV RX0 45 RX0 yX0_reckonWeek wsX0_reckonWeek) := goodIn_app (goodIn_of _ (by decide +kernel)) ggX0_follow_X0_reckonWeek
theorem dX0_follow_0 : decode cX0_follow 0 = .ok (.aload_n 1, 1) := by decide +kernel
theorem dX0_follow_1 : decode cX0_follow 1 = .ok (.iload_n 2, 1) := by decide +kernel
theorem dX0_follow_2 : decode cX0_follow 2 = .ok (.iconst 1, 1) := by decide +kernel
theorem dX0_follow_3 : decode cX0_follow 3 = .ok (.invokevirtual 24, 3) := by decide +kernel
theorem dX0_follow_6 : decode cX0_follow 6 = .ok (.istore_n 3, 1) := by decide +kernel
theorem dX0_follow_7 : decode cX0_follow 7 = .ok (.aload_n 1, 1) := by decide +kernel
theorem dX0_follow_8 : decode cX0_follow 8 = .ok (.iload_n 2, 1) := by decide +kernel
theorem dX0_follow_9 : decode cX0_follow 9 = .ok (.iconst 4, 1) := by decide +kernel
theorem dX0_follow_10 : decode cX0_follow 10 = .ok (.invokevirtual 24, 3) := by decide +kernel
theorem dX0_follow_13 : decode cX0_follow 13 = .ok (.bipush 7, 2) := by decide +kernel
theorem dX0_follow_15 : decode cX0_follow 15 = .ok (.idiv, 1) := by decide +kernel
theorem dX0_follow_16 : decode cX0_follow 16 = .ok (.istore 4, 2) := by decide +kernel
theorem dX0_follow_18 : decode cX0_follow 18 = .ok (.bipush (-6), 2) := by decide +kernel
theorem dX0_follow_20 : decode cX0_follow 20 = .ok (.istore 5, 2) := by decide +kernel
theorem dX0_follow_22 : decode cX0_follow 22 = .ok (.aload_n 0, 1) := by decide +kernel
theorem dX0_follow_23 : decode cX0_follow 23 = .ok (.iconst 0, 1) := by decide +kernel
theorem dX0_follow_24 : decode cX0_follow 24 = .ok (.putfield 30, 3) := by decide +kernel
theorem dX0_follow_27 : decode cX0_follow 27 = .ok (.iconst 0, 1) := by decide +kernel
theorem dX0_follow_28 : decode cX0_follow 28 = .ok (.istore 6, 2) := by decide +kernel
theorem dX0_follow_30 : decode cX0_follow 30 = .ok (.iload 6, 2) := by decide +kernel
theorem dX0_follow_32 : decode cX0_follow 32 = .ok (.iconst 5, 1) := by decide +kernel
theorem dX0_follow_33 : decode cX0_follow 33 = .ok (.if_icmp .ge 82, 3) := by decide +kernel
theorem dX0_follow_36 : decode cX0_follow 36 = .ok (.iload 6, 2) := by decide +kernel
theorem dX0_follow_38 : decode cX0_follow 38 = .ok (.iload 4, 2) := by decide +kernel
theorem dX0_follow_40 : decode cX0_follow 40 = .ok (.if_icmp .le 9, 3) := by decide +kernel
theorem dX0_follow_43 : decode cX0_follow 43 = .ok (.iload_n 3, 1) := by decide +kernel
theorem dX0_follow_44 : decode cX0_follow 44 = .ok (.iload_n 3, 1) := by decide +kernel
theorem dX0_follow_45 : decode cX0_follow 45 = .ok (.iconst 4, 1) := by decide +kernel
theorem dX0_follow_46 : decode cX0_follow 46 = .ok (.idiv, 1) := by decide +kernel
theorem dX0_follow_47 : decode cX0_follow 47 = .ok (.isub, 1) := by decide +kernel
theorem dX0_follow_48 : decode cX0_follow 48 = .ok (.istore_n 3, 1) := by decide +kernel
theorem dX0_follow_49 : decode cX0_follow 49 = .ok (.aload_n 0, 1) := by decide +kernel
theorem dX0_follow_50 : decode cX0_follow 50 = .ok (.aload_n 1, 1) := by decide +kernel
theorem dX0_follow_51 : decode cX0_follow 51 = .ok (.iload_n 2, 1) := by decide +kernel
theorem dX0_follow_52 : decode cX0_follow 52 = .ok (.iload 6, 2) := by decide +kernel
theorem dX0_follow_54 : decode cX0_follow 54 = .ok (.iload_n 3, 1) := by decide +kernel
theorem dX0_follow_55 : decode cX0_follow 55 = .ok (.invokevirtual 34, 3) := by decide +kernel
theorem dX0_follow_58 : decode cX0_follow 58 = .ok (.istore_n 3, 1) := by decide +kernel
theorem dX0_follow_59 : decode cX0_follow 59 = .ok (.iload 5, 2) := by decide +kernel
theorem dX0_follow_61 : decode cX0_follow 61 = .ok (.aload_n 1, 1) := by decide +kernel
theorem dX0_follow_62 : decode cX0_follow 62 = .ok (.iload_n 2, 1) := by decide +kernel
theorem dX0_follow_63 : decode cX0_follow 63 = .ok (.iconst 3, 1) := by decide +kernel
theorem dX0_follow_64 : decode cX0_follow 64 = .ok (.invokevirtual 24, 3) := by decide +kernel
theorem dX0_follow_67 : decode cX0_follow 67 = .ok (.aload_n 0, 1) := by decide +kernel
theorem dX0_follow_68 : decode cX0_follow 68 = .ok (.iload 6, 2) := by decide +kernel
theorem dX0_follow_70 : decode cX0_follow 70 = .ok (.iconst 0, 1) := by decide +kernel
theorem dX0_follow_71 : decode cX0_follow 71 = .ok (.invokevirtual 38, 3) := by decide +kernel
theorem dX0_follow_74 : decode cX0_follow 74 = .ok (.ifCond .le 7, 3) := by decide +kernel
theorem dX0_follow_77 : decode cX0_follow 77 = .ok (.iconst 1, 1) := by decide +kernel
theorem dX0_follow_78 : decode cX0_follow 78 = .ok (.goto 4, 3) := by decide +kernel
theorem dX0_follow_81 : decode cX0_follow 81 = .ok (.iconst 0, 1) := by decide +kernel
theorem dX0_follow_82 : decode cX0_follow 82 = .ok (.invokestatic 41, 3) := by decide +kernel
theorem dX0_follow_85 : decode cX0_follow 85 = .ok (.istore 5, 2) := by decide +kernel
theorem dX0_follow_87 : decode cX0_follow 87 = .ok (.aload_n 0, 1) := by decide +kernel
theorem dX0_follow_88 : decode cX0_follow 88 = .ok (.getfield 21, 3) := by decide +kernel
theorem dX0_follow_91 : decode cX0_follow 91 = .ok (.iload 6, 2) := by decide +kernel
theorem dX0_follow_93 : decode cX0_follow 93 = .ok (.iload 5, 2) := by decide +kernel
theorem dX0_follow_95 : decode cX0_follow 95 = .ok (.iastore, 1) := by decide +kernel
theorem dX0_follow_96 : decode cX0_follow 96 = .ok (.aload_n 0, 1) := by decide +kernel
theorem dX0_follow_97 : decode cX0_follow 97 = .ok (.aload_n 1, 1) := by decide +kernel
theorem dX0_follow_98 : decode cX0_follow 98 = .ok (.iload 6, 2) := by decide +kernel
theorem dX0_follow_100 : decode cX0_follow 100 = .ok (.aload_n 1, 1) := by decide +kernel
theorem dX0_follow_101 : decode cX0_follow 101 = .ok (.iload_n 2, 1) := by decide +kernel
theorem dX0_follow_102 : decode cX0_follow 102 = .ok (.iconst 2, 1) := by decide +kernel
theorem dX0_follow_103 : decode cX0_follow 103 = .ok (.invokevirtual 24, 3) := by decide +kernel
theorem dX0_follow_106 : decode cX0_follow 106 = .ok (.invokevirtual 45, 3) := by decide +kernel
theorem dX0_follow_109 : decode cX0_follow 109 = .ok (.iinc 6 1, 3) := by decide +kernel
theorem dX0_follow_112 : decode cX0_follow 112 = .ok (.goto (-82), 3) := by decide +kernel
theorem dX0_follow_115 : decode cX0_follow 115 = .ok (.aload_n 0, 1) := by decide +kernel
theorem dX0_follow_116 : decode cX0_follow 116 = .ok (.iload_n 3, 1) := by decide +kernel
theorem dX0_follow_117 : decode cX0_follow 117 = .ok (.putfield 49, 3) := by decide +kernel
theorem dX0_follow_120 : decode cX0_follow 120 = .ok (.return_, 1) := by decide +kernel
set_option maxRecDepth 20000 in
theorem ggX0_followWeek_X1_showAt : GoodIn wsX0_followWeek wsX1_showAt := goodIn_r _ [9, 10, 29] (by decide +kernel) (by decide +kernel)
set_option maxRecDepth 20000 in
theorem gX0_followWeek_X1_showAt : GoodIn wsX0_followWeek (wsV RX0 52 RX1 yX1_showAt wsX1_showAt) := goodIn_app (goodIn_of _ (by decide +kernel)) ggX0_followWeek_X1_showAt
set_option maxRecDepth 20000 in
theorem ggX0_followWeek_X0_peopleOf : GoodIn wsX0_followWeek wsX0_peopleOf := goodIn_r _ [14, 15, 16, 17, 18, 19, 20, 21, 8, 22, 10, 29] (by decide +kernel) (by decide +kernel)
set_option maxRecDepth 20000 in
theorem gX0_followWeek_X0_peopleOf : GoodIn wsX0_followWeek (va_wsS RX0 56 yX0_peopleOf wsX0_peopleOf) := goodIn_app (goodIn_of _ (by decide +kernel)) ggX0_followWeek_X0_peopleOf
set_option maxRecDepth 20000 in
theorem ggX0_followWeek_X1_setting : GoodIn wsX0_followWeek wsX1_setting := goodIn_r _ [22, 10, 29] (by decide +kernel) (by decide +kernel)
set_option maxRecDepth 20000 in
theorem gX0_followWeek_X1_setting : GoodIn wsX0_followWeek (wsV RX0 60 RX1 yX1_setting wsX1_setting) := goodIn_app (goodIn_of _ (by decide +kernel)) ggX0_followWeek_X1_setting
theorem dX0_followWeek_0 : decode cX0_followWeek 0 = .ok (.iload 4, 2) := by decide +kernel
theorem dX0_followWeek_2 : decode cX0_followWeek 2 = .ok (.istore 5, 2) := by decide +kernel
theorem dX0_followWeek_4 : decode cX0_followWeek 4 = .ok (.iconst 0, 1) := by decide +kernel
theorem dX0_followWeek_5 : decode cX0_followWeek 5 = .ok (.istore 6, 2) := by decide +kernel
theorem dX0_followWeek_7 : decode cX0_followWeek 7 = .ok (.iload_n 3, 1) := by decide +kernel
theorem dX0_followWeek_8 : decode cX0_followWeek 8 = .ok (.iconst 1, 1) := by decide +kernel
theorem dX0_followWeek_9 : decode cX0_followWeek 9 = .ok (.iadd, 1) := by decide +kernel
theorem dX0_followWeek_10 : decode cX0_followWeek 10 = .ok (.bipush 14, 2) := by decide +kernel
theorem dX0_followWeek_12 : decode cX0_followWeek 12 = .ok (.imul, 1) := by decide +kernel
theorem dX0_followWeek_13 : decode cX0_followWeek 13 = .ok (.istore 7, 2) := by decide +kernel
theorem dX0_followWeek_15 : decode cX0_followWeek 15 = .ok (.iload_n 3, 1) := by decide +kernel
theorem dX0_followWeek_16 : decode cX0_followWeek 16 = .ok (.bipush 14, 2) := by decide +kernel
theorem dX0_followWeek_18 : decode cX0_followWeek 18 = .ok (.imul, 1) := by decide +kernel
theorem dX0_followWeek_19 : decode cX0_followWeek 19 = .ok (.istore 8, 2) := by decide +kernel
theorem dX0_followWeek_21 : decode cX0_followWeek 21 = .ok (.iload 8, 2) := by decide +kernel
theorem dX0_followWeek_23 : decode cX0_followWeek 23 = .ok (.iload 7, 2) := by decide +kernel
theorem dX0_followWeek_25 : decode cX0_followWeek 25 = .ok (.if_icmp .ge 79, 3) := by decide +kernel
theorem dX0_followWeek_28 : decode cX0_followWeek 28 = .ok (.aload_n 1, 1) := by decide +kernel
theorem dX0_followWeek_29 : decode cX0_followWeek 29 = .ok (.iload 8, 2) := by decide +kernel
theorem dX0_followWeek_31 : decode cX0_followWeek 31 = .ok (.invokevirtual 52, 3) := by decide +kernel
theorem dX0_followWeek_34 : decode cX0_followWeek 34 = .ok (.iload_n 2, 1) := by decide +kernel
theorem dX0_followWeek_35 : decode cX0_followWeek 35 = .ok (.if_icmp .ne 63, 3) := by decide +kernel
theorem dX0_followWeek_38 : decode cX0_followWeek 38 = .ok (.aload_n 1, 1) := by decide +kernel
theorem dX0_followWeek_39 : decode cX0_followWeek 39 = .ok (.iload 5, 2) := by decide +kernel
theorem dX0_followWeek_41 : decode cX0_followWeek 41 = .ok (.iload 8, 2) := by decide +kernel
theorem dX0_followWeek_43 : decode cX0_followWeek 43 = .ok (.iconst 2, 1) := by decide +kernel
theorem dX0_followWeek_44 : decode cX0_followWeek 44 = .ok (.irem, 1) := by decide +kernel
theorem dX0_followWeek_45 : decode cX0_followWeek 45 = .ok (.invokestatic 56, 3) := by decide +kernel
theorem dX0_followWeek_48 : decode cX0_followWeek 48 = .ok (.istore 9, 2) := by decide +kernel
theorem dX0_followWeek_50 : decode cX0_followWeek 50 = .ok (.iload 5, 2) := by decide +kernel
theorem dX0_followWeek_52 : decode cX0_followWeek 52 = .ok (.iload 9, 2) := by decide +kernel
theorem dX0_followWeek_54 : decode cX0_followWeek 54 = .ok (.isub, 1) := by decide +kernel
theorem dX0_followWeek_55 : decode cX0_followWeek 55 = .ok (.istore 5, 2) := by decide +kernel
theorem dX0_followWeek_57 : decode cX0_followWeek 57 = .ok (.aload_n 0, 1) := by decide +kernel
theorem dX0_followWeek_58 : decode cX0_followWeek 58 = .ok (.getfield 9, 3) := by decide +kernel
theorem dX0_followWeek_61 : decode cX0_followWeek 61 = .ok (.iload 8, 2) := by decide +kernel
theorem dX0_followWeek_63 : decode cX0_followWeek 63 = .ok (.iload 9, 2) := by decide +kernel
theorem dX0_followWeek_65 : decode cX0_followWeek 65 = .ok (.iastore, 1) := by decide +kernel
theorem dX0_followWeek_66 : decode cX0_followWeek 66 = .ok (.aload_n 0, 1) := by decide +kernel
theorem dX0_followWeek_67 : decode cX0_followWeek 67 = .ok (.getfield 15, 3) := by decide +kernel
theorem dX0_followWeek_70 : decode cX0_followWeek 70 = .ok (.iload 8, 2) := by decide +kernel
theorem dX0_followWeek_72 : decode cX0_followWeek 72 = .ok (.iload 5, 2) := by decide +kernel
theorem dX0_followWeek_74 : decode cX0_followWeek 74 = .ok (.iastore, 1) := by decide +kernel
theorem dX0_followWeek_75 : decode cX0_followWeek 75 = .ok (.iinc 6 1, 3) := by decide +kernel
theorem dX0_followWeek_78 : decode cX0_followWeek 78 = .ok (.iload 9, 2) := by decide +kernel
theorem dX0_followWeek_80 : decode cX0_followWeek 80 = .ok (.aload_n 1, 1) := by decide +kernel
theorem dX0_followWeek_81 : decode cX0_followWeek 81 = .ok (.iconst 0, 1) := by decide +kernel
theorem dX0_followWeek_82 : decode cX0_followWeek 82 = .ok (.invokevirtual 60, 3) := by decide +kernel
theorem dX0_followWeek_85 : decode cX0_followWeek 85 = .ok (.if_icmp .ne 13, 3) := by decide +kernel
theorem dX0_followWeek_88 : decode cX0_followWeek 88 = .ok (.aload_n 0, 1) := by decide +kernel
theorem dX0_followWeek_89 : decode cX0_followWeek 89 = .ok (.dup, 1) := by decide +kernel
theorem dX0_followWeek_90 : decode cX0_followWeek 90 = .ok (.getfield 30, 3) := by decide +kernel
theorem dX0_followWeek_93 : decode cX0_followWeek 93 = .ok (.iconst 1, 1) := by decide +kernel
theorem dX0_followWeek_94 : decode cX0_followWeek 94 = .ok (.iadd, 1) := by decide +kernel
theorem dX0_followWeek_95 : decode cX0_followWeek 95 = .ok (.putfield 30, 3) := by decide +kernel
theorem dX0_followWeek_98 : decode cX0_followWeek 98 = .ok (.iinc 8 1, 3) := by decide +kernel
theorem dX0_followWeek_101 : decode cX0_followWeek 101 = .ok (.goto (-80), 3) := by decide +kernel
theorem dX0_followWeek_104 : decode cX0_followWeek 104 = .ok (.aload_n 0, 1) := by decide +kernel
theorem dX0_followWeek_105 : decode cX0_followWeek 105 = .ok (.getfield 18, 3) := by decide +kernel
theorem dX0_followWeek_108 : decode cX0_followWeek 108 = .ok (.iload_n 3, 1) := by decide +kernel
theorem dX0_followWeek_109 : decode cX0_followWeek 109 = .ok (.iconst 5, 1) := by decide +kernel
theorem dX0_followWeek_110 : decode cX0_followWeek 110 = .ok (.imul, 1) := by decide +kernel
theorem dX0_followWeek_111 : decode cX0_followWeek 111 = .ok (.iconst 0, 1) := by decide +kernel
theorem dX0_followWeek_112 : decode cX0_followWeek 112 = .ok (.iadd, 1) := by decide +kernel
theorem dX0_followWeek_113 : decode cX0_followWeek 113 = .ok (.iload 6, 2) := by decide +kernel
theorem dX0_followWeek_115 : decode cX0_followWeek 115 = .ok (.iastore, 1) := by decide +kernel
theorem dX0_followWeek_116 : decode cX0_followWeek 116 = .ok (.aload_n 0, 1) := by decide +kernel
theorem dX0_followWeek_117 : decode cX0_followWeek 117 = .ok (.getfield 18, 3) := by decide +kernel
theorem dX0_followWeek_120 : decode cX0_followWeek 120 = .ok (.iload_n 3, 1) := by decide +kernel
theorem dX0_followWeek_121 : decode cX0_followWeek 121 = .ok (.iconst 5, 1) := by decide +kernel
theorem dX0_followWeek_122 : decode cX0_followWeek 122 = .ok (.imul, 1) := by decide +kernel
theorem dX0_followWeek_123 : decode cX0_followWeek 123 = .ok (.iconst 1, 1) := by decide +kernel
theorem dX0_followWeek_124 : decode cX0_followWeek 124 = .ok (.iadd, 1) := by decide +kernel
theorem dX0_followWeek_125 : decode cX0_followWeek 125 = .ok (.iload 4, 2) := by decide +kernel
theorem dX0_followWeek_127 : decode cX0_followWeek 127 = .ok (.iload 5, 2) := by decide +kernel
theorem dX0_followWeek_129 : decode cX0_followWeek 129 = .ok (.isub, 1) := by decide +kernel
theorem dX0_followWeek_130 : decode cX0_followWeek 130 = .ok (.iastore, 1) := by decide +kernel
theorem dX0_followWeek_131 : decode cX0_followWeek 131 = .ok (.iload 5, 2) := by decide +kernel
theorem dX0_followWeek_133 : decode cX0_followWeek 133 = .ok (.ireturn, 1) := by decide +kernel
set_option maxRecDepth 20000 in
theorem ggX0_peopleOf_X1_setting : GoodIn wsX0_peopleOf wsX1_setting := goodIn_r _ [9, 10, 11] (by decide +kernel) (by decide +kernel)
set_option maxRecDepth 20000 in
theorem gX0_peopleOf_X1_setting : GoodIn wsX0_peopleOf (wsV RX0 60 RX1 yX1_setting wsX1_setting) := goodIn_app (goodIn_of _ (by decide +kernel)) ggX0_peopleOf_X1_setting
theorem dX0_peopleOf_0 : decode cX0_peopleOf 0 = .ok (.aload_n 0, 1) := by decide +kernel
theorem dX0_peopleOf_1 : decode cX0_peopleOf 1 = .ok (.iload_n 2, 1) := by decide +kernel
theorem dX0_peopleOf_2 : decode cX0_peopleOf 2 = .ok (.ifCond .ne 7, 3) := by decide +kernel
theorem dX0_peopleOf_5 : decode cX0_peopleOf 5 = .ok (.iconst 4, 1) := by decide +kernel
theorem dX0_peopleOf_6 : decode cX0_peopleOf 6 = .ok (.goto 4, 3) := by decide +kernel
theorem dX0_peopleOf_9 : decode cX0_peopleOf 9 = .ok (.iconst 3, 1) := by decide +kernel
theorem dX0_peopleOf_10 : decode cX0_peopleOf 10 = .ok (.invokevirtual 60, 3) := by decide +kernel
theorem dX0_peopleOf_13 : decode cX0_peopleOf 13 = .ok (.istore_n 3, 1) := by decide +kernel
theorem dX0_peopleOf_14 : decode cX0_peopleOf 14 = .ok (.iload_n 1, 1) := by decide +kernel
theorem dX0_peopleOf_15 : decode cX0_peopleOf 15 = .ok (.iload_n 3, 1) := by decide +kernel
theorem dX0_peopleOf_16 : decode cX0_peopleOf 16 = .ok (.imul, 1) := by decide +kernel
theorem dX0_peopleOf_17 : decode cX0_peopleOf 17 = .ok (.bipush 100, 2) := by decide +kernel
theorem dX0_peopleOf_19 : decode cX0_peopleOf 19 = .ok (.idiv, 1) := by decide +kernel
theorem dX0_peopleOf_20 : decode cX0_peopleOf 20 = .ok (.aload_n 0, 1) := by decide +kernel
theorem dX0_peopleOf_21 : decode cX0_peopleOf 21 = .ok (.iconst 0, 1) := by decide +kernel
theorem dX0_peopleOf_22 : decode cX0_peopleOf 22 = .ok (.invokevirtual 60, 3) := by decide +kernel
theorem dX0_peopleOf_25 : decode cX0_peopleOf 25 = .ok (.invokestatic 63, 3) := by decide +kernel
theorem dX0_peopleOf_28 : decode cX0_peopleOf 28 = .ok (.ireturn, 1) := by decide +kernel
theorem dX0_nextShare_0 : decode cX0_nextShare 0 = .ok (.iload_n 0, 1) := by decide +kernel
theorem dX0_nextShare_1 : decode cX0_nextShare 1 = .ok (.bipush (-6), 2) := by decide +kernel
theorem dX0_nextShare_3 : decode cX0_nextShare 3 = .ok (.if_icmp .eq 13, 3) := by decide +kernel
theorem dX0_nextShare_6 : decode cX0_nextShare 6 = .ok (.iload_n 0, 1) := by decide +kernel
theorem dX0_nextShare_7 : decode cX0_nextShare 7 = .ok (.bipush 10, 2) := by decide +kernel
theorem dX0_nextShare_9 : decode cX0_nextShare 9 = .ok (.isub, 1) := by decide +kernel
theorem dX0_nextShare_10 : decode cX0_nextShare 10 = .ok (.bipush 20, 2) := by decide +kernel
theorem dX0_nextShare_12 : decode cX0_nextShare 12 = .ok (.invokestatic 68, 3) := by decide +kernel
theorem dX0_nextShare_15 : decode cX0_nextShare 15 = .ok (.ireturn, 1) := by decide +kernel
theorem dX0_nextShare_16 : decode cX0_nextShare 16 = .ok (.iload_n 2, 1) := by decide +kernel
theorem dX0_nextShare_17 : decode cX0_nextShare 17 = .ok (.ifCond .eq 7, 3) := by decide +kernel
theorem dX0_nextShare_20 : decode cX0_nextShare 20 = .ok (.iload_n 1, 1) := by decide +kernel
theorem dX0_nextShare_21 : decode cX0_nextShare 21 = .ok (.goto 5, 3) := by decide +kernel
theorem dX0_nextShare_24 : decode cX0_nextShare 24 = .ok (.bipush (-6), 2) := by decide +kernel
theorem dX0_nextShare_26 : decode cX0_nextShare 26 = .ok (.ireturn, 1) := by decide +kernel
set_option maxRecDepth 20000 in
theorem ggX0_reckonWeek_X0_sumOfWeek : GoodIn wsX0_reckonWeek wsX0_sumOfWeek := goodIn_r _ [10, 1, 22, 23, 24, 25, 26, 27] (by decide +kernel) (by decide +kernel)
set_option maxRecDepth 20000 in
theorem gX0_reckonWeek_X0_sumOfWeek : GoodIn wsX0_reckonWeek (wsV RX0 38 RX0 yX0_sumOfWeek wsX0_sumOfWeek) := goodIn_app (goodIn_of _ (by decide +kernel)) ggX0_reckonWeek_X0_sumOfWeek
set_option maxRecDepth 20000 in
theorem ggX0_reckonWeek_X1_setting : GoodIn wsX0_reckonWeek wsX1_setting := goodIn_r _ [15, 16, 28] (by decide +kernel) (by decide +kernel)
set_option maxRecDepth 20000 in
theorem gX0_reckonWeek_X1_setting : GoodIn wsX0_reckonWeek (wsV RX0 60 RX1 yX1_setting wsX1_setting) := goodIn_app (goodIn_of _ (by decide +kernel)) ggX0_reckonWeek_X1_setting
set_option maxRecDepth 20000 in
theorem ggX0_reckonWeek_X0_shareOfTakings : GoodIn wsX0_reckonWeek wsX0_shareOfTakings := goodIn_r _ [20, 21, 6, 7, 8, 9, 10, 1, 22, 23, 24, 25, 26, 27] (by decide +kernel) (by decide +kernel)
set_option maxRecDepth 20000 in
theorem gX0_reckonWeek_X0_shareOfTakings : GoodIn wsX0_reckonWeek (wsV RX0 71 RX0 yX0_shareOfTakings wsX0_shareOfTakings) := goodIn_app (goodIn_of _ (by decide +kernel)) ggX0_reckonWeek_X0_shareOfTakings
theorem dX0_reckonWeek_0 : decode cX0_reckonWeek 0 = .ok (.aload_n 0, 1) := by decide +kernel
theorem dX0_reckonWeek_1 : decode cX0_reckonWeek 1 = .ok (.iload_n 2, 1) := by decide +kernel
theorem dX0_reckonWeek_2 : decode cX0_reckonWeek 2 = .ok (.iconst 0, 1) := by decide +kernel
theorem dX0_reckonWeek_3 : decode cX0_reckonWeek 3 = .ok (.invokevirtual 38, 3) := by decide +kernel
theorem dX0_reckonWeek_6 : decode cX0_reckonWeek 6 = .ok (.istore 4, 2) := by decide +kernel
theorem dX0_reckonWeek_8 : decode cX0_reckonWeek 8 = .ok (.aload_n 0, 1) := by decide +kernel
theorem dX0_reckonWeek_9 : decode cX0_reckonWeek 9 = .ok (.iload_n 2, 1) := by decide +kernel
theorem dX0_reckonWeek_10 : decode cX0_reckonWeek 10 = .ok (.iconst 1, 1) := by decide +kernel
theorem dX0_reckonWeek_11 : decode cX0_reckonWeek 11 = .ok (.invokevirtual 38, 3) := by decide +kernel
theorem dX0_reckonWeek_14 : decode cX0_reckonWeek 14 = .ok (.aload_n 1, 1) := by decide +kernel
theorem dX0_reckonWeek_15 : decode cX0_reckonWeek 15 = .ok (.iconst 1, 1) := by decide +kernel
theorem dX0_reckonWeek_16 : decode cX0_reckonWeek 16 = .ok (.invokevirtual 60, 3) := by decide +kernel
theorem dX0_reckonWeek_19 : decode cX0_reckonWeek 19 = .ok (.imul, 1) := by decide +kernel
theorem dX0_reckonWeek_20 : decode cX0_reckonWeek 20 = .ok (.istore 5, 2) := by decide +kernel
theorem dX0_reckonWeek_22 : decode cX0_reckonWeek 22 = .ok (.aload_n 0, 1) := by decide +kernel
theorem dX0_reckonWeek_23 : decode cX0_reckonWeek 23 = .ok (.getfield 18, 3) := by decide +kernel
theorem dX0_reckonWeek_26 : decode cX0_reckonWeek 26 = .ok (.iload_n 2, 1) := by decide +kernel
theorem dX0_reckonWeek_27 : decode cX0_reckonWeek 27 = .ok (.iconst 5, 1) := by decide +kernel
theorem dX0_reckonWeek_28 : decode cX0_reckonWeek 28 = .ok (.imul, 1) := by decide +kernel
theorem dX0_reckonWeek_29 : decode cX0_reckonWeek 29 = .ok (.iconst 2, 1) := by decide +kernel
theorem dX0_reckonWeek_30 : decode cX0_reckonWeek 30 = .ok (.iadd, 1) := by decide +kernel
theorem dX0_reckonWeek_31 : decode cX0_reckonWeek 31 = .ok (.iload 5, 2) := by decide +kernel
theorem dX0_reckonWeek_33 : decode cX0_reckonWeek 33 = .ok (.iastore, 1) := by decide +kernel
theorem dX0_reckonWeek_34 : decode cX0_reckonWeek 34 = .ok (.iload 4, 2) := by decide +kernel
theorem dX0_reckonWeek_36 : decode cX0_reckonWeek 36 = .ok (.ifCond .ne 7, 3) := by decide +kernel
theorem dX0_reckonWeek_39 : decode cX0_reckonWeek 39 = .ok (.iconst 0, 1) := by decide +kernel
theorem dX0_reckonWeek_40 : decode cX0_reckonWeek 40 = .ok (.goto 12, 3) := by decide +kernel
theorem dX0_reckonWeek_43 : decode cX0_reckonWeek 43 = .ok (.iload_n 3, 1) := by decide +kernel
theorem dX0_reckonWeek_44 : decode cX0_reckonWeek 44 = .ok (.aload_n 0, 1) := by decide +kernel
theorem dX0_reckonWeek_45 : decode cX0_reckonWeek 45 = .ok (.iload_n 2, 1) := by decide +kernel
theorem dX0_reckonWeek_46 : decode cX0_reckonWeek 46 = .ok (.invokevirtual 71, 3) := by decide +kernel
theorem dX0_reckonWeek_49 : decode cX0_reckonWeek 49 = .ok (.invokestatic 68, 3) := by decide +kernel
theorem dX0_reckonWeek_52 : decode cX0_reckonWeek 52 = .ok (.istore 6, 2) := by decide +kernel
theorem dX0_reckonWeek_54 : decode cX0_reckonWeek 54 = .ok (.aload_n 0, 1) := by decide +kernel
theorem dX0_reckonWeek_55 : decode cX0_reckonWeek 55 = .ok (.getfield 18, 3) := by decide +kernel
theorem dX0_reckonWeek_58 : decode cX0_reckonWeek 58 = .ok (.iload_n 2, 1) := by decide +kernel
theorem dX0_reckonWeek_59 : decode cX0_reckonWeek 59 = .ok (.iconst 5, 1) := by decide +kernel
theorem dX0_reckonWeek_60 : decode cX0_reckonWeek 60 = .ok (.imul, 1) := by decide +kernel
theorem dX0_reckonWeek_61 : decode cX0_reckonWeek 61 = .ok (.iconst 3, 1) := by decide +kernel
theorem dX0_reckonWeek_62 : decode cX0_reckonWeek 62 = .ok (.iadd, 1) := by decide +kernel
theorem dX0_reckonWeek_63 : decode cX0_reckonWeek 63 = .ok (.iload 6, 2) := by decide +kernel
theorem dX0_reckonWeek_65 : decode cX0_reckonWeek 65 = .ok (.iastore, 1) := by decide +kernel
theorem dX0_reckonWeek_66 : decode cX0_reckonWeek 66 = .ok (.aload_n 0, 1) := by decide +kernel
theorem dX0_reckonWeek_67 : decode cX0_reckonWeek 67 = .ok (.getfield 18, 3) := by decide +kernel
theorem dX0_reckonWeek_70 : decode cX0_reckonWeek 70 = .ok (.iload_n 2, 1) := by decide +kernel
theorem dX0_reckonWeek_71 : decode cX0_reckonWeek 71 = .ok (.iconst 5, 1) := by decide +kernel
theorem dX0_reckonWeek_72 : decode cX0_reckonWeek 72 = .ok (.imul, 1) := by decide +kernel
theorem dX0_reckonWeek_73 : decode cX0_reckonWeek 73 = .ok (.iconst 4, 1) := by decide +kernel
theorem dX0_reckonWeek_74 : decode cX0_reckonWeek 74 = .ok (.iadd, 1) := by decide +kernel
theorem dX0_reckonWeek_75 : decode cX0_reckonWeek 75 = .ok (.iload 5, 2) := by decide +kernel
theorem dX0_reckonWeek_77 : decode cX0_reckonWeek 77 = .ok (.iload 6, 2) := by decide +kernel
theorem dX0_reckonWeek_79 : decode cX0_reckonWeek 79 = .ok (.isub, 1) := by decide +kernel
theorem dX0_reckonWeek_80 : decode cX0_reckonWeek 80 = .ok (.iload 4, 2) := by decide +kernel
theorem dX0_reckonWeek_82 : decode cX0_reckonWeek 82 = .ok (.aload_n 1, 1) := by decide +kernel
theorem dX0_reckonWeek_83 : decode cX0_reckonWeek 83 = .ok (.iconst 2, 1) := by decide +kernel
theorem dX0_reckonWeek_84 : decode cX0_reckonWeek 84 = .ok (.invokevirtual 60, 3) := by decide +kernel
theorem dX0_reckonWeek_87 : decode cX0_reckonWeek 87 = .ok (.imul, 1) := by decide +kernel
theorem dX0_reckonWeek_88 : decode cX0_reckonWeek 88 = .ok (.isub, 1) := by decide +kernel
theorem dX0_reckonWeek_89 : decode cX0_reckonWeek 89 = .ok (.iastore, 1) := by decide +kernel
theorem dX0_reckonWeek_90 : decode cX0_reckonWeek 90 = .ok (.return_, 1) := by decide +kernel
set_option maxRecDepth 20000 in
theorem ggX0_shareOfTakings_X0_sumOfWeek : GoodIn wsX0_shareOfTakings wsX0_sumOfWeek := goodIn_r _ [6, 7, 8, 9, 10, 11, 12, 13] (by decide +kernel) (by decide +kernel)
set_option maxRecDepth 20000 in
theorem gX0_shareOfTakings_X0_sumOfWeek : GoodIn wsX0_shareOfTakings (wsV RX0 38 RX0 yX0_sumOfWeek wsX0_sumOfWeek) := goodIn_app (goodIn_of _ (by decide +kernel)) ggX0_shareOfTakings_X0_sumOfWeek
theorem dX0_shareOfTakings_0 : decode cX0_shareOfTakings 0 = .ok (.aload_n 0, 1) := by decide +kernel
theorem dX0_shareOfTakings_1 : decode cX0_shareOfTakings 1 = .ok (.getfield 21, 3) := by decide +kernel
theorem dX0_shareOfTakings_4 : decode cX0_shareOfTakings 4 = .ok (.iload_n 1, 1) := by decide +kernel
theorem dX0_shareOfTakings_5 : decode cX0_shareOfTakings 5 = .ok (.iaload, 1) := by decide +kernel
theorem dX0_shareOfTakings_6 : decode cX0_shareOfTakings 6 = .ok (.bipush (-6), 2) := by decide +kernel
theorem dX0_shareOfTakings_8 : decode cX0_shareOfTakings 8 = .ok (.if_icmp .ne 7, 3) := by decide +kernel
theorem dX0_shareOfTakings_11 : decode cX0_shareOfTakings 11 = .ok (.iconst 0, 1) := by decide +kernel
theorem dX0_shareOfTakings_12 : decode cX0_shareOfTakings 12 = .ok (.goto 19, 3) := by decide +kernel
theorem dX0_shareOfTakings_15 : decode cX0_shareOfTakings 15 = .ok (.aload_n 0, 1) := by decide +kernel
theorem dX0_shareOfTakings_16 : decode cX0_shareOfTakings 16 = .ok (.iload_n 1, 1) := by decide +kernel
theorem dX0_shareOfTakings_17 : decode cX0_shareOfTakings 17 = .ok (.iconst 2, 1) := by decide +kernel
theorem dX0_shareOfTakings_18 : decode cX0_shareOfTakings 18 = .ok (.invokevirtual 38, 3) := by decide +kernel
theorem dX0_shareOfTakings_21 : decode cX0_shareOfTakings 21 = .ok (.aload_n 0, 1) := by decide +kernel
theorem dX0_shareOfTakings_22 : decode cX0_shareOfTakings 22 = .ok (.getfield 21, 3) := by decide +kernel
theorem dX0_shareOfTakings_25 : decode cX0_shareOfTakings 25 = .ok (.iload_n 1, 1) := by decide +kernel
theorem dX0_shareOfTakings_26 : decode cX0_shareOfTakings 26 = .ok (.iaload, 1) := by decide +kernel
theorem dX0_shareOfTakings_27 : decode cX0_shareOfTakings 27 = .ok (.imul, 1) := by decide +kernel
theorem dX0_shareOfTakings_28 : decode cX0_shareOfTakings 28 = .ok (.bipush 100, 2) := by decide +kernel
theorem dX0_shareOfTakings_30 : decode cX0_shareOfTakings 30 = .ok (.idiv, 1) := by decide +kernel
theorem dX0_shareOfTakings_31 : decode cX0_shareOfTakings 31 = .ok (.ireturn, 1) := by decide +kernel
set_option maxRecDepth 20000 in
theorem ggX0_dueAboveShare_X0_sumOfWeek : GoodIn wsX0_dueAboveShare wsX0_sumOfWeek := goodIn_r _ [5, 6, 12, 13, 14, 15, 16, 17] (by decide +kernel) (by decide +kernel)
set_option maxRecDepth 20000 in
theorem gX0_dueAboveShare_X0_sumOfWeek : GoodIn wsX0_dueAboveShare (wsV RX0 38 RX0 yX0_sumOfWeek wsX0_sumOfWeek) := goodIn_app (goodIn_of _ (by decide +kernel)) ggX0_dueAboveShare_X0_sumOfWeek
set_option maxRecDepth 20000 in
theorem ggX0_dueAboveShare_X0_shareOfTakings : GoodIn wsX0_dueAboveShare wsX0_shareOfTakings := goodIn_r _ [10, 11, 1, 2, 3, 4, 5, 6, 12, 13, 14, 15, 16, 17] (by decide +kernel) (by decide +kernel)
set_option maxRecDepth 20000 in
theorem gX0_dueAboveShare_X0_shareOfTakings : GoodIn wsX0_dueAboveShare (wsV RX0 71 RX0 yX0_shareOfTakings wsX0_shareOfTakings) := goodIn_app (goodIn_of _ (by decide +kernel)) ggX0_dueAboveShare_X0_shareOfTakings
theorem dX0_dueAboveShare_0 : decode cX0_dueAboveShare 0 = .ok (.aload_n 0, 1) := by decide +kernel
theorem dX0_dueAboveShare_1 : decode cX0_dueAboveShare 1 = .ok (.iload_n 1, 1) := by decide +kernel
theorem dX0_dueAboveShare_2 : decode cX0_dueAboveShare 2 = .ok (.iconst 3, 1) := by decide +kernel
theorem dX0_dueAboveShare_3 : decode cX0_dueAboveShare 3 = .ok (.invokevirtual 38, 3) := by decide +kernel
theorem dX0_dueAboveShare_6 : decode cX0_dueAboveShare 6 = .ok (.aload_n 0, 1) := by decide +kernel
theorem dX0_dueAboveShare_7 : decode cX0_dueAboveShare 7 = .ok (.iload_n 1, 1) := by decide +kernel
theorem dX0_dueAboveShare_8 : decode cX0_dueAboveShare 8 = .ok (.invokevirtual 71, 3) := by decide +kernel
theorem dX0_dueAboveShare_11 : decode cX0_dueAboveShare 11 = .ok (.isub, 1) := by decide +kernel
theorem dX0_dueAboveShare_12 : decode cX0_dueAboveShare 12 = .ok (.ireturn, 1) := by decide +kernel
theorem dX0_sumOfWeek_0 : decode cX0_sumOfWeek 0 = .ok (.aload_n 0, 1) := by decide +kernel
theorem dX0_sumOfWeek_1 : decode cX0_sumOfWeek 1 = .ok (.getfield 18, 3) := by decide +kernel
theorem dX0_sumOfWeek_4 : decode cX0_sumOfWeek 4 = .ok (.iload_n 1, 1) := by decide +kernel
theorem dX0_sumOfWeek_5 : decode cX0_sumOfWeek 5 = .ok (.iconst 5, 1) := by decide +kernel
theorem dX0_sumOfWeek_6 : decode cX0_sumOfWeek 6 = .ok (.imul, 1) := by decide +kernel
theorem dX0_sumOfWeek_7 : decode cX0_sumOfWeek 7 = .ok (.iload_n 2, 1) := by decide +kernel
theorem dX0_sumOfWeek_8 : decode cX0_sumOfWeek 8 = .ok (.iadd, 1) := by decide +kernel
theorem dX0_sumOfWeek_9 : decode cX0_sumOfWeek 9 = .ok (.iaload, 1) := by decide +kernel
theorem dX0_sumOfWeek_10 : decode cX0_sumOfWeek 10 = .ok (.ireturn, 1) := by decide +kernel
set_option maxRecDepth 20000 in
theorem ggX0_sum_X0_sumOfWeek : GoodIn wsX0_sum wsX0_sumOfWeek := goodIn_r _ [5, 6, 7, 8, 9, 10, 11, 12] (by decide +kernel) (by decide +kernel)
set_option maxRecDepth 20000 in
theorem gX0_sum_X0_sumOfWeek : GoodIn wsX0_sum (wsV RX0 38 RX0 yX0_sumOfWeek wsX0_sumOfWeek) := goodIn_app (goodIn_of _ (by decide +kernel)) ggX0_sum_X0_sumOfWeek
theorem dX0_sum_0 : decode cX0_sum 0 = .ok (.iconst 0, 1) := by decide +kernel
theorem dX0_sum_1 : decode cX0_sum 1 = .ok (.istore_n 2, 1) := by decide +kernel
theorem dX0_sum_2 : decode cX0_sum 2 = .ok (.iconst 0, 1) := by decide +kernel
theorem dX0_sum_3 : decode cX0_sum 3 = .ok (.istore_n 3, 1) := by decide +kernel
theorem dX0_sum_4 : decode cX0_sum 4 = .ok (.iload_n 3, 1) := by decide +kernel
theorem dX0_sum_5 : decode cX0_sum 5 = .ok (.iconst 5, 1) := by decide +kernel
theorem dX0_sum_6 : decode cX0_sum 6 = .ok (.if_icmp .ge 18, 3) := by decide +kernel
theorem dX0_sum_9 : decode cX0_sum 9 = .ok (.iload_n 2, 1) := by decide +kernel
theorem dX0_sum_10 : decode cX0_sum 10 = .ok (.aload_n 0, 1) := by decide +kernel
theorem dX0_sum_11 : decode cX0_sum 11 = .ok (.iload_n 3, 1) := by decide +kernel
theorem dX0_sum_12 : decode cX0_sum 12 = .ok (.iload_n 1, 1) := by decide +kernel
theorem dX0_sum_13 : decode cX0_sum 13 = .ok (.invokevirtual 38, 3) := by decide +kernel
theorem dX0_sum_16 : decode cX0_sum 16 = .ok (.iadd, 1) := by decide +kernel
theorem dX0_sum_17 : decode cX0_sum 17 = .ok (.istore_n 2, 1) := by decide +kernel
theorem dX0_sum_18 : decode cX0_sum 18 = .ok (.iinc 3 1, 3) := by decide +kernel
theorem dX0_sum_21 : decode cX0_sum 21 = .ok (.goto (-17), 3) := by decide +kernel
theorem dX0_sum_24 : decode cX0_sum 24 = .ok (.iload_n 2, 1) := by decide +kernel
theorem dX0_sum_25 : decode cX0_sum 25 = .ok (.ireturn, 1) := by decide +kernel
theorem dX0_shareIn_0 : decode cX0_shareIn 0 = .ok (.aload_n 0, 1) := by decide +kernel
theorem dX0_shareIn_1 : decode cX0_shareIn 1 = .ok (.getfield 21, 3) := by decide +kernel
theorem dX0_shareIn_4 : decode cX0_shareIn 4 = .ok (.iload_n 1, 1) := by decide +kernel
theorem dX0_shareIn_5 : decode cX0_shareIn 5 = .ok (.iaload, 1) := by decide +kernel
theorem dX0_shareIn_6 : decode cX0_shareIn 6 = .ok (.ireturn, 1) := by decide +kernel
theorem dX0_peopleAt_0 : decode cX0_peopleAt 0 = .ok (.aload_n 0, 1) := by decide +kernel
theorem dX0_peopleAt_1 : decode cX0_peopleAt 1 = .ok (.getfield 9, 3) := by decide +kernel
theorem dX0_peopleAt_4 : decode cX0_peopleAt 4 = .ok (.iload_n 1, 1) := by decide +kernel
theorem dX0_peopleAt_5 : decode cX0_peopleAt 5 = .ok (.iaload, 1) := by decide +kernel
theorem dX0_peopleAt_6 : decode cX0_peopleAt 6 = .ok (.ireturn, 1) := by decide +kernel
theorem dX0_leftBehind_0 : decode cX0_leftBehind 0 = .ok (.aload_n 0, 1) := by decide +kernel
theorem dX0_leftBehind_1 : decode cX0_leftBehind 1 = .ok (.getfield 15, 3) := by decide +kernel
theorem dX0_leftBehind_4 : decode cX0_leftBehind 4 = .ok (.iload_n 1, 1) := by decide +kernel
theorem dX0_leftBehind_5 : decode cX0_leftBehind 5 = .ok (.iaload, 1) := by decide +kernel
theorem dX0_leftBehind_6 : decode cX0_leftBehind 6 = .ok (.ireturn, 1) := by decide +kernel
theorem dX0_fullShows_0 : decode cX0_fullShows 0 = .ok (.aload_n 0, 1) := by decide +kernel
theorem dX0_fullShows_1 : decode cX0_fullShows 1 = .ok (.getfield 30, 3) := by decide +kernel
theorem dX0_fullShows_4 : decode cX0_fullShows 4 = .ok (.ireturn, 1) := by decide +kernel
theorem dX0_leftAtEnd_0 : decode cX0_leftAtEnd 0 = .ok (.aload_n 0, 1) := by decide +kernel
theorem dX0_leftAtEnd_1 : decode cX0_leftAtEnd 1 = .ok (.getfield 49, 3) := by decide +kernel
theorem dX0_leftAtEnd_4 : decode cX0_leftAtEnd 4 = .ok (.ireturn, 1) := by decide +kernel
theorem dX1_init_0 : decode cX1_init 0 = .ok (.aload_n 0, 1) := by decide +kernel
theorem dX1_init_1 : decode cX1_init 1 = .ok (.invokespecial 5, 3) := by decide +kernel
theorem dX1_init_4 : decode cX1_init 4 = .ok (.aload_n 0, 1) := by decide +kernel
theorem dX1_init_5 : decode cX1_init 5 = .ok (.sipush 151, 3) := by decide +kernel
theorem dX1_init_8 : decode cX1_init 8 = .ok (.newarray .int, 2) := by decide +kernel
theorem dX1_init_10 : decode cX1_init 10 = .ok (.putfield 11, 3) := by decide +kernel
theorem dX1_init_13 : decode cX1_init 13 = .ok (.getstatic 15, 3) := by decide +kernel
theorem dX1_init_16 : decode cX1_init 16 = .ok (.iconst 0, 1) := by decide +kernel
theorem dX1_init_17 : decode cX1_init 17 = .ok (.aload_n 0, 1) := by decide +kernel
theorem dX1_init_18 : decode cX1_init 18 = .ok (.getfield 11, 3) := by decide +kernel
theorem dX1_init_21 : decode cX1_init 21 = .ok (.iconst 0, 1) := by decide +kernel
theorem dX1_init_22 : decode cX1_init 22 = .ok (.iconst 5, 1) := by decide +kernel
theorem dX1_init_23 : decode cX1_init 23 = .ok (.invokestatic 18, 3) := by decide +kernel
theorem dX1_init_26 : decode cX1_init 26 = .ok (.iconst 0, 1) := by decide +kernel
theorem dX1_init_27 : decode cX1_init 27 = .ok (.istore_n 1, 1) := by decide +kernel
theorem dX1_init_28 : decode cX1_init 28 = .ok (.iload_n 1, 1) := by decide +kernel
theorem dX1_init_29 : decode cX1_init 29 = .ok (.bipush 70, 2) := by decide +kernel
theorem dX1_init_31 : decode cX1_init 31 = .ok (.if_icmp .ge 20, 3) := by decide +kernel
theorem dX1_init_34 : decode cX1_init 34 = .ok (.aload_n 0, 1) := by decide +kernel
theorem dX1_init_35 : decode cX1_init 35 = .ok (.getfield 11, 3) := by decide +kernel
theorem dX1_init_38 : decode cX1_init 38 = .ok (.bipush 46, 2) := by decide +kernel
theorem dX1_init_40 : decode cX1_init 40 = .ok (.iload_n 1, 1) := by decide +kernel
theorem dX1_init_41 : decode cX1_init 41 = .ok (.iadd, 1) := by decide +kernel
theorem dX1_init_42 : decode cX1_init 42 = .ok (.bipush (-6), 2) := by decide +kernel
theorem dX1_init_44 : decode cX1_init 44 = .ok (.iastore, 1) := by decide +kernel
theorem dX1_init_45 : decode cX1_init 45 = .ok (.iinc 1 1, 3) := by decide +kernel
theorem dX1_init_48 : decode cX1_init 48 = .ok (.goto (-20), 3) := by decide +kernel
theorem dX1_init_51 : decode cX1_init 51 = .ok (.return_, 1) := by decide +kernel
theorem dX1_copyTo_0 : decode cX1_copyTo 0 = .ok (.aload_n 0, 1) := by decide +kernel
theorem dX1_copyTo_1 : decode cX1_copyTo 1 = .ok (.getfield 11, 3) := by decide +kernel
theorem dX1_copyTo_4 : decode cX1_copyTo 4 = .ok (.iconst 0, 1) := by decide +kernel
theorem dX1_copyTo_5 : decode cX1_copyTo 5 = .ok (.aload_n 1, 1) := by decide +kernel
theorem dX1_copyTo_6 : decode cX1_copyTo 6 = .ok (.iconst 0, 1) := by decide +kernel
theorem dX1_copyTo_7 : decode cX1_copyTo 7 = .ok (.sipush 151, 3) := by decide +kernel
theorem dX1_copyTo_10 : decode cX1_copyTo 10 = .ok (.invokestatic 18, 3) := by decide +kernel
theorem dX1_copyTo_13 : decode cX1_copyTo 13 = .ok (.return_, 1) := by decide +kernel
theorem dX1_setting_0 : decode cX1_setting 0 = .ok (.aload_n 0, 1) := by decide +kernel
theorem dX1_setting_1 : decode cX1_setting 1 = .ok (.getfield 11, 3) := by decide +kernel
theorem dX1_setting_4 : decode cX1_setting 4 = .ok (.iload_n 1, 1) := by decide +kernel
theorem dX1_setting_5 : decode cX1_setting 5 = .ok (.iaload, 1) := by decide +kernel
theorem dX1_setting_6 : decode cX1_setting 6 = .ok (.ireturn, 1) := by decide +kernel
theorem dX1_changeSetting_0 : decode cX1_changeSetting 0 = .ok (.aload_n 0, 1) := by decide +kernel
theorem dX1_changeSetting_1 : decode cX1_changeSetting 1 = .ok (.getfield 11, 3) := by decide +kernel
theorem dX1_changeSetting_4 : decode cX1_changeSetting 4 = .ok (.iload_n 1, 1) := by decide +kernel
theorem dX1_changeSetting_5 : decode cX1_changeSetting 5 = .ok (.iaload, 1) := by decide +kernel
theorem dX1_changeSetting_6 : decode cX1_changeSetting 6 = .ok (.istore_n 3, 1) := by decide +kernel
theorem dX1_changeSetting_7 : decode cX1_changeSetting 7 = .ok (.aload_n 0, 1) := by decide +kernel
theorem dX1_changeSetting_8 : decode cX1_changeSetting 8 = .ok (.getfield 11, 3) := by decide +kernel
theorem dX1_changeSetting_11 : decode cX1_changeSetting 11 = .ok (.iload_n 1, 1) := by decide +kernel
theorem dX1_changeSetting_12 : decode cX1_changeSetting 12 = .ok (.iload_n 2, 1) := by decide +kernel
theorem dX1_changeSetting_13 : decode cX1_changeSetting 13 = .ok (.iastore, 1) := by decide +kernel
theorem dX1_changeSetting_14 : decode cX1_changeSetting 14 = .ok (.iload_n 3, 1) := by decide +kernel
theorem dX1_changeSetting_15 : decode cX1_changeSetting 15 = .ok (.ireturn, 1) := by decide +kernel
theorem dX1_films_0 : decode cX1_films 0 = .ok (.aload_n 0, 1) := by decide +kernel
theorem dX1_films_1 : decode cX1_films 1 = .ok (.getfield 11, 3) := by decide +kernel
theorem dX1_films_4 : decode cX1_films 4 = .ok (.iconst 5, 1) := by decide +kernel
theorem dX1_films_5 : decode cX1_films 5 = .ok (.iaload, 1) := by decide +kernel
theorem dX1_films_6 : decode cX1_films 6 = .ok (.ireturn, 1) := by decide +kernel
set_option maxRecDepth 20000 in
theorem ggX1_hasFilm_X1_films : GoodIn wsX1_hasFilm wsX1_films := goodIn_r _ [5, 6, 7] (by decide +kernel) (by decide +kernel)
set_option maxRecDepth 20000 in
theorem gX1_hasFilm_X1_films : GoodIn wsX1_hasFilm (wsV RX1 24 RX1 yX1_films wsX1_films) := goodIn_app (goodIn_of _ (by decide +kernel)) ggX1_hasFilm_X1_films
theorem dX1_hasFilm_0 : decode cX1_hasFilm 0 = .ok (.iload_n 1, 1) := by decide +kernel
theorem dX1_hasFilm_1 : decode cX1_hasFilm 1 = .ok (.ifCond .lt 15, 3) := by decide +kernel
theorem dX1_hasFilm_4 : decode cX1_hasFilm 4 = .ok (.iload_n 1, 1) := by decide +kernel
theorem dX1_hasFilm_5 : decode cX1_hasFilm 5 = .ok (.aload_n 0, 1) := by decide +kernel
theorem dX1_hasFilm_6 : decode cX1_hasFilm 6 = .ok (.invokevirtual 24, 3) := by decide +kernel
theorem dX1_hasFilm_9 : decode cX1_hasFilm 9 = .ok (.if_icmp .ge 7, 3) := by decide +kernel
theorem dX1_hasFilm_12 : decode cX1_hasFilm 12 = .ok (.iconst 1, 1) := by decide +kernel
theorem dX1_hasFilm_13 : decode cX1_hasFilm 13 = .ok (.goto 4, 3) := by decide +kernel
theorem dX1_hasFilm_16 : decode cX1_hasFilm 16 = .ok (.iconst 0, 1) := by decide +kernel
theorem dX1_hasFilm_17 : decode cX1_hasFilm 17 = .ok (.ireturn, 1) := by decide +kernel
set_option maxRecDepth 20000 in
theorem ggX1_addFilm_X1_films : GoodIn wsX1_addFilm wsX1_films := goodIn_r _ [6, 1, 7] (by decide +kernel) (by decide +kernel)
set_option maxRecDepth 20000 in
theorem gX1_addFilm_X1_films : GoodIn wsX1_addFilm (wsV RX1 24 RX1 yX1_films wsX1_films) := goodIn_app (goodIn_of _ (by decide +kernel)) ggX1_addFilm_X1_films
theorem dX1_addFilm_0 : decode cX1_addFilm 0 = .ok (.aload_n 0, 1) := by decide +kernel
theorem dX1_addFilm_1 : decode cX1_addFilm 1 = .ok (.invokevirtual 24, 3) := by decide +kernel
theorem dX1_addFilm_4 : decode cX1_addFilm 4 = .ok (.istore 6, 2) := by decide +kernel
theorem dX1_addFilm_6 : decode cX1_addFilm 6 = .ok (.bipush 6, 2) := by decide +kernel
theorem dX1_addFilm_8 : decode cX1_addFilm 8 = .ok (.iload 6, 2) := by decide +kernel
theorem dX1_addFilm_10 : decode cX1_addFilm 10 = .ok (.iconst 5, 1) := by decide +kernel
theorem dX1_addFilm_11 : decode cX1_addFilm 11 = .ok (.imul, 1) := by decide +kernel
theorem dX1_addFilm_12 : decode cX1_addFilm 12 = .ok (.iadd, 1) := by decide +kernel
theorem dX1_addFilm_13 : decode cX1_addFilm 13 = .ok (.istore 7, 2) := by decide +kernel
theorem dX1_addFilm_15 : decode cX1_addFilm 15 = .ok (.aload_n 0, 1) := by decide +kernel
theorem dX1_addFilm_16 : decode cX1_addFilm 16 = .ok (.getfield 11, 3) := by decide +kernel
theorem dX1_addFilm_19 : decode cX1_addFilm 19 = .ok (.iload 7, 2) := by decide +kernel
theorem dX1_addFilm_21 : decode cX1_addFilm 21 = .ok (.iconst 0, 1) := by decide +kernel
theorem dX1_addFilm_22 : decode cX1_addFilm 22 = .ok (.iadd, 1) := by decide +kernel
theorem dX1_addFilm_23 : decode cX1_addFilm 23 = .ok (.iload_n 1, 1) := by decide +kernel
theorem dX1_addFilm_24 : decode cX1_addFilm 24 = .ok (.iastore, 1) := by decide +kernel
theorem dX1_addFilm_25 : decode cX1_addFilm 25 = .ok (.aload_n 0, 1) := by decide +kernel
theorem dX1_addFilm_26 : decode cX1_addFilm 26 = .ok (.getfield 11, 3) := by decide +kernel
theorem dX1_addFilm_29 : decode cX1_addFilm 29 = .ok (.iload 7, 2) := by decide +kernel
theorem dX1_addFilm_31 : decode cX1_addFilm 31 = .ok (.iconst 1, 1) := by decide +kernel
theorem dX1_addFilm_32 : decode cX1_addFilm 32 = .ok (.iadd, 1) := by decide +kernel
theorem dX1_addFilm_33 : decode cX1_addFilm 33 = .ok (.iload_n 2, 1) := by decide +kernel
theorem dX1_addFilm_34 : decode cX1_addFilm 34 = .ok (.iastore, 1) := by decide +kernel
theorem dX1_addFilm_35 : decode cX1_addFilm 35 = .ok (.aload_n 0, 1) := by decide +kernel
theorem dX1_addFilm_36 : decode cX1_addFilm 36 = .ok (.getfield 11, 3) := by decide +kernel
theorem dX1_addFilm_39 : decode cX1_addFilm 39 = .ok (.iload 7, 2) := by decide +kernel
theorem dX1_addFilm_41 : decode cX1_addFilm 41 = .ok (.iconst 2, 1) := by decide +kernel
end
section
theorem dX1_addFilm_42 : decode cX1_addFilm 42 = .ok (.iadd, 1) := by decide +kernel
theorem dX1_addFilm_43 : decode cX1_addFilm 43 = .ok (.iload_n 3, 1) := by decide +kernel
theorem dX1_addFilm_44 : decode cX1_addFilm 44 = .ok (.iastore, 1) := by decide +kernel
theorem dX1_addFilm_45 : decode cX1_addFilm 45 = .ok (.aload_n 0, 1) := by decide +kernel
theorem dX1_addFilm_46 : decode cX1_addFilm 46 = .ok (.getfield 11, 3) := by decide +kernel
theorem dX1_addFilm_49 : decode cX1_addFilm 49 = .ok (.iload 7, 2) := by decide +kernel
theorem dX1_addFilm_51 : decode cX1_addFilm 51 = .ok (.iconst 3, 1) := by decide +kernel
theorem dX1_addFilm_52 : decode cX1_addFilm 52 = .ok (.iadd, 1) := by decide +kernel
theorem dX1_addFilm_53 : decode cX1_addFilm 53 = .ok (.iload 4, 2) := by decide +kernel
theorem dX1_addFilm_55 : decode cX1_addFilm 55 = .ok (.iastore, 1) := by decide +kernel
theorem dX1_addFilm_56 : decode cX1_addFilm 56 = .ok (.aload_n 0, 1) := by decide +kernel
theorem dX1_addFilm_57 : decode cX1_addFilm 57 = .ok (.getfield 11, 3) := by decide +kernel
theorem dX1_addFilm_60 : decode cX1_addFilm 60 = .ok (.iload 7, 2) := by decide +kernel
theorem dX1_addFilm_62 : decode cX1_addFilm 62 = .ok (.iconst 4, 1) := by decide +kernel
theorem dX1_addFilm_63 : decode cX1_addFilm 63 = .ok (.iadd, 1) := by decide +kernel
theorem dX1_addFilm_64 : decode cX1_addFilm 64 = .ok (.iload 5, 2) := by decide +kernel
theorem dX1_addFilm_66 : decode cX1_addFilm 66 = .ok (.iastore, 1) := by decide +kernel
theorem dX1_addFilm_67 : decode cX1_addFilm 67 = .ok (.aload_n 0, 1) := by decide +kernel
theorem dX1_addFilm_68 : decode cX1_addFilm 68 = .ok (.getfield 11, 3) := by decide +kernel
theorem dX1_addFilm_71 : decode cX1_addFilm 71 = .ok (.iconst 5, 1) := by decide +kernel
theorem dX1_addFilm_72 : decode cX1_addFilm 72 = .ok (.iload 6, 2) := by decide +kernel
theorem dX1_addFilm_74 : decode cX1_addFilm 74 = .ok (.iconst 1, 1) := by decide +kernel
theorem dX1_addFilm_75 : decode cX1_addFilm 75 = .ok (.iadd, 1) := by decide +kernel
theorem dX1_addFilm_76 : decode cX1_addFilm 76 = .ok (.iastore, 1) := by decide +kernel
theorem dX1_addFilm_77 : decode cX1_addFilm 77 = .ok (.iload 6, 2) := by decide +kernel
theorem dX1_addFilm_79 : decode cX1_addFilm 79 = .ok (.ireturn, 1) := by decide +kernel
theorem dX1_fact_0 : decode cX1_fact 0 = .ok (.aload_n 0, 1) := by decide +kernel
theorem dX1_fact_1 : decode cX1_fact 1 = .ok (.getfield 11, 3) := by decide +kernel
theorem dX1_fact_4 : decode cX1_fact 4 = .ok (.bipush 6, 2) := by decide +kernel
theorem dX1_fact_6 : decode cX1_fact 6 = .ok (.iload_n 1, 1) := by decide +kernel
theorem dX1_fact_7 : decode cX1_fact 7 = .ok (.iconst 5, 1) := by decide +kernel
theorem dX1_fact_8 : decode cX1_fact 8 = .ok (.imul, 1) := by decide +kernel
theorem dX1_fact_9 : decode cX1_fact 9 = .ok (.iadd, 1) := by decide +kernel
theorem dX1_fact_10 : decode cX1_fact 10 = .ok (.iload_n 2, 1) := by decide +kernel
theorem dX1_fact_11 : decode cX1_fact 11 = .ok (.iadd, 1) := by decide +kernel
theorem dX1_fact_12 : decode cX1_fact 12 = .ok (.iaload, 1) := by decide +kernel
theorem dX1_fact_13 : decode cX1_fact 13 = .ok (.ireturn, 1) := by decide +kernel
theorem dX1_showAt_0 : decode cX1_showAt 0 = .ok (.aload_n 0, 1) := by decide +kernel
theorem dX1_showAt_1 : decode cX1_showAt 1 = .ok (.getfield 11, 3) := by decide +kernel
theorem dX1_showAt_4 : decode cX1_showAt 4 = .ok (.bipush 46, 2) := by decide +kernel
theorem dX1_showAt_6 : decode cX1_showAt 6 = .ok (.iload_n 1, 1) := by decide +kernel
theorem dX1_showAt_7 : decode cX1_showAt 7 = .ok (.iadd, 1) := by decide +kernel
theorem dX1_showAt_8 : decode cX1_showAt 8 = .ok (.iaload, 1) := by decide +kernel
theorem dX1_showAt_9 : decode cX1_showAt 9 = .ok (.ireturn, 1) := by decide +kernel
theorem dX1_replaceShow_0 : decode cX1_replaceShow 0 = .ok (.aload_n 0, 1) := by decide +kernel
theorem dX1_replaceShow_1 : decode cX1_replaceShow 1 = .ok (.getfield 11, 3) := by decide +kernel
theorem dX1_replaceShow_4 : decode cX1_replaceShow 4 = .ok (.bipush 46, 2) := by decide +kernel
theorem dX1_replaceShow_6 : decode cX1_replaceShow 6 = .ok (.iload_n 1, 1) := by decide +kernel
theorem dX1_replaceShow_7 : decode cX1_replaceShow 7 = .ok (.iadd, 1) := by decide +kernel
theorem dX1_replaceShow_8 : decode cX1_replaceShow 8 = .ok (.iaload, 1) := by decide +kernel
theorem dX1_replaceShow_9 : decode cX1_replaceShow 9 = .ok (.istore_n 3, 1) := by decide +kernel
theorem dX1_replaceShow_10 : decode cX1_replaceShow 10 = .ok (.aload_n 0, 1) := by decide +kernel
theorem dX1_replaceShow_11 : decode cX1_replaceShow 11 = .ok (.getfield 11, 3) := by decide +kernel
theorem dX1_replaceShow_14 : decode cX1_replaceShow 14 = .ok (.bipush 46, 2) := by decide +kernel
theorem dX1_replaceShow_16 : decode cX1_replaceShow 16 = .ok (.iload_n 1, 1) := by decide +kernel
theorem dX1_replaceShow_17 : decode cX1_replaceShow 17 = .ok (.iadd, 1) := by decide +kernel
theorem dX1_replaceShow_18 : decode cX1_replaceShow 18 = .ok (.iload_n 2, 1) := by decide +kernel
theorem dX1_replaceShow_19 : decode cX1_replaceShow 19 = .ok (.iastore, 1) := by decide +kernel
theorem dX1_replaceShow_20 : decode cX1_replaceShow 20 = .ok (.iload_n 3, 1) := by decide +kernel
theorem dX1_replaceShow_21 : decode cX1_replaceShow 21 = .ok (.ireturn, 1) := by decide +kernel
set_option maxRecDepth 20000 in
theorem ggX1_canHold_X1_rentOf : GoodIn wsX1_canHold wsX1_rentOf := goodIn_r _ [5, 6, 19] (by decide +kernel) (by decide +kernel)
set_option maxRecDepth 20000 in
theorem gX1_canHold_X1_rentOf : GoodIn wsX1_canHold (wsV RX1 28 RX1 yX1_rentOf wsX1_rentOf) := goodIn_app (goodIn_of _ (by decide +kernel)) ggX1_canHold_X1_rentOf
set_option maxRecDepth 20000 in
theorem ggX1_canHold_X1_hasFilm : GoodIn wsX1_canHold wsX1_hasFilm := goodIn_r _ [10, 11, 12, 13, 4, 14, 6, 19] (by decide +kernel) (by decide +kernel)
set_option maxRecDepth 20000 in
theorem gX1_canHold_X1_hasFilm : GoodIn wsX1_canHold (wsV RX1 32 RX1 yX1_hasFilm wsX1_hasFilm) := goodIn_app (goodIn_of _ (by decide +kernel)) ggX1_canHold_X1_hasFilm
set_option maxRecDepth 20000 in
theorem ggX1_canHold_X1_fact : GoodIn wsX1_canHold wsX1_fact := goodIn_r _ [18, 6, 19] (by decide +kernel) (by decide +kernel)
set_option maxRecDepth 20000 in
theorem gX1_canHold_X1_fact : GoodIn wsX1_canHold (wsV RX1 36 RX1 yX1_fact wsX1_fact) := goodIn_app (goodIn_of _ (by decide +kernel)) ggX1_canHold_X1_fact
theorem dX1_canHold_0 : decode cX1_canHold 0 = .ok (.aload_n 0, 1) := by decide +kernel
theorem dX1_canHold_1 : decode cX1_canHold 1 = .ok (.iload_n 1, 1) := by decide +kernel
theorem dX1_canHold_2 : decode cX1_canHold 2 = .ok (.invokevirtual 28, 3) := by decide +kernel
theorem dX1_canHold_5 : decode cX1_canHold 5 = .ok (.ifCond .eq 5, 3) := by decide +kernel
theorem dX1_canHold_8 : decode cX1_canHold 8 = .ok (.iconst 0, 1) := by decide +kernel
theorem dX1_canHold_9 : decode cX1_canHold 9 = .ok (.ireturn, 1) := by decide +kernel
theorem dX1_canHold_10 : decode cX1_canHold 10 = .ok (.aload_n 0, 1) := by decide +kernel
theorem dX1_canHold_11 : decode cX1_canHold 11 = .ok (.iload_n 2, 1) := by decide +kernel
theorem dX1_canHold_12 : decode cX1_canHold 12 = .ok (.invokevirtual 32, 3) := by decide +kernel
theorem dX1_canHold_15 : decode cX1_canHold 15 = .ok (.ifCond .eq 13, 3) := by decide +kernel
theorem dX1_canHold_18 : decode cX1_canHold 18 = .ok (.aload_n 0, 1) := by decide +kernel
theorem dX1_canHold_19 : decode cX1_canHold 19 = .ok (.iload_n 2, 1) := by decide +kernel
theorem dX1_canHold_20 : decode cX1_canHold 20 = .ok (.iconst 4, 1) := by decide +kernel
theorem dX1_canHold_21 : decode cX1_canHold 21 = .ok (.invokevirtual 36, 3) := by decide +kernel
theorem dX1_canHold_24 : decode cX1_canHold 24 = .ok (.iload_n 1, 1) := by decide +kernel
theorem dX1_canHold_25 : decode cX1_canHold 25 = .ok (.if_icmp .gt 7, 3) := by decide +kernel
theorem dX1_canHold_28 : decode cX1_canHold 28 = .ok (.iconst 1, 1) := by decide +kernel
theorem dX1_canHold_29 : decode cX1_canHold 29 = .ok (.goto 4, 3) := by decide +kernel
theorem dX1_canHold_32 : decode cX1_canHold 32 = .ok (.iconst 0, 1) := by decide +kernel
theorem dX1_canHold_33 : decode cX1_canHold 33 = .ok (.ireturn, 1) := by decide +kernel
set_option maxRecDepth 20000 in
theorem ggX1_firstDayShown_X1_showAt : GoodIn wsX1_firstDayShown wsX1_showAt := goodIn_r _ [5, 6, 7] (by decide +kernel) (by decide +kernel)
set_option maxRecDepth 20000 in
theorem gX1_firstDayShown_X1_showAt : GoodIn wsX1_firstDayShown (wsV RX1 40 RX1 yX1_showAt wsX1_showAt) := goodIn_app (goodIn_of _ (by decide +kernel)) ggX1_firstDayShown_X1_showAt
theorem dX1_firstDayShown_0 : decode cX1_firstDayShown 0 = .ok (.iconst 0, 1) := by decide +kernel
theorem dX1_firstDayShown_1 : decode cX1_firstDayShown 1 = .ok (.istore_n 2, 1) := by decide +kernel
theorem dX1_firstDayShown_2 : decode cX1_firstDayShown 2 = .ok (.iload_n 2, 1) := by decide +kernel
theorem dX1_firstDayShown_3 : decode cX1_firstDayShown 3 = .ok (.bipush 70, 2) := by decide +kernel
theorem dX1_firstDayShown_5 : decode cX1_firstDayShown 5 = .ok (.if_icmp .ge 22, 3) := by decide +kernel
theorem dX1_firstDayShown_8 : decode cX1_firstDayShown 8 = .ok (.aload_n 0, 1) := by decide +kernel
theorem dX1_firstDayShown_9 : decode cX1_firstDayShown 9 = .ok (.iload_n 2, 1) := by decide +kernel
theorem dX1_firstDayShown_10 : decode cX1_firstDayShown 10 = .ok (.invokevirtual 40, 3) := by decide +kernel
theorem dX1_firstDayShown_13 : decode cX1_firstDayShown 13 = .ok (.iload_n 1, 1) := by decide +kernel
theorem dX1_firstDayShown_14 : decode cX1_firstDayShown 14 = .ok (.if_icmp .ne 7, 3) := by decide +kernel
theorem dX1_firstDayShown_17 : decode cX1_firstDayShown 17 = .ok (.iload_n 2, 1) := by decide +kernel
theorem dX1_firstDayShown_18 : decode cX1_firstDayShown 18 = .ok (.iconst 2, 1) := by decide +kernel
theorem dX1_firstDayShown_19 : decode cX1_firstDayShown 19 = .ok (.idiv, 1) := by decide +kernel
theorem dX1_firstDayShown_20 : decode cX1_firstDayShown 20 = .ok (.ireturn, 1) := by decide +kernel
theorem dX1_firstDayShown_21 : decode cX1_firstDayShown 21 = .ok (.iinc 2 1, 3) := by decide +kernel
theorem dX1_firstDayShown_24 : decode cX1_firstDayShown 24 = .ok (.goto (-22), 3) := by decide +kernel
theorem dX1_firstDayShown_27 : decode cX1_firstDayShown 27 = .ok (.bipush (-6), 2) := by decide +kernel
theorem dX1_firstDayShown_29 : decode cX1_firstDayShown 29 = .ok (.ireturn, 1) := by decide +kernel
theorem dX1_rentOf_0 : decode cX1_rentOf 0 = .ok (.aload_n 0, 1) := by decide +kernel
theorem dX1_rentOf_1 : decode cX1_rentOf 1 = .ok (.getfield 11, 3) := by decide +kernel
theorem dX1_rentOf_4 : decode cX1_rentOf 4 = .ok (.bipush 116, 2) := by decide +kernel
theorem dX1_rentOf_6 : decode cX1_rentOf 6 = .ok (.iload_n 1, 1) := by decide +kernel
theorem dX1_rentOf_7 : decode cX1_rentOf 7 = .ok (.iadd, 1) := by decide +kernel
theorem dX1_rentOf_8 : decode cX1_rentOf 8 = .ok (.iaload, 1) := by decide +kernel
theorem dX1_rentOf_9 : decode cX1_rentOf 9 = .ok (.ireturn, 1) := by decide +kernel
theorem dX1_changeRent_0 : decode cX1_changeRent 0 = .ok (.aload_n 0, 1) := by decide +kernel
theorem dX1_changeRent_1 : decode cX1_changeRent 1 = .ok (.getfield 11, 3) := by decide +kernel
theorem dX1_changeRent_4 : decode cX1_changeRent 4 = .ok (.bipush 116, 2) := by decide +kernel
theorem dX1_changeRent_6 : decode cX1_changeRent 6 = .ok (.iload_n 1, 1) := by decide +kernel
theorem dX1_changeRent_7 : decode cX1_changeRent 7 = .ok (.iadd, 1) := by decide +kernel
theorem dX1_changeRent_8 : decode cX1_changeRent 8 = .ok (.iload_n 2, 1) := by decide +kernel
theorem dX1_changeRent_9 : decode cX1_changeRent 9 = .ok (.iastore, 1) := by decide +kernel
theorem dX1_changeRent_10 : decode cX1_changeRent 10 = .ok (.return_, 1) := by decide +kernel
set_option maxRecDepth 20000 in
theorem ggX1_rentsOf_X1_rentOf : GoodIn wsX1_rentsOf wsX1_rentOf := goodIn_r _ [5, 6, 7] (by decide +kernel) (by decide +kernel)
set_option maxRecDepth 20000 in
theorem gX1_rentsOf_X1_rentOf : GoodIn wsX1_rentsOf (wsV RX1 28 RX1 yX1_rentOf wsX1_rentOf) := goodIn_app (goodIn_of _ (by decide +kernel)) ggX1_rentsOf_X1_rentOf
theorem dX1_rentsOf_0 : decode cX1_rentsOf 0 = .ok (.iconst 0, 1) := by decide +kernel
theorem dX1_rentsOf_1 : decode cX1_rentsOf 1 = .ok (.istore_n 3, 1) := by decide +kernel
theorem dX1_rentsOf_2 : decode cX1_rentsOf 2 = .ok (.iload_n 1, 1) := by decide +kernel
theorem dX1_rentsOf_3 : decode cX1_rentsOf 3 = .ok (.istore 4, 2) := by decide +kernel
theorem dX1_rentsOf_5 : decode cX1_rentsOf 5 = .ok (.iload 4, 2) := by decide +kernel
theorem dX1_rentsOf_7 : decode cX1_rentsOf 7 = .ok (.iload_n 2, 1) := by decide +kernel
theorem dX1_rentsOf_8 : decode cX1_rentsOf 8 = .ok (.if_icmp .ge 18, 3) := by decide +kernel
theorem dX1_rentsOf_11 : decode cX1_rentsOf 11 = .ok (.iload_n 3, 1) := by decide +kernel
theorem dX1_rentsOf_12 : decode cX1_rentsOf 12 = .ok (.aload_n 0, 1) := by decide +kernel
theorem dX1_rentsOf_13 : decode cX1_rentsOf 13 = .ok (.iload 4, 2) := by decide +kernel
theorem dX1_rentsOf_15 : decode cX1_rentsOf 15 = .ok (.invokevirtual 28, 3) := by decide +kernel
theorem dX1_rentsOf_18 : decode cX1_rentsOf 18 = .ok (.iadd, 1) := by decide +kernel
theorem dX1_rentsOf_19 : decode cX1_rentsOf 19 = .ok (.istore_n 3, 1) := by decide +kernel
theorem dX1_rentsOf_20 : decode cX1_rentsOf 20 = .ok (.iinc 4 1, 3) := by decide +kernel
theorem dX1_rentsOf_23 : decode cX1_rentsOf 23 = .ok (.goto (-18), 3) := by decide +kernel
theorem dX1_rentsOf_26 : decode cX1_rentsOf 26 = .ok (.iload_n 3, 1) := by decide +kernel
theorem dX1_rentsOf_27 : decode cX1_rentsOf 27 = .ok (.ireturn, 1) := by decide +kernel
theorem dX2_init_0 : decode cX2_init 0 = .ok (.aload_n 0, 1) := by decide +kernel
theorem dX2_init_1 : decode cX2_init 1 = .ok (.invokespecial 1, 3) := by decide +kernel
theorem dX2_init_4 : decode cX2_init 4 = .ok (.aload_n 0, 1) := by decide +kernel
theorem dX2_init_5 : decode cX2_init 5 = .ok (.bipush 6, 2) := by decide +kernel
theorem dX2_init_7 : decode cX2_init 7 = .ok (.sipush 151, 3) := by decide +kernel
theorem dX2_init_10 : decode cX2_init 10 = .ok (.multianewarray 11 2, 4) := by decide +kernel
theorem dX2_init_14 : decode cX2_init 14 = .ok (.putfield 13, 3) := by decide +kernel
theorem dX2_init_17 : decode cX2_init 17 = .ok (.return_, 1) := by decide +kernel
theorem dX2_size_0 : decode cX2_size 0 = .ok (.aload_n 0, 1) := by decide +kernel
theorem dX2_size_1 : decode cX2_size 1 = .ok (.getfield 16, 3) := by decide +kernel
theorem dX2_size_4 : decode cX2_size 4 = .ok (.ireturn, 1) := by decide +kernel
set_option maxRecDepth 20000 in
theorem ggX2_record_X1_copyTo : GoodIn wsX2_record wsX1_copyTo := goodIn_r _ [8, 9, 10, 11, 12, 13, 17] (by decide +kernel) (by decide +kernel)
set_option maxRecDepth 20000 in
theorem gX2_record_X1_copyTo : GoodIn wsX2_record (wsV RX2 23 RX1 yX1_copyTo wsX1_copyTo) := goodIn_app (goodIn_of _ (by decide +kernel)) ggX2_record_X1_copyTo
theorem dX2_record_0 : decode cX2_record 0 = .ok (.aload_n 1, 1) := by decide +kernel
theorem dX2_record_1 : decode cX2_record 1 = .ok (.aload_n 0, 1) := by decide +kernel
theorem dX2_record_2 : decode cX2_record 2 = .ok (.getfield 13, 3) := by decide +kernel
theorem dX2_record_5 : decode cX2_record 5 = .ok (.aload_n 0, 1) := by decide +kernel
theorem dX2_record_6 : decode cX2_record 6 = .ok (.getfield 20, 3) := by decide +kernel
theorem dX2_record_9 : decode cX2_record 9 = .ok (.aload_n 0, 1) := by decide +kernel
theorem dX2_record_10 : decode cX2_record 10 = .ok (.getfield 16, 3) := by decide +kernel
theorem dX2_record_13 : decode cX2_record 13 = .ok (.iadd, 1) := by decide +kernel
theorem dX2_record_14 : decode cX2_record 14 = .ok (.bipush 6, 2) := by decide +kernel
theorem dX2_record_16 : decode cX2_record 16 = .ok (.irem, 1) := by decide +kernel
theorem dX2_record_17 : decode cX2_record 17 = .ok (.aaload, 1) := by decide +kernel
theorem dX2_record_18 : decode cX2_record 18 = .ok (.invokevirtual 23, 3) := by decide +kernel
theorem dX2_record_21 : decode cX2_record 21 = .ok (.aload_n 0, 1) := by decide +kernel
theorem dX2_record_22 : decode cX2_record 22 = .ok (.getfield 16, 3) := by decide +kernel
theorem dX2_record_25 : decode cX2_record 25 = .ok (.bipush 6, 2) := by decide +kernel
theorem dX2_record_27 : decode cX2_record 27 = .ok (.if_icmp .ge 16, 3) := by decide +kernel
theorem dX2_record_30 : decode cX2_record 30 = .ok (.aload_n 0, 1) := by decide +kernel
theorem dX2_record_31 : decode cX2_record 31 = .ok (.dup, 1) := by decide +kernel
theorem dX2_record_32 : decode cX2_record 32 = .ok (.getfield 16, 3) := by decide +kernel
theorem dX2_record_35 : decode cX2_record 35 = .ok (.iconst 1, 1) := by decide +kernel
theorem dX2_record_36 : decode cX2_record 36 = .ok (.iadd, 1) := by decide +kernel
theorem dX2_record_37 : decode cX2_record 37 = .ok (.putfield 16, 3) := by decide +kernel
theorem dX2_record_40 : decode cX2_record 40 = .ok (.goto 16, 3) := by decide +kernel
theorem dX2_record_43 : decode cX2_record 43 = .ok (.aload_n 0, 1) := by decide +kernel
theorem dX2_record_44 : decode cX2_record 44 = .ok (.aload_n 0, 1) := by decide +kernel
theorem dX2_record_45 : decode cX2_record 45 = .ok (.getfield 20, 3) := by decide +kernel
theorem dX2_record_48 : decode cX2_record 48 = .ok (.iconst 1, 1) := by decide +kernel
theorem dX2_record_49 : decode cX2_record 49 = .ok (.iadd, 1) := by decide +kernel
theorem dX2_record_50 : decode cX2_record 50 = .ok (.bipush 6, 2) := by decide +kernel
theorem dX2_record_52 : decode cX2_record 52 = .ok (.irem, 1) := by decide +kernel
theorem dX2_record_53 : decode cX2_record 53 = .ok (.putfield 20, 3) := by decide +kernel
theorem dX2_record_56 : decode cX2_record 56 = .ok (.return_, 1) := by decide +kernel
theorem dX3_init_0 : decode cX3_init 0 = .ok (.aload_n 0, 1) := by decide +kernel
theorem dX3_init_1 : decode cX3_init 1 = .ok (.invokespecial 3, 3) := by decide +kernel
theorem dX3_init_4 : decode cX3_init 4 = .ok (.aload_n 0, 1) := by decide +kernel
theorem dX3_init_5 : decode cX3_init 5 = .ok (.bipush 60, 2) := by decide +kernel
theorem dX3_init_7 : decode cX3_init 7 = .ok (.newarray .char, 2) := by decide +kernel
theorem dX3_init_9 : decode cX3_init 9 = .ok (.putfield 11, 3) := by decide +kernel
theorem dX3_init_12 : decode cX3_init 12 = .ok (.return_, 1) := by decide +kernel
theorem dX3_length_0 : decode cX3_length 0 = .ok (.aload_n 0, 1) := by decide +kernel
theorem dX3_length_1 : decode cX3_length 1 = .ok (.getfield 15, 3) := by decide +kernel
theorem dX3_length_4 : decode cX3_length 4 = .ok (.ireturn, 1) := by decide +kernel
set_option maxRecDepth 20000 in
theorem ggX4_init_X1_init : GoodIn wsX4_init wsX1_init := goodIn_r _ [27, 28, 2, 3, 21, 29, 30, 31, 32, 33, 51] (by decide +kernel) (by decide +kernel)
set_option maxRecDepth 20000 in
theorem gX4_init_X1_init : GoodIn wsX4_init (wsX1_init) := ggX4_init_X1_init
set_option maxRecDepth 20000 in
theorem ggX4_init_X0_init : GoodIn wsX4_init wsX0_init := goodIn_r _ [35, 36, 2, 3, 21, 37, 38, 39, 40, 58, 59, 60, 61, 62, 63] (by decide +kernel) (by decide +kernel)
set_option maxRecDepth 20000 in
theorem gX4_init_X0_init_n18 : GoodIn wsX4_init (wsX0_init) := ggX4_init_X0_init
set_option maxRecDepth 20000 in
theorem ggX4_init_X3_init : GoodIn wsX4_init wsX3_init := goodIn_r _ [42, 43, 2, 3, 44, 45, 64, 65] (by decide +kernel) (by decide +kernel)
set_option maxRecDepth 20000 in
theorem gX4_init_X3_init_n25 : GoodIn wsX4_init (wsX3_init) := ggX4_init_X3_init
set_option maxRecDepth 20000 in
theorem ggX4_init_X2_init : GoodIn wsX4_init wsX2_init := goodIn_r _ [47, 48, 2, 3, 49, 21, 50, 66, 67, 68] (by decide +kernel) (by decide +kernel)
set_option maxRecDepth 20000 in
theorem gX4_init_X2_init_n32 : GoodIn wsX4_init (wsX2_init) := ggX4_init_X2_init
theorem dX4_init_0 : decode cX4_init 0 = .ok (.aload_n 0, 1) := by decide +kernel
theorem dX4_init_1 : decode cX4_init 1 = .ok (.invokespecial 3, 3) := by decide +kernel
theorem dX4_init_4 : decode cX4_init 4 = .ok (.aload_n 0, 1) := by decide +kernel
theorem dX4_init_5 : decode cX4_init 5 = .ok (.new 9, 3) := by decide +kernel
theorem dX4_init_8 : decode cX4_init 8 = .ok (.dup, 1) := by decide +kernel
theorem dX4_init_9 : decode cX4_init 9 = .ok (.invokespecial 11, 3) := by decide +kernel
theorem dX4_init_12 : decode cX4_init 12 = .ok (.putfield 12, 3) := by decide +kernel
theorem dX4_init_15 : decode cX4_init 15 = .ok (.aload_n 0, 1) := by decide +kernel
theorem dX4_init_16 : decode cX4_init 16 = .ok (.new 16, 3) := by decide +kernel
theorem dX4_init_19 : decode cX4_init 19 = .ok (.dup, 1) := by decide +kernel
theorem dX4_init_20 : decode cX4_init 20 = .ok (.invokespecial 18, 3) := by decide +kernel
theorem dX4_init_23 : decode cX4_init 23 = .ok (.putfield 19, 3) := by decide +kernel
theorem dX4_init_26 : decode cX4_init 26 = .ok (.aload_n 0, 1) := by decide +kernel
theorem dX4_init_27 : decode cX4_init 27 = .ok (.new 23, 3) := by decide +kernel
theorem dX4_init_30 : decode cX4_init 30 = .ok (.dup, 1) := by decide +kernel
theorem dX4_init_31 : decode cX4_init 31 = .ok (.invokespecial 25, 3) := by decide +kernel
theorem dX4_init_34 : decode cX4_init 34 = .ok (.putfield 26, 3) := by decide +kernel
theorem dX4_init_37 : decode cX4_init 37 = .ok (.aload_n 0, 1) := by decide +kernel
theorem dX4_init_38 : decode cX4_init 38 = .ok (.new 30, 3) := by decide +kernel
theorem dX4_init_41 : decode cX4_init 41 = .ok (.dup, 1) := by decide +kernel
theorem dX4_init_42 : decode cX4_init 42 = .ok (.invokespecial 32, 3) := by decide +kernel
theorem dX4_init_45 : decode cX4_init 45 = .ok (.putfield 33, 3) := by decide +kernel
theorem dX4_init_48 : decode cX4_init 48 = .ok (.aload_n 0, 1) := by decide +kernel
theorem dX4_init_49 : decode cX4_init 49 = .ok (.iconst 2, 1) := by decide +kernel
theorem dX4_init_50 : decode cX4_init 50 = .ok (.sipush 151, 3) := by decide +kernel
theorem dX4_init_53 : decode cX4_init 53 = .ok (.multianewarray 37 2, 4) := by decide +kernel
theorem dX4_init_57 : decode cX4_init 57 = .ok (.putfield 39, 3) := by decide +kernel
theorem dX4_init_60 : decode cX4_init 60 = .ok (.aload_n 0, 1) := by decide +kernel
theorem dX4_init_61 : decode cX4_init 61 = .ok (.iconst 2, 1) := by decide +kernel
theorem dX4_init_62 : decode cX4_init 62 = .ok (.newarray .boolean, 2) := by decide +kernel
theorem dX4_init_64 : decode cX4_init 64 = .ok (.putfield 42, 3) := by decide +kernel
theorem dX4_init_67 : decode cX4_init 67 = .ok (.return_, 1) := by decide +kernel
set_option maxRecDepth 20000 in
theorem ggX4_set_X4_isWithin : GoodIn wsX4_set wsX4_isWithin := goodIn_r _ [8] (by decide +kernel) (by decide +kernel)
set_option maxRecDepth 20000 in
theorem gX4_set_X4_isWithin : GoodIn wsX4_set (va_wsS RX4 46 yX4_isWithin wsX4_isWithin) := goodIn_app (goodIn_of _ (by decide +kernel)) ggX4_set_X4_isWithin
set_option maxRecDepth 20000 in
theorem ggX4_set_X2_record : GoodIn wsX4_set wsX2_record := goodIn_r _ [13, 14, 15, 16, 17, 18, 19, 20, 21, 22, 23, 24, 25, 26, 37, 38, 39, 40] (by decide +kernel) (by decide +kernel)
set_option maxRecDepth 20000 in
theorem gX4_set_X2_record : GoodIn wsX4_set (wsV RX4 57 RX2 yX2_record wsX2_record) := goodIn_app (goodIn_of _ (by decide +kernel)) ggX4_set_X2_record
set_option maxRecDepth 20000 in
theorem ggX4_set_X1_changeSetting : GoodIn wsX4_set wsX1_changeSetting := goodIn_r _ [30, 22, 40] (by decide +kernel) (by decide +kernel)
set_option maxRecDepth 20000 in
theorem gX4_set_X1_changeSetting : GoodIn wsX4_set (wsV RX4 61 RX1 yX1_changeSetting wsX1_changeSetting) := goodIn_app (goodIn_of _ (by decide +kernel)) ggX4_set_X1_changeSetting
theorem dX4_set_0 : decode cX4_set 0 = .ok (.iload_n 1, 1) := by decide +kernel
theorem dX4_set_1 : decode cX4_set 1 = .ok (.iconst 0, 1) := by decide +kernel
theorem dX4_set_2 : decode cX4_set 2 = .ok (.iconst 4, 1) := by decide +kernel
theorem dX4_set_3 : decode cX4_set 3 = .ok (.invokestatic 46, 3) := by decide +kernel
theorem dX4_set_6 : decode cX4_set 6 = .ok (.ifCond .ne 6, 3) := by decide +kernel
theorem dX4_set_9 : decode cX4_set 9 = .ok (.bipush (-2), 2) := by decide +kernel
theorem dX4_set_11 : decode cX4_set 11 = .ok (.ireturn, 1) := by decide +kernel
theorem dX4_set_12 : decode cX4_set 12 = .ok (.iload_n 2, 1) := by decide +kernel
theorem dX4_set_13 : decode cX4_set 13 = .ok (.getstatic 50, 3) := by decide +kernel
theorem dX4_set_16 : decode cX4_set 16 = .ok (.iload_n 1, 1) := by decide +kernel
theorem dX4_set_17 : decode cX4_set 17 = .ok (.iaload, 1) := by decide +kernel
theorem dX4_set_18 : decode cX4_set 18 = .ok (.getstatic 54, 3) := by decide +kernel
theorem dX4_set_21 : decode cX4_set 21 = .ok (.iload_n 1, 1) := by decide +kernel
theorem dX4_set_22 : decode cX4_set 22 = .ok (.iaload, 1) := by decide +kernel
theorem dX4_set_23 : decode cX4_set 23 = .ok (.invokestatic 46, 3) := by decide +kernel
theorem dX4_set_26 : decode cX4_set 26 = .ok (.ifCond .ne 6, 3) := by decide +kernel
theorem dX4_set_29 : decode cX4_set 29 = .ok (.bipush (-2), 2) := by decide +kernel
theorem dX4_set_31 : decode cX4_set 31 = .ok (.ireturn, 1) := by decide +kernel
theorem dX4_set_32 : decode cX4_set 32 = .ok (.aload_n 0, 1) := by decide +kernel
theorem dX4_set_33 : decode cX4_set 33 = .ok (.getfield 33, 3) := by decide +kernel
theorem dX4_set_36 : decode cX4_set 36 = .ok (.aload_n 0, 1) := by decide +kernel
theorem dX4_set_37 : decode cX4_set 37 = .ok (.getfield 12, 3) := by decide +kernel
theorem dX4_set_40 : decode cX4_set 40 = .ok (.invokevirtual 57, 3) := by decide +kernel
theorem dX4_set_43 : decode cX4_set 43 = .ok (.aload_n 0, 1) := by decide +kernel
theorem dX4_set_44 : decode cX4_set 44 = .ok (.getfield 12, 3) := by decide +kernel
theorem dX4_set_47 : decode cX4_set 47 = .ok (.iload_n 1, 1) := by decide +kernel
theorem dX4_set_48 : decode cX4_set 48 = .ok (.iload_n 2, 1) := by decide +kernel
theorem dX4_set_49 : decode cX4_set 49 = .ok (.invokevirtual 61, 3) := by decide +kernel
theorem dX4_set_52 : decode cX4_set 52 = .ok (.ireturn, 1) := by decide +kernel
set_option maxRecDepth 20000 in
theorem ggX4_film_X4_isWithin : GoodIn wsX4_film wsX4_isWithin := goodIn_r _ [6] (by decide +kernel) (by decide +kernel)
set_option maxRecDepth 20000 in
theorem gX4_film_X4_isWithin : GoodIn wsX4_film (va_wsS RX4 46 yX4_isWithin wsX4_isWithin) := goodIn_app (goodIn_of _ (by decide +kernel)) ggX4_film_X4_isWithin
set_option maxRecDepth 20000 in
theorem ggX4_film_X4_isDay : GoodIn wsX4_film wsX4_isDay := goodIn_r _ [9, 3, 4, 5, 6] (by decide +kernel) (by decide +kernel)
set_option maxRecDepth 20000 in
theorem gX4_film_X4_isDay : GoodIn wsX4_film (va_wsS RX4 65 yX4_isDay wsX4_isDay) := goodIn_app (goodIn_of _ (by decide +kernel)) ggX4_film_X4_isDay
set_option maxRecDepth 20000 in
theorem ggX4_film_X1_films : GoodIn wsX4_film wsX1_films := goodIn_r _ [14, 15, 43] (by decide +kernel) (by decide +kernel)
set_option maxRecDepth 20000 in
theorem gX4_film_X1_films : GoodIn wsX4_film (wsV RX4 69 RX1 yX1_films wsX1_films) := goodIn_app (goodIn_of _ (by decide +kernel)) ggX4_film_X1_films
set_option maxRecDepth 20000 in
theorem ggX4_film_X2_record : GoodIn wsX4_film wsX2_record := goodIn_r _ [20, 21, 22, 23, 24, 25, 26, 13, 27, 15, 28, 29, 30, 31, 44, 45, 46, 43] (by decide +kernel) (by decide +kernel)
set_option maxRecDepth 20000 in
theorem gX4_film_X2_record : GoodIn wsX4_film (wsV RX4 57 RX2 yX2_record wsX2_record) := goodIn_app (goodIn_of _ (by decide +kernel)) ggX4_film_X2_record
set_option maxRecDepth 20000 in
theorem ggX4_film_X1_addFilm : GoodIn wsX4_film wsX1_addFilm := goodIn_r _ [35, 15, 36, 11, 12, 13, 14, 43] (by decide +kernel) (by decide +kernel)
set_option maxRecDepth 20000 in
theorem gX4_film_X1_addFilm : GoodIn wsX4_film (wsV RX4 73 RX1 yX1_addFilm wsX1_addFilm) := goodIn_app (goodIn_of _ (by decide +kernel)) ggX4_film_X1_addFilm
theorem dX4_film_0 : decode cX4_film 0 = .ok (.iload_n 1, 1) := by decide +kernel
theorem dX4_film_1 : decode cX4_film 1 = .ok (.iconst 0, 1) := by decide +kernel
theorem dX4_film_2 : decode cX4_film 2 = .ok (.iconst 3, 1) := by decide +kernel
theorem dX4_film_3 : decode cX4_film 3 = .ok (.invokestatic 46, 3) := by decide +kernel
theorem dX4_film_6 : decode cX4_film 6 = .ok (.ifCond .eq 14, 3) := by decide +kernel
theorem dX4_film_9 : decode cX4_film 9 = .ok (.iload_n 2, 1) := by decide +kernel
theorem dX4_film_10 : decode cX4_film 10 = .ok (.iconst 1, 1) := by decide +kernel
theorem dX4_film_11 : decode cX4_film 11 = .ok (.sipush 999, 3) := by decide +kernel
theorem dX4_film_14 : decode cX4_film 14 = .ok (.invokestatic 46, 3) := by decide +kernel
theorem dX4_film_17 : decode cX4_film 17 = .ok (.ifCond .ne 6, 3) := by decide +kernel
theorem dX4_film_20 : decode cX4_film 20 = .ok (.bipush (-2), 2) := by decide +kernel
theorem dX4_film_22 : decode cX4_film 22 = .ok (.ireturn, 1) := by decide +kernel
theorem dX4_film_23 : decode cX4_film 23 = .ok (.iload_n 3, 1) := by decide +kernel
theorem dX4_film_24 : decode cX4_film 24 = .ok (.iconst 0, 1) := by decide +kernel
theorem dX4_film_25 : decode cX4_film 25 = .ok (.sipush 500, 3) := by decide +kernel
theorem dX4_film_28 : decode cX4_film 28 = .ok (.invokestatic 46, 3) := by decide +kernel
theorem dX4_film_31 : decode cX4_film 31 = .ok (.ifCond .eq 23, 3) := by decide +kernel
theorem dX4_film_34 : decode cX4_film 34 = .ok (.iload 4, 2) := by decide +kernel
theorem dX4_film_36 : decode cX4_film 36 = .ok (.bipush 20, 2) := by decide +kernel
theorem dX4_film_38 : decode cX4_film 38 = .ok (.bipush 90, 2) := by decide +kernel
theorem dX4_film_40 : decode cX4_film 40 = .ok (.invokestatic 46, 3) := by decide +kernel
theorem dX4_film_43 : decode cX4_film 43 = .ok (.ifCond .eq 11, 3) := by decide +kernel
theorem dX4_film_46 : decode cX4_film 46 = .ok (.iload 5, 2) := by decide +kernel
theorem dX4_film_48 : decode cX4_film 48 = .ok (.invokestatic 65, 3) := by decide +kernel
theorem dX4_film_51 : decode cX4_film 51 = .ok (.ifCond .ne 6, 3) := by decide +kernel
theorem dX4_film_54 : decode cX4_film 54 = .ok (.bipush (-2), 2) := by decide +kernel
theorem dX4_film_56 : decode cX4_film 56 = .ok (.ireturn, 1) := by decide +kernel
theorem dX4_film_57 : decode cX4_film 57 = .ok (.aload_n 0, 1) := by decide +kernel
theorem dX4_film_58 : decode cX4_film 58 = .ok (.getfield 12, 3) := by decide +kernel
theorem dX4_film_61 : decode cX4_film 61 = .ok (.invokevirtual 69, 3) := by decide +kernel
theorem dX4_film_64 : decode cX4_film 64 = .ok (.bipush 8, 2) := by decide +kernel
theorem dX4_film_66 : decode cX4_film 66 = .ok (.if_icmp .lt 6, 3) := by decide +kernel
theorem dX4_film_69 : decode cX4_film 69 = .ok (.bipush (-4), 2) := by decide +kernel
theorem dX4_film_71 : decode cX4_film 71 = .ok (.ireturn, 1) := by decide +kernel
theorem dX4_film_72 : decode cX4_film 72 = .ok (.aload_n 0, 1) := by decide +kernel
theorem dX4_film_73 : decode cX4_film 73 = .ok (.getfield 33, 3) := by decide +kernel
theorem dX4_film_76 : decode cX4_film 76 = .ok (.aload_n 0, 1) := by decide +kernel
theorem dX4_film_77 : decode cX4_film 77 = .ok (.getfield 12, 3) := by decide +kernel
theorem dX4_film_80 : decode cX4_film 80 = .ok (.invokevirtual 57, 3) := by decide +kernel
theorem dX4_film_83 : decode cX4_film 83 = .ok (.aload_n 0, 1) := by decide +kernel
theorem dX4_film_84 : decode cX4_film 84 = .ok (.getfield 12, 3) := by decide +kernel
theorem dX4_film_87 : decode cX4_film 87 = .ok (.iload_n 1, 1) := by decide +kernel
theorem dX4_film_88 : decode cX4_film 88 = .ok (.iload_n 2, 1) := by decide +kernel
theorem dX4_film_89 : decode cX4_film 89 = .ok (.iload_n 3, 1) := by decide +kernel
theorem dX4_film_90 : decode cX4_film 90 = .ok (.iload 4, 2) := by decide +kernel
theorem dX4_film_92 : decode cX4_film 92 = .ok (.iload 5, 2) := by decide +kernel
theorem dX4_film_94 : decode cX4_film 94 = .ok (.invokevirtual 73, 3) := by decide +kernel
theorem dX4_film_97 : decode cX4_film 97 = .ok (.ireturn, 1) := by decide +kernel
set_option maxRecDepth 20000 in
theorem ggX4_show_X4_errorOfShow : GoodIn wsX4_show wsX4_errorOfShow := goodIn_r _ [7, 2, 8, 9, 10, 11, 12, 13, 14, 15, 16, 17, 18, 19, 6, 20, 21, 22, 23, 24, 25, 26, 27, 28, 29, 30, 31, 32, 33, 34, 35, 36, 37, 38, 39, 63, 64, 65, 66, 67, 68, 69] (by decide +kernel) (by decide +kernel)
set_option maxRecDepth 20000 in
theorem gX4_show_X4_errorOfShow : GoodIn wsX4_show (wsV RX4 77 RX4 yX4_errorOfShow wsX4_errorOfShow) := goodIn_app (goodIn_of _ (by decide +kernel)) ggX4_show_X4_errorOfShow
set_option maxRecDepth 20000 in
theorem ggX4_show_X2_record : GoodIn wsX4_show wsX2_record := goodIn_r _ [44, 45, 46, 47, 48, 49, 50, 11, 51, 17, 52, 53, 54, 55, 70, 71, 72, 69] (by decide +kernel) (by decide +kernel)
set_option maxRecDepth 20000 in
theorem gX4_show_X2_record : GoodIn wsX4_show (wsV RX4 57 RX2 yX2_record wsX2_record) := goodIn_app (goodIn_of _ (by decide +kernel)) ggX4_show_X2_record
set_option maxRecDepth 20000 in
theorem ggX4_show_X4_placeOf : GoodIn wsX4_show wsX4_placeOf := goodIn_r _ [58] (by decide +kernel) (by decide +kernel)
set_option maxRecDepth 20000 in
theorem gX4_show_X4_placeOf : GoodIn wsX4_show (va_wsS RX4 81 yX4_placeOf wsX4_placeOf) := goodIn_app (goodIn_of _ (by decide +kernel)) ggX4_show_X4_placeOf
set_option maxRecDepth 20000 in
theorem ggX4_show_X1_replaceShow : GoodIn wsX4_show wsX1_replaceShow := goodIn_r _ [62, 17, 69] (by decide +kernel) (by decide +kernel)
set_option maxRecDepth 20000 in
theorem gX4_show_X1_replaceShow : GoodIn wsX4_show (wsV RX4 84 RX1 yX1_replaceShow wsX1_replaceShow) := goodIn_app (goodIn_of _ (by decide +kernel)) ggX4_show_X1_replaceShow
theorem dX4_show_0 : decode cX4_show 0 = .ok (.aload_n 0, 1) := by decide +kernel
theorem dX4_show_1 : decode cX4_show 1 = .ok (.iload_n 1, 1) := by decide +kernel
theorem dX4_show_2 : decode cX4_show 2 = .ok (.iload_n 2, 1) := by decide +kernel
theorem dX4_show_3 : decode cX4_show 3 = .ok (.iload_n 3, 1) := by decide +kernel
theorem dX4_show_4 : decode cX4_show 4 = .ok (.invokevirtual 77, 3) := by decide +kernel
theorem dX4_show_7 : decode cX4_show 7 = .ok (.istore 4, 2) := by decide +kernel
theorem dX4_show_9 : decode cX4_show 9 = .ok (.iload 4, 2) := by decide +kernel
theorem dX4_show_11 : decode cX4_show 11 = .ok (.ifCond .eq 6, 3) := by decide +kernel
theorem dX4_show_14 : decode cX4_show 14 = .ok (.iload 4, 2) := by decide +kernel
theorem dX4_show_16 : decode cX4_show 16 = .ok (.ireturn, 1) := by decide +kernel
theorem dX4_show_17 : decode cX4_show 17 = .ok (.aload_n 0, 1) := by decide +kernel
theorem dX4_show_18 : decode cX4_show 18 = .ok (.getfield 33, 3) := by decide +kernel
theorem dX4_show_21 : decode cX4_show 21 = .ok (.aload_n 0, 1) := by decide +kernel
theorem dX4_show_22 : decode cX4_show 22 = .ok (.getfield 12, 3) := by decide +kernel
theorem dX4_show_25 : decode cX4_show 25 = .ok (.invokevirtual 57, 3) := by decide +kernel
theorem dX4_show_28 : decode cX4_show 28 = .ok (.aload_n 0, 1) := by decide +kernel
theorem dX4_show_29 : decode cX4_show 29 = .ok (.getfield 12, 3) := by decide +kernel
theorem dX4_show_32 : decode cX4_show 32 = .ok (.iload_n 2, 1) := by decide +kernel
theorem dX4_show_33 : decode cX4_show 33 = .ok (.iload_n 3, 1) := by decide +kernel
theorem dX4_show_34 : decode cX4_show 34 = .ok (.invokestatic 81, 3) := by decide +kernel
theorem dX4_show_37 : decode cX4_show 37 = .ok (.iload_n 1, 1) := by decide +kernel
theorem dX4_show_38 : decode cX4_show 38 = .ok (.invokevirtual 84, 3) := by decide +kernel
theorem dX4_show_41 : decode cX4_show 41 = .ok (.ireturn, 1) := by decide +kernel
set_option maxRecDepth 20000 in
theorem ggX4_drop_X4_isPlace : GoodIn wsX4_drop wsX4_isPlace := goodIn_r _ [6, 7, 8, 5, 9, 10, 11, 12] (by decide +kernel) (by decide +kernel)
set_option maxRecDepth 20000 in
theorem gX4_drop_X4_isPlace : GoodIn wsX4_drop (va_wsS RX4 87 yX4_isPlace wsX4_isPlace) := goodIn_app (goodIn_of _ (by decide +kernel)) ggX4_drop_X4_isPlace
set_option maxRecDepth 20000 in
theorem ggX4_drop_X4_placeOf : GoodIn wsX4_drop wsX4_placeOf := goodIn_r _ [15] (by decide +kernel) (by decide +kernel)
set_option maxRecDepth 20000 in
theorem gX4_drop_X4_placeOf : GoodIn wsX4_drop (va_wsS RX4 81 yX4_placeOf wsX4_placeOf) := goodIn_app (goodIn_of _ (by decide +kernel)) ggX4_drop_X4_placeOf
set_option maxRecDepth 20000 in
theorem ggX4_drop_X1_showAt : GoodIn wsX4_drop wsX1_showAt := goodIn_r _ [20, 21, 48] (by decide +kernel) (by decide +kernel)
set_option maxRecDepth 20000 in
theorem gX4_drop_X1_showAt : GoodIn wsX4_drop (wsV RX4 91 RX1 yX1_showAt wsX1_showAt) := goodIn_app (goodIn_of _ (by decide +kernel)) ggX4_drop_X1_showAt
set_option maxRecDepth 20000 in
theorem ggX4_drop_X2_record : GoodIn wsX4_drop wsX2_record := goodIn_r _ [26, 27, 28, 29, 30, 31, 32, 19, 33, 21, 34, 35, 36, 37, 49, 50, 51, 48] (by decide +kernel) (by decide +kernel)
set_option maxRecDepth 20000 in
theorem gX4_drop_X2_record : GoodIn wsX4_drop (wsV RX4 57 RX2 yX2_record wsX2_record) := goodIn_app (goodIn_of _ (by decide +kernel)) ggX4_drop_X2_record
set_option maxRecDepth 20000 in
theorem ggX4_drop_X1_replaceShow : GoodIn wsX4_drop wsX1_replaceShow := goodIn_r _ [41, 21, 48] (by decide +kernel) (by decide +kernel)
set_option maxRecDepth 20000 in
theorem gX4_drop_X1_replaceShow : GoodIn wsX4_drop (wsV RX4 84 RX1 yX1_replaceShow wsX1_replaceShow) := goodIn_app (goodIn_of _ (by decide +kernel)) ggX4_drop_X1_replaceShow
theorem dX4_drop_0 : decode cX4_drop 0 = .ok (.iload_n 1, 1) := by decide +kernel
theorem dX4_drop_1 : decode cX4_drop 1 = .ok (.iload_n 2, 1) := by decide +kernel
theorem dX4_drop_2 : decode cX4_drop 2 = .ok (.invokestatic 87, 3) := by decide +kernel
theorem dX4_drop_5 : decode cX4_drop 5 = .ok (.ifCond .ne 6, 3) := by decide +kernel
theorem dX4_drop_8 : decode cX4_drop 8 = .ok (.bipush (-2), 2) := by decide +kernel
theorem dX4_drop_10 : decode cX4_drop 10 = .ok (.ireturn, 1) := by decide +kernel
theorem dX4_drop_11 : decode cX4_drop 11 = .ok (.iload_n 1, 1) := by decide +kernel
theorem dX4_drop_12 : decode cX4_drop 12 = .ok (.iload_n 2, 1) := by decide +kernel
theorem dX4_drop_13 : decode cX4_drop 13 = .ok (.invokestatic 81, 3) := by decide +kernel
theorem dX4_drop_16 : decode cX4_drop 16 = .ok (.istore_n 3, 1) := by decide +kernel
theorem dX4_drop_17 : decode cX4_drop 17 = .ok (.aload_n 0, 1) := by decide +kernel
theorem dX4_drop_18 : decode cX4_drop 18 = .ok (.getfield 12, 3) := by decide +kernel
theorem dX4_drop_21 : decode cX4_drop 21 = .ok (.iload_n 3, 1) := by decide +kernel
theorem dX4_drop_22 : decode cX4_drop 22 = .ok (.invokevirtual 91, 3) := by decide +kernel
theorem dX4_drop_25 : decode cX4_drop 25 = .ok (.bipush (-6), 2) := by decide +kernel
theorem dX4_drop_27 : decode cX4_drop 27 = .ok (.if_icmp .ne 6, 3) := by decide +kernel
theorem dX4_drop_30 : decode cX4_drop 30 = .ok (.bipush (-5), 2) := by decide +kernel
theorem dX4_drop_32 : decode cX4_drop 32 = .ok (.ireturn, 1) := by decide +kernel
theorem dX4_drop_33 : decode cX4_drop 33 = .ok (.aload_n 0, 1) := by decide +kernel
theorem dX4_drop_34 : decode cX4_drop 34 = .ok (.getfield 33, 3) := by decide +kernel
theorem dX4_drop_37 : decode cX4_drop 37 = .ok (.aload_n 0, 1) := by decide +kernel
theorem dX4_drop_38 : decode cX4_drop 38 = .ok (.getfield 12, 3) := by decide +kernel
theorem dX4_drop_41 : decode cX4_drop 41 = .ok (.invokevirtual 57, 3) := by decide +kernel
theorem dX4_drop_44 : decode cX4_drop 44 = .ok (.aload_n 0, 1) := by decide +kernel
theorem dX4_drop_45 : decode cX4_drop 45 = .ok (.getfield 12, 3) := by decide +kernel
theorem dX4_drop_48 : decode cX4_drop 48 = .ok (.iload_n 3, 1) := by decide +kernel
theorem dX4_drop_49 : decode cX4_drop 49 = .ok (.bipush (-6), 2) := by decide +kernel
theorem dX4_drop_51 : decode cX4_drop 51 = .ok (.invokevirtual 84, 3) := by decide +kernel
theorem dX4_drop_54 : decode cX4_drop 54 = .ok (.ireturn, 1) := by decide +kernel
set_option maxRecDepth 20000 in
theorem ggX4_exchange_X4_isPlace : GoodIn wsX4_exchange wsX4_isPlace := goodIn_r _ [7, 8, 9, 6, 10, 11, 12, 13] (by decide +kernel) (by decide +kernel)
set_option maxRecDepth 20000 in
theorem gX4_exchange_X4_isPlace : GoodIn wsX4_exchange (va_wsS RX4 87 yX4_isPlace wsX4_isPlace) := goodIn_app (goodIn_of _ (by decide +kernel)) ggX4_exchange_X4_isPlace
set_option maxRecDepth 20000 in
theorem ggX4_exchange_X4_placeOf : GoodIn wsX4_exchange wsX4_placeOf := goodIn_r _ [16] (by decide +kernel) (by decide +kernel)
set_option maxRecDepth 20000 in
theorem gX4_exchange_X4_placeOf : GoodIn wsX4_exchange (va_wsS RX4 81 yX4_placeOf wsX4_placeOf) := goodIn_app (goodIn_of _ (by decide +kernel)) ggX4_exchange_X4_placeOf
set_option maxRecDepth 20000 in
theorem ggX4_exchange_X1_showAt : GoodIn wsX4_exchange wsX1_showAt := goodIn_r _ [21, 22, 129] (by decide +kernel) (by decide +kernel)
set_option maxRecDepth 20000 in
theorem gX4_exchange_X1_showAt : GoodIn wsX4_exchange (wsV RX4 91 RX1 yX1_showAt wsX1_showAt) := goodIn_app (goodIn_of _ (by decide +kernel)) ggX4_exchange_X1_showAt
set_option maxRecDepth 20000 in
theorem ggX4_exchange_X1_canHold : GoodIn wsX4_exchange wsX1_canHold := goodIn_r _ [26, 27, 28, 29, 20, 30, 22, 31, 32, 33, 34, 35, 36, 37, 38, 39, 40, 41, 42, 129] (by decide +kernel) (by decide +kernel)
set_option maxRecDepth 20000 in
theorem gX4_exchange_X1_canHold : GoodIn wsX4_exchange (wsV RX4 95 RX1 yX1_canHold wsX1_canHold) := goodIn_app (goodIn_of _ (by decide +kernel)) ggX4_exchange_X1_canHold
set_option maxRecDepth 20000 in
theorem ggX4_exchange_X4_sumOfFilms : GoodIn wsX4_exchange wsX4_sumOfFilms := goodIn_r _ [46, 1, 47, 36, 37, 20, 38, 22, 48, 49, 50, 6, 51, 52, 53, 54, 55, 56, 57, 58, 59, 60, 61, 40, 41, 42, 62, 63, 64, 65, 66, 67, 68, 69, 18, 19, 21, 70, 71, 72, 73, 74, 75, 76, 77, 78, 79, 80, 81, 82, 83, 84, 85, 86, 87, 88, 89, 90, 91, 92, 93, 94, 95, 96, 97, 98, 99, 100, 101, 102, 123, 124, 125, 126, 127, 128, 129, 130, 131, 132, 133, 134, 135] (by decide +kernel) (by decide +kernel)
set_option maxRecDepth 20000 in
theorem gX4_exchange_X4_sumOfFilms : GoodIn wsX4_exchange (wsV RX4 98 RX4 yX4_sumOfFilms wsX4_sumOfFilms) := goodIn_app (goodIn_of _ (by decide +kernel)) ggX4_exchange_X4_sumOfFilms
set_option maxRecDepth 20000 in
theorem ggX4_exchange_X2_record : GoodIn wsX4_exchange wsX2_record := goodIn_r _ [107, 108, 109, 110, 111, 112, 113, 20, 114, 22, 115, 116, 117, 118, 136, 137, 138, 129] (by decide +kernel) (by decide +kernel)
set_option maxRecDepth 20000 in
theorem gX4_exchange_X2_record : GoodIn wsX4_exchange (wsV RX4 57 RX2 yX2_record wsX2_record) := goodIn_app (goodIn_of _ (by decide +kernel)) ggX4_exchange_X2_record
set_option maxRecDepth 20000 in
theorem ggX4_exchange_X1_replaceShow : GoodIn wsX4_exchange wsX1_replaceShow := goodIn_r _ [122, 22, 129] (by decide +kernel) (by decide +kernel)
set_option maxRecDepth 20000 in
theorem gX4_exchange_X1_replaceShow : GoodIn wsX4_exchange (wsV RX4 84 RX1 yX1_replaceShow wsX1_replaceShow) := goodIn_app (goodIn_of _ (by decide +kernel)) ggX4_exchange_X1_replaceShow
theorem dX4_exchange_0 : decode cX4_exchange 0 = .ok (.iload_n 1, 1) := by decide +kernel
theorem dX4_exchange_1 : decode cX4_exchange 1 = .ok (.iload_n 2, 1) := by decide +kernel
theorem dX4_exchange_2 : decode cX4_exchange 2 = .ok (.invokestatic 87, 3) := by decide +kernel
theorem dX4_exchange_5 : decode cX4_exchange 5 = .ok (.ifCond .eq 12, 3) := by decide +kernel
theorem dX4_exchange_8 : decode cX4_exchange 8 = .ok (.iload_n 3, 1) := by decide +kernel
theorem dX4_exchange_9 : decode cX4_exchange 9 = .ok (.iload 4, 2) := by decide +kernel
theorem dX4_exchange_11 : decode cX4_exchange 11 = .ok (.invokestatic 87, 3) := by decide +kernel
theorem dX4_exchange_14 : decode cX4_exchange 14 = .ok (.ifCond .ne 6, 3) := by decide +kernel
theorem dX4_exchange_17 : decode cX4_exchange 17 = .ok (.bipush (-2), 2) := by decide +kernel
theorem dX4_exchange_19 : decode cX4_exchange 19 = .ok (.ireturn, 1) := by decide +kernel
theorem dX4_exchange_20 : decode cX4_exchange 20 = .ok (.iload_n 1, 1) := by decide +kernel
theorem dX4_exchange_21 : decode cX4_exchange 21 = .ok (.iload_n 2, 1) := by decide +kernel
theorem dX4_exchange_22 : decode cX4_exchange 22 = .ok (.invokestatic 81, 3) := by decide +kernel
theorem dX4_exchange_25 : decode cX4_exchange 25 = .ok (.istore 5, 2) := by decide +kernel
theorem dX4_exchange_27 : decode cX4_exchange 27 = .ok (.iload_n 3, 1) := by decide +kernel
theorem dX4_exchange_28 : decode cX4_exchange 28 = .ok (.iload 4, 2) := by decide +kernel
theorem dX4_exchange_30 : decode cX4_exchange 30 = .ok (.invokestatic 81, 3) := by decide +kernel
theorem dX4_exchange_33 : decode cX4_exchange 33 = .ok (.istore 6, 2) := by decide +kernel
theorem dX4_exchange_35 : decode cX4_exchange 35 = .ok (.aload_n 0, 1) := by decide +kernel
theorem dX4_exchange_36 : decode cX4_exchange 36 = .ok (.getfield 12, 3) := by decide +kernel
theorem dX4_exchange_39 : decode cX4_exchange 39 = .ok (.iload_n 3, 1) := by decide +kernel
theorem dX4_exchange_40 : decode cX4_exchange 40 = .ok (.aload_n 0, 1) := by decide +kernel
theorem dX4_exchange_41 : decode cX4_exchange 41 = .ok (.getfield 12, 3) := by decide +kernel
theorem dX4_exchange_44 : decode cX4_exchange 44 = .ok (.iload 5, 2) := by decide +kernel
theorem dX4_exchange_46 : decode cX4_exchange 46 = .ok (.invokevirtual 91, 3) := by decide +kernel
theorem dX4_exchange_49 : decode cX4_exchange 49 = .ok (.invokevirtual 95, 3) := by decide +kernel
theorem dX4_exchange_52 : decode cX4_exchange 52 = .ok (.ifCond .eq 23, 3) := by decide +kernel
theorem dX4_exchange_55 : decode cX4_exchange 55 = .ok (.aload_n 0, 1) := by decide +kernel
theorem dX4_exchange_56 : decode cX4_exchange 56 = .ok (.getfield 12, 3) := by decide +kernel
theorem dX4_exchange_59 : decode cX4_exchange 59 = .ok (.iload_n 1, 1) := by decide +kernel
theorem dX4_exchange_60 : decode cX4_exchange 60 = .ok (.aload_n 0, 1) := by decide +kernel
theorem dX4_exchange_61 : decode cX4_exchange 61 = .ok (.getfield 12, 3) := by decide +kernel
theorem dX4_exchange_64 : decode cX4_exchange 64 = .ok (.iload 6, 2) := by decide +kernel
theorem dX4_exchange_66 : decode cX4_exchange 66 = .ok (.invokevirtual 91, 3) := by decide +kernel
theorem dX4_exchange_69 : decode cX4_exchange 69 = .ok (.invokevirtual 95, 3) := by decide +kernel
theorem dX4_exchange_72 : decode cX4_exchange 72 = .ok (.ifCond .ne 6, 3) := by decide +kernel
theorem dX4_exchange_75 : decode cX4_exchange 75 = .ok (.bipush (-5), 2) := by decide +kernel
theorem dX4_exchange_77 : decode cX4_exchange 77 = .ok (.ireturn, 1) := by decide +kernel
theorem dX4_exchange_78 : decode cX4_exchange 78 = .ok (.aload_n 0, 1) := by decide +kernel
theorem dX4_exchange_79 : decode cX4_exchange 79 = .ok (.iconst 4, 1) := by decide +kernel
theorem dX4_exchange_80 : decode cX4_exchange 80 = .ok (.invokevirtual 98, 3) := by decide +kernel
theorem dX4_exchange_83 : decode cX4_exchange 83 = .ok (.istore 7, 2) := by decide +kernel
theorem dX4_exchange_85 : decode cX4_exchange 85 = .ok (.aload_n 0, 1) := by decide +kernel
theorem dX4_exchange_86 : decode cX4_exchange 86 = .ok (.getfield 33, 3) := by decide +kernel
theorem dX4_exchange_89 : decode cX4_exchange 89 = .ok (.aload_n 0, 1) := by decide +kernel
theorem dX4_exchange_90 : decode cX4_exchange 90 = .ok (.getfield 12, 3) := by decide +kernel
theorem dX4_exchange_93 : decode cX4_exchange 93 = .ok (.invokevirtual 57, 3) := by decide +kernel
theorem dX4_exchange_96 : decode cX4_exchange 96 = .ok (.aload_n 0, 1) := by decide +kernel
theorem dX4_exchange_97 : decode cX4_exchange 97 = .ok (.getfield 12, 3) := by decide +kernel
theorem dX4_exchange_100 : decode cX4_exchange 100 = .ok (.iload 5, 2) := by decide +kernel
theorem dX4_exchange_102 : decode cX4_exchange 102 = .ok (.aload_n 0, 1) := by decide +kernel
theorem dX4_exchange_103 : decode cX4_exchange 103 = .ok (.getfield 12, 3) := by decide +kernel
theorem dX4_exchange_106 : decode cX4_exchange 106 = .ok (.iload 6, 2) := by decide +kernel
theorem dX4_exchange_108 : decode cX4_exchange 108 = .ok (.invokevirtual 91, 3) := by decide +kernel
theorem dX4_exchange_111 : decode cX4_exchange 111 = .ok (.invokevirtual 84, 3) := by decide +kernel
theorem dX4_exchange_114 : decode cX4_exchange 114 = .ok (.istore 8, 2) := by decide +kernel
theorem dX4_exchange_116 : decode cX4_exchange 116 = .ok (.aload_n 0, 1) := by decide +kernel
theorem dX4_exchange_117 : decode cX4_exchange 117 = .ok (.getfield 12, 3) := by decide +kernel
theorem dX4_exchange_120 : decode cX4_exchange 120 = .ok (.iload 6, 2) := by decide +kernel
theorem dX4_exchange_122 : decode cX4_exchange 122 = .ok (.iload 8, 2) := by decide +kernel
theorem dX4_exchange_124 : decode cX4_exchange 124 = .ok (.invokevirtual 84, 3) := by decide +kernel
theorem dX4_exchange_127 : decode cX4_exchange 127 = .ok (.pop, 1) := by decide +kernel
theorem dX4_exchange_128 : decode cX4_exchange 128 = .ok (.aload_n 0, 1) := by decide +kernel
theorem dX4_exchange_129 : decode cX4_exchange 129 = .ok (.iconst 4, 1) := by decide +kernel
theorem dX4_exchange_130 : decode cX4_exchange 130 = .ok (.invokevirtual 98, 3) := by decide +kernel
theorem dX4_exchange_133 : decode cX4_exchange 133 = .ok (.iload 7, 2) := by decide +kernel
theorem dX4_exchange_135 : decode cX4_exchange 135 = .ok (.isub, 1) := by decide +kernel
theorem dX4_exchange_136 : decode cX4_exchange 136 = .ok (.ldc 101, 2) := by decide +kernel
theorem dX4_exchange_138 : decode cX4_exchange 138 = .ok (.iadd, 1) := by decide +kernel
theorem dX4_exchange_139 : decode cX4_exchange 139 = .ok (.ireturn, 1) := by decide +kernel
set_option maxRecDepth 20000 in
theorem ggX4_let_X4_isDay : GoodIn wsX4_let wsX4_isDay := goodIn_r _ [6, 7, 8, 5, 9] (by decide +kernel) (by decide +kernel)
set_option maxRecDepth 20000 in
theorem gX4_let_X4_isDay : GoodIn wsX4_let (va_wsS RX4 65 yX4_isDay wsX4_isDay) := goodIn_app (goodIn_of _ (by decide +kernel)) ggX4_let_X4_isDay
set_option maxRecDepth 20000 in
theorem ggX4_let_X4_isWithin : GoodIn wsX4_let wsX4_isWithin := goodIn_r _ [9] (by decide +kernel) (by decide +kernel)
set_option maxRecDepth 20000 in
theorem gX4_let_X4_isWithin : GoodIn wsX4_let (va_wsS RX4 46 yX4_isWithin wsX4_isWithin) := goodIn_app (goodIn_of _ (by decide +kernel)) ggX4_let_X4_isWithin
set_option maxRecDepth 20000 in
theorem ggX4_let_X2_record : GoodIn wsX4_let wsX2_record := goodIn_r _ [14, 15, 16, 17, 18, 19, 20, 21, 22, 23, 24, 25, 26, 27, 49, 50, 51, 52] (by decide +kernel) (by decide +kernel)
set_option maxRecDepth 20000 in
theorem gX4_let_X2_record : GoodIn wsX4_let (wsV RX4 57 RX2 yX2_record wsX2_record) := goodIn_app (goodIn_of _ (by decide +kernel)) ggX4_let_X2_record
set_option maxRecDepth 20000 in
theorem ggX4_let_X1_changeRent : GoodIn wsX4_let wsX1_changeRent := goodIn_r _ [31, 23, 52] (by decide +kernel) (by decide +kernel)
set_option maxRecDepth 20000 in
theorem gX4_let_X1_changeRent : GoodIn wsX4_let (wsV RX4 102 RX1 yX1_changeRent wsX1_changeRent) := goodIn_app (goodIn_of _ (by decide +kernel)) ggX4_let_X1_changeRent
set_option maxRecDepth 20000 in
theorem ggX4_let_X4_dropShowsOfDay : GoodIn wsX4_let wsX4_dropShowsOfDay := goodIn_r _ [35, 2, 36, 37, 5, 38, 39, 40, 41, 21, 42, 23, 43, 44, 45, 46, 47, 48, 52] (by decide +kernel) (by decide +kernel)
set_option maxRecDepth 20000 in
theorem gX4_let_X4_dropShowsOfDay : GoodIn wsX4_let (wsV RX4 106 RX4 yX4_dropShowsOfDay wsX4_dropShowsOfDay) := goodIn_app (goodIn_of _ (by decide +kernel)) ggX4_let_X4_dropShowsOfDay
theorem dX4_let_0 : decode cX4_let 0 = .ok (.iload_n 1, 1) := by decide +kernel
theorem dX4_let_1 : decode cX4_let 1 = .ok (.invokestatic 65, 3) := by decide +kernel
theorem dX4_let_4 : decode cX4_let 4 = .ok (.ifCond .eq 14, 3) := by decide +kernel
theorem dX4_let_7 : decode cX4_let 7 = .ok (.iload_n 2, 1) := by decide +kernel
theorem dX4_let_8 : decode cX4_let 8 = .ok (.iconst 0, 1) := by decide +kernel
theorem dX4_let_9 : decode cX4_let 9 = .ok (.sipush 999, 3) := by decide +kernel
theorem dX4_let_12 : decode cX4_let 12 = .ok (.invokestatic 46, 3) := by decide +kernel
theorem dX4_let_15 : decode cX4_let 15 = .ok (.ifCond .ne 6, 3) := by decide +kernel
theorem dX4_let_18 : decode cX4_let 18 = .ok (.bipush (-2), 2) := by decide +kernel
theorem dX4_let_20 : decode cX4_let 20 = .ok (.ireturn, 1) := by decide +kernel
theorem dX4_let_21 : decode cX4_let 21 = .ok (.aload_n 0, 1) := by decide +kernel
theorem dX4_let_22 : decode cX4_let 22 = .ok (.getfield 33, 3) := by decide +kernel
theorem dX4_let_25 : decode cX4_let 25 = .ok (.aload_n 0, 1) := by decide +kernel
theorem dX4_let_26 : decode cX4_let 26 = .ok (.getfield 12, 3) := by decide +kernel
theorem dX4_let_29 : decode cX4_let 29 = .ok (.invokevirtual 57, 3) := by decide +kernel
theorem dX4_let_32 : decode cX4_let 32 = .ok (.aload_n 0, 1) := by decide +kernel
theorem dX4_let_33 : decode cX4_let 33 = .ok (.getfield 12, 3) := by decide +kernel
theorem dX4_let_36 : decode cX4_let 36 = .ok (.iload_n 1, 1) := by decide +kernel
theorem dX4_let_37 : decode cX4_let 37 = .ok (.iload_n 2, 1) := by decide +kernel
theorem dX4_let_38 : decode cX4_let 38 = .ok (.invokevirtual 102, 3) := by decide +kernel
theorem dX4_let_41 : decode cX4_let 41 = .ok (.iload_n 2, 1) := by decide +kernel
theorem dX4_let_42 : decode cX4_let 42 = .ok (.ifCond .ne 7, 3) := by decide +kernel
theorem dX4_let_45 : decode cX4_let 45 = .ok (.iconst 0, 1) := by decide +kernel
theorem dX4_let_46 : decode cX4_let 46 = .ok (.goto 8, 3) := by decide +kernel
theorem dX4_let_49 : decode cX4_let 49 = .ok (.aload_n 0, 1) := by decide +kernel
theorem dX4_let_50 : decode cX4_let 50 = .ok (.iload_n 1, 1) := by decide +kernel
theorem dX4_let_51 : decode cX4_let 51 = .ok (.invokevirtual 106, 3) := by decide +kernel
theorem dX4_let_54 : decode cX4_let 54 = .ok (.ireturn, 1) := by decide +kernel
set_option maxRecDepth 20000 in
theorem ggX4_at_X4_isPlace : GoodIn wsX4_at wsX4_isPlace := goodIn_r _ [6, 7, 8, 5, 9, 10, 11, 12] (by decide +kernel) (by decide +kernel)
set_option maxRecDepth 20000 in
theorem gX4_at_X4_isPlace : GoodIn wsX4_at (va_wsS RX4 87 yX4_isPlace wsX4_isPlace) := goodIn_app (goodIn_of _ (by decide +kernel)) ggX4_at_X4_isPlace
set_option maxRecDepth 20000 in
theorem ggX4_at_X4_isWithin : GoodIn wsX4_at wsX4_isWithin := goodIn_r _ [12] (by decide +kernel) (by decide +kernel)
set_option maxRecDepth 20000 in
theorem gX4_at_X4_isWithin : GoodIn wsX4_at (va_wsS RX4 46 yX4_isWithin wsX4_isWithin) := goodIn_app (goodIn_of _ (by decide +kernel)) ggX4_at_X4_isWithin
set_option maxRecDepth 20000 in
theorem ggX4_at_X4_placeOf : GoodIn wsX4_at wsX4_placeOf := goodIn_r _ [15] (by decide +kernel) (by decide +kernel)
set_option maxRecDepth 20000 in
theorem gX4_at_X4_placeOf : GoodIn wsX4_at (va_wsS RX4 81 yX4_placeOf wsX4_placeOf) := goodIn_app (goodIn_of _ (by decide +kernel)) ggX4_at_X4_placeOf
set_option maxRecDepth 20000 in
theorem ggX4_at_X1_showAt : GoodIn wsX4_at wsX1_showAt := goodIn_r _ [20, 21, 94] (by decide +kernel) (by decide +kernel)
set_option maxRecDepth 20000 in
theorem gX4_at_X1_showAt : GoodIn wsX4_at (wsV RX4 91 RX1 yX1_showAt wsX1_showAt) := goodIn_app (goodIn_of _ (by decide +kernel)) ggX4_at_X1_showAt
set_option maxRecDepth 20000 in
theorem ggX4_at_X1_hasFilm : GoodIn wsX4_at wsX1_hasFilm := goodIn_r _ [25, 26, 27, 28, 19, 29, 21, 94] (by decide +kernel) (by decide +kernel)
set_option maxRecDepth 20000 in
theorem gX4_at_X1_hasFilm : GoodIn wsX4_at (wsV RX4 118 RX1 yX1_hasFilm wsX1_hasFilm) := goodIn_app (goodIn_of _ (by decide +kernel)) ggX4_at_X1_hasFilm
set_option maxRecDepth 20000 in
theorem ggX4_at_X0_follow : GoodIn wsX4_at wsX0_follow := goodIn_r _ [34, 35, 36, 37, 38, 39, 40, 19, 41, 21, 42, 43, 44, 33, 45, 46, 47, 48, 49, 17, 18, 20, 50, 51, 52, 53, 54, 55, 56, 57, 58, 59, 60, 61, 62, 63, 64, 65, 66, 67, 68, 69, 70, 71, 72, 73, 74, 75, 76, 77, 78, 95, 96, 97, 98, 99, 100, 94] (by decide +kernel) (by decide +kernel)
set_option maxRecDepth 20000 in
theorem gX4_at_X0_follow : GoodIn wsX4_at (wsV RX4 121 RX0 yX0_follow wsX0_follow) := goodIn_app (goodIn_of _ (by decide +kernel)) ggX4_at_X0_follow
set_option maxRecDepth 20000 in
theorem ggX4_at_X0_peopleAt : GoodIn wsX4_at wsX0_peopleAt := goodIn_r _ [82, 46, 95, 96, 97, 98, 99, 100] (by decide +kernel) (by decide +kernel)
set_option maxRecDepth 20000 in
theorem gX4_at_X0_peopleAt : GoodIn wsX4_at (wsV RX4 125 RX0 yX0_peopleAt wsX0_peopleAt) := goodIn_app (goodIn_of _ (by decide +kernel)) ggX4_at_X0_peopleAt
set_option maxRecDepth 20000 in
theorem ggX4_at_X1_setting : GoodIn wsX4_at wsX1_setting := goodIn_r _ [60, 21, 94] (by decide +kernel) (by decide +kernel)
set_option maxRecDepth 20000 in
theorem gX4_at_X1_setting : GoodIn wsX4_at (wsV RX4 128 RX1 yX1_setting wsX1_setting) := goodIn_app (goodIn_of _ (by decide +kernel)) ggX4_at_X1_setting
set_option maxRecDepth 20000 in
theorem ggX4_at_X0_leftBehind : GoodIn wsX4_at wsX0_leftBehind := goodIn_r _ [87, 47, 95, 96, 97, 98, 99, 100] (by decide +kernel) (by decide +kernel)
set_option maxRecDepth 20000 in
theorem gX4_at_X0_leftBehind : GoodIn wsX4_at (wsV RX4 131 RX0 yX0_leftBehind wsX0_leftBehind) := goodIn_app (goodIn_of _ (by decide +kernel)) ggX4_at_X0_leftBehind
theorem dX4_at_0 : decode cX4_at 0 = .ok (.iload_n 1, 1) := by decide +kernel
theorem dX4_at_1 : decode cX4_at 1 = .ok (.iload_n 2, 1) := by decide +kernel
theorem dX4_at_2 : decode cX4_at 2 = .ok (.invokestatic 87, 3) := by decide +kernel
theorem dX4_at_5 : decode cX4_at 5 = .ok (.ifCond .eq 12, 3) := by decide +kernel
theorem dX4_at_8 : decode cX4_at 8 = .ok (.iload_n 3, 1) := by decide +kernel
theorem dX4_at_9 : decode cX4_at 9 = .ok (.iconst 0, 1) := by decide +kernel
theorem dX4_at_10 : decode cX4_at 10 = .ok (.iconst 3, 1) := by decide +kernel
theorem dX4_at_11 : decode cX4_at 11 = .ok (.invokestatic 46, 3) := by decide +kernel
theorem dX4_at_14 : decode cX4_at 14 = .ok (.ifCond .ne 6, 3) := by decide +kernel
theorem dX4_at_17 : decode cX4_at 17 = .ok (.bipush (-2), 2) := by decide +kernel
theorem dX4_at_19 : decode cX4_at 19 = .ok (.ireturn, 1) := by decide +kernel
theorem dX4_at_20 : decode cX4_at 20 = .ok (.iload_n 1, 1) := by decide +kernel
theorem dX4_at_21 : decode cX4_at 21 = .ok (.iload_n 2, 1) := by decide +kernel
theorem dX4_at_22 : decode cX4_at 22 = .ok (.invokestatic 81, 3) := by decide +kernel
theorem dX4_at_25 : decode cX4_at 25 = .ok (.istore 4, 2) := by decide +kernel
theorem dX4_at_27 : decode cX4_at 27 = .ok (.aload_n 0, 1) := by decide +kernel
theorem dX4_at_28 : decode cX4_at 28 = .ok (.getfield 12, 3) := by decide +kernel
theorem dX4_at_31 : decode cX4_at 31 = .ok (.iload 4, 2) := by decide +kernel
theorem dX4_at_33 : decode cX4_at 33 = .ok (.invokevirtual 91, 3) := by decide +kernel
theorem dX4_at_36 : decode cX4_at 36 = .ok (.istore 5, 2) := by decide +kernel
theorem dX4_at_38 : decode cX4_at 38 = .ok (.aload_n 0, 1) := by decide +kernel
theorem dX4_at_39 : decode cX4_at 39 = .ok (.getfield 12, 3) := by decide +kernel
theorem dX4_at_42 : decode cX4_at 42 = .ok (.iload 5, 2) := by decide +kernel
theorem dX4_at_44 : decode cX4_at 44 = .ok (.invokevirtual 118, 3) := by decide +kernel
theorem dX4_at_47 : decode cX4_at 47 = .ok (.ifCond .ne 20, 3) := by decide +kernel
theorem dX4_at_50 : decode cX4_at 50 = .ok (.iload_n 3, 1) := by decide +kernel
theorem dX4_at_51 : decode cX4_at 51 = .ok (.iconst 1, 1) := by decide +kernel
theorem dX4_at_52 : decode cX4_at 52 = .ok (.if_icmp .eq 8, 3) := by decide +kernel
theorem dX4_at_55 : decode cX4_at 55 = .ok (.iload_n 3, 1) := by decide +kernel
theorem dX4_at_56 : decode cX4_at 56 = .ok (.iconst 2, 1) := by decide +kernel
theorem dX4_at_57 : decode cX4_at 57 = .ok (.if_icmp .ne 7, 3) := by decide +kernel
theorem dX4_at_60 : decode cX4_at 60 = .ok (.iconst 0, 1) := by decide +kernel
theorem dX4_at_61 : decode cX4_at 61 = .ok (.goto 5, 3) := by decide +kernel
theorem dX4_at_64 : decode cX4_at 64 = .ok (.bipush (-6), 2) := by decide +kernel
theorem dX4_at_66 : decode cX4_at 66 = .ok (.ireturn, 1) := by decide +kernel
theorem dX4_at_67 : decode cX4_at 67 = .ok (.aload_n 0, 1) := by decide +kernel
theorem dX4_at_68 : decode cX4_at 68 = .ok (.getfield 19, 3) := by decide +kernel
theorem dX4_at_71 : decode cX4_at 71 = .ok (.aload_n 0, 1) := by decide +kernel
theorem dX4_at_72 : decode cX4_at 72 = .ok (.getfield 12, 3) := by decide +kernel
theorem dX4_at_75 : decode cX4_at 75 = .ok (.iload 5, 2) := by decide +kernel
theorem dX4_at_77 : decode cX4_at 77 = .ok (.invokevirtual 121, 3) := by decide +kernel
theorem dX4_at_80 : decode cX4_at 80 = .ok (.iload_n 3, 1) := by decide +kernel
theorem dX4_at_81 : decode cX4_at 81 = .ok (.tableswitch 59 0 2 #[27, 30, 40], 27) := by decide +kernel
theorem dX4_at_108 : decode cX4_at 108 = .ok (.iload 5, 2) := by decide +kernel
theorem dX4_at_110 : decode cX4_at 110 = .ok (.ireturn, 1) := by decide +kernel
theorem dX4_at_111 : decode cX4_at 111 = .ok (.aload_n 0, 1) := by decide +kernel
theorem dX4_at_112 : decode cX4_at 112 = .ok (.getfield 19, 3) := by decide +kernel
theorem dX4_at_115 : decode cX4_at 115 = .ok (.iload 4, 2) := by decide +kernel
theorem dX4_at_117 : decode cX4_at 117 = .ok (.invokevirtual 125, 3) := by decide +kernel
end
section
theorem dX4_at_120 : decode cX4_at 120 = .ok (.ireturn, 1) := by decide +kernel
theorem dX4_at_121 : decode cX4_at 121 = .ok (.aload_n 0, 1) := by decide +kernel
theorem dX4_at_122 : decode cX4_at 122 = .ok (.getfield 19, 3) := by decide +kernel
theorem dX4_at_125 : decode cX4_at 125 = .ok (.iload 4, 2) := by decide +kernel
theorem dX4_at_127 : decode cX4_at 127 = .ok (.invokevirtual 125, 3) := by decide +kernel
theorem dX4_at_130 : decode cX4_at 130 = .ok (.aload_n 0, 1) := by decide +kernel
theorem dX4_at_131 : decode cX4_at 131 = .ok (.getfield 12, 3) := by decide +kernel
theorem dX4_at_134 : decode cX4_at 134 = .ok (.iconst 1, 1) := by decide +kernel
theorem dX4_at_135 : decode cX4_at 135 = .ok (.invokevirtual 128, 3) := by decide +kernel
theorem dX4_at_138 : decode cX4_at 138 = .ok (.imul, 1) := by decide +kernel
theorem dX4_at_139 : decode cX4_at 139 = .ok (.ireturn, 1) := by decide +kernel
theorem dX4_at_140 : decode cX4_at 140 = .ok (.aload_n 0, 1) := by decide +kernel
theorem dX4_at_141 : decode cX4_at 141 = .ok (.getfield 19, 3) := by decide +kernel
theorem dX4_at_144 : decode cX4_at 144 = .ok (.iload 4, 2) := by decide +kernel
theorem dX4_at_146 : decode cX4_at 146 = .ok (.invokevirtual 131, 3) := by decide +kernel
theorem dX4_at_149 : decode cX4_at 149 = .ok (.ireturn, 1) := by decide +kernel
set_option maxRecDepth 20000 in
theorem ggX4_of_X1_hasFilm : GoodIn wsX4_of wsX1_hasFilm := goodIn_r _ [7, 8, 9, 10, 6, 11, 12, 89] (by decide +kernel) (by decide +kernel)
set_option maxRecDepth 20000 in
theorem gX4_of_X1_hasFilm : GoodIn wsX4_of (wsV RX4 118 RX1 yX1_hasFilm wsX1_hasFilm) := goodIn_app (goodIn_of _ (by decide +kernel)) ggX4_of_X1_hasFilm
set_option maxRecDepth 20000 in
theorem ggX4_of_X4_isWithin : GoodIn wsX4_of wsX4_isWithin := goodIn_r _ [16] (by decide +kernel) (by decide +kernel)
set_option maxRecDepth 20000 in
theorem gX4_of_X4_isWithin : GoodIn wsX4_of (va_wsS RX4 46 yX4_isWithin wsX4_isWithin) := goodIn_app (goodIn_of _ (by decide +kernel)) ggX4_of_X4_isWithin
set_option maxRecDepth 20000 in
theorem ggX4_of_X1_fact : GoodIn wsX4_of wsX1_fact := goodIn_r _ [20, 12, 89] (by decide +kernel) (by decide +kernel)
set_option maxRecDepth 20000 in
theorem gX4_of_X1_fact : GoodIn wsX4_of (wsV RX4 134 RX1 yX1_fact wsX1_fact) := goodIn_app (goodIn_of _ (by decide +kernel)) ggX4_of_X1_fact
set_option maxRecDepth 20000 in
theorem ggX4_of_X1_firstDayShown : GoodIn wsX4_of wsX1_firstDayShown := goodIn_r _ [24, 25, 26, 27, 6, 28, 12, 89] (by decide +kernel) (by decide +kernel)
set_option maxRecDepth 20000 in
theorem gX4_of_X1_firstDayShown : GoodIn wsX4_of (wsV RX4 137 RX1 yX1_firstDayShown wsX1_firstDayShown) := goodIn_app (goodIn_of _ (by decide +kernel)) ggX4_of_X1_firstDayShown
set_option maxRecDepth 20000 in
theorem ggX4_of_X0_follow : GoodIn wsX4_of wsX0_follow := goodIn_r _ [33, 34, 35, 36, 37, 18, 19, 6, 20, 12, 38, 39, 40, 32, 41, 42, 43, 44, 45, 26, 27, 28, 46, 47, 48, 49, 50, 51, 52, 53, 54, 55, 56, 57, 58, 59, 60, 61, 62, 63, 64, 65, 66, 67, 68, 69, 70, 71, 72, 73, 74, 90, 91, 92, 93, 94, 95, 89] (by decide +kernel) (by decide +kernel)
set_option maxRecDepth 20000 in
theorem gX4_of_X0_follow : GoodIn wsX4_of (wsV RX4 121 RX0 yX0_follow wsX0_follow) := goodIn_app (goodIn_of _ (by decide +kernel)) ggX4_of_X0_follow
set_option maxRecDepth 20000 in
theorem ggX4_of_X0_leftAtEnd : GoodIn wsX4_of wsX0_leftAtEnd := goodIn_r _ [78, 36, 90, 91, 92, 93, 94, 95] (by decide +kernel) (by decide +kernel)
set_option maxRecDepth 20000 in
theorem gX4_of_X0_leftAtEnd : GoodIn wsX4_of (wsV RX4 140 RX0 yX0_leftAtEnd wsX0_leftAtEnd) := goodIn_app (goodIn_of _ (by decide +kernel)) ggX4_of_X0_leftAtEnd
set_option maxRecDepth 20000 in
theorem ggX4_of_X0_sum : GoodIn wsX4_of wsX0_sum := goodIn_r _ [82, 57, 58, 59, 32, 60, 44, 90, 91, 92, 93, 94, 95] (by decide +kernel) (by decide +kernel)
set_option maxRecDepth 20000 in
theorem gX4_of_X0_sum : GoodIn wsX4_of (wsV RX4 143 RX0 yX0_sum wsX0_sum) := goodIn_app (goodIn_of _ (by decide +kernel)) ggX4_of_X0_sum
theorem dX4_of_0 : decode cX4_of 0 = .ok (.aload_n 0, 1) := by decide +kernel
theorem dX4_of_1 : decode cX4_of 1 = .ok (.getfield 12, 3) := by decide +kernel
theorem dX4_of_4 : decode cX4_of 4 = .ok (.iload_n 1, 1) := by decide +kernel
theorem dX4_of_5 : decode cX4_of 5 = .ok (.invokevirtual 118, 3) := by decide +kernel
theorem dX4_of_8 : decode cX4_of 8 = .ok (.ifCond .ne 5, 3) := by decide +kernel
theorem dX4_of_11 : decode cX4_of 11 = .ok (.iconst (-1), 1) := by decide +kernel
theorem dX4_of_12 : decode cX4_of 12 = .ok (.ireturn, 1) := by decide +kernel
theorem dX4_of_13 : decode cX4_of 13 = .ok (.iload_n 2, 1) := by decide +kernel
theorem dX4_of_14 : decode cX4_of 14 = .ok (.iconst 0, 1) := by decide +kernel
theorem dX4_of_15 : decode cX4_of 15 = .ok (.bipush 10, 2) := by decide +kernel
theorem dX4_of_17 : decode cX4_of 17 = .ok (.invokestatic 46, 3) := by decide +kernel
theorem dX4_of_20 : decode cX4_of 20 = .ok (.ifCond .ne 6, 3) := by decide +kernel
theorem dX4_of_23 : decode cX4_of 23 = .ok (.bipush (-2), 2) := by decide +kernel
theorem dX4_of_25 : decode cX4_of 25 = .ok (.ireturn, 1) := by decide +kernel
theorem dX4_of_26 : decode cX4_of 26 = .ok (.iload_n 2, 1) := by decide +kernel
theorem dX4_of_27 : decode cX4_of 27 = .ok (.iconst 5, 1) := by decide +kernel
theorem dX4_of_28 : decode cX4_of 28 = .ok (.if_icmp .ge 13, 3) := by decide +kernel
theorem dX4_of_31 : decode cX4_of 31 = .ok (.aload_n 0, 1) := by decide +kernel
theorem dX4_of_32 : decode cX4_of 32 = .ok (.getfield 12, 3) := by decide +kernel
theorem dX4_of_35 : decode cX4_of 35 = .ok (.iload_n 1, 1) := by decide +kernel
theorem dX4_of_36 : decode cX4_of 36 = .ok (.iload_n 2, 1) := by decide +kernel
theorem dX4_of_37 : decode cX4_of 37 = .ok (.invokevirtual 134, 3) := by decide +kernel
theorem dX4_of_40 : decode cX4_of 40 = .ok (.ireturn, 1) := by decide +kernel
theorem dX4_of_41 : decode cX4_of 41 = .ok (.iload_n 2, 1) := by decide +kernel
theorem dX4_of_42 : decode cX4_of 42 = .ok (.bipush 10, 2) := by decide +kernel
theorem dX4_of_44 : decode cX4_of 44 = .ok (.if_icmp .ne 12, 3) := by decide +kernel
theorem dX4_of_47 : decode cX4_of 47 = .ok (.aload_n 0, 1) := by decide +kernel
theorem dX4_of_48 : decode cX4_of 48 = .ok (.getfield 12, 3) := by decide +kernel
theorem dX4_of_51 : decode cX4_of 51 = .ok (.iload_n 1, 1) := by decide +kernel
theorem dX4_of_52 : decode cX4_of 52 = .ok (.invokevirtual 137, 3) := by decide +kernel
theorem dX4_of_55 : decode cX4_of 55 = .ok (.ireturn, 1) := by decide +kernel
theorem dX4_of_56 : decode cX4_of 56 = .ok (.aload_n 0, 1) := by decide +kernel
theorem dX4_of_57 : decode cX4_of 57 = .ok (.getfield 19, 3) := by decide +kernel
theorem dX4_of_60 : decode cX4_of 60 = .ok (.aload_n 0, 1) := by decide +kernel
theorem dX4_of_61 : decode cX4_of 61 = .ok (.getfield 12, 3) := by decide +kernel
theorem dX4_of_64 : decode cX4_of 64 = .ok (.iload_n 1, 1) := by decide +kernel
theorem dX4_of_65 : decode cX4_of 65 = .ok (.invokevirtual 121, 3) := by decide +kernel
theorem dX4_of_68 : decode cX4_of 68 = .ok (.iload_n 2, 1) := by decide +kernel
theorem dX4_of_69 : decode cX4_of 69 = .ok (.bipush 9, 2) := by decide +kernel
theorem dX4_of_71 : decode cX4_of 71 = .ok (.if_icmp .ne 13, 3) := by decide +kernel
theorem dX4_of_74 : decode cX4_of 74 = .ok (.aload_n 0, 1) := by decide +kernel
theorem dX4_of_75 : decode cX4_of 75 = .ok (.getfield 19, 3) := by decide +kernel
theorem dX4_of_78 : decode cX4_of 78 = .ok (.invokevirtual 140, 3) := by decide +kernel
theorem dX4_of_81 : decode cX4_of 81 = .ok (.goto 13, 3) := by decide +kernel
theorem dX4_of_84 : decode cX4_of 84 = .ok (.aload_n 0, 1) := by decide +kernel
theorem dX4_of_85 : decode cX4_of 85 = .ok (.getfield 19, 3) := by decide +kernel
theorem dX4_of_88 : decode cX4_of 88 = .ok (.iload_n 2, 1) := by decide +kernel
theorem dX4_of_89 : decode cX4_of 89 = .ok (.iconst 5, 1) := by decide +kernel
theorem dX4_of_90 : decode cX4_of 90 = .ok (.isub, 1) := by decide +kernel
theorem dX4_of_91 : decode cX4_of 91 = .ok (.invokevirtual 143, 3) := by decide +kernel
theorem dX4_of_94 : decode cX4_of 94 = .ok (.ireturn, 1) := by decide +kernel
set_option maxRecDepth 20000 in
theorem ggX4_inWeek_X1_hasFilm : GoodIn wsX4_inWeek wsX1_hasFilm := goodIn_r _ [7, 8, 9, 10, 6, 11, 12, 87] (by decide +kernel) (by decide +kernel)
set_option maxRecDepth 20000 in
theorem gX4_inWeek_X1_hasFilm : GoodIn wsX4_inWeek (wsV RX4 118 RX1 yX1_hasFilm wsX1_hasFilm) := goodIn_app (goodIn_of _ (by decide +kernel)) ggX4_inWeek_X1_hasFilm
set_option maxRecDepth 20000 in
theorem ggX4_inWeek_X4_isWeek : GoodIn wsX4_inWeek wsX4_isWeek := goodIn_r _ [16, 17, 18, 15, 19] (by decide +kernel) (by decide +kernel)
set_option maxRecDepth 20000 in
theorem gX4_inWeek_X4_isWeek : GoodIn wsX4_inWeek (va_wsS RX4 146 yX4_isWeek wsX4_isWeek) := goodIn_app (goodIn_of _ (by decide +kernel)) ggX4_inWeek_X4_isWeek
set_option maxRecDepth 20000 in
theorem ggX4_inWeek_X4_isWithin : GoodIn wsX4_inWeek wsX4_isWithin := goodIn_r _ [19] (by decide +kernel) (by decide +kernel)
set_option maxRecDepth 20000 in
theorem gX4_inWeek_X4_isWithin : GoodIn wsX4_inWeek (va_wsS RX4 46 yX4_isWithin wsX4_isWithin) := goodIn_app (goodIn_of _ (by decide +kernel)) ggX4_inWeek_X4_isWithin
set_option maxRecDepth 20000 in
theorem ggX4_inWeek_X0_follow : GoodIn wsX4_inWeek wsX0_follow := goodIn_r _ [24, 25, 26, 27, 28, 29, 30, 6, 31, 12, 32, 33, 34, 23, 35, 36, 37, 38, 39, 40, 41, 42, 43, 44, 45, 46, 47, 48, 49, 50, 51, 52, 53, 54, 55, 56, 57, 58, 59, 60, 61, 62, 63, 64, 65, 66, 67, 68, 69, 70, 71, 88, 89, 90, 91, 92, 93, 87] (by decide +kernel) (by decide +kernel)
set_option maxRecDepth 20000 in
theorem gX4_inWeek_X0_follow : GoodIn wsX4_inWeek (wsV RX4 121 RX0 yX0_follow wsX0_follow) := goodIn_app (goodIn_of _ (by decide +kernel)) ggX4_inWeek_X0_follow
set_option maxRecDepth 20000 in
theorem ggX4_inWeek_X0_sumOfWeek : GoodIn wsX4_inWeek wsX0_sumOfWeek := goodIn_r _ [57, 38, 88, 89, 90, 91, 92, 93] (by decide +kernel) (by decide +kernel)
set_option maxRecDepth 20000 in
theorem gX4_inWeek_X0_sumOfWeek : GoodIn wsX4_inWeek (wsV RX4 149 RX0 yX0_sumOfWeek wsX0_sumOfWeek) := goodIn_app (goodIn_of _ (by decide +kernel)) ggX4_inWeek_X0_sumOfWeek
set_option maxRecDepth 20000 in
theorem ggX4_inWeek_X0_shareIn : GoodIn wsX4_inWeek wsX0_shareIn := goodIn_r _ [76, 26, 88, 89, 90, 91, 92, 93] (by decide +kernel) (by decide +kernel)
set_option maxRecDepth 20000 in
theorem gX4_inWeek_X0_shareIn : GoodIn wsX4_inWeek (wsV RX4 152 RX0 yX0_shareIn wsX0_shareIn) := goodIn_app (goodIn_of _ (by decide +kernel)) ggX4_inWeek_X0_shareIn
set_option maxRecDepth 20000 in
theorem ggX4_inWeek_X0_dueAboveShare : GoodIn wsX4_inWeek wsX0_dueAboveShare := goodIn_r _ [80, 54, 55, 56, 23, 57, 38, 68, 69, 70, 71, 26, 88, 89, 90, 91, 92, 93] (by decide +kernel) (by decide +kernel)
set_option maxRecDepth 20000 in
theorem gX4_inWeek_X0_dueAboveShare : GoodIn wsX4_inWeek (wsV RX4 155 RX0 yX0_dueAboveShare wsX0_dueAboveShare) := goodIn_app (goodIn_of _ (by decide +kernel)) ggX4_inWeek_X0_dueAboveShare
theorem dX4_inWeek_0 : decode cX4_inWeek 0 = .ok (.aload_n 0, 1) := by decide +kernel
theorem dX4_inWeek_1 : decode cX4_inWeek 1 = .ok (.getfield 12, 3) := by decide +kernel
theorem dX4_inWeek_4 : decode cX4_inWeek 4 = .ok (.iload_n 1, 1) := by decide +kernel
theorem dX4_inWeek_5 : decode cX4_inWeek 5 = .ok (.invokevirtual 118, 3) := by decide +kernel
theorem dX4_inWeek_8 : decode cX4_inWeek 8 = .ok (.ifCond .ne 5, 3) := by decide +kernel
theorem dX4_inWeek_11 : decode cX4_inWeek 11 = .ok (.iconst (-1), 1) := by decide +kernel
theorem dX4_inWeek_12 : decode cX4_inWeek 12 = .ok (.ireturn, 1) := by decide +kernel
theorem dX4_inWeek_13 : decode cX4_inWeek 13 = .ok (.iload_n 2, 1) := by decide +kernel
theorem dX4_inWeek_14 : decode cX4_inWeek 14 = .ok (.invokestatic 146, 3) := by decide +kernel
theorem dX4_inWeek_17 : decode cX4_inWeek 17 = .ok (.ifCond .eq 12, 3) := by decide +kernel
theorem dX4_inWeek_20 : decode cX4_inWeek 20 = .ok (.iload_n 3, 1) := by decide +kernel
theorem dX4_inWeek_21 : decode cX4_inWeek 21 = .ok (.iconst 0, 1) := by decide +kernel
theorem dX4_inWeek_22 : decode cX4_inWeek 22 = .ok (.iconst 3, 1) := by decide +kernel
theorem dX4_inWeek_23 : decode cX4_inWeek 23 = .ok (.invokestatic 46, 3) := by decide +kernel
theorem dX4_inWeek_26 : decode cX4_inWeek 26 = .ok (.ifCond .ne 6, 3) := by decide +kernel
theorem dX4_inWeek_29 : decode cX4_inWeek 29 = .ok (.bipush (-2), 2) := by decide +kernel
theorem dX4_inWeek_31 : decode cX4_inWeek 31 = .ok (.ireturn, 1) := by decide +kernel
theorem dX4_inWeek_32 : decode cX4_inWeek 32 = .ok (.aload_n 0, 1) := by decide +kernel
theorem dX4_inWeek_33 : decode cX4_inWeek 33 = .ok (.getfield 19, 3) := by decide +kernel
theorem dX4_inWeek_36 : decode cX4_inWeek 36 = .ok (.aload_n 0, 1) := by decide +kernel
theorem dX4_inWeek_37 : decode cX4_inWeek 37 = .ok (.getfield 12, 3) := by decide +kernel
theorem dX4_inWeek_40 : decode cX4_inWeek 40 = .ok (.iload_n 1, 1) := by decide +kernel
theorem dX4_inWeek_41 : decode cX4_inWeek 41 = .ok (.invokevirtual 121, 3) := by decide +kernel
theorem dX4_inWeek_44 : decode cX4_inWeek 44 = .ok (.iload_n 3, 1) := by decide +kernel
theorem dX4_inWeek_45 : decode cX4_inWeek 45 = .ok (.tableswitch 56 0 2 #[27, 37, 46], 27) := by decide +kernel
theorem dX4_inWeek_72 : decode cX4_inWeek 72 = .ok (.aload_n 0, 1) := by decide +kernel
theorem dX4_inWeek_73 : decode cX4_inWeek 73 = .ok (.getfield 19, 3) := by decide +kernel
theorem dX4_inWeek_76 : decode cX4_inWeek 76 = .ok (.iload_n 2, 1) := by decide +kernel
theorem dX4_inWeek_77 : decode cX4_inWeek 77 = .ok (.iconst 2, 1) := by decide +kernel
theorem dX4_inWeek_78 : decode cX4_inWeek 78 = .ok (.invokevirtual 149, 3) := by decide +kernel
theorem dX4_inWeek_81 : decode cX4_inWeek 81 = .ok (.ireturn, 1) := by decide +kernel
theorem dX4_inWeek_82 : decode cX4_inWeek 82 = .ok (.aload_n 0, 1) := by decide +kernel
theorem dX4_inWeek_83 : decode cX4_inWeek 83 = .ok (.getfield 19, 3) := by decide +kernel
theorem dX4_inWeek_86 : decode cX4_inWeek 86 = .ok (.iload_n 2, 1) := by decide +kernel
theorem dX4_inWeek_87 : decode cX4_inWeek 87 = .ok (.invokevirtual 152, 3) := by decide +kernel
theorem dX4_inWeek_90 : decode cX4_inWeek 90 = .ok (.ireturn, 1) := by decide +kernel
theorem dX4_inWeek_91 : decode cX4_inWeek 91 = .ok (.aload_n 0, 1) := by decide +kernel
theorem dX4_inWeek_92 : decode cX4_inWeek 92 = .ok (.getfield 19, 3) := by decide +kernel
theorem dX4_inWeek_95 : decode cX4_inWeek 95 = .ok (.iload_n 2, 1) := by decide +kernel
theorem dX4_inWeek_96 : decode cX4_inWeek 96 = .ok (.iconst 3, 1) := by decide +kernel
theorem dX4_inWeek_97 : decode cX4_inWeek 97 = .ok (.invokevirtual 149, 3) := by decide +kernel
theorem dX4_inWeek_100 : decode cX4_inWeek 100 = .ok (.ireturn, 1) := by decide +kernel
theorem dX4_inWeek_101 : decode cX4_inWeek 101 = .ok (.aload_n 0, 1) := by decide +kernel
theorem dX4_inWeek_102 : decode cX4_inWeek 102 = .ok (.getfield 19, 3) := by decide +kernel
theorem dX4_inWeek_105 : decode cX4_inWeek 105 = .ok (.iload_n 2, 1) := by decide +kernel
theorem dX4_inWeek_106 : decode cX4_inWeek 106 = .ok (.invokevirtual 155, 3) := by decide +kernel
theorem dX4_inWeek_109 : decode cX4_inWeek 109 = .ok (.ireturn, 1) := by decide +kernel
set_option maxRecDepth 20000 in
theorem ggX4_week_X4_isWeek : GoodIn wsX4_week wsX4_isWeek := goodIn_r _ [6, 7, 8, 5, 9] (by decide +kernel) (by decide +kernel)
set_option maxRecDepth 20000 in
theorem gX4_week_X4_isWeek : GoodIn wsX4_week (va_wsS RX4 146 yX4_isWeek wsX4_isWeek) := goodIn_app (goodIn_of _ (by decide +kernel)) ggX4_week_X4_isWeek
set_option maxRecDepth 20000 in
theorem ggX4_week_X4_isWithin : GoodIn wsX4_week wsX4_isWithin := goodIn_r _ [9] (by decide +kernel) (by decide +kernel)
set_option maxRecDepth 20000 in
theorem gX4_week_X4_isWithin : GoodIn wsX4_week (va_wsS RX4 46 yX4_isWithin wsX4_isWithin) := goodIn_app (goodIn_of _ (by decide +kernel)) ggX4_week_X4_isWithin
set_option maxRecDepth 20000 in
theorem ggX4_week_X4_sumOfFilmsInWeek : GoodIn wsX4_week wsX4_sumOfFilmsInWeek := goodIn_r _ [13, 1, 14, 15, 16, 17, 18, 19, 20, 21, 22, 23, 24, 25, 26, 27, 28, 29, 30, 31, 32, 33, 34, 35, 36, 37, 38, 39, 40, 41, 42, 43, 44, 45, 46, 47, 48, 49, 50, 51, 52, 53, 54, 55, 56, 57, 58, 59, 60, 61, 62, 63, 64, 65, 66, 67, 68, 69, 70, 71, 72, 73, 82, 83, 84, 85, 86, 87, 88, 89, 90, 91, 92, 93, 94] (by decide +kernel) (by decide +kernel)
set_option maxRecDepth 20000 in
theorem gX4_week_X4_sumOfFilmsInWeek : GoodIn wsX4_week (wsV RX4 158 RX4 yX4_sumOfFilmsInWeek wsX4_sumOfFilmsInWeek) := goodIn_app (goodIn_of _ (by decide +kernel)) ggX4_week_X4_sumOfFilmsInWeek
set_option maxRecDepth 20000 in
theorem ggX4_week_X1_rentsOf : GoodIn wsX4_week wsX1_rentsOf := goodIn_r _ [77, 78, 79, 80, 18, 81, 20, 88] (by decide +kernel) (by decide +kernel)
set_option maxRecDepth 20000 in
theorem gX4_week_X1_rentsOf : GoodIn wsX4_week (wsV RX4 161 RX1 yX1_rentsOf wsX1_rentsOf) := goodIn_app (goodIn_of _ (by decide +kernel)) ggX4_week_X1_rentsOf
theorem dX4_week_0 : decode cX4_week 0 = .ok (.iload_n 1, 1) := by decide +kernel
theorem dX4_week_1 : decode cX4_week 1 = .ok (.invokestatic 146, 3) := by decide +kernel
theorem dX4_week_4 : decode cX4_week 4 = .ok (.ifCond .eq 12, 3) := by decide +kernel
theorem dX4_week_7 : decode cX4_week 7 = .ok (.iload_n 2, 1) := by decide +kernel
theorem dX4_week_8 : decode cX4_week 8 = .ok (.iconst 0, 1) := by decide +kernel
theorem dX4_week_9 : decode cX4_week 9 = .ok (.iconst 4, 1) := by decide +kernel
theorem dX4_week_10 : decode cX4_week 10 = .ok (.invokestatic 46, 3) := by decide +kernel
theorem dX4_week_13 : decode cX4_week 13 = .ok (.ifCond .ne 6, 3) := by decide +kernel
theorem dX4_week_16 : decode cX4_week 16 = .ok (.bipush (-2), 2) := by decide +kernel
theorem dX4_week_18 : decode cX4_week 18 = .ok (.ireturn, 1) := by decide +kernel
theorem dX4_week_19 : decode cX4_week 19 = .ok (.aload_n 0, 1) := by decide +kernel
theorem dX4_week_20 : decode cX4_week 20 = .ok (.iload_n 1, 1) := by decide +kernel
theorem dX4_week_21 : decode cX4_week 21 = .ok (.iload_n 2, 1) := by decide +kernel
theorem dX4_week_22 : decode cX4_week 22 = .ok (.invokevirtual 158, 3) := by decide +kernel
theorem dX4_week_25 : decode cX4_week 25 = .ok (.istore_n 3, 1) := by decide +kernel
theorem dX4_week_26 : decode cX4_week 26 = .ok (.iload_n 2, 1) := by decide +kernel
theorem dX4_week_27 : decode cX4_week 27 = .ok (.iconst 4, 1) := by decide +kernel
theorem dX4_week_28 : decode cX4_week 28 = .ok (.if_icmp .eq 5, 3) := by decide +kernel
theorem dX4_week_31 : decode cX4_week 31 = .ok (.iload_n 3, 1) := by decide +kernel
theorem dX4_week_32 : decode cX4_week 32 = .ok (.ireturn, 1) := by decide +kernel
theorem dX4_week_33 : decode cX4_week 33 = .ok (.iload_n 1, 1) := by decide +kernel
theorem dX4_week_34 : decode cX4_week 34 = .ok (.bipush 7, 2) := by decide +kernel
theorem dX4_week_36 : decode cX4_week 36 = .ok (.imul, 1) := by decide +kernel
theorem dX4_week_37 : decode cX4_week 37 = .ok (.istore 4, 2) := by decide +kernel
theorem dX4_week_39 : decode cX4_week 39 = .ok (.iload_n 3, 1) := by decide +kernel
theorem dX4_week_40 : decode cX4_week 40 = .ok (.aload_n 0, 1) := by decide +kernel
theorem dX4_week_41 : decode cX4_week 41 = .ok (.getfield 12, 3) := by decide +kernel
theorem dX4_week_44 : decode cX4_week 44 = .ok (.iload 4, 2) := by decide +kernel
theorem dX4_week_46 : decode cX4_week 46 = .ok (.iload 4, 2) := by decide +kernel
theorem dX4_week_48 : decode cX4_week 48 = .ok (.bipush 7, 2) := by decide +kernel
theorem dX4_week_50 : decode cX4_week 50 = .ok (.iadd, 1) := by decide +kernel
theorem dX4_week_51 : decode cX4_week 51 = .ok (.invokevirtual 161, 3) := by decide +kernel
theorem dX4_week_54 : decode cX4_week 54 = .ok (.iadd, 1) := by decide +kernel
theorem dX4_week_55 : decode cX4_week 55 = .ok (.ldc 101, 2) := by decide +kernel
theorem dX4_week_57 : decode cX4_week 57 = .ok (.iadd, 1) := by decide +kernel
theorem dX4_week_58 : decode cX4_week 58 = .ok (.ireturn, 1) := by decide +kernel
set_option maxRecDepth 20000 in
theorem ggX4_rent_X4_isDay : GoodIn wsX4_rent wsX4_isDay := goodIn_r _ [5, 6, 7, 4, 8] (by decide +kernel) (by decide +kernel)
set_option maxRecDepth 20000 in
theorem gX4_rent_X4_isDay : GoodIn wsX4_rent (va_wsS RX4 65 yX4_isDay wsX4_isDay) := goodIn_app (goodIn_of _ (by decide +kernel)) ggX4_rent_X4_isDay
set_option maxRecDepth 20000 in
theorem ggX4_rent_X1_rentOf : GoodIn wsX4_rent wsX1_rentOf := goodIn_r _ [13, 14, 21] (by decide +kernel) (by decide +kernel)
set_option maxRecDepth 20000 in
theorem gX4_rent_X1_rentOf : GoodIn wsX4_rent (wsV RX4 167 RX1 yX1_rentOf wsX1_rentOf) := goodIn_app (goodIn_of _ (by decide +kernel)) ggX4_rent_X1_rentOf
theorem dX4_rent_0 : decode cX4_rent 0 = .ok (.iload_n 1, 1) := by decide +kernel
theorem dX4_rent_1 : decode cX4_rent 1 = .ok (.invokestatic 65, 3) := by decide +kernel
theorem dX4_rent_4 : decode cX4_rent 4 = .ok (.ifCond .eq 14, 3) := by decide +kernel
theorem dX4_rent_7 : decode cX4_rent 7 = .ok (.aload_n 0, 1) := by decide +kernel
theorem dX4_rent_8 : decode cX4_rent 8 = .ok (.getfield 12, 3) := by decide +kernel
theorem dX4_rent_11 : decode cX4_rent 11 = .ok (.iload_n 1, 1) := by decide +kernel
theorem dX4_rent_12 : decode cX4_rent 12 = .ok (.invokevirtual 167, 3) := by decide +kernel
theorem dX4_rent_15 : decode cX4_rent 15 = .ok (.goto 5, 3) := by decide +kernel
theorem dX4_rent_18 : decode cX4_rent 18 = .ok (.bipush (-2), 2) := by decide +kernel
theorem dX4_rent_20 : decode cX4_rent 20 = .ok (.ireturn, 1) := by decide +kernel
set_option maxRecDepth 20000 in
theorem ggX4_count_X4_isWithin : GoodIn wsX4_count wsX4_isWithin := goodIn_r _ [8] (by decide +kernel) (by decide +kernel)
set_option maxRecDepth 20000 in
theorem gX4_count_X4_isWithin : GoodIn wsX4_count (va_wsS RX4 46 yX4_isWithin wsX4_isWithin) := goodIn_app (goodIn_of _ (by decide +kernel)) ggX4_count_X4_isWithin
set_option maxRecDepth 20000 in
theorem ggX4_count_X1_setting : GoodIn wsX4_count wsX1_setting := goodIn_r _ [13, 14, 115] (by decide +kernel) (by decide +kernel)
set_option maxRecDepth 20000 in
theorem gX4_count_X1_setting : GoodIn wsX4_count (wsV RX4 128 RX1 yX1_setting wsX1_setting) := goodIn_app (goodIn_of _ (by decide +kernel)) ggX4_count_X1_setting
set_option maxRecDepth 20000 in
theorem ggX4_count_X1_films : GoodIn wsX4_count wsX1_films := goodIn_r _ [18, 14, 115] (by decide +kernel) (by decide +kernel)
set_option maxRecDepth 20000 in
theorem gX4_count_X1_films : GoodIn wsX4_count (wsV RX4 69 RX1 yX1_films wsX1_films) := goodIn_app (goodIn_of _ (by decide +kernel)) ggX4_count_X1_films
set_option maxRecDepth 20000 in
theorem ggX4_count_X4_sumOfFilms : GoodIn wsX4_count wsX4_sumOfFilms := goodIn_r _ [22, 1, 15, 16, 17, 12, 18, 14, 23, 24, 25, 7, 26, 27, 28, 29, 30, 31, 32, 33, 34, 35, 36, 37, 38, 39, 40, 41, 42, 43, 44, 45, 46, 47, 48, 49, 50, 51, 52, 53, 54, 55, 56, 57, 58, 10, 11, 13, 59, 60, 61, 62, 63, 64, 65, 66, 67, 68, 69, 70, 71, 72, 73, 74, 75, 76, 77, 78, 79, 80, 109, 110, 111, 112, 113, 114, 115, 116, 117, 118, 119, 120, 121] (by decide +kernel) (by decide +kernel)
set_option maxRecDepth 20000 in
theorem gX4_count_X4_sumOfFilms : GoodIn wsX4_count (wsV RX4 98 RX4 yX4_sumOfFilms wsX4_sumOfFilms) := goodIn_app (goodIn_of _ (by decide +kernel)) ggX4_count_X4_sumOfFilms
set_option maxRecDepth 20000 in
theorem ggX4_count_X1_rentsOf : GoodIn wsX4_count wsX1_rentsOf := goodIn_r _ [84, 85, 86, 87, 12, 88, 14, 115] (by decide +kernel) (by decide +kernel)
set_option maxRecDepth 20000 in
theorem gX4_count_X1_rentsOf : GoodIn wsX4_count (wsV RX4 161 RX1 yX1_rentsOf wsX1_rentsOf) := goodIn_app (goodIn_of _ (by decide +kernel)) ggX4_count_X1_rentsOf
set_option maxRecDepth 20000 in
theorem ggX4_count_X4_fullShows : GoodIn wsX4_count wsX4_fullShows := goodIn_r _ [92, 1, 27, 15, 16, 17, 12, 18, 14, 28, 29, 30, 31, 32, 33, 34, 35, 36, 37, 38, 39, 40, 41, 42, 43, 44, 45, 46, 47, 48, 49, 50, 51, 52, 53, 54, 55, 56, 57, 58, 10, 11, 13, 59, 60, 61, 62, 63, 64, 65, 66, 67, 68, 69, 70, 71, 72, 73, 74, 75, 76, 93, 94, 95, 96, 109, 110, 111, 112, 113, 114, 115, 116, 117, 118, 119, 120, 121] (by decide +kernel) (by decide +kernel)
set_option maxRecDepth 20000 in
theorem gX4_count_X4_fullShows : GoodIn wsX4_count (wsV RX4 170 RX4 yX4_fullShows wsX4_fullShows) := goodIn_app (goodIn_of _ (by decide +kernel)) ggX4_count_X4_fullShows
set_option maxRecDepth 20000 in
theorem ggX4_count_X3_length : GoodIn wsX4_count wsX3_length := goodIn_r _ [101, 102, 122, 123] (by decide +kernel) (by decide +kernel)
set_option maxRecDepth 20000 in
theorem gX4_count_X3_length : GoodIn wsX4_count (wsV RX4 173 RX3 yX3_length wsX3_length) := goodIn_app (goodIn_of _ (by decide +kernel)) ggX4_count_X3_length
set_option maxRecDepth 20000 in
theorem ggX4_count_X2_size : GoodIn wsX4_count wsX2_size := goodIn_r _ [107, 108, 124, 125, 126] (by decide +kernel) (by decide +kernel)
set_option maxRecDepth 20000 in
theorem gX4_count_X2_size : GoodIn wsX4_count (wsV RX4 176 RX2 yX2_size wsX2_size) := goodIn_app (goodIn_of _ (by decide +kernel)) ggX4_count_X2_size
theorem dX4_count_0 : decode cX4_count 0 = .ok (.iload_n 1, 1) := by decide +kernel
theorem dX4_count_1 : decode cX4_count 1 = .ok (.iconst 0, 1) := by decide +kernel
theorem dX4_count_2 : decode cX4_count 2 = .ok (.bipush 14, 2) := by decide +kernel
theorem dX4_count_4 : decode cX4_count 4 = .ok (.invokestatic 46, 3) := by decide +kernel
theorem dX4_count_7 : decode cX4_count 7 = .ok (.ifCond .ne 6, 3) := by decide +kernel
theorem dX4_count_10 : decode cX4_count 10 = .ok (.bipush (-2), 2) := by decide +kernel
theorem dX4_count_12 : decode cX4_count 12 = .ok (.ireturn, 1) := by decide +kernel
theorem dX4_count_13 : decode cX4_count 13 = .ok (.iload_n 1, 1) := by decide +kernel
theorem dX4_count_14 : decode cX4_count 14 = .ok (.bipush 8, 2) := by decide +kernel
theorem dX4_count_16 : decode cX4_count 16 = .ok (.bipush 12, 2) := by decide +kernel
theorem dX4_count_18 : decode cX4_count 18 = .ok (.invokestatic 46, 3) := by decide +kernel
theorem dX4_count_21 : decode cX4_count 21 = .ok (.ifCond .eq 15, 3) := by decide +kernel
theorem dX4_count_24 : decode cX4_count 24 = .ok (.aload_n 0, 1) := by decide +kernel
theorem dX4_count_25 : decode cX4_count 25 = .ok (.getfield 12, 3) := by decide +kernel
theorem dX4_count_28 : decode cX4_count 28 = .ok (.iload_n 1, 1) := by decide +kernel
theorem dX4_count_29 : decode cX4_count 29 = .ok (.bipush 8, 2) := by decide +kernel
theorem dX4_count_31 : decode cX4_count 31 = .ok (.isub, 1) := by decide +kernel
theorem dX4_count_32 : decode cX4_count 32 = .ok (.invokevirtual 128, 3) := by decide +kernel
theorem dX4_count_35 : decode cX4_count 35 = .ok (.ireturn, 1) := by decide +kernel
theorem dX4_count_36 : decode cX4_count 36 = .ok (.iload_n 1, 1) := by decide +kernel
theorem dX4_count_37 : decode cX4_count 37 = .ok (.tableswitch 135 0 14 #[75, 135, 135, 135, 135, 83, 103, 114, 135, 135, 135, 135, 135, 119, 127], 75) := by decide +kernel
theorem dX4_count_112 : decode cX4_count 112 = .ok (.aload_n 0, 1) := by decide +kernel
theorem dX4_count_113 : decode cX4_count 113 = .ok (.getfield 12, 3) := by decide +kernel
theorem dX4_count_116 : decode cX4_count 116 = .ok (.invokevirtual 69, 3) := by decide +kernel
theorem dX4_count_119 : decode cX4_count 119 = .ok (.ireturn, 1) := by decide +kernel
theorem dX4_count_120 : decode cX4_count 120 = .ok (.aload_n 0, 1) := by decide +kernel
theorem dX4_count_121 : decode cX4_count 121 = .ok (.iconst 4, 1) := by decide +kernel
theorem dX4_count_122 : decode cX4_count 122 = .ok (.invokevirtual 98, 3) := by decide +kernel
theorem dX4_count_125 : decode cX4_count 125 = .ok (.aload_n 0, 1) := by decide +kernel
theorem dX4_count_126 : decode cX4_count 126 = .ok (.getfield 12, 3) := by decide +kernel
theorem dX4_count_129 : decode cX4_count 129 = .ok (.iconst 0, 1) := by decide +kernel
theorem dX4_count_130 : decode cX4_count 130 = .ok (.bipush 35, 2) := by decide +kernel
theorem dX4_count_132 : decode cX4_count 132 = .ok (.invokevirtual 161, 3) := by decide +kernel
theorem dX4_count_135 : decode cX4_count 135 = .ok (.iadd, 1) := by decide +kernel
theorem dX4_count_136 : decode cX4_count 136 = .ok (.ldc 101, 2) := by decide +kernel
theorem dX4_count_138 : decode cX4_count 138 = .ok (.iadd, 1) := by decide +kernel
theorem dX4_count_139 : decode cX4_count 139 = .ok (.ireturn, 1) := by decide +kernel
theorem dX4_count_140 : decode cX4_count 140 = .ok (.aload_n 0, 1) := by decide +kernel
theorem dX4_count_141 : decode cX4_count 141 = .ok (.getfield 12, 3) := by decide +kernel
theorem dX4_count_144 : decode cX4_count 144 = .ok (.iconst 0, 1) := by decide +kernel
theorem dX4_count_145 : decode cX4_count 145 = .ok (.bipush 35, 2) := by decide +kernel
theorem dX4_count_147 : decode cX4_count 147 = .ok (.invokevirtual 161, 3) := by decide +kernel
theorem dX4_count_150 : decode cX4_count 150 = .ok (.ireturn, 1) := by decide +kernel
theorem dX4_count_151 : decode cX4_count 151 = .ok (.aload_n 0, 1) := by decide +kernel
theorem dX4_count_152 : decode cX4_count 152 = .ok (.invokevirtual 170, 3) := by decide +kernel
theorem dX4_count_155 : decode cX4_count 155 = .ok (.ireturn, 1) := by decide +kernel
theorem dX4_count_156 : decode cX4_count 156 = .ok (.aload_n 0, 1) := by decide +kernel
theorem dX4_count_157 : decode cX4_count 157 = .ok (.getfield 26, 3) := by decide +kernel
theorem dX4_count_160 : decode cX4_count 160 = .ok (.invokevirtual 173, 3) := by decide +kernel
theorem dX4_count_163 : decode cX4_count 163 = .ok (.ireturn, 1) := by decide +kernel
theorem dX4_count_164 : decode cX4_count 164 = .ok (.aload_n 0, 1) := by decide +kernel
theorem dX4_count_165 : decode cX4_count 165 = .ok (.getfield 33, 3) := by decide +kernel
theorem dX4_count_168 : decode cX4_count 168 = .ok (.invokevirtual 176, 3) := by decide +kernel
theorem dX4_count_171 : decode cX4_count 171 = .ok (.ireturn, 1) := by decide +kernel
theorem dX4_count_172 : decode cX4_count 172 = .ok (.aload_n 0, 1) := by decide +kernel
theorem dX4_count_173 : decode cX4_count 173 = .ok (.iload_n 1, 1) := by decide +kernel
theorem dX4_count_174 : decode cX4_count 174 = .ok (.iconst 1, 1) := by decide +kernel
theorem dX4_count_175 : decode cX4_count 175 = .ok (.isub, 1) := by decide +kernel
theorem dX4_count_176 : decode cX4_count 176 = .ok (.invokevirtual 98, 3) := by decide +kernel
theorem dX4_count_179 : decode cX4_count 179 = .ok (.ireturn, 1) := by decide +kernel
set_option maxRecDepth 20000 in
theorem ggX4_ifShown_X4_errorOfShow : GoodIn wsX4_ifShown wsX4_errorOfShow := goodIn_r _ [6, 7, 8, 9, 10, 11, 12, 13, 14, 15, 16, 17, 18, 19, 5, 20, 21, 22, 23, 24, 25, 26, 27, 28, 29, 30, 31, 32, 33, 34, 35, 36, 37, 38, 39, 110, 111, 112, 113, 114, 115, 116] (by decide +kernel) (by decide +kernel)
set_option maxRecDepth 20000 in
theorem gX4_ifShown_X4_errorOfShow : GoodIn wsX4_ifShown (wsV RX4 77 RX4 yX4_errorOfShow wsX4_errorOfShow) := goodIn_app (goodIn_of _ (by decide +kernel)) ggX4_ifShown_X4_errorOfShow
set_option maxRecDepth 20000 in
theorem ggX4_ifShown_X4_placeOf : GoodIn wsX4_ifShown wsX4_placeOf := goodIn_r _ [42] (by decide +kernel) (by decide +kernel)
set_option maxRecDepth 20000 in
theorem gX4_ifShown_X4_placeOf : GoodIn wsX4_ifShown (va_wsS RX4 81 yX4_placeOf wsX4_placeOf) := goodIn_app (goodIn_of _ (by decide +kernel)) ggX4_ifShown_X4_placeOf
set_option maxRecDepth 20000 in
theorem ggX4_ifShown_X4_gainWith : GoodIn wsX4_ifShown wsX4_gainWith := goodIn_r _ [46, 7, 47, 48, 49, 11, 50, 17, 51, 52, 53, 5, 54, 55, 8, 9, 10, 12, 13, 14, 15, 16, 56, 57, 58, 59, 60, 61, 62, 63, 64, 37, 38, 39, 65, 66, 67, 68, 69, 70, 71, 72, 73, 74, 75, 76, 77, 78, 79, 80, 81, 82, 83, 84, 85, 86, 87, 88, 89, 90, 91, 92, 93, 94, 95, 96, 97, 98, 99, 100, 101, 102, 103, 104, 105, 106, 107, 108, 109, 110, 111, 112, 113, 114, 115, 116, 117, 118, 119, 120, 121, 122] (by decide +kernel) (by decide +kernel)
set_option maxRecDepth 20000 in
theorem gX4_ifShown_X4_gainWith : GoodIn wsX4_ifShown (wsV RX4 179 RX4 yX4_gainWith wsX4_gainWith) := goodIn_app (goodIn_of _ (by decide +kernel)) ggX4_ifShown_X4_gainWith
theorem dX4_ifShown_0 : decode cX4_ifShown 0 = .ok (.aload_n 0, 1) := by decide +kernel
theorem dX4_ifShown_1 : decode cX4_ifShown 1 = .ok (.iload_n 1, 1) := by decide +kernel
theorem dX4_ifShown_2 : decode cX4_ifShown 2 = .ok (.iload_n 2, 1) := by decide +kernel
theorem dX4_ifShown_3 : decode cX4_ifShown 3 = .ok (.iload_n 3, 1) := by decide +kernel
theorem dX4_ifShown_4 : decode cX4_ifShown 4 = .ok (.invokevirtual 77, 3) := by decide +kernel
theorem dX4_ifShown_7 : decode cX4_ifShown 7 = .ok (.istore 4, 2) := by decide +kernel
theorem dX4_ifShown_9 : decode cX4_ifShown 9 = .ok (.iload 4, 2) := by decide +kernel
theorem dX4_ifShown_11 : decode cX4_ifShown 11 = .ok (.ifCond .eq 6, 3) := by decide +kernel
theorem dX4_ifShown_14 : decode cX4_ifShown 14 = .ok (.iload 4, 2) := by decide +kernel
theorem dX4_ifShown_16 : decode cX4_ifShown 16 = .ok (.ireturn, 1) := by decide +kernel
theorem dX4_ifShown_17 : decode cX4_ifShown 17 = .ok (.aload_n 0, 1) := by decide +kernel
theorem dX4_ifShown_18 : decode cX4_ifShown 18 = .ok (.iload_n 2, 1) := by decide +kernel
theorem dX4_ifShown_19 : decode cX4_ifShown 19 = .ok (.iload_n 3, 1) := by decide +kernel
theorem dX4_ifShown_20 : decode cX4_ifShown 20 = .ok (.invokestatic 81, 3) := by decide +kernel
theorem dX4_ifShown_23 : decode cX4_ifShown 23 = .ok (.iload_n 1, 1) := by decide +kernel
theorem dX4_ifShown_24 : decode cX4_ifShown 24 = .ok (.invokevirtual 179, 3) := by decide +kernel
theorem dX4_ifShown_27 : decode cX4_ifShown 27 = .ok (.ldc 101, 2) := by decide +kernel
theorem dX4_ifShown_29 : decode cX4_ifShown 29 = .ok (.iadd, 1) := by decide +kernel
theorem dX4_ifShown_30 : decode cX4_ifShown 30 = .ok (.ireturn, 1) := by decide +kernel
theorem dX4_isWithin_0 : decode cX4_isWithin 0 = .ok (.iload_n 0, 1) := by decide +kernel
theorem dX4_isWithin_1 : decode cX4_isWithin 1 = .ok (.iload_n 1, 1) := by decide +kernel
theorem dX4_isWithin_2 : decode cX4_isWithin 2 = .ok (.if_icmp .lt 12, 3) := by decide +kernel
theorem dX4_isWithin_5 : decode cX4_isWithin 5 = .ok (.iload_n 0, 1) := by decide +kernel
theorem dX4_isWithin_6 : decode cX4_isWithin 6 = .ok (.iload_n 2, 1) := by decide +kernel
theorem dX4_isWithin_7 : decode cX4_isWithin 7 = .ok (.if_icmp .gt 7, 3) := by decide +kernel
theorem dX4_isWithin_10 : decode cX4_isWithin 10 = .ok (.iconst 1, 1) := by decide +kernel
theorem dX4_isWithin_11 : decode cX4_isWithin 11 = .ok (.goto 4, 3) := by decide +kernel
theorem dX4_isWithin_14 : decode cX4_isWithin 14 = .ok (.iconst 0, 1) := by decide +kernel
theorem dX4_isWithin_15 : decode cX4_isWithin 15 = .ok (.ireturn, 1) := by decide +kernel
set_option maxRecDepth 20000 in
theorem ggX4_isDay_X4_isWithin : GoodIn wsX4_isDay wsX4_isWithin := goodIn_r _ [4] (by decide +kernel) (by decide +kernel)
set_option maxRecDepth 20000 in
theorem gX4_isDay_X4_isWithin : GoodIn wsX4_isDay (va_wsS RX4 46 yX4_isWithin wsX4_isWithin) := goodIn_app (goodIn_of _ (by decide +kernel)) ggX4_isDay_X4_isWithin
theorem dX4_isDay_0 : decode cX4_isDay 0 = .ok (.iload_n 0, 1) := by decide +kernel
theorem dX4_isDay_1 : decode cX4_isDay 1 = .ok (.iconst 0, 1) := by decide +kernel
theorem dX4_isDay_2 : decode cX4_isDay 2 = .ok (.bipush 34, 2) := by decide +kernel
theorem dX4_isDay_4 : decode cX4_isDay 4 = .ok (.invokestatic 46, 3) := by decide +kernel
theorem dX4_isDay_7 : decode cX4_isDay 7 = .ok (.ireturn, 1) := by decide +kernel
set_option maxRecDepth 20000 in
theorem ggX4_isWeek_X4_isWithin : GoodIn wsX4_isWeek wsX4_isWithin := goodIn_r _ [4] (by decide +kernel) (by decide +kernel)
set_option maxRecDepth 20000 in
theorem gX4_isWeek_X4_isWithin : GoodIn wsX4_isWeek (va_wsS RX4 46 yX4_isWithin wsX4_isWithin) := goodIn_app (goodIn_of _ (by decide +kernel)) ggX4_isWeek_X4_isWithin
theorem dX4_isWeek_0 : decode cX4_isWeek 0 = .ok (.iload_n 0, 1) := by decide +kernel
theorem dX4_isWeek_1 : decode cX4_isWeek 1 = .ok (.iconst 0, 1) := by decide +kernel
theorem dX4_isWeek_2 : decode cX4_isWeek 2 = .ok (.iconst 4, 1) := by decide +kernel
theorem dX4_isWeek_3 : decode cX4_isWeek 3 = .ok (.invokestatic 46, 3) := by decide +kernel
theorem dX4_isWeek_6 : decode cX4_isWeek 6 = .ok (.ireturn, 1) := by decide +kernel
set_option maxRecDepth 20000 in
theorem ggX4_isPlace_X4_isDay : GoodIn wsX4_isPlace wsX4_isDay := goodIn_r _ [4, 5, 6, 3, 7] (by decide +kernel) (by decide +kernel)
set_option maxRecDepth 20000 in
theorem gX4_isPlace_X4_isDay : GoodIn wsX4_isPlace (va_wsS RX4 65 yX4_isDay wsX4_isDay) := goodIn_app (goodIn_of _ (by decide +kernel)) ggX4_isPlace_X4_isDay
set_option maxRecDepth 20000 in
theorem ggX4_isPlace_X4_isWithin : GoodIn wsX4_isPlace wsX4_isWithin := goodIn_r _ [7] (by decide +kernel) (by decide +kernel)
set_option maxRecDepth 20000 in
theorem gX4_isPlace_X4_isWithin : GoodIn wsX4_isPlace (va_wsS RX4 46 yX4_isWithin wsX4_isWithin) := goodIn_app (goodIn_of _ (by decide +kernel)) ggX4_isPlace_X4_isWithin
theorem dX4_isPlace_0 : decode cX4_isPlace 0 = .ok (.iload_n 0, 1) := by decide +kernel
theorem dX4_isPlace_1 : decode cX4_isPlace 1 = .ok (.invokestatic 65, 3) := by decide +kernel
theorem dX4_isPlace_4 : decode cX4_isPlace 4 = .ok (.ifCond .eq 16, 3) := by decide +kernel
theorem dX4_isPlace_7 : decode cX4_isPlace 7 = .ok (.iload_n 1, 1) := by decide +kernel
theorem dX4_isPlace_8 : decode cX4_isPlace 8 = .ok (.iconst 0, 1) := by decide +kernel
theorem dX4_isPlace_9 : decode cX4_isPlace 9 = .ok (.iconst 1, 1) := by decide +kernel
theorem dX4_isPlace_10 : decode cX4_isPlace 10 = .ok (.invokestatic 46, 3) := by decide +kernel
theorem dX4_isPlace_13 : decode cX4_isPlace 13 = .ok (.ifCond .eq 7, 3) := by decide +kernel
theorem dX4_isPlace_16 : decode cX4_isPlace 16 = .ok (.iconst 1, 1) := by decide +kernel
theorem dX4_isPlace_17 : decode cX4_isPlace 17 = .ok (.goto 4, 3) := by decide +kernel
theorem dX4_isPlace_20 : decode cX4_isPlace 20 = .ok (.iconst 0, 1) := by decide +kernel
theorem dX4_isPlace_21 : decode cX4_isPlace 21 = .ok (.ireturn, 1) := by decide +kernel
theorem dX4_placeOf_0 : decode cX4_placeOf 0 = .ok (.iload_n 0, 1) := by decide +kernel
theorem dX4_placeOf_1 : decode cX4_placeOf 1 = .ok (.iconst 2, 1) := by decide +kernel
theorem dX4_placeOf_2 : decode cX4_placeOf 2 = .ok (.imul, 1) := by decide +kernel
theorem dX4_placeOf_3 : decode cX4_placeOf 3 = .ok (.iload_n 1, 1) := by decide +kernel
theorem dX4_placeOf_4 : decode cX4_placeOf 4 = .ok (.iadd, 1) := by decide +kernel
theorem dX4_placeOf_5 : decode cX4_placeOf 5 = .ok (.ireturn, 1) := by decide +kernel
set_option maxRecDepth 20000 in
theorem ggX4_errorOfShow_X1_hasFilm : GoodIn wsX4_errorOfShow wsX1_hasFilm := goodIn_r _ [6, 7, 8, 9, 5, 10, 11, 41] (by decide +kernel) (by decide +kernel)
set_option maxRecDepth 20000 in
theorem gX4_errorOfShow_X1_hasFilm : GoodIn wsX4_errorOfShow (wsV RX4 118 RX1 yX1_hasFilm wsX1_hasFilm) := goodIn_app (goodIn_of _ (by decide +kernel)) ggX4_errorOfShow_X1_hasFilm
set_option maxRecDepth 20000 in
theorem ggX4_errorOfShow_X4_isPlace : GoodIn wsX4_errorOfShow wsX4_isPlace := goodIn_r _ [15, 16, 17, 14, 18, 19, 20, 21] (by decide +kernel) (by decide +kernel)
set_option maxRecDepth 20000 in
theorem gX4_errorOfShow_X4_isPlace : GoodIn wsX4_errorOfShow (va_wsS RX4 87 yX4_isPlace wsX4_isPlace) := goodIn_app (goodIn_of _ (by decide +kernel)) ggX4_errorOfShow_X4_isPlace
set_option maxRecDepth 20000 in
theorem ggX4_errorOfShow_X1_canHold : GoodIn wsX4_errorOfShow wsX1_canHold := goodIn_r _ [25, 26, 27, 28, 5, 29, 11, 30, 3, 4, 6, 7, 8, 9, 10, 31, 32, 33, 34, 41] (by decide +kernel) (by decide +kernel)
set_option maxRecDepth 20000 in
theorem gX4_errorOfShow_X1_canHold : GoodIn wsX4_errorOfShow (wsV RX4 95 RX1 yX1_canHold wsX1_canHold) := goodIn_app (goodIn_of _ (by decide +kernel)) ggX4_errorOfShow_X1_canHold
theorem dX4_errorOfShow_0 : decode cX4_errorOfShow 0 = .ok (.aload_n 0, 1) := by decide +kernel
theorem dX4_errorOfShow_1 : decode cX4_errorOfShow 1 = .ok (.getfield 12, 3) := by decide +kernel
theorem dX4_errorOfShow_4 : decode cX4_errorOfShow 4 = .ok (.iload_n 1, 1) := by decide +kernel
theorem dX4_errorOfShow_5 : decode cX4_errorOfShow 5 = .ok (.invokevirtual 118, 3) := by decide +kernel
theorem dX4_errorOfShow_8 : decode cX4_errorOfShow 8 = .ok (.ifCond .ne 5, 3) := by decide +kernel
theorem dX4_errorOfShow_11 : decode cX4_errorOfShow 11 = .ok (.iconst (-1), 1) := by decide +kernel
theorem dX4_errorOfShow_12 : decode cX4_errorOfShow 12 = .ok (.ireturn, 1) := by decide +kernel
theorem dX4_errorOfShow_13 : decode cX4_errorOfShow 13 = .ok (.iload_n 2, 1) := by decide +kernel
theorem dX4_errorOfShow_14 : decode cX4_errorOfShow 14 = .ok (.iload_n 3, 1) := by decide +kernel
theorem dX4_errorOfShow_15 : decode cX4_errorOfShow 15 = .ok (.invokestatic 87, 3) := by decide +kernel
theorem dX4_errorOfShow_18 : decode cX4_errorOfShow 18 = .ok (.ifCond .ne 6, 3) := by decide +kernel
theorem dX4_errorOfShow_21 : decode cX4_errorOfShow 21 = .ok (.bipush (-2), 2) := by decide +kernel
theorem dX4_errorOfShow_23 : decode cX4_errorOfShow 23 = .ok (.ireturn, 1) := by decide +kernel
theorem dX4_errorOfShow_24 : decode cX4_errorOfShow 24 = .ok (.aload_n 0, 1) := by decide +kernel
theorem dX4_errorOfShow_25 : decode cX4_errorOfShow 25 = .ok (.getfield 12, 3) := by decide +kernel
theorem dX4_errorOfShow_28 : decode cX4_errorOfShow 28 = .ok (.iload_n 2, 1) := by decide +kernel
theorem dX4_errorOfShow_29 : decode cX4_errorOfShow 29 = .ok (.iload_n 1, 1) := by decide +kernel
theorem dX4_errorOfShow_30 : decode cX4_errorOfShow 30 = .ok (.invokevirtual 95, 3) := by decide +kernel
theorem dX4_errorOfShow_33 : decode cX4_errorOfShow 33 = .ok (.ifCond .eq 7, 3) := by decide +kernel
theorem dX4_errorOfShow_36 : decode cX4_errorOfShow 36 = .ok (.iconst 0, 1) := by decide +kernel
theorem dX4_errorOfShow_37 : decode cX4_errorOfShow 37 = .ok (.goto 5, 3) := by decide +kernel
theorem dX4_errorOfShow_40 : decode cX4_errorOfShow 40 = .ok (.bipush (-5), 2) := by decide +kernel
theorem dX4_errorOfShow_42 : decode cX4_errorOfShow 42 = .ok (.ireturn, 1) := by decide +kernel
set_option maxRecDepth 20000 in
theorem ggX4_dropShowsOfDay_X4_placeOf : GoodIn wsX4_dropShowsOfDay wsX4_placeOf := goodIn_r _ [5] (by decide +kernel) (by decide +kernel)
set_option maxRecDepth 20000 in
theorem gX4_dropShowsOfDay_X4_placeOf : GoodIn wsX4_dropShowsOfDay (va_wsS RX4 81 yX4_placeOf wsX4_placeOf) := goodIn_app (goodIn_of _ (by decide +kernel)) ggX4_dropShowsOfDay_X4_placeOf
set_option maxRecDepth 20000 in
theorem ggX4_dropShowsOfDay_X1_replaceShow : GoodIn wsX4_dropShowsOfDay wsX1_replaceShow := goodIn_r _ [10, 11, 18] (by decide +kernel) (by decide +kernel)
set_option maxRecDepth 20000 in
theorem gX4_dropShowsOfDay_X1_replaceShow : GoodIn wsX4_dropShowsOfDay (wsV RX4 84 RX1 yX1_replaceShow wsX1_replaceShow) := goodIn_app (goodIn_of _ (by decide +kernel)) ggX4_dropShowsOfDay_X1_replaceShow
theorem dX4_dropShowsOfDay_0 : decode cX4_dropShowsOfDay 0 = .ok (.iconst 0, 1) := by decide +kernel
theorem dX4_dropShowsOfDay_1 : decode cX4_dropShowsOfDay 1 = .ok (.istore_n 2, 1) := by decide +kernel
theorem dX4_dropShowsOfDay_2 : decode cX4_dropShowsOfDay 2 = .ok (.iconst 0, 1) := by decide +kernel
theorem dX4_dropShowsOfDay_3 : decode cX4_dropShowsOfDay 3 = .ok (.istore_n 3, 1) := by decide +kernel
theorem dX4_dropShowsOfDay_4 : decode cX4_dropShowsOfDay 4 = .ok (.iload_n 3, 1) := by decide +kernel
theorem dX4_dropShowsOfDay_5 : decode cX4_dropShowsOfDay 5 = .ok (.iconst 2, 1) := by decide +kernel
theorem dX4_dropShowsOfDay_6 : decode cX4_dropShowsOfDay 6 = .ok (.if_icmp .ge 31, 3) := by decide +kernel
theorem dX4_dropShowsOfDay_9 : decode cX4_dropShowsOfDay 9 = .ok (.aload_n 0, 1) := by decide +kernel
theorem dX4_dropShowsOfDay_10 : decode cX4_dropShowsOfDay 10 = .ok (.getfield 12, 3) := by decide +kernel
theorem dX4_dropShowsOfDay_13 : decode cX4_dropShowsOfDay 13 = .ok (.iload_n 1, 1) := by decide +kernel
theorem dX4_dropShowsOfDay_14 : decode cX4_dropShowsOfDay 14 = .ok (.iload_n 3, 1) := by decide +kernel
theorem dX4_dropShowsOfDay_15 : decode cX4_dropShowsOfDay 15 = .ok (.invokestatic 81, 3) := by decide +kernel
theorem dX4_dropShowsOfDay_18 : decode cX4_dropShowsOfDay 18 = .ok (.bipush (-6), 2) := by decide +kernel
theorem dX4_dropShowsOfDay_20 : decode cX4_dropShowsOfDay 20 = .ok (.invokevirtual 84, 3) := by decide +kernel
theorem dX4_dropShowsOfDay_23 : decode cX4_dropShowsOfDay 23 = .ok (.bipush (-6), 2) := by decide +kernel
theorem dX4_dropShowsOfDay_25 : decode cX4_dropShowsOfDay 25 = .ok (.if_icmp .eq 6, 3) := by decide +kernel
theorem dX4_dropShowsOfDay_28 : decode cX4_dropShowsOfDay 28 = .ok (.iinc 2 1, 3) := by decide +kernel
theorem dX4_dropShowsOfDay_31 : decode cX4_dropShowsOfDay 31 = .ok (.iinc 3 1, 3) := by decide +kernel
theorem dX4_dropShowsOfDay_34 : decode cX4_dropShowsOfDay 34 = .ok (.goto (-30), 3) := by decide +kernel
theorem dX4_dropShowsOfDay_37 : decode cX4_dropShowsOfDay 37 = .ok (.iload_n 2, 1) := by decide +kernel
theorem dX4_dropShowsOfDay_38 : decode cX4_dropShowsOfDay 38 = .ok (.ireturn, 1) := by decide +kernel
set_option maxRecDepth 20000 in
theorem ggX4_sumOfFilm_X0_follow : GoodIn wsX4_sumOfFilm wsX0_follow := goodIn_r _ [7, 8, 9, 10, 11, 12, 13, 14, 15, 16, 17, 18, 19, 6, 20, 21, 22, 23, 24, 25, 26, 27, 28, 29, 30, 31, 32, 33, 34, 35, 36, 37, 38, 39, 40, 41, 42, 43, 44, 45, 46, 47, 48, 49, 50, 51, 52, 53, 54, 55, 56, 67, 68, 69, 70, 71, 72, 73] (by decide +kernel) (by decide +kernel)
set_option maxRecDepth 20000 in
theorem gX4_sumOfFilm_X0_follow : GoodIn wsX4_sumOfFilm (wsV RX4 121 RX0 yX0_follow wsX0_follow) := goodIn_app (goodIn_of _ (by decide +kernel)) ggX4_sumOfFilm_X0_follow
set_option maxRecDepth 20000 in
theorem ggX4_sumOfFilm_X0_sum : GoodIn wsX4_sumOfFilm wsX0_sum := goodIn_r _ [60, 39, 40, 41, 6, 42, 23, 67, 68, 69, 70, 71, 72] (by decide +kernel) (by decide +kernel)
set_option maxRecDepth 20000 in
theorem gX4_sumOfFilm_X0_sum : GoodIn wsX4_sumOfFilm (wsV RX4 143 RX0 yX0_sum wsX0_sum) := goodIn_app (goodIn_of _ (by decide +kernel)) ggX4_sumOfFilm_X0_sum
theorem dX4_sumOfFilm_0 : decode cX4_sumOfFilm 0 = .ok (.aload_n 0, 1) := by decide +kernel
theorem dX4_sumOfFilm_1 : decode cX4_sumOfFilm 1 = .ok (.getfield 19, 3) := by decide +kernel
theorem dX4_sumOfFilm_4 : decode cX4_sumOfFilm 4 = .ok (.aload_n 0, 1) := by decide +kernel
theorem dX4_sumOfFilm_5 : decode cX4_sumOfFilm 5 = .ok (.getfield 12, 3) := by decide +kernel
theorem dX4_sumOfFilm_8 : decode cX4_sumOfFilm 8 = .ok (.iload_n 1, 1) := by decide +kernel
theorem dX4_sumOfFilm_9 : decode cX4_sumOfFilm 9 = .ok (.invokevirtual 121, 3) := by decide +kernel
theorem dX4_sumOfFilm_12 : decode cX4_sumOfFilm 12 = .ok (.aload_n 0, 1) := by decide +kernel
theorem dX4_sumOfFilm_13 : decode cX4_sumOfFilm 13 = .ok (.getfield 19, 3) := by decide +kernel
theorem dX4_sumOfFilm_16 : decode cX4_sumOfFilm 16 = .ok (.iload_n 2, 1) := by decide +kernel
theorem dX4_sumOfFilm_17 : decode cX4_sumOfFilm 17 = .ok (.invokevirtual 143, 3) := by decide +kernel
theorem dX4_sumOfFilm_20 : decode cX4_sumOfFilm 20 = .ok (.ireturn, 1) := by decide +kernel
set_option maxRecDepth 20000 in
theorem ggX4_sumOfFilms_X1_films : GoodIn wsX4_sumOfFilms wsX1_films := goodIn_r _ [6, 7, 76] (by decide +kernel) (by decide +kernel)
set_option maxRecDepth 20000 in
theorem gX4_sumOfFilms_X1_films : GoodIn wsX4_sumOfFilms (wsV RX4 69 RX1 yX1_films wsX1_films) := goodIn_app (goodIn_of _ (by decide +kernel)) ggX4_sumOfFilms_X1_films
set_option maxRecDepth 20000 in
theorem ggX4_sumOfFilms_X4_sumOfFilm : GoodIn wsX4_sumOfFilms wsX4_sumOfFilm := goodIn_r _ [12, 13, 1, 14, 15, 16, 17, 18, 19, 20, 21, 22, 23, 24, 5, 25, 7, 26, 27, 28, 29, 30, 31, 32, 33, 34, 35, 36, 37, 38, 39, 40, 41, 42, 43, 44, 45, 46, 47, 48, 49, 50, 51, 52, 53, 54, 55, 56, 57, 58, 59, 60, 61, 62, 63, 64, 65, 66, 67, 68, 69, 70, 71, 72, 73, 74, 75, 77, 78, 79, 80, 81, 82, 76] (by decide +kernel) (by decide +kernel)
set_option maxRecDepth 20000 in
theorem gX4_sumOfFilms_X4_sumOfFilm : GoodIn wsX4_sumOfFilms (wsV RX4 164 RX4 yX4_sumOfFilm wsX4_sumOfFilm) := goodIn_app (goodIn_of _ (by decide +kernel)) ggX4_sumOfFilms_X4_sumOfFilm
theorem dX4_sumOfFilms_0 : decode cX4_sumOfFilms 0 = .ok (.iconst 0, 1) := by decide +kernel
theorem dX4_sumOfFilms_1 : decode cX4_sumOfFilms 1 = .ok (.istore_n 2, 1) := by decide +kernel
theorem dX4_sumOfFilms_2 : decode cX4_sumOfFilms 2 = .ok (.iconst 0, 1) := by decide +kernel
theorem dX4_sumOfFilms_3 : decode cX4_sumOfFilms 3 = .ok (.istore_n 3, 1) := by decide +kernel
theorem dX4_sumOfFilms_4 : decode cX4_sumOfFilms 4 = .ok (.iload_n 3, 1) := by decide +kernel
theorem dX4_sumOfFilms_5 : decode cX4_sumOfFilms 5 = .ok (.aload_n 0, 1) := by decide +kernel
theorem dX4_sumOfFilms_6 : decode cX4_sumOfFilms 6 = .ok (.getfield 12, 3) := by decide +kernel
theorem dX4_sumOfFilms_9 : decode cX4_sumOfFilms 9 = .ok (.invokevirtual 69, 3) := by decide +kernel
theorem dX4_sumOfFilms_12 : decode cX4_sumOfFilms 12 = .ok (.if_icmp .ge 18, 3) := by decide +kernel
theorem dX4_sumOfFilms_15 : decode cX4_sumOfFilms 15 = .ok (.iload_n 2, 1) := by decide +kernel
theorem dX4_sumOfFilms_16 : decode cX4_sumOfFilms 16 = .ok (.aload_n 0, 1) := by decide +kernel
theorem dX4_sumOfFilms_17 : decode cX4_sumOfFilms 17 = .ok (.iload_n 3, 1) := by decide +kernel
theorem dX4_sumOfFilms_18 : decode cX4_sumOfFilms 18 = .ok (.iload_n 1, 1) := by decide +kernel
theorem dX4_sumOfFilms_19 : decode cX4_sumOfFilms 19 = .ok (.invokevirtual 164, 3) := by decide +kernel
theorem dX4_sumOfFilms_22 : decode cX4_sumOfFilms 22 = .ok (.iadd, 1) := by decide +kernel
theorem dX4_sumOfFilms_23 : decode cX4_sumOfFilms 23 = .ok (.istore_n 2, 1) := by decide +kernel
theorem dX4_sumOfFilms_24 : decode cX4_sumOfFilms 24 = .ok (.iinc 3 1, 3) := by decide +kernel
theorem dX4_sumOfFilms_27 : decode cX4_sumOfFilms 27 = .ok (.goto (-23), 3) := by decide +kernel
theorem dX4_sumOfFilms_30 : decode cX4_sumOfFilms 30 = .ok (.iload_n 2, 1) := by decide +kernel
theorem dX4_sumOfFilms_31 : decode cX4_sumOfFilms 31 = .ok (.ireturn, 1) := by decide +kernel
set_option maxRecDepth 20000 in
theorem ggX4_sumOfFilmsInWeek_X1_films : GoodIn wsX4_sumOfFilmsInWeek wsX1_films := goodIn_r _ [7, 8, 68] (by decide +kernel) (by decide +kernel)
set_option maxRecDepth 20000 in
theorem gX4_sumOfFilmsInWeek_X1_films : GoodIn wsX4_sumOfFilmsInWeek (wsV RX4 69 RX1 yX1_films wsX1_films) := goodIn_app (goodIn_of _ (by decide +kernel)) ggX4_sumOfFilmsInWeek_X1_films
set_option maxRecDepth 20000 in
theorem ggX4_sumOfFilmsInWeek_X0_follow : GoodIn wsX4_sumOfFilmsInWeek wsX0_follow := goodIn_r _ [13, 14, 15, 16, 17, 18, 19, 6, 20, 8, 21, 22, 23, 12, 24, 25, 26, 27, 28, 29, 30, 31, 32, 33, 34, 35, 36, 37, 38, 39, 40, 41, 42, 43, 44, 45, 46, 47, 48, 49, 50, 51, 52, 53, 54, 55, 56, 57, 58, 59, 60, 69, 70, 71, 72, 73, 74, 68] (by decide +kernel) (by decide +kernel)
set_option maxRecDepth 20000 in
theorem gX4_sumOfFilmsInWeek_X0_follow : GoodIn wsX4_sumOfFilmsInWeek (wsV RX4 121 RX0 yX0_follow wsX0_follow) := goodIn_app (goodIn_of _ (by decide +kernel)) ggX4_sumOfFilmsInWeek_X0_follow
set_option maxRecDepth 20000 in
theorem ggX4_sumOfFilmsInWeek_X0_sumOfWeek : GoodIn wsX4_sumOfFilmsInWeek wsX0_sumOfWeek := goodIn_r _ [46, 27, 69, 70, 71, 72, 73, 74] (by decide +kernel) (by decide +kernel)
set_option maxRecDepth 20000 in
theorem gX4_sumOfFilmsInWeek_X0_sumOfWeek : GoodIn wsX4_sumOfFilmsInWeek (wsV RX4 149 RX0 yX0_sumOfWeek wsX0_sumOfWeek) := goodIn_app (goodIn_of _ (by decide +kernel)) ggX4_sumOfFilmsInWeek_X0_sumOfWeek
theorem dX4_sumOfFilmsInWeek_0 : decode cX4_sumOfFilmsInWeek 0 = .ok (.iconst 0, 1) := by decide +kernel
theorem dX4_sumOfFilmsInWeek_1 : decode cX4_sumOfFilmsInWeek 1 = .ok (.istore_n 3, 1) := by decide +kernel
theorem dX4_sumOfFilmsInWeek_2 : decode cX4_sumOfFilmsInWeek 2 = .ok (.iconst 0, 1) := by decide +kernel
theorem dX4_sumOfFilmsInWeek_3 : decode cX4_sumOfFilmsInWeek 3 = .ok (.istore 4, 2) := by decide +kernel
theorem dX4_sumOfFilmsInWeek_5 : decode cX4_sumOfFilmsInWeek 5 = .ok (.iload 4, 2) := by decide +kernel
theorem dX4_sumOfFilmsInWeek_7 : decode cX4_sumOfFilmsInWeek 7 = .ok (.aload_n 0, 1) := by decide +kernel
theorem dX4_sumOfFilmsInWeek_8 : decode cX4_sumOfFilmsInWeek 8 = .ok (.getfield 12, 3) := by decide +kernel
theorem dX4_sumOfFilmsInWeek_11 : decode cX4_sumOfFilmsInWeek 11 = .ok (.invokevirtual 69, 3) := by decide +kernel
theorem dX4_sumOfFilmsInWeek_14 : decode cX4_sumOfFilmsInWeek 14 = .ok (.if_icmp .ge 34, 3) := by decide +kernel
theorem dX4_sumOfFilmsInWeek_17 : decode cX4_sumOfFilmsInWeek 17 = .ok (.aload_n 0, 1) := by decide +kernel
theorem dX4_sumOfFilmsInWeek_18 : decode cX4_sumOfFilmsInWeek 18 = .ok (.getfield 19, 3) := by decide +kernel
theorem dX4_sumOfFilmsInWeek_21 : decode cX4_sumOfFilmsInWeek 21 = .ok (.aload_n 0, 1) := by decide +kernel
theorem dX4_sumOfFilmsInWeek_22 : decode cX4_sumOfFilmsInWeek 22 = .ok (.getfield 12, 3) := by decide +kernel
theorem dX4_sumOfFilmsInWeek_25 : decode cX4_sumOfFilmsInWeek 25 = .ok (.iload 4, 2) := by decide +kernel
theorem dX4_sumOfFilmsInWeek_27 : decode cX4_sumOfFilmsInWeek 27 = .ok (.invokevirtual 121, 3) := by decide +kernel
theorem dX4_sumOfFilmsInWeek_30 : decode cX4_sumOfFilmsInWeek 30 = .ok (.iload_n 3, 1) := by decide +kernel
theorem dX4_sumOfFilmsInWeek_31 : decode cX4_sumOfFilmsInWeek 31 = .ok (.aload_n 0, 1) := by decide +kernel
theorem dX4_sumOfFilmsInWeek_32 : decode cX4_sumOfFilmsInWeek 32 = .ok (.getfield 19, 3) := by decide +kernel
theorem dX4_sumOfFilmsInWeek_35 : decode cX4_sumOfFilmsInWeek 35 = .ok (.iload_n 1, 1) := by decide +kernel
theorem dX4_sumOfFilmsInWeek_36 : decode cX4_sumOfFilmsInWeek 36 = .ok (.iload_n 2, 1) := by decide +kernel
theorem dX4_sumOfFilmsInWeek_37 : decode cX4_sumOfFilmsInWeek 37 = .ok (.invokevirtual 149, 3) := by decide +kernel
theorem dX4_sumOfFilmsInWeek_40 : decode cX4_sumOfFilmsInWeek 40 = .ok (.iadd, 1) := by decide +kernel
theorem dX4_sumOfFilmsInWeek_41 : decode cX4_sumOfFilmsInWeek 41 = .ok (.istore_n 3, 1) := by decide +kernel
theorem dX4_sumOfFilmsInWeek_42 : decode cX4_sumOfFilmsInWeek 42 = .ok (.iinc 4 1, 3) := by decide +kernel
theorem dX4_sumOfFilmsInWeek_45 : decode cX4_sumOfFilmsInWeek 45 = .ok (.goto (-40), 3) := by decide +kernel
theorem dX4_sumOfFilmsInWeek_48 : decode cX4_sumOfFilmsInWeek 48 = .ok (.iload_n 3, 1) := by decide +kernel
theorem dX4_sumOfFilmsInWeek_49 : decode cX4_sumOfFilmsInWeek 49 = .ok (.ireturn, 1) := by decide +kernel
set_option maxRecDepth 20000 in
theorem ggX4_fullShows_X1_films : GoodIn wsX4_fullShows wsX1_films := goodIn_r _ [7, 8, 71] (by decide +kernel) (by decide +kernel)
set_option maxRecDepth 20000 in
theorem gX4_fullShows_X1_films : GoodIn wsX4_fullShows (wsV RX4 69 RX1 yX1_films wsX1_films) := goodIn_app (goodIn_of _ (by decide +kernel)) ggX4_fullShows_X1_films
set_option maxRecDepth 20000 in
theorem ggX4_fullShows_X0_follow : GoodIn wsX4_fullShows wsX0_follow := goodIn_r _ [13, 14, 15, 16, 17, 18, 19, 6, 20, 8, 21, 22, 23, 12, 24, 25, 26, 27, 28, 29, 30, 31, 32, 33, 34, 35, 36, 37, 38, 39, 40, 41, 42, 43, 44, 45, 46, 47, 48, 49, 50, 51, 52, 53, 54, 55, 56, 57, 58, 59, 60, 72, 73, 74, 75, 76, 77, 71] (by decide +kernel) (by decide +kernel)
set_option maxRecDepth 20000 in
theorem gX4_fullShows_X0_follow : GoodIn wsX4_fullShows (wsV RX4 121 RX0 yX0_follow wsX0_follow) := goodIn_app (goodIn_of _ (by decide +kernel)) ggX4_fullShows_X0_follow
set_option maxRecDepth 20000 in
theorem ggX4_fullShows_X0_fullShows : GoodIn wsX4_fullShows wsX0_fullShows := goodIn_r _ [64, 14, 72, 73, 74, 75, 76, 77] (by decide +kernel) (by decide +kernel)
set_option maxRecDepth 20000 in
theorem gX4_fullShows_X0_fullShows : GoodIn wsX4_fullShows (wsV RX4 211 RX0 yX0_fullShows wsX0_fullShows) := goodIn_app (goodIn_of _ (by decide +kernel)) ggX4_fullShows_X0_fullShows
theorem dX4_fullShows_0 : decode cX4_fullShows 0 = .ok (.iconst 0, 1) := by decide +kernel
theorem dX4_fullShows_1 : decode cX4_fullShows 1 = .ok (.istore_n 1, 1) := by decide +kernel
theorem dX4_fullShows_2 : decode cX4_fullShows 2 = .ok (.iconst 0, 1) := by decide +kernel
theorem dX4_fullShows_3 : decode cX4_fullShows 3 = .ok (.istore_n 2, 1) := by decide +kernel
theorem dX4_fullShows_4 : decode cX4_fullShows 4 = .ok (.iload_n 2, 1) := by decide +kernel
theorem dX4_fullShows_5 : decode cX4_fullShows 5 = .ok (.aload_n 0, 1) := by decide +kernel
theorem dX4_fullShows_6 : decode cX4_fullShows 6 = .ok (.getfield 12, 3) := by decide +kernel
theorem dX4_fullShows_9 : decode cX4_fullShows 9 = .ok (.invokevirtual 69, 3) := by decide +kernel
theorem dX4_fullShows_12 : decode cX4_fullShows 12 = .ok (.if_icmp .ge 31, 3) := by decide +kernel
theorem dX4_fullShows_15 : decode cX4_fullShows 15 = .ok (.aload_n 0, 1) := by decide +kernel
theorem dX4_fullShows_16 : decode cX4_fullShows 16 = .ok (.getfield 19, 3) := by decide +kernel
theorem dX4_fullShows_19 : decode cX4_fullShows 19 = .ok (.aload_n 0, 1) := by decide +kernel
theorem dX4_fullShows_20 : decode cX4_fullShows 20 = .ok (.getfield 12, 3) := by decide +kernel
theorem dX4_fullShows_23 : decode cX4_fullShows 23 = .ok (.iload_n 2, 1) := by decide +kernel
theorem dX4_fullShows_24 : decode cX4_fullShows 24 = .ok (.invokevirtual 121, 3) := by decide +kernel
theorem dX4_fullShows_27 : decode cX4_fullShows 27 = .ok (.iload_n 1, 1) := by decide +kernel
theorem dX4_fullShows_28 : decode cX4_fullShows 28 = .ok (.aload_n 0, 1) := by decide +kernel
theorem dX4_fullShows_29 : decode cX4_fullShows 29 = .ok (.getfield 19, 3) := by decide +kernel
theorem dX4_fullShows_32 : decode cX4_fullShows 32 = .ok (.invokevirtual 211, 3) := by decide +kernel
theorem dX4_fullShows_35 : decode cX4_fullShows 35 = .ok (.iadd, 1) := by decide +kernel
theorem dX4_fullShows_36 : decode cX4_fullShows 36 = .ok (.istore_n 1, 1) := by decide +kernel
theorem dX4_fullShows_37 : decode cX4_fullShows 37 = .ok (.iinc 2 1, 3) := by decide +kernel
theorem dX4_fullShows_40 : decode cX4_fullShows 40 = .ok (.goto (-36), 3) := by decide +kernel
theorem dX4_fullShows_43 : decode cX4_fullShows 43 = .ok (.iload_n 1, 1) := by decide +kernel
theorem dX4_fullShows_44 : decode cX4_fullShows 44 = .ok (.ireturn, 1) := by decide +kernel
set_option maxRecDepth 20000 in
theorem ggX4_leftOfFilm_X1_hasFilm : GoodIn wsX4_leftOfFilm wsX1_hasFilm := goodIn_r _ [7, 8, 9, 10, 6, 11, 12, 75] (by decide +kernel) (by decide +kernel)
set_option maxRecDepth 20000 in
theorem gX4_leftOfFilm_X1_hasFilm : GoodIn wsX4_leftOfFilm (wsV RX4 118 RX1 yX1_hasFilm wsX1_hasFilm) := goodIn_app (goodIn_of _ (by decide +kernel)) ggX4_leftOfFilm_X1_hasFilm
set_option maxRecDepth 20000 in
theorem ggX4_leftOfFilm_X0_follow : GoodIn wsX4_leftOfFilm wsX0_follow := goodIn_r _ [17, 18, 19, 20, 21, 22, 23, 6, 24, 12, 25, 26, 27, 16, 28, 29, 30, 31, 32, 33, 34, 35, 36, 37, 38, 39, 40, 41, 42, 43, 44, 45, 46, 47, 48, 49, 50, 51, 52, 53, 54, 55, 56, 57, 58, 59, 60, 61, 62, 63, 64, 76, 77, 78, 79, 80, 81, 75] (by decide +kernel) (by decide +kernel)
set_option maxRecDepth 20000 in
theorem gX4_leftOfFilm_X0_follow : GoodIn wsX4_leftOfFilm (wsV RX4 121 RX0 yX0_follow wsX0_follow) := goodIn_app (goodIn_of _ (by decide +kernel)) ggX4_leftOfFilm_X0_follow
set_option maxRecDepth 20000 in
theorem ggX4_leftOfFilm_X0_sum : GoodIn wsX4_leftOfFilm wsX0_sum := goodIn_r _ [68, 47, 48, 49, 16, 50, 31, 76, 77, 78, 79, 80, 81] (by decide +kernel) (by decide +kernel)
set_option maxRecDepth 20000 in
theorem gX4_leftOfFilm_X0_sum : GoodIn wsX4_leftOfFilm (wsV RX4 143 RX0 yX0_sum wsX0_sum) := goodIn_app (goodIn_of _ (by decide +kernel)) ggX4_leftOfFilm_X0_sum
theorem dX4_leftOfFilm_0 : decode cX4_leftOfFilm 0 = .ok (.aload_n 0, 1) := by decide +kernel
theorem dX4_leftOfFilm_1 : decode cX4_leftOfFilm 1 = .ok (.getfield 12, 3) := by decide +kernel
theorem dX4_leftOfFilm_4 : decode cX4_leftOfFilm 4 = .ok (.iload_n 1, 1) := by decide +kernel
theorem dX4_leftOfFilm_5 : decode cX4_leftOfFilm 5 = .ok (.invokevirtual 118, 3) := by decide +kernel
theorem dX4_leftOfFilm_8 : decode cX4_leftOfFilm 8 = .ok (.ifCond .ne 5, 3) := by decide +kernel
theorem dX4_leftOfFilm_11 : decode cX4_leftOfFilm 11 = .ok (.iconst 0, 1) := by decide +kernel
theorem dX4_leftOfFilm_12 : decode cX4_leftOfFilm 12 = .ok (.ireturn, 1) := by decide +kernel
theorem dX4_leftOfFilm_13 : decode cX4_leftOfFilm 13 = .ok (.aload_n 0, 1) := by decide +kernel
theorem dX4_leftOfFilm_14 : decode cX4_leftOfFilm 14 = .ok (.getfield 19, 3) := by decide +kernel
theorem dX4_leftOfFilm_17 : decode cX4_leftOfFilm 17 = .ok (.aload_n 0, 1) := by decide +kernel
theorem dX4_leftOfFilm_18 : decode cX4_leftOfFilm 18 = .ok (.getfield 12, 3) := by decide +kernel
theorem dX4_leftOfFilm_21 : decode cX4_leftOfFilm 21 = .ok (.iload_n 1, 1) := by decide +kernel
theorem dX4_leftOfFilm_22 : decode cX4_leftOfFilm 22 = .ok (.invokevirtual 121, 3) := by decide +kernel
theorem dX4_leftOfFilm_25 : decode cX4_leftOfFilm 25 = .ok (.aload_n 0, 1) := by decide +kernel
theorem dX4_leftOfFilm_26 : decode cX4_leftOfFilm 26 = .ok (.getfield 19, 3) := by decide +kernel
theorem dX4_leftOfFilm_29 : decode cX4_leftOfFilm 29 = .ok (.iconst 4, 1) := by decide +kernel
theorem dX4_leftOfFilm_30 : decode cX4_leftOfFilm 30 = .ok (.invokevirtual 143, 3) := by decide +kernel
theorem dX4_leftOfFilm_33 : decode cX4_leftOfFilm 33 = .ok (.ireturn, 1) := by decide +kernel
set_option maxRecDepth 20000 in
theorem ggX4_gainWith_X1_showAt : GoodIn wsX4_gainWith wsX1_showAt := goodIn_r _ [6, 7, 85] (by decide +kernel) (by decide +kernel)
set_option maxRecDepth 20000 in
theorem gX4_gainWith_X1_showAt : GoodIn wsX4_gainWith (wsV RX4 91 RX1 yX1_showAt wsX1_showAt) := goodIn_app (goodIn_of _ (by decide +kernel)) ggX4_gainWith_X1_showAt
set_option maxRecDepth 20000 in
theorem ggX4_gainWith_X4_leftOfFilm : GoodIn wsX4_gainWith wsX4_leftOfFilm := goodIn_r _ [12, 1, 13, 14, 15, 16, 5, 17, 18, 19, 20, 21, 7, 22, 23, 24, 25, 26, 27, 28, 29, 30, 31, 32, 33, 34, 35, 36, 37, 38, 39, 40, 41, 3, 4, 6, 42, 43, 44, 45, 46, 47, 48, 49, 50, 51, 52, 53, 54, 55, 56, 57, 58, 59, 60, 61, 62, 63, 64, 65, 66, 67, 68, 69, 70, 71, 72, 73, 74, 79, 80, 81, 82, 83, 84, 85, 86, 87, 88, 89, 90, 91] (by decide +kernel) (by decide +kernel)
set_option maxRecDepth 20000 in
theorem gX4_gainWith_X4_leftOfFilm : GoodIn wsX4_gainWith (wsV RX4 212 RX4 yX4_leftOfFilm wsX4_leftOfFilm) := goodIn_app (goodIn_of _ (by decide +kernel)) ggX4_gainWith_X4_leftOfFilm
set_option maxRecDepth 20000 in
theorem ggX4_gainWith_X1_replaceShow : GoodIn wsX4_gainWith wsX1_replaceShow := goodIn_r _ [78, 7, 85] (by decide +kernel) (by decide +kernel)
set_option maxRecDepth 20000 in
theorem gX4_gainWith_X1_replaceShow : GoodIn wsX4_gainWith (wsV RX4 84 RX1 yX1_replaceShow wsX1_replaceShow) := goodIn_app (goodIn_of _ (by decide +kernel)) ggX4_gainWith_X1_replaceShow
theorem dX4_gainWith_0 : decode cX4_gainWith 0 = .ok (.aload_n 0, 1) := by decide +kernel
theorem dX4_gainWith_1 : decode cX4_gainWith 1 = .ok (.getfield 12, 3) := by decide +kernel
theorem dX4_gainWith_4 : decode cX4_gainWith 4 = .ok (.iload_n 1, 1) := by decide +kernel
theorem dX4_gainWith_5 : decode cX4_gainWith 5 = .ok (.invokevirtual 91, 3) := by decide +kernel
theorem dX4_gainWith_8 : decode cX4_gainWith 8 = .ok (.istore_n 3, 1) := by decide +kernel
theorem dX4_gainWith_9 : decode cX4_gainWith 9 = .ok (.aload_n 0, 1) := by decide +kernel
theorem dX4_gainWith_10 : decode cX4_gainWith 10 = .ok (.iload_n 3, 1) := by decide +kernel
theorem dX4_gainWith_11 : decode cX4_gainWith 11 = .ok (.invokevirtual 212, 3) := by decide +kernel
theorem dX4_gainWith_14 : decode cX4_gainWith 14 = .ok (.aload_n 0, 1) := by decide +kernel
theorem dX4_gainWith_15 : decode cX4_gainWith 15 = .ok (.iload_n 2, 1) := by decide +kernel
theorem dX4_gainWith_16 : decode cX4_gainWith 16 = .ok (.invokevirtual 212, 3) := by decide +kernel
theorem dX4_gainWith_19 : decode cX4_gainWith 19 = .ok (.iadd, 1) := by decide +kernel
theorem dX4_gainWith_20 : decode cX4_gainWith 20 = .ok (.istore 4, 2) := by decide +kernel
theorem dX4_gainWith_22 : decode cX4_gainWith 22 = .ok (.aload_n 0, 1) := by decide +kernel
theorem dX4_gainWith_23 : decode cX4_gainWith 23 = .ok (.getfield 12, 3) := by decide +kernel
theorem dX4_gainWith_26 : decode cX4_gainWith 26 = .ok (.iload_n 1, 1) := by decide +kernel
theorem dX4_gainWith_27 : decode cX4_gainWith 27 = .ok (.iload_n 2, 1) := by decide +kernel
theorem dX4_gainWith_28 : decode cX4_gainWith 28 = .ok (.invokevirtual 84, 3) := by decide +kernel
theorem dX4_gainWith_31 : decode cX4_gainWith 31 = .ok (.pop, 1) := by decide +kernel
theorem dX4_gainWith_32 : decode cX4_gainWith 32 = .ok (.aload_n 0, 1) := by decide +kernel
theorem dX4_gainWith_33 : decode cX4_gainWith 33 = .ok (.iload_n 3, 1) := by decide +kernel
theorem dX4_gainWith_34 : decode cX4_gainWith 34 = .ok (.invokevirtual 212, 3) := by decide +kernel
theorem dX4_gainWith_37 : decode cX4_gainWith 37 = .ok (.aload_n 0, 1) := by decide +kernel
theorem dX4_gainWith_38 : decode cX4_gainWith 38 = .ok (.iload_n 2, 1) := by decide +kernel
theorem dX4_gainWith_39 : decode cX4_gainWith 39 = .ok (.invokevirtual 212, 3) := by decide +kernel
theorem dX4_gainWith_42 : decode cX4_gainWith 42 = .ok (.iadd, 1) := by decide +kernel
theorem dX4_gainWith_43 : decode cX4_gainWith 43 = .ok (.istore 5, 2) := by decide +kernel
theorem dX4_gainWith_45 : decode cX4_gainWith 45 = .ok (.aload_n 0, 1) := by decide +kernel
theorem dX4_gainWith_46 : decode cX4_gainWith 46 = .ok (.getfield 12, 3) := by decide +kernel
theorem dX4_gainWith_49 : decode cX4_gainWith 49 = .ok (.iload_n 1, 1) := by decide +kernel
theorem dX4_gainWith_50 : decode cX4_gainWith 50 = .ok (.iload_n 3, 1) := by decide +kernel
theorem dX4_gainWith_51 : decode cX4_gainWith 51 = .ok (.invokevirtual 84, 3) := by decide +kernel
theorem dX4_gainWith_54 : decode cX4_gainWith 54 = .ok (.pop, 1) := by decide +kernel
theorem dX4_gainWith_55 : decode cX4_gainWith 55 = .ok (.iload 5, 2) := by decide +kernel
theorem dX4_gainWith_57 : decode cX4_gainWith 57 = .ok (.iload 4, 2) := by decide +kernel
theorem dX4_gainWith_59 : decode cX4_gainWith 59 = .ok (.isub, 1) := by decide +kernel
theorem dX4_gainWith_60 : decode cX4_gainWith 60 = .ok (.ireturn, 1) := by decide +kernel
end
section
/-! ===== one judgement for a walk whose world is a function of a state of numbers: VV; rows that turn it on ===== -/
abbrev S9 : Type := Nat → Nat → Int32
def st9 (σ : S9) (i : Nat) (g : Nat → Int32) : S9 := fun k => if k = i then g else σ k
theorem st9_s (σ : S9) (i : Nat) (g : Nat → Int32) : st9 σ i g i = g := if_pos rfl
theorem st9_n (σ : S9) {i k : Nat} (g : Nat → Int32) (h : k ≠ i) : st9 σ i g k = σ k := if_neg h
theorem i9_in {i : Int32} {n j : Nat} (hi : i = nI j) (hj : j < n) (hn : n ≤ 100000) : vp_in i n ∧ i.toNatClampNeg = j := by
  subst hi
  exact ⟨vp_in_nI hj (by omega), nI_clamp (by omega)⟩
def v9_world {τ : Type} (D : va_G) (w : τ → va_W) (tys : List (ClassId × FieldType)) (A : Nat → Prop) (u : τ) (t : State) : Prop := va_P D vwCl (w u) t.heap ∧ va_K D vwCl tys t ∧ va_D A (w u)
def CX (p : Program) (m : MethodId) (c : Code) (cc : ByteArray) (nL : Nat) (s : State) (args : Array Value) (Ts : List Cond) (own : String) (A : Nat → Prop) (H0 : Heap) : Prop := CallFix p m c cc nL s args Ts own ∧ ∀ q : Nat, H0.size ≤ q → A q
def CMi {τ : Type} (l : Launch) (w : τ → va_W) (D : va_G) (tys : List (ClassId × FieldType)) (y : MethodName) (ws : List Cond) (rm : Room) (As : List Value) (σ : τ) (post : Int32 → τ → Prop) : Prop :=
  ∀ sz : Nat, Met l y ws rm (va_Pc As (fun U => U.heap.size = sz ∧ v9_world D w tys (fun _ => True) σ U)) (va_Qi post (v9_world D w tys (va_A (w σ) sz)) (va_A (w σ) sz)) 0 0 (va_A (w σ) sz)
def CMv {τ : Type} (l : Launch) (w : τ → va_W) (D : va_G) (tys : List (ClassId × FieldType)) (y : MethodName) (ws : List Cond) (rm : Room) (As : List Value) (σ : τ) (post : τ → Prop) : Prop :=
  ∀ sz : Nat, Met l y ws rm (va_Pc As (fun U => U.heap.size = sz ∧ v9_world D w tys (fun _ => True) σ U)) (va_Qv post (v9_world D w tys (va_A (w σ) sz)) (va_A (w σ) sz)) 0 0 (va_A (w σ) sz)
def CPi (l : Launch) (y : MethodName) (ws : List Cond) (rm : Room) (As : List Value) (post : Int32 → Prop) : Prop :=
  ∀ sz : Nat, Met l y ws rm (va_Pc As (fun U => U.heap.size = sz)) (va_Qi (fun r (_ : Unit) => post r) (fun _ _ => True) (va_A [] sz)) 0 0 (va_A [] sz)
theorem v9_blind {τ : Type} {D : va_G} {w : τ → va_W} {tys : List (ClassId × FieldType)} {As : List Value} {σ : τ} {sz : Nat} : FrameBlind (va_Pc As (fun U => U.heap.size = sz ∧ v9_world D w tys (fun _ => True) σ U)) := fun a U g mk q => by
  obtain ⟨q0, q1, qP, qK, qD⟩ := q
  exact ⟨q0, q1, qP, va_K.moved (u := U) (U := U.calling g mk a) (Vm.Alike.refl U.vm) qK, qD⟩
theorem v9_blindP {As : List Value} {sz : Nat} : FrameBlind (va_Pc As (fun U => U.heap.size = sz)) := fun a U g mk q => q
section V9
variable {p : Program} {l : Launch} {e : Env} {R : Room} {s : State} {m : MethodId} {args : Array Value} {below : List Frame} {meth : Method} {c : Code} {cells slots : Nat} {Q : State → Prop}
variable {τ : Type} {w : τ → va_W} {D : va_G} {A : Nat → Prop} {H0 : Heap} {nL : Nat} {cc : ByteArray} {Ts : List Cond} {own : String} {tys : List (ClassId × FieldType)} {σ : τ} {pc pc' : Nat} {lv lv' : List (Nat × Value)} {st rest : List Value}
def VV (p : Program) (l : Launch) (e : Env) (R : Room) (s : State) (m : MethodId) (args : Array Value) (below : List Frame) (meth : Method) (c : Code) (cells slots : Nat) (Q : State → Prop) {τ : Type} (w : τ → va_W) (D : va_G) (A : Nat → Prop) (H0 : Heap) (nL : Nat) (σ : τ) (pc : Nat) (lv : List (Nat × Value)) (st : List Value) : Prop :=
  ∀ (H : Heap) (locs : List Loc) (ls : Array Slot), va_P D vwCl (w σ) H → va_D A (w σ) → va_S A H0 H locs → lv_has ls nL lv → W p l e R s m args below meth c H locs cells slots Q (F0 m pc ls st)
theorem v_iload_n (C : CX p m c cc nL s args Ts own A H0) {k : Fin 4} {x : Int32} (hdg : decode cc pc = .ok (.iload_n k, 1)) (hp : pc + 1 = pc') (i j : Nat) (hi : (k : Nat) = i) (hl : lv[j]? = some (i, .int x)) (kk : VV p l e R s m args below meth c cells slots Q w D A H0 nL σ pc' lv (.int x :: st)) : VV p l e R s m args below meth c cells slots Q w D A H0 nL σ pc lv st := by
  subst hp
  exact fun H locs ls hP hD hS h => lv_iload_n C.1.1 C.1.2.1 hdg hi (lv_at h j hl) (kk H locs ls hP hD hS h)
theorem v_iload (C : CX p m c cc nL s args Ts own A H0) {x : Int32} {i : Nat} (hdg : decode cc pc = .ok (.iload i, 2)) (hp : pc + 2 = pc') (j : Nat) (hl : lv[j]? = some (i, .int x)) (kk : VV p l e R s m args below meth c cells slots Q w D A H0 nL σ pc' lv (.int x :: st)) : VV p l e R s m args below meth c cells slots Q w D A H0 nL σ pc lv st := by
  subst hp
  exact fun H locs ls hP hD hS h => lv_iload C.1.1 C.1.2.1 hdg (lv_at h j hl) (kk H locs ls hP hD hS h)
theorem v_lload_n (C : CX p m c cc nL s args Ts own A H0) {k : Fin 4} {x : Int64} (hdg : decode cc pc = .ok (.lload_n k, 1)) (hp : pc + 1 = pc') (i j : Nat) (hi : (k : Nat) = i) (hl : lv[j]? = some (i, .long x)) (kk : VV p l e R s m args below meth c cells slots Q w D A H0 nL σ pc' lv (.long x :: st)) : VV p l e R s m args below meth c cells slots Q w D A H0 nL σ pc lv st := by
  subst hp
  exact fun H locs ls hP hD hS h => lv_lload_n C.1.1 C.1.2.1 hdg hi (lv_at h j hl) (kk H locs ls hP hD hS h)
theorem v_lload (C : CX p m c cc nL s args Ts own A H0) {x : Int64} {i : Nat} (hdg : decode cc pc = .ok (.lload i, 2)) (hp : pc + 2 = pc') (j : Nat) (hl : lv[j]? = some (i, .long x)) (kk : VV p l e R s m args below meth c cells slots Q w D A H0 nL σ pc' lv (.long x :: st)) : VV p l e R s m args below meth c cells slots Q w D A H0 nL σ pc lv st := by
  subst hp
  exact fun H locs ls hP hD hS h => lv_lload C.1.1 C.1.2.1 hdg (lv_at h j hl) (kk H locs ls hP hD hS h)
theorem v_aload_n (C : CX p m c cc nL s args Ts own A H0) {k : Fin 4} {x : Nat} (hdg : decode cc pc = .ok (.aload_n k, 1)) (hp : pc + 1 = pc') (i j : Nat) (hi : (k : Nat) = i) (hl : lv[j]? = some (i, .ref x)) (kk : VV p l e R s m args below meth c cells slots Q w D A H0 nL σ pc' lv (.ref x :: st)) : VV p l e R s m args below meth c cells slots Q w D A H0 nL σ pc lv st := by
  subst hp
  exact fun H locs ls hP hD hS h => lv_aload_n C.1.1 C.1.2.1 hdg hi (lv_at h j hl) (kk H locs ls hP hD hS h)
theorem v_aload (C : CX p m c cc nL s args Ts own A H0) {x : Nat} {i : Nat} (hdg : decode cc pc = .ok (.aload i, 2)) (hp : pc + 2 = pc') (j : Nat) (hl : lv[j]? = some (i, .ref x)) (kk : VV p l e R s m args below meth c cells slots Q w D A H0 nL σ pc' lv (.ref x :: st)) : VV p l e R s m args below meth c cells slots Q w D A H0 nL σ pc lv st := by
  subst hp
  exact fun H locs ls hP hD hS h => lv_aload C.1.1 C.1.2.1 hdg (lv_at h j hl) (kk H locs ls hP hD hS h)
theorem v_istore_n (C : CX p m c cc nL s args Ts own A H0) {k : Fin 4} {x : Int32} (hdg : decode cc pc = .ok (.istore_n k, 1)) (hp : pc + 1 = pc') (i : Nat) (hi : (k : Nat) = i) (hn : i < nL) (hl : (i, Value.int x) :: lv.filter (fun q => !(q.1 == i) && !(q.1 + 1 == i && q.2.category == 2)) = lv') (kk : VV p l e R s m args below meth c cells slots Q w D A H0 nL σ pc' lv' st) : VV p l e R s m args below meth c cells slots Q w D A H0 nL σ pc lv (.int x :: st) := by
  subst hp
  exact fun H locs ls hP hD hS h => lv_istore_n C.1.1 C.1.2.1 hdg hi h hn hl (fun ls h => kk H locs ls hP hD hS h)
theorem v_istore (C : CX p m c cc nL s args Ts own A H0) {x : Int32} {i : Nat} (hdg : decode cc pc = .ok (.istore i, 2)) (hp : pc + 2 = pc') (hn : i < nL) (hl : (i, Value.int x) :: lv.filter (fun q => !(q.1 == i) && !(q.1 + 1 == i && q.2.category == 2)) = lv') (kk : VV p l e R s m args below meth c cells slots Q w D A H0 nL σ pc' lv' st) : VV p l e R s m args below meth c cells slots Q w D A H0 nL σ pc lv (.int x :: st) := by
  subst hp
  exact fun H locs ls hP hD hS h => lv_istore C.1.1 C.1.2.1 hdg h hn hl (fun ls h => kk H locs ls hP hD hS h)
theorem v_lstore_n (C : CX p m c cc nL s args Ts own A H0) {k : Fin 4} {x : Int64} (hdg : decode cc pc = .ok (.lstore_n k, 1)) (hp : pc + 1 = pc') (i : Nat) (hi : (k : Nat) = i) (hn : i + 1 < nL) (hl : (i, Value.long x) :: lv.filter (fun q => !(q.1 == i) && (!(q.1 == i + 1) && !(q.1 + 1 == i && q.2.category == 2))) = lv') (kk : VV p l e R s m args below meth c cells slots Q w D A H0 nL σ pc' lv' st) : VV p l e R s m args below meth c cells slots Q w D A H0 nL σ pc lv (.long x :: st) := by
  subst hp
  exact fun H locs ls hP hD hS h => lv_lstore_n C.1.1 C.1.2.1 hdg hi h hn hl (fun ls h => kk H locs ls hP hD hS h)
theorem v_lstore (C : CX p m c cc nL s args Ts own A H0) {x : Int64} {i : Nat} (hdg : decode cc pc = .ok (.lstore i, 2)) (hp : pc + 2 = pc') (hn : i + 1 < nL) (hl : (i, Value.long x) :: lv.filter (fun q => !(q.1 == i) && (!(q.1 == i + 1) && !(q.1 + 1 == i && q.2.category == 2))) = lv') (kk : VV p l e R s m args below meth c cells slots Q w D A H0 nL σ pc' lv' st) : VV p l e R s m args below meth c cells slots Q w D A H0 nL σ pc lv (.long x :: st) := by
  subst hp
  exact fun H locs ls hP hD hS h => lv_lstore C.1.1 C.1.2.1 hdg h hn hl (fun ls h => kk H locs ls hP hD hS h)
theorem v_astore_n (C : CX p m c cc nL s args Ts own A H0) {k : Fin 4} {x : Nat} (hdg : decode cc pc = .ok (.astore_n k, 1)) (hp : pc + 1 = pc') (i : Nat) (hi : (k : Nat) = i) (hn : i < nL) (hl : (i, Value.ref x) :: lv.filter (fun q => !(q.1 == i) && !(q.1 + 1 == i && q.2.category == 2)) = lv') (kk : VV p l e R s m args below meth c cells slots Q w D A H0 nL σ pc' lv' st) : VV p l e R s m args below meth c cells slots Q w D A H0 nL σ pc lv (.ref x :: st) := by
  subst hp
  exact fun H locs ls hP hD hS h => lv_astore_n C.1.1 C.1.2.1 hdg hi h hn hl (fun ls h => kk H locs ls hP hD hS h)
theorem v_astore (C : CX p m c cc nL s args Ts own A H0) {x : Nat} {i : Nat} (hdg : decode cc pc = .ok (.astore i, 2)) (hp : pc + 2 = pc') (hn : i < nL) (hl : (i, Value.ref x) :: lv.filter (fun q => !(q.1 == i) && !(q.1 + 1 == i && q.2.category == 2)) = lv') (kk : VV p l e R s m args below meth c cells slots Q w D A H0 nL σ pc' lv' st) : VV p l e R s m args below meth c cells slots Q w D A H0 nL σ pc lv (.ref x :: st) := by
  subst hp
  exact fun H locs ls hP hD hS h => lv_astore C.1.1 C.1.2.1 hdg h hn hl (fun ls h => kk H locs ls hP hD hS h)
theorem v_iinc (C : CX p m c cc nL s args Ts own A H0) {n : Int} {x v : Int32} {i : Nat} (hdg : decode cc pc = .ok (.iinc i n, 3)) (hp : pc + 3 = pc') (j : Nat) (hj : lv[j]? = some (i, .int x)) (hv : x + Int32.ofInt n = v) (hn : i < nL) (hl : (i, Value.int v) :: lv.filter (fun q => !(q.1 == i) && !(q.1 + 1 == i && q.2.category == 2)) = lv') (kk : VV p l e R s m args below meth c cells slots Q w D A H0 nL σ pc' lv' st) : VV p l e R s m args below meth c cells slots Q w D A H0 nL σ pc lv st := by
  subst hp
  exact fun H locs ls hP hD hS h => lv_iinc C.1.1 C.1.2.1 hdg h hj hv hn hl (fun ls h => kk H locs ls hP hD hS h)
theorem v_iconst (C : CX p m c cc nL s args Ts own A H0) {n : Int} {v : Int32} (hdg : decode cc pc = .ok (.iconst n, 1)) (hp : pc + 1 = pc') (hv : Int32.ofInt n = v) (kk : VV p l e R s m args below meth c cells slots Q w D A H0 nL σ pc' lv (.int v :: st)) : VV p l e R s m args below meth c cells slots Q w D A H0 nL σ pc lv st := by
  subst hp
  exact fun H locs ls hP hD hS h => lv_iconst C.1.1 C.1.2.1 hdg hv (kk H locs ls hP hD hS h)
theorem v_bipush (C : CX p m c cc nL s args Ts own A H0) {n : Int} {v : Int32} (hdg : decode cc pc = .ok (.bipush n, 2)) (hp : pc + 2 = pc') (hv : (Int8.ofInt n).toInt32 = v) (kk : VV p l e R s m args below meth c cells slots Q w D A H0 nL σ pc' lv (.int v :: st)) : VV p l e R s m args below meth c cells slots Q w D A H0 nL σ pc lv st := by
  subst hp
  exact fun H locs ls hP hD hS h => lv_bipush C.1.1 C.1.2.1 hdg hv (kk H locs ls hP hD hS h)
theorem v_sipush (C : CX p m c cc nL s args Ts own A H0) {n : Int} {v : Int32} (hdg : decode cc pc = .ok (.sipush n, 3)) (hp : pc + 3 = pc') (hv : (Int16.ofInt n).toInt32 = v) (kk : VV p l e R s m args below meth c cells slots Q w D A H0 nL σ pc' lv (.int v :: st)) : VV p l e R s m args below meth c cells slots Q w D A H0 nL σ pc lv st := by
  subst hp
  exact fun H locs ls hP hD hS h => lv_sipush C.1.1 C.1.2.1 hdg hv (kk H locs ls hP hD hS h)
theorem v_lconst (C : CX p m c cc nL s args Ts own A H0) {n : Fin 2} {v : Int64} (hdg : decode cc pc = .ok (.lconst n, 1)) (hp : pc + 1 = pc') (hv : Int64.ofNat (n : Nat) = v) (kk : VV p l e R s m args below meth c cells slots Q w D A H0 nL σ pc' lv (.long v :: st)) : VV p l e R s m args below meth c cells slots Q w D A H0 nL σ pc lv st := by
  subst hp
  exact fun H locs ls hP hD hS h => lv_lconst C.1.1 C.1.2.1 hdg hv (kk H locs ls hP hD hS h)
theorem v_ldc (C : CX p m c cc nL s args Ts own A H0) {index : Nat} {v : Int32} (hdg : decode cc pc = .ok (.ldc index, 2)) (hp : pc + 2 = pc') (hm : Cond.constant own index v ∈ Ts) (kk : VV p l e R s m args below meth c cells slots Q w D A H0 nL σ pc' lv (.int v :: st)) : VV p l e R s m args below meth c cells slots Q w D A H0 nL σ pc lv st := by
  subst hp
  exact fun H locs ls hP hD hS h => lv_ldc C.1.1 C.1.2.1 C.1.2.2.2.1 (C.1.2.2.2.2 _ hm) hdg (kk H locs ls hP hD hS h)
theorem v_ldc2 (C : CX p m c cc nL s args Ts own A H0) {index : Nat} {v : Int64} (hdg : decode cc pc = .ok (.ldc2_w index, 3)) (hp : pc + 3 = pc') (hm : Cond.constantLong own index v ∈ Ts) (kk : VV p l e R s m args below meth c cells slots Q w D A H0 nL σ pc' lv (.long v :: st)) : VV p l e R s m args below meth c cells slots Q w D A H0 nL σ pc lv st := by
  subst hp
  exact fun H locs ls hP hD hS h => lv_ldc2 C.1.1 C.1.2.1 C.1.2.2.2.1 (C.1.2.2.2.2 _ hm) hdg (kk H locs ls hP hD hS h)
theorem v_iadd (C : CX p m c cc nL s args Ts own A H0) {x y : Int32} (hdg : decode cc pc = .ok (.iadd, 1)) (hp : pc + 1 = pc') (kk : VV p l e R s m args below meth c cells slots Q w D A H0 nL σ pc' lv (.int (x + y) :: st)) : VV p l e R s m args below meth c cells slots Q w D A H0 nL σ pc lv (.int y :: .int x :: st) := by
  subst hp
  exact fun H locs ls hP hD hS h => lv_iadd C.1.1 C.1.2.1 hdg (kk H locs ls hP hD hS h)
theorem v_isub (C : CX p m c cc nL s args Ts own A H0) {x y : Int32} (hdg : decode cc pc = .ok (.isub, 1)) (hp : pc + 1 = pc') (kk : VV p l e R s m args below meth c cells slots Q w D A H0 nL σ pc' lv (.int (x - y) :: st)) : VV p l e R s m args below meth c cells slots Q w D A H0 nL σ pc lv (.int y :: .int x :: st) := by
  subst hp
  exact fun H locs ls hP hD hS h => lv_isub C.1.1 C.1.2.1 hdg (kk H locs ls hP hD hS h)
theorem v_imul (C : CX p m c cc nL s args Ts own A H0) {x y : Int32} (hdg : decode cc pc = .ok (.imul, 1)) (hp : pc + 1 = pc') (kk : VV p l e R s m args below meth c cells slots Q w D A H0 nL σ pc' lv (.int (x * y) :: st)) : VV p l e R s m args below meth c cells slots Q w D A H0 nL σ pc lv (.int y :: .int x :: st) := by
  subst hp
  exact fun H locs ls hP hD hS h => lv_imul C.1.1 C.1.2.1 hdg (kk H locs ls hP hD hS h)
theorem v_iand (C : CX p m c cc nL s args Ts own A H0) {x y : Int32} (hdg : decode cc pc = .ok (.iand, 1)) (hp : pc + 1 = pc') (kk : VV p l e R s m args below meth c cells slots Q w D A H0 nL σ pc' lv (.int (x &&& y) :: st)) : VV p l e R s m args below meth c cells slots Q w D A H0 nL σ pc lv (.int y :: .int x :: st) := by
  subst hp
  exact fun H locs ls hP hD hS h => lv_iand C.1.1 C.1.2.1 hdg (kk H locs ls hP hD hS h)
theorem v_ior (C : CX p m c cc nL s args Ts own A H0) {x y : Int32} (hdg : decode cc pc = .ok (.ior, 1)) (hp : pc + 1 = pc') (kk : VV p l e R s m args below meth c cells slots Q w D A H0 nL σ pc' lv (.int (x ||| y) :: st)) : VV p l e R s m args below meth c cells slots Q w D A H0 nL σ pc lv (.int y :: .int x :: st) := by
  subst hp
  exact fun H locs ls hP hD hS h => lv_ior C.1.1 C.1.2.1 hdg (kk H locs ls hP hD hS h)
theorem v_ixor (C : CX p m c cc nL s args Ts own A H0) {x y : Int32} (hdg : decode cc pc = .ok (.ixor, 1)) (hp : pc + 1 = pc') (kk : VV p l e R s m args below meth c cells slots Q w D A H0 nL σ pc' lv (.int (x ^^^ y) :: st)) : VV p l e R s m args below meth c cells slots Q w D A H0 nL σ pc lv (.int y :: .int x :: st) := by
  subst hp
  exact fun H locs ls hP hD hS h => lv_ixor C.1.1 C.1.2.1 hdg (kk H locs ls hP hD hS h)
theorem v_idiv (C : CX p m c cc nL s args Ts own A H0) {x y : Int32} (hdg : decode cc pc = .ok (.idiv, 1)) (hp : pc + 1 = pc') (hne : ¬ y = 0) (kk : VV p l e R s m args below meth c cells slots Q w D A H0 nL σ pc' lv (.int (x / y) :: st)) : VV p l e R s m args below meth c cells slots Q w D A H0 nL σ pc lv (.int y :: .int x :: st) := by
  subst hp
  exact fun H locs ls hP hD hS h => lv_idiv C.1.1 C.1.2.1 hdg hne (kk H locs ls hP hD hS h)
theorem v_irem (C : CX p m c cc nL s args Ts own A H0) {x y : Int32} (hdg : decode cc pc = .ok (.irem, 1)) (hp : pc + 1 = pc') (hne : ¬ y = 0) (kk : VV p l e R s m args below meth c cells slots Q w D A H0 nL σ pc' lv (.int (x - x / y * y) :: st)) : VV p l e R s m args below meth c cells slots Q w D A H0 nL σ pc lv (.int y :: .int x :: st) := by
  subst hp
  exact fun H locs ls hP hD hS h => lv_irem C.1.1 C.1.2.1 hdg hne (kk H locs ls hP hD hS h)
theorem v_ladd (C : CX p m c cc nL s args Ts own A H0) {x y : Int64} (hdg : decode cc pc = .ok (.ladd, 1)) (hp : pc + 1 = pc') (kk : VV p l e R s m args below meth c cells slots Q w D A H0 nL σ pc' lv (.long (x + y) :: st)) : VV p l e R s m args below meth c cells slots Q w D A H0 nL σ pc lv (.long y :: .long x :: st) := by
  subst hp
  exact fun H locs ls hP hD hS h => lv_ladd C.1.1 C.1.2.1 hdg (kk H locs ls hP hD hS h)
theorem v_land (C : CX p m c cc nL s args Ts own A H0) {x y : Int64} (hdg : decode cc pc = .ok (.land, 1)) (hp : pc + 1 = pc') (kk : VV p l e R s m args below meth c cells slots Q w D A H0 nL σ pc' lv (.long (x &&& y) :: st)) : VV p l e R s m args below meth c cells slots Q w D A H0 nL σ pc lv (.long y :: .long x :: st) := by
  subst hp
  exact fun H locs ls hP hD hS h => lv_land C.1.1 C.1.2.1 hdg (kk H locs ls hP hD hS h)
theorem v_lor (C : CX p m c cc nL s args Ts own A H0) {x y : Int64} (hdg : decode cc pc = .ok (.lor, 1)) (hp : pc + 1 = pc') (kk : VV p l e R s m args below meth c cells slots Q w D A H0 nL σ pc' lv (.long (x ||| y) :: st)) : VV p l e R s m args below meth c cells slots Q w D A H0 nL σ pc lv (.long y :: .long x :: st) := by
  subst hp
  exact fun H locs ls hP hD hS h => lv_lor C.1.1 C.1.2.1 hdg (kk H locs ls hP hD hS h)
theorem v_lshl (C : CX p m c cc nL s args Ts own A H0) {x v : Int64} {y : Int32} (hdg : decode cc pc = .ok (.lshl, 1)) (hp : pc + 1 = pc') (hv : x <<< (y.toInt64 &&& 63) = v) (kk : VV p l e R s m args below meth c cells slots Q w D A H0 nL σ pc' lv (.long v :: st)) : VV p l e R s m args below meth c cells slots Q w D A H0 nL σ pc lv (.int y :: .long x :: st) := by
  subst hp
  exact fun H locs ls hP hD hS h => lv_lshl C.1.1 C.1.2.1 hdg hv (kk H locs ls hP hD hS h)
theorem v_lushr (C : CX p m c cc nL s args Ts own A H0) {x v : Int64} {y : Int32} (hdg : decode cc pc = .ok (.lushr, 1)) (hp : pc + 1 = pc') (hv : (x.toUInt64 >>> (y.toInt64.toUInt64 &&& Int64.toUInt64 63)).toInt64 = v) (kk : VV p l e R s m args below meth c cells slots Q w D A H0 nL σ pc' lv (.long v :: st)) : VV p l e R s m args below meth c cells slots Q w D A H0 nL σ pc lv (.int y :: .long x :: st) := by
  subst hp
  exact fun H locs ls hP hD hS h => lv_lushr C.1.1 C.1.2.1 hdg hv (kk H locs ls hP hD hS h)
theorem v_i2l (C : CX p m c cc nL s args Ts own A H0) {x : Int32} {v : Int64} (hdg : decode cc pc = .ok (.i2l, 1)) (hp : pc + 1 = pc') (hv : x.toInt64 = v) (kk : VV p l e R s m args below meth c cells slots Q w D A H0 nL σ pc' lv (.long v :: st)) : VV p l e R s m args below meth c cells slots Q w D A H0 nL σ pc lv (.int x :: st) := by
  subst hp
  exact fun H locs ls hP hD hS h => lv_i2l C.1.1 C.1.2.1 hdg hv (kk H locs ls hP hD hS h)
theorem v_l2i (C : CX p m c cc nL s args Ts own A H0) {x : Int64} {v : Int32} (hdg : decode cc pc = .ok (.l2i, 1)) (hp : pc + 1 = pc') (hv : x.toInt32 = v) (kk : VV p l e R s m args below meth c cells slots Q w D A H0 nL σ pc' lv (.int v :: st)) : VV p l e R s m args below meth c cells slots Q w D A H0 nL σ pc lv (.long x :: st) := by
  subst hp
  exact fun H locs ls hP hD hS h => lv_l2i C.1.1 C.1.2.1 hdg hv (kk H locs ls hP hD hS h)
theorem v_i2c (C : CX p m c cc nL s args Ts own A H0) {x v : Int32} (hdg : decode cc pc = .ok (.i2c, 1)) (hp : pc + 1 = pc') (hv : (x.toUInt32 % 65536).toInt32 = v) (kk : VV p l e R s m args below meth c cells slots Q w D A H0 nL σ pc' lv (.int v :: st)) : VV p l e R s m args below meth c cells slots Q w D A H0 nL σ pc lv (.int x :: st) := by
  subst hp
  exact fun H locs ls hP hD hS h => lv_i2c C.1.1 C.1.2.1 hdg hv (kk H locs ls hP hD hS h)
theorem v_dup (C : CX p m c cc nL s args Ts own A H0) {va : Value} (hdg : decode cc pc = .ok (.dup, 1)) (hp : pc + 1 = pc') (hva : va.category = 1) (kk : VV p l e R s m args below meth c cells slots Q w D A H0 nL σ pc' lv (va :: va :: st)) : VV p l e R s m args below meth c cells slots Q w D A H0 nL σ pc lv (va :: st) := by
  subst hp
  exact fun H locs ls hP hD hS h => lv_dup C.1.1 C.1.2.1 hdg hva (kk H locs ls hP hD hS h)
theorem v_pop (C : CX p m c cc nL s args Ts own A H0) {va : Value} (hdg : decode cc pc = .ok (.pop, 1)) (hp : pc + 1 = pc') (hva : va.category = 1) (kk : VV p l e R s m args below meth c cells slots Q w D A H0 nL σ pc' lv (st)) : VV p l e R s m args below meth c cells slots Q w D A H0 nL σ pc lv (va :: st) := by
  subst hp
  exact fun H locs ls hP hD hS h => lv_pop C.1.1 C.1.2.1 hdg hva (kk H locs ls hP hD hS h)
theorem v_dup2 (C : CX p m c cc nL s args Ts own A H0) {va vb : Value} (hdg : decode cc pc = .ok (.dup2, 1)) (hp : pc + 1 = pc') (hva : va.category = 1) (hvb : vb.category = 1) (kk : VV p l e R s m args below meth c cells slots Q w D A H0 nL σ pc' lv (va :: vb :: va :: vb :: st)) : VV p l e R s m args below meth c cells slots Q w D A H0 nL σ pc lv (va :: vb :: st) := by
  subst hp
  exact fun H locs ls hP hD hS h => lv_dup2_11 C.1.1 C.1.2.1 hdg hva hvb (kk H locs ls hP hD hS h)
theorem v_lcmp (C : CX p m c cc nL s args Ts own A H0) {x y : Int64} (hdg : decode cc pc = .ok (.lcmp, 1)) (hp : pc + 1 = pc') (kk : VV p l e R s m args below meth c cells slots Q w D A H0 nL σ pc' lv (.int (lg_cmp x y) :: st)) : VV p l e R s m args below meth c cells slots Q w D A H0 nL σ pc lv (.long y :: .long x :: st) := by
  subst hp
  exact fun H locs ls hP hD hS h => W.lcmp C.1.1 C.1.2.1 hdg (kk H locs ls hP hD hS h)
theorem v_if_eq (C : CX p m c cc nL s args Ts own A H0) {x : Int32} {off : Int} (tgt : Nat) (hdg : decode cc pc = .ok (.ifCond .eq off, 3)) (ht : (pc : Int) + off = (tgt : Int)) (hp : pc + 3 = pc') (kt : x = 0 → VV p l e R s m args below meth c cells slots Q w D A H0 nL σ tgt lv st) (kf : ¬ x = 0 → VV p l e R s m args below meth c cells slots Q w D A H0 nL σ pc' lv st) : VV p l e R s m args below meth c cells slots Q w D A H0 nL σ pc lv (.int x :: st) := by
  subst hp
  exact fun H locs ls hP hD hS h => lv_if_eq C.1.1 C.1.2.1 hdg ht (fun h2 => kt h2 H locs ls hP hD hS h) (fun h2 => kf h2 H locs ls hP hD hS h)
theorem v_icmp_eq (C : CX p m c cc nL s args Ts own A H0) {x y : Int32} {off : Int} (tgt : Nat) (hdg : decode cc pc = .ok (.if_icmp .eq off, 3)) (ht : (pc : Int) + off = (tgt : Int)) (hp : pc + 3 = pc') (kt : x = y → VV p l e R s m args below meth c cells slots Q w D A H0 nL σ tgt lv st) (kf : ¬ x = y → VV p l e R s m args below meth c cells slots Q w D A H0 nL σ pc' lv st) : VV p l e R s m args below meth c cells slots Q w D A H0 nL σ pc lv (.int y :: .int x :: st) := by
  subst hp
  exact fun H locs ls hP hD hS h => lv_icmp_eq C.1.1 C.1.2.1 hdg ht (fun h2 => kt h2 H locs ls hP hD hS h) (fun h2 => kf h2 H locs ls hP hD hS h)
theorem v_if_ne (C : CX p m c cc nL s args Ts own A H0) {x : Int32} {off : Int} (tgt : Nat) (hdg : decode cc pc = .ok (.ifCond .ne off, 3)) (ht : (pc : Int) + off = (tgt : Int)) (hp : pc + 3 = pc') (kt : ¬ x = 0 → VV p l e R s m args below meth c cells slots Q w D A H0 nL σ tgt lv st) (kf : x = 0 → VV p l e R s m args below meth c cells slots Q w D A H0 nL σ pc' lv st) : VV p l e R s m args below meth c cells slots Q w D A H0 nL σ pc lv (.int x :: st) := by
  subst hp
  exact fun H locs ls hP hD hS h => lv_if_ne C.1.1 C.1.2.1 hdg ht (fun h2 => kt h2 H locs ls hP hD hS h) (fun h2 => kf h2 H locs ls hP hD hS h)
theorem v_icmp_ne (C : CX p m c cc nL s args Ts own A H0) {x y : Int32} {off : Int} (tgt : Nat) (hdg : decode cc pc = .ok (.if_icmp .ne off, 3)) (ht : (pc : Int) + off = (tgt : Int)) (hp : pc + 3 = pc') (kt : ¬ x = y → VV p l e R s m args below meth c cells slots Q w D A H0 nL σ tgt lv st) (kf : x = y → VV p l e R s m args below meth c cells slots Q w D A H0 nL σ pc' lv st) : VV p l e R s m args below meth c cells slots Q w D A H0 nL σ pc lv (.int y :: .int x :: st) := by
  subst hp
  exact fun H locs ls hP hD hS h => lv_icmp_ne C.1.1 C.1.2.1 hdg ht (fun h2 => kt h2 H locs ls hP hD hS h) (fun h2 => kf h2 H locs ls hP hD hS h)
theorem v_if_lt (C : CX p m c cc nL s args Ts own A H0) {x : Int32} {off : Int} (tgt : Nat) (hdg : decode cc pc = .ok (.ifCond .lt off, 3)) (ht : (pc : Int) + off = (tgt : Int)) (hp : pc + 3 = pc') (kt : x < 0 → VV p l e R s m args below meth c cells slots Q w D A H0 nL σ tgt lv st) (kf : ¬ x < 0 → VV p l e R s m args below meth c cells slots Q w D A H0 nL σ pc' lv st) : VV p l e R s m args below meth c cells slots Q w D A H0 nL σ pc lv (.int x :: st) := by
  subst hp
  exact fun H locs ls hP hD hS h => lv_if_lt C.1.1 C.1.2.1 hdg ht (fun h2 => kt h2 H locs ls hP hD hS h) (fun h2 => kf h2 H locs ls hP hD hS h)
theorem v_icmp_lt (C : CX p m c cc nL s args Ts own A H0) {x y : Int32} {off : Int} (tgt : Nat) (hdg : decode cc pc = .ok (.if_icmp .lt off, 3)) (ht : (pc : Int) + off = (tgt : Int)) (hp : pc + 3 = pc') (kt : x < y → VV p l e R s m args below meth c cells slots Q w D A H0 nL σ tgt lv st) (kf : ¬ x < y → VV p l e R s m args below meth c cells slots Q w D A H0 nL σ pc' lv st) : VV p l e R s m args below meth c cells slots Q w D A H0 nL σ pc lv (.int y :: .int x :: st) := by
  subst hp
  exact fun H locs ls hP hD hS h => lv_icmp_lt C.1.1 C.1.2.1 hdg ht (fun h2 => kt h2 H locs ls hP hD hS h) (fun h2 => kf h2 H locs ls hP hD hS h)
theorem v_if_ge (C : CX p m c cc nL s args Ts own A H0) {x : Int32} {off : Int} (tgt : Nat) (hdg : decode cc pc = .ok (.ifCond .ge off, 3)) (ht : (pc : Int) + off = (tgt : Int)) (hp : pc + 3 = pc') (kt : 0 ≤ x → VV p l e R s m args below meth c cells slots Q w D A H0 nL σ tgt lv st) (kf : ¬ 0 ≤ x → VV p l e R s m args below meth c cells slots Q w D A H0 nL σ pc' lv st) : VV p l e R s m args below meth c cells slots Q w D A H0 nL σ pc lv (.int x :: st) := by
  subst hp
  exact fun H locs ls hP hD hS h => lv_if_ge C.1.1 C.1.2.1 hdg ht (fun h2 => kt h2 H locs ls hP hD hS h) (fun h2 => kf h2 H locs ls hP hD hS h)
theorem v_icmp_ge (C : CX p m c cc nL s args Ts own A H0) {x y : Int32} {off : Int} (tgt : Nat) (hdg : decode cc pc = .ok (.if_icmp .ge off, 3)) (ht : (pc : Int) + off = (tgt : Int)) (hp : pc + 3 = pc') (kt : y ≤ x → VV p l e R s m args below meth c cells slots Q w D A H0 nL σ tgt lv st) (kf : ¬ y ≤ x → VV p l e R s m args below meth c cells slots Q w D A H0 nL σ pc' lv st) : VV p l e R s m args below meth c cells slots Q w D A H0 nL σ pc lv (.int y :: .int x :: st) := by
  subst hp
  exact fun H locs ls hP hD hS h => lv_icmp_ge C.1.1 C.1.2.1 hdg ht (fun h2 => kt h2 H locs ls hP hD hS h) (fun h2 => kf h2 H locs ls hP hD hS h)
theorem v_if_gt (C : CX p m c cc nL s args Ts own A H0) {x : Int32} {off : Int} (tgt : Nat) (hdg : decode cc pc = .ok (.ifCond .gt off, 3)) (ht : (pc : Int) + off = (tgt : Int)) (hp : pc + 3 = pc') (kt : 0 < x → VV p l e R s m args below meth c cells slots Q w D A H0 nL σ tgt lv st) (kf : ¬ 0 < x → VV p l e R s m args below meth c cells slots Q w D A H0 nL σ pc' lv st) : VV p l e R s m args below meth c cells slots Q w D A H0 nL σ pc lv (.int x :: st) := by
  subst hp
  exact fun H locs ls hP hD hS h => lv_if_gt C.1.1 C.1.2.1 hdg ht (fun h2 => kt h2 H locs ls hP hD hS h) (fun h2 => kf h2 H locs ls hP hD hS h)
theorem v_icmp_gt (C : CX p m c cc nL s args Ts own A H0) {x y : Int32} {off : Int} (tgt : Nat) (hdg : decode cc pc = .ok (.if_icmp .gt off, 3)) (ht : (pc : Int) + off = (tgt : Int)) (hp : pc + 3 = pc') (kt : y < x → VV p l e R s m args below meth c cells slots Q w D A H0 nL σ tgt lv st) (kf : ¬ y < x → VV p l e R s m args below meth c cells slots Q w D A H0 nL σ pc' lv st) : VV p l e R s m args below meth c cells slots Q w D A H0 nL σ pc lv (.int y :: .int x :: st) := by
  subst hp
  exact fun H locs ls hP hD hS h => lv_icmp_gt C.1.1 C.1.2.1 hdg ht (fun h2 => kt h2 H locs ls hP hD hS h) (fun h2 => kf h2 H locs ls hP hD hS h)
theorem v_if_le (C : CX p m c cc nL s args Ts own A H0) {x : Int32} {off : Int} (tgt : Nat) (hdg : decode cc pc = .ok (.ifCond .le off, 3)) (ht : (pc : Int) + off = (tgt : Int)) (hp : pc + 3 = pc') (kt : x ≤ 0 → VV p l e R s m args below meth c cells slots Q w D A H0 nL σ tgt lv st) (kf : ¬ x ≤ 0 → VV p l e R s m args below meth c cells slots Q w D A H0 nL σ pc' lv st) : VV p l e R s m args below meth c cells slots Q w D A H0 nL σ pc lv (.int x :: st) := by
  subst hp
  exact fun H locs ls hP hD hS h => lv_if_le C.1.1 C.1.2.1 hdg ht (fun h2 => kt h2 H locs ls hP hD hS h) (fun h2 => kf h2 H locs ls hP hD hS h)
theorem v_icmp_le (C : CX p m c cc nL s args Ts own A H0) {x y : Int32} {off : Int} (tgt : Nat) (hdg : decode cc pc = .ok (.if_icmp .le off, 3)) (ht : (pc : Int) + off = (tgt : Int)) (hp : pc + 3 = pc') (kt : x ≤ y → VV p l e R s m args below meth c cells slots Q w D A H0 nL σ tgt lv st) (kf : ¬ x ≤ y → VV p l e R s m args below meth c cells slots Q w D A H0 nL σ pc' lv st) : VV p l e R s m args below meth c cells slots Q w D A H0 nL σ pc lv (.int y :: .int x :: st) := by
  subst hp
  exact fun H locs ls hP hD hS h => lv_icmp_le C.1.1 C.1.2.1 hdg ht (fun h2 => kt h2 H locs ls hP hD hS h) (fun h2 => kf h2 H locs ls hP hD hS h)
theorem v_goto (C : CX p m c cc nL s args Ts own A H0) {off : Int} (tgt : Nat) (hdg : decode cc pc = .ok (.goto off, 3)) (ht : (pc : Int) + off = (tgt : Int)) (kk : VV p l e R s m args below meth c cells slots Q w D A H0 nL σ tgt lv st) : VV p l e R s m args below meth c cells slots Q w D A H0 nL σ pc lv st := fun H locs ls hP hD hS h => lv_goto C.1.1 C.1.2.1 hdg ht (kk H locs ls hP hD hS h)
theorem v_tableOut (C : CX p m c cc nL s args Ts own A H0) {dflt lo hi : Int} {offs : Array Int} {len : Nat} {x : Int32} (tgt : Nat) (hdg : decode cc pc = .ok (.tableswitch dflt lo hi offs, len)) (h1 : x.toInt < lo ∨ hi < x.toInt) (ht : (pc : Int) + dflt = (tgt : Int)) (kk : VV p l e R s m args below meth c cells slots Q w D A H0 nL σ tgt lv st) : VV p l e R s m args below meth c cells slots Q w D A H0 nL σ pc lv (.int x :: st) := fun H locs ls hP hD hS h => lv_tableOut C.1.1 C.1.2.1 hdg h1 ht (kk H locs ls hP hD hS h)
theorem v_tableIn (C : CX p m c cc nL s args Ts own A H0) {dflt lo hi : Int} {offs : Array Int} {len : Nat} {x : Int32} {off : Int} (tgt : Nat) (hdg : decode cc pc = .ok (.tableswitch dflt lo hi offs, len)) (h1 : ¬ x.toInt < lo) (h2 : ¬ hi < x.toInt) (ho : offs[(x.toInt - lo).toNat]? = some off) (ht : (pc : Int) + off = (tgt : Int)) (kk : VV p l e R s m args below meth c cells slots Q w D A H0 nL σ tgt lv st) : VV p l e R s m args below meth c cells slots Q w D A H0 nL σ pc lv (.int x :: st) := fun H locs ls hP hD hS h => lv_tableIn C.1.1 C.1.2.1 hdg h1 h2 ho ht (kk H locs ls hP hD hS h)
theorem v_lookup (C : CX p m c cc nL s args Ts own A H0) {dflt : Int} {ps : Array (Int × Int)} {len : Nat} {x : Int32} {off : Int} (tgt : Nat) (hdg : decode cc pc = .ok (.lookupswitch dflt ps, len)) (hp : (ps.toList.zip (ps.toList.drop 1)).all (fun (a, next) => a.1 < next.1) = true) (ho : Op.lookupswitch.offset ps.toList dflt x.toInt = off) (ht : (pc : Int) + off = (tgt : Int)) (kk : VV p l e R s m args below meth c cells slots Q w D A H0 nL σ tgt lv st) : VV p l e R s m args below meth c cells slots Q w D A H0 nL σ pc lv (.int x :: st) := fun H locs ls hP hD hS h => lv_lookup C.1.1 C.1.2.1 hdg hp ho ht (kk H locs ls hP hD hS h)
theorem v_lv (ks : List Nat) (hl : lv_pick lv ks = lv') (kk : VV p l e R s m args below meth c cells slots Q w D A H0 nL σ pc lv' st) : VV p l e R s m args below meth c cells slots Q w D A H0 nL σ pc lv st := fun H locs ls hP hD hS h => kk H locs ls hP hD hS (lv_sub h ks hl)
theorem v_top {x : Int32} (y : Int32) (hy : x = y) (kk : VV p l e R s m args below meth c cells slots Q w D A H0 nL σ pc lv (.int y :: st)) : VV p l e R s m args below meth c cells slots Q w D A H0 nL σ pc lv (.int x :: st) := by
  subst hy
  exact kk
theorem v_top2 {x z : Int32} (y : Int32) (hy : x = y) (kk : VV p l e R s m args below meth c cells slots Q w D A H0 nL σ pc lv (.int z :: .int y :: st)) : VV p l e R s m args below meth c cells slots Q w D A H0 nL σ pc lv (.int z :: .int x :: st) := by
  subst hy
  exact kk
theorem v_topN {x : Int32} (kk : ∀ y : Int32, y = x → VV p l e R s m args below meth c cells slots Q w D A H0 nL σ pc lv (.int y :: st)) : VV p l e R s m args below meth c cells slots Q w D A H0 nL σ pc lv (.int x :: st) := kk x rfl
theorem v_st {σ1 : τ} (σ2 : τ) (hw : σ1 = σ2) (kk : VV p l e R s m args below meth c cells slots Q w D A H0 nL σ2 pc lv st) : VV p l e R s m args below meth c cells slots Q w D A H0 nL σ1 pc lv st := by
  subst hw
  exact kk
theorem v_w {σ1 : τ} (σ2 : τ) (hw : w σ1 = w σ2) (kk : VV p l e R s m args below meth c cells slots Q w D A H0 nL σ2 pc lv st) : VV p l e R s m args below meth c cells slots Q w D A H0 nL σ1 pc lv st := fun H locs ls hP hD hS h => kk H locs ls (hw ▸ hP) (hw ▸ hD) hS h
theorem v_pc {pc1 : Nat} (pc2 : Nat) (hw : pc1 = pc2) (kk : VV p l e R s m args below meth c cells slots Q w D A H0 nL σ pc2 lv st) : VV p l e R s m args below meth c cells slots Q w D A H0 nL σ pc1 lv st := by
  subst hw
  exact kk
theorem v_get (C : CX p m c cc nL s args Ts own A H0) (K : va_K D vwCl tys s) {Cn : String} {T : u_T} {N ci index a : Nat} {fs : List Value} {v : Value} (hin : ∀ x ∈ u_ws Cn T N, x ∈ Ts) (q0 : Nat) (he : (w σ)[q0]? = some (a, .inr (ci, fs))) (hc : vwCl[ci]? = some (Cn, T, N)) (k : Nat) (hk : k < N) (hlink : Cond.fieldLink own index (T k).1 (T k).2.1 (T k).2.2.1 ∈ Ts) (hv : fs[k]? = some v) (hdg : decode cc pc = .ok (.getfield index, 3)) (hp : pc + 3 = pc') (kk : VV p l e R s m args below meth c cells slots Q w D A H0 nL σ pc' lv (v :: st)) : VV p l e R s m args below meth c cells slots Q w D A H0 nL σ pc lv (.ref a :: st) := by
  subst hp
  exact fun H locs ls hP hD hS h => va_get C.1.1 C.1.2.1 C.1.2.2.2.2 hin C.1.2.2.2.1 K hP q0 he hc k hk (C.1.2.2.2.2 _ hlink) (fun x h9 => h9) hv hdg (kk H locs ls hP hD hS h)
theorem v_put (C : CX p m c cc nL s args Ts own A H0) (K : va_K D vwCl tys s) {Cn : String} {T : u_T} {N ci index a : Nat} {fs : List Value} {v : Value} {ty : FieldType} {ty0 : Nat → FieldType} (σ2 : τ) (hin : ∀ x ∈ u_ws Cn T N, x ∈ Ts) (hty : ∀ k, k < N → parseFieldDescriptor (T k).2.2.1 = some (ty0 k)) (hnm : ∀ a, a < N → ∀ b, b < N → a ≠ b → (T a).2.1 ≠ (T b).2.1) (q0 : Nat) (he : (w σ)[q0]? = some (a, .inr (ci, fs))) (hc : vwCl[ci]? = some (Cn, T, N)) (k : Nat) (hk : k < N) (hlink : Cond.fieldLink own index (T k).1 (T k).2.1 (T k).2.2.1 ∈ Ts) (hfin : (T k).2.2.2 = false) (hd : parseFieldDescriptor (T k).2.2.1 = some ty) (hn : narrow ty v = v) (hfit : fits ty v = true) (hl : k < fs.length) (hw : (w σ).set q0 (a, .inr (ci, fs.set k v)) = w σ2) (hdg : decode cc pc = .ok (.putfield index, 3)) (hp : pc + 3 = pc') (kk : VV p l e R s m args below meth c cells slots Q w D A H0 nL σ2 pc' lv st) : VV p l e R s m args below meth c cells slots Q w D A H0 nL σ pc lv (v :: .ref a :: st) := by
  subst hp
  exact fun H locs ls hP hD hS h => va_put C.1.1 C.1.2.1 C.1.2.2.2.2 hin ty0 hty hnm C.1.2.2.2.1 K hP hD hS q0 he hc k hk (C.1.2.2.2.2 _ hlink) (fun x h9 => h9) hfin hd hn hfit hl hdg (fun H1 locs1 hP1 hD1 hS1 => kk H1 locs1 ls (by rw [← hw]; exact hP1) (by rw [← hw]; exact hD1) hS1 h)
theorem v_iald (C : CX p m c cc nL s args Ts own A H0) (K : va_K D vwCl tys s) {a n : Nat} {f : Nat → Int32} {cA : ClassId} (q0 t0 : Nat) (ha : (w σ)[q0]? = some (a, .inl (cA, n, .inl f))) (ht : tys[t0]? = some (cA, .int)) {i : Int32} (j : Nat) (hi : i = nI j) (hj : j < n) (hn : n ≤ 100000) (hdg : decode cc pc = .ok (.iaload, 1)) (hp : pc + 1 = pc') (kk : VV p l e R s m args below meth c cells slots Q w D A H0 nL σ pc' lv (.int (f j) :: st)) : VV p l e R s m args below meth c cells slots Q w D A H0 nL σ pc lv (.int i :: .ref a :: st) := by
  subst hp
  obtain ⟨g1, g2⟩ := i9_in hi hj hn
  exact fun H locs ls hP hD hS h => va_iald C.1.1 C.1.2.1 K hP q0 t0 ha ht g1 hdg (by rw [g2]; exact kk H locs ls hP hD hS h)
theorem v_cald (C : CX p m c cc nL s args Ts own A H0) (K : va_K D vwCl tys s) {a n : Nat} {f : Nat → Int32} {cA : ClassId} (q0 t0 : Nat) (ha : (w σ)[q0]? = some (a, .inl (cA, n, .inl f))) (ht : tys[t0]? = some (cA, .char)) {i : Int32} (j : Nat) (hi : i = nI j) (hj : j < n) (hn : n ≤ 100000) (hdg : decode cc pc = .ok (.caload, 1)) (hp : pc + 1 = pc') (kk : VV p l e R s m args below meth c cells slots Q w D A H0 nL σ pc' lv (.int (f j) :: st)) : VV p l e R s m args below meth c cells slots Q w D A H0 nL σ pc lv (.int i :: .ref a :: st) := by
  subst hp
  obtain ⟨g1, g2⟩ := i9_in hi hj hn
  exact fun H locs ls hP hD hS h => va_cald C.1.1 C.1.2.1 K hP q0 t0 ha ht g1 hdg (by rw [g2]; exact kk H locs ls hP hD hS h)
theorem v_zald (C : CX p m c cc nL s args Ts own A H0) (K : va_K D vwCl tys s) {a n : Nat} {f : Nat → Int32} {cA : ClassId} (q0 t0 : Nat) (ha : (w σ)[q0]? = some (a, .inl (cA, n, .inl f))) (ht : tys[t0]? = some (cA, .boolean)) {i : Int32} (j : Nat) (hi : i = nI j) (hj : j < n) (hn : n ≤ 100000) (hdg : decode cc pc = .ok (.baload, 1)) (hp : pc + 1 = pc') (kk : VV p l e R s m args below meth c cells slots Q w D A H0 nL σ pc' lv (.int (f j) :: st)) : VV p l e R s m args below meth c cells slots Q w D A H0 nL σ pc lv (.int i :: .ref a :: st) := by
  subst hp
  obtain ⟨g1, g2⟩ := i9_in hi hj hn
  exact fun H locs ls hP hD hS h => va_zald C.1.1 C.1.2.1 K hP q0 t0 ha ht g1 hdg (by rw [g2]; exact kk H locs ls hP hD hS h)
theorem v_iast (C : CX p m c cc nL s args Ts own A H0) (K : va_K D vwCl tys s) {a n : Nat} {f : Nat → Int32} {cA : ClassId} (σ2 : τ) (q0 t0 : Nat) (ha : (w σ)[q0]? = some (a, .inl (cA, n, .inl f))) (ht : tys[t0]? = some (cA, .int)) {i x : Int32} (j : Nat) (hi : i = nI j) (hj : j < n) (hn : n ≤ 100000) (hw : (w σ).set q0 (a, .inl (cA, n, .inl (upd f j x))) = w σ2) (hdg : decode cc pc = .ok (.iastore, 1)) (hp : pc + 1 = pc') (kk : VV p l e R s m args below meth c cells slots Q w D A H0 nL σ2 pc' lv st) : VV p l e R s m args below meth c cells slots Q w D A H0 nL σ pc lv (.int x :: .int i :: .ref a :: st) := by
  subst hp
  obtain ⟨g1, g2⟩ := i9_in hi hj hn
  exact fun H locs ls hP hD hS h => va_iast C.1.1 C.1.2.1 K hP hD hS q0 t0 ha ht g1 hdg (fun H1 locs1 hP1 hD1 hS1 => kk H1 locs1 ls (by rw [← hw, ← g2]; exact hP1) (by rw [← hw, ← g2]; exact hD1) hS1 h)
theorem v_cast (C : CX p m c cc nL s args Ts own A H0) (K : va_K D vwCl tys s) {a n : Nat} {f : Nat → Int32} {cA : ClassId} (σ2 : τ) (q0 t0 : Nat) (ha : (w σ)[q0]? = some (a, .inl (cA, n, .inl f))) (ht : tys[t0]? = some (cA, .char)) {i x : Int32} (j : Nat) (hi : i = nI j) (hj : j < n) (hn : n ≤ 100000) (hw : (w σ).set q0 (a, .inl (cA, n, .inl (upd f j (vp_nar .char x)))) = w σ2) (hdg : decode cc pc = .ok (.castore, 1)) (hp : pc + 1 = pc') (kk : VV p l e R s m args below meth c cells slots Q w D A H0 nL σ2 pc' lv st) : VV p l e R s m args below meth c cells slots Q w D A H0 nL σ pc lv (.int x :: .int i :: .ref a :: st) := by
  subst hp
  obtain ⟨g1, g2⟩ := i9_in hi hj hn
  exact fun H locs ls hP hD hS h => va_cast C.1.1 C.1.2.1 K hP hD hS q0 t0 ha ht g1 hdg (fun H1 locs1 hP1 hD1 hS1 => kk H1 locs1 ls (by rw [← hw, ← g2]; exact hP1) (by rw [← hw, ← g2]; exact hD1) hS1 h)
theorem v_zast (C : CX p m c cc nL s args Ts own A H0) (K : va_K D vwCl tys s) {a n : Nat} {f : Nat → Int32} {cA : ClassId} (σ2 : τ) (q0 t0 : Nat) (ha : (w σ)[q0]? = some (a, .inl (cA, n, .inl f))) (ht : tys[t0]? = some (cA, .boolean)) {i x : Int32} (j : Nat) (hi : i = nI j) (hj : j < n) (hn : n ≤ 100000) (hw : (w σ).set q0 (a, .inl (cA, n, .inl (upd f j (vp_nar .boolean x)))) = w σ2) (hdg : decode cc pc = .ok (.bastore, 1)) (hp : pc + 1 = pc') (kk : VV p l e R s m args below meth c cells slots Q w D A H0 nL σ2 pc' lv st) : VV p l e R s m args below meth c cells slots Q w D A H0 nL σ pc lv (.int x :: .int i :: .ref a :: st) := by
  subst hp
  obtain ⟨g1, g2⟩ := i9_in hi hj hn
  exact fun H locs ls hP hD hS h => va_zast C.1.1 C.1.2.1 K hP hD hS q0 t0 ha ht g1 hdg (fun H1 locs1 hP1 hD1 hS1 => kk H1 locs1 ls (by rw [← hw, ← g2]; exact hP1) (by rw [← hw, ← g2]; exact hD1) hS1 h)
theorem v_aald (C : CX p m c cc nL s args Ts own A H0) (K : va_K D vwCl tys s) {a n b : Nat} {f : Nat → Option Nat} {cA : ClassId} {ty : FieldType} (hty : ty.isReference = true) (q0 t0 : Nat) (ha : (w σ)[q0]? = some (a, .inl (cA, n, .inr (.inr (.inr (.inr f)))))) (ht : tys[t0]? = some (cA, ty)) {i : Int32} (j : Nat) (hi : i = nI j) (hj : j < n) (hn : n ≤ 100000) (hf : f j = some b) (hdg : decode cc pc = .ok (.aaload, 1)) (hp : pc + 1 = pc') (kk : VV p l e R s m args below meth c cells slots Q w D A H0 nL σ pc' lv (.ref b :: st)) : VV p l e R s m args below meth c cells slots Q w D A H0 nL σ pc lv (.int i :: .ref a :: st) := by
  subst hp
  obtain ⟨g1, g2⟩ := i9_in hi hj hn
  intro H locs ls hP hD hS h
  refine W.aald (v := .ref b) (ty := ty) C.1.1 C.1.2.1 (hP q0 _ ha) ((K.2 t0 _ ht).1 n (fun j => va_rf (f j))) hty (fun q => by cases q) (by show ¬ (i < 0 ∨ (arrV _ _ _).slots.size ≤ _); rw [arrV_size]; exact g1) ?_ rfl rfl hdg (kk H locs ls hP hD hS h)
  show (arrV _ _ _).slots[_]? = _
  rw [g2, arrV_read _ _ hj, hf]
  rfl
theorem v_mmax (C : CX p m c cc nL s args Ts own A H0) {index : Nat} {x y : Int32} (h1 : Cond.methodLink own index Lib.Math.max.name ∈ Ts) (h2 : Cond.static Lib.Math.max.name ∈ Ts) (h3 : Cond.initialized "java/lang/Math" ∈ Ts) (h4 : Cond.code Lib.Math.max.name Lib.Math.max.code 2 (some .int) ∈ Ts) (hframes : 1 ≤ R.frames) (hlocals : (st.map fun v => v.category).sum + 13 ≤ R.locals) (hcs : cells ≤ R.cells ∧ slots ≤ R.slots) (hdg : decode cc pc = .ok (.invokestatic index, 3)) (hp : pc + 3 = pc') (kk : VV p l e R s m args below meth c cells slots Q w D A H0 nL σ pc' lv (.int (if x < y then y else x) :: st)) : VV p l e R s m args below meth c cells slots Q w D A H0 nL σ pc lv (.int y :: .int x :: st) := by
  subst hp
  exact fun H locs ls hP hD hS h => va_mmax C.1.1 C.1.2.1 (C.1.2.2.1.trans h.1.symm) C.1.2.2.2.1 (C.1.2.2.2.2 _ h1) (C.1.2.2.2.2 _ h2) (C.1.2.2.2.2 _ h3) (C.1.2.2.2.2 _ h4) hframes hlocals hcs.1 hcs.2 hdg (kk H locs ls hP hD hS h)
theorem v_mmin (C : CX p m c cc nL s args Ts own A H0) {index : Nat} {x y : Int32} (h1 : Cond.methodLink own index Lib.Math.min.name ∈ Ts) (h2 : Cond.static Lib.Math.min.name ∈ Ts) (h3 : Cond.initialized "java/lang/Math" ∈ Ts) (h4 : Cond.code Lib.Math.min.name Lib.Math.min.code 2 (some .int) ∈ Ts) (hframes : 1 ≤ R.frames) (hlocals : (st.map fun v => v.category).sum + 13 ≤ R.locals) (hcs : cells ≤ R.cells ∧ slots ≤ R.slots) (hdg : decode cc pc = .ok (.invokestatic index, 3)) (hp : pc + 3 = pc') (kk : VV p l e R s m args below meth c cells slots Q w D A H0 nL σ pc' lv (.int (if y < x then y else x) :: st)) : VV p l e R s m args below meth c cells slots Q w D A H0 nL σ pc lv (.int y :: .int x :: st) := by
  subst hp
  exact fun H locs ls hP hD hS h => va_mmin C.1.1 C.1.2.1 (C.1.2.2.1.trans h.1.symm) C.1.2.2.2.1 (C.1.2.2.2.2 _ h1) (C.1.2.2.2.2 _ h2) (C.1.2.2.2.2 _ h3) (C.1.2.2.2.2 _ h4) hframes hlocals hcs.1 hcs.2 hdg (kk H locs ls hP hD hS h)
theorem v_copyi (C : CX p m c cc nL s args Ts own A H0) (K : va_K D vwCl tys s) {index : Nat} (h1 : Cond.methodLink own index arraycopyName ∈ Ts) (h2 : Cond.native arraycopyName ∈ Ts) (h3 : Cond.static arraycopyName ∈ Ts) (h4 : Cond.initialized "java/lang/System" ∈ Ts) (σ2 : τ) (q0 q1 t0 t1 : Nat) {a a0 : Nat} {c0 c1 : ClassId} {n0 n1 : Nat} {f g : Nat → Int32} (ha0 : (w σ)[q0]? = some (a0, .inl (c0, n0, .inl f))) (ha1 : (w σ)[q1]? = some (a, .inl (c1, n1, .inl g))) (ht0 : tys[t0]? = some (c0, .int)) (ht1 : tys[t1]? = some (c1, .int)) {sp dp n : Int32} (sj dj nj : Nat) (hs : sp = nI sj) (hd : dp = nI dj) (hn : n = nI nj) (h4' : sj + nj ≤ n0) (h5 : dj + nj ≤ n1) (hb : n0 ≤ 100000 ∧ n1 ≤ 100000) (hframes : 1 ≤ R.frames) (hlocals : (st.map fun v => v.category).sum + (nativeFrameWords "java/lang/System" "arraycopy" 5 + 11) ≤ R.locals) (hw : (w σ).set q1 (a, .inl (c1, n1, .inl (va_cpy f g sj dj nj))) = w σ2) (hdg : decode cc pc = .ok (.invokestatic index, 3)) (hp : pc + 3 = pc') (kk : VV p l e R s m args below meth c cells slots Q w D A H0 nL σ2 pc' lv st) : VV p l e R s m args below meth c cells slots Q w D A H0 nL σ pc lv (.int n :: .int dp :: .ref a :: .int sp :: .ref a0 :: st) := by
  subst hp
  subst hs
  subst hd
  subst hn
  have e1 : (nI sj).toNatClampNeg = sj := nI_clamp (by omega)
  have e2 : (nI dj).toNatClampNeg = dj := nI_clamp (by omega)
  have e3 : (nI nj).toNatClampNeg = nj := nI_clamp (by omega)
  intro H locs ls hP hD hS h
  exact va_copyi C.1.1 C.1.2.1 (C.1.2.2.1.trans h.1.symm) C.1.2.2.2.1 (C.1.2.2.2.2 _ h1) (C.1.2.2.2.2 _ h2) (C.1.2.2.2.2 _ h3) (C.1.2.2.2.2 _ h4) K hP hD hS q0 q1 t0 t1 ha0 ha1 ht0 ht1 rfl (nI_pos (by omega)) (nI_pos (by omega)) (nI_pos (by omega)) (by rw [e1, e3]; exact h4') (by rw [e2, e3]; exact h5) (fun i _ => rfl) hframes hlocals hdg (fun H1 locs1 hP1 hD1 hS1 => kk H1 locs1 ls (by rw [← hw, ← e1, ← e2, ← e3]; simpa only [e1, e2, e3] using hP1) (by rw [← hw, ← e1, ← e2, ← e3]; simpa only [e1, e2, e3] using hD1) hS1 h)
theorem v9_F (C : CX p m c cc nL s args Ts own A H0) {H : Heap} {locs : List Loc} (hD : va_D A (w σ)) (hS : va_S A H0 H locs) : ∀ q, va_A (w σ) H.size q → A q := by
  intro q hq
  rcases hq with ⟨k, e, hk⟩ | hle
  · exact hD.2 k (q, e) hk
  · exact C.2 q (Nat.le_trans hS.1 hle)
theorem v_callVi (C : CX p m c cc nL s args Ts own A H0) (K : va_K D vwCl tys s) {y : MethodName} {ws ws' : List Cond} {rm : Room} {bytes : ByteArray} {maxL n index : Nat} {ret : Option FieldType} {As st0 : List Value} {C' : String} {b ci : Nat} {fs : List Value} {q : vw_C} {post : Int32 → τ → Prop} (hM : CMi l w D tys y ws rm (.ref b :: As) σ post) (hG : GoodIn Ts (wsV own index C' y ws)) (hw : ws = Cond.code y bytes maxL ret :: ws') (hd : y.cls = C' ∧ y.cls ≠ "java/lang/invoke/MethodHandle" ∧ y.cls ≠ "java/lang/invoke/VarHandle" ∧ (parseMethodDescriptor y.desc).map (fun d => d.parameters.length) = some n) (hrm : rm.cells = 0 ∧ rm.slots = 0) (hR : rm.frames + 1 ≤ R.frames ∧ 8 + (maxL + 11) + rm.locals ≤ R.locals) (q0 : Nat) (he : (w σ)[q0]? = some (b, .inr (ci, fs))) (hc : vwCl[ci]? = some q) (hq : q.1 = C') (hst : st0 = As.reverse ++ .ref b :: rest) (hn : As.length = n) (hcat : (rest.map fun v => v.category).sum ≤ 8) (hcs : cells ≤ R.cells ∧ slots ≤ R.slots) (hdg : decode cc pc = .ok (.invokevirtual index, 3)) (hp : pc + 3 = pc') (kk : ∀ (r : Int32) (u : τ), post r u → VV p l e R s m args below meth c cells slots Q w D A H0 nL u pc' lv (.int r :: rest)) : VV p l e R s m args below meth c cells slots Q w D A H0 nL σ pc lv st0 := by
  subst hst
  subst hp
  subst hq
  intro H locs ls hP hD hS h
  have hF := v9_F C hD hS
  refine va_calli (va_runV (As := As) (rest := rest) C.1 (hM H.size) (cwV n C.1.2.2.2.2 hG hw hrm.1 hrm.2 hd hR) ⟨v9_blind, va_recv K hP hc he, fun U hU hW => ⟨rfl, by rw [hU], by rw [hU]; exact hP, va_K.moved hW.alike K, hD.weaken (fun _ _ _ _ => trivial)⟩⟩ rfl hn h.1 rfl (lv_room hcat) hdg hcs) hS (fun q _ h => hF q h) hF (fun r u t H1 locs1 ht hvm hq2 hB hz hk hS1 => ?_)
  obtain ⟨hP1, hK1, hD1⟩ := hB
  rw [ht] at hP1
  exact kk r u hq2 H1 locs1 ls hP1 ⟨hD1.1, fun k q hk => hF q.1 (hD1.2 k q hk)⟩ hS1 h
theorem v_callSi (C : CX p m c cc nL s args Ts own A H0) (K : va_K D vwCl tys s) {y : MethodName} {ws ws' : List Cond} {rm : Room} {bytes : ByteArray} {maxL n index : Nat} {ret : Option FieldType} {As st0 : List Value} {post : Int32 → τ → Prop} (hM : CMi l w D tys y ws rm As σ post) (hG : GoodIn Ts (va_wsS own index y ws)) (hw : ws = Cond.code y bytes maxL ret :: ws') (hd : y.cls ≠ "java/lang/invoke/MethodHandle" ∧ y.cls ≠ "java/lang/invoke/VarHandle" ∧ (parseMethodDescriptor y.desc).map (fun d => d.parameters.length) = some n) (hrm : rm.cells = 0 ∧ rm.slots = 0) (hR : rm.frames + 1 ≤ R.frames ∧ 8 + (maxL + 11) + rm.locals ≤ R.locals) (hst : st0 = As.reverse ++ rest) (hn : As.length = n) (hcat : (rest.map fun v => v.category).sum ≤ 8) (hcs : cells ≤ R.cells ∧ slots ≤ R.slots) (hdg : decode cc pc = .ok (.invokestatic index, 3)) (hp : pc + 3 = pc') (kk : ∀ (r : Int32) (u : τ), post r u → VV p l e R s m args below meth c cells slots Q w D A H0 nL u pc' lv (.int r :: rest)) : VV p l e R s m args below meth c cells slots Q w D A H0 nL σ pc lv st0 := by
  subst hst
  subst hp
  intro H locs ls hP hD hS h
  have hF := v9_F C hD hS
  refine va_calli (va_runS (As := As) (rest := rest) C.1 (hM H.size) (va_cwS n C.1.2.2.2.2 hG hw hrm.1 hrm.2 hd hR) ⟨v9_blind, fun U hU hW => ⟨rfl, by rw [hU], by rw [hU]; exact hP, va_K.moved hW.alike K, hD.weaken (fun _ _ _ _ => trivial)⟩⟩ rfl hn h.1 rfl (lv_room hcat) hdg hcs) hS (fun q _ h => hF q h) hF (fun r u t H1 locs1 ht hvm hq2 hB hz hk hS1 => ?_)
  obtain ⟨hP1, hK1, hD1⟩ := hB
  rw [ht] at hP1
  exact kk r u hq2 H1 locs1 ls hP1 ⟨hD1.1, fun k q hk => hF q.1 (hD1.2 k q hk)⟩ hS1 h
theorem v_callVv (C : CX p m c cc nL s args Ts own A H0) (K : va_K D vwCl tys s) {y : MethodName} {ws ws' : List Cond} {rm : Room} {bytes : ByteArray} {maxL n index : Nat} {ret : Option FieldType} {As st0 : List Value} {C' : String} {b ci : Nat} {fs : List Value} {q : vw_C} {post : τ → Prop} (hM : CMv l w D tys y ws rm (.ref b :: As) σ post) (hG : GoodIn Ts (wsV own index C' y ws)) (hw : ws = Cond.code y bytes maxL ret :: ws') (hd : y.cls = C' ∧ y.cls ≠ "java/lang/invoke/MethodHandle" ∧ y.cls ≠ "java/lang/invoke/VarHandle" ∧ (parseMethodDescriptor y.desc).map (fun d => d.parameters.length) = some n) (hrm : rm.cells = 0 ∧ rm.slots = 0) (hR : rm.frames + 1 ≤ R.frames ∧ 8 + (maxL + 11) + rm.locals ≤ R.locals) (q0 : Nat) (he : (w σ)[q0]? = some (b, .inr (ci, fs))) (hc : vwCl[ci]? = some q) (hq : q.1 = C') (hst : st0 = As.reverse ++ .ref b :: rest) (hn : As.length = n) (hcat : (rest.map fun v => v.category).sum ≤ 8) (hcs : cells ≤ R.cells ∧ slots ≤ R.slots) (hdg : decode cc pc = .ok (.invokevirtual index, 3)) (hp : pc + 3 = pc') (kk : ∀ (u : τ), post u → VV p l e R s m args below meth c cells slots Q w D A H0 nL u pc' lv rest) : VV p l e R s m args below meth c cells slots Q w D A H0 nL σ pc lv st0 := by
  subst hst
  subst hp
  subst hq
  intro H locs ls hP hD hS h
  have hF := v9_F C hD hS
  refine va_callv (va_runV (As := As) (rest := rest) C.1 (hM H.size) (cwV n C.1.2.2.2.2 hG hw hrm.1 hrm.2 hd hR) ⟨v9_blind, va_recv K hP hc he, fun U hU hW => ⟨rfl, by rw [hU], by rw [hU]; exact hP, va_K.moved hW.alike K, hD.weaken (fun _ _ _ _ => trivial)⟩⟩ rfl hn h.1 rfl (lv_room hcat) hdg hcs) hS (fun q _ h => hF q h) hF (fun u t H1 locs1 ht hvm hq2 hB hz hk hS1 => ?_)
  obtain ⟨hP1, hK1, hD1⟩ := hB
  rw [ht] at hP1
  exact kk u hq2 H1 locs1 ls hP1 ⟨hD1.1, fun k q hk => hF q.1 (hD1.2 k q hk)⟩ hS1 h
theorem v_callSv (C : CX p m c cc nL s args Ts own A H0) (K : va_K D vwCl tys s) {y : MethodName} {ws ws' : List Cond} {rm : Room} {bytes : ByteArray} {maxL n index : Nat} {ret : Option FieldType} {As st0 : List Value} {post : τ → Prop} (hM : CMv l w D tys y ws rm As σ post) (hG : GoodIn Ts (va_wsS own index y ws)) (hw : ws = Cond.code y bytes maxL ret :: ws') (hd : y.cls ≠ "java/lang/invoke/MethodHandle" ∧ y.cls ≠ "java/lang/invoke/VarHandle" ∧ (parseMethodDescriptor y.desc).map (fun d => d.parameters.length) = some n) (hrm : rm.cells = 0 ∧ rm.slots = 0) (hR : rm.frames + 1 ≤ R.frames ∧ 8 + (maxL + 11) + rm.locals ≤ R.locals) (hst : st0 = As.reverse ++ rest) (hn : As.length = n) (hcat : (rest.map fun v => v.category).sum ≤ 8) (hcs : cells ≤ R.cells ∧ slots ≤ R.slots) (hdg : decode cc pc = .ok (.invokestatic index, 3)) (hp : pc + 3 = pc') (kk : ∀ (u : τ), post u → VV p l e R s m args below meth c cells slots Q w D A H0 nL u pc' lv rest) : VV p l e R s m args below meth c cells slots Q w D A H0 nL σ pc lv st0 := by
  subst hst
  subst hp
  intro H locs ls hP hD hS h
  have hF := v9_F C hD hS
  refine va_callv (va_runS (As := As) (rest := rest) C.1 (hM H.size) (va_cwS n C.1.2.2.2.2 hG hw hrm.1 hrm.2 hd hR) ⟨v9_blind, fun U hU hW => ⟨rfl, by rw [hU], by rw [hU]; exact hP, va_K.moved hW.alike K, hD.weaken (fun _ _ _ _ => trivial)⟩⟩ rfl hn h.1 rfl (lv_room hcat) hdg hcs) hS (fun q _ h => hF q h) hF (fun u t H1 locs1 ht hvm hq2 hB hz hk hS1 => ?_)
  obtain ⟨hP1, hK1, hD1⟩ := hB
  rw [ht] at hP1
  exact kk u hq2 H1 locs1 ls hP1 ⟨hD1.1, fun k q hk => hF q.1 (hD1.2 k q hk)⟩ hS1 h
theorem v_callSp (C : CX p m c cc nL s args Ts own A H0) {y : MethodName} {ws ws' : List Cond} {rm : Room} {bytes : ByteArray} {maxL n index : Nat} {ret : Option FieldType} {As st0 : List Value} {post : Int32 → Prop} (hM : CPi l y ws rm As post) (hG : GoodIn Ts (va_wsS own index y ws)) (hw : ws = Cond.code y bytes maxL ret :: ws') (hd : y.cls ≠ "java/lang/invoke/MethodHandle" ∧ y.cls ≠ "java/lang/invoke/VarHandle" ∧ (parseMethodDescriptor y.desc).map (fun d => d.parameters.length) = some n) (hrm : rm.cells = 0 ∧ rm.slots = 0) (hR : rm.frames + 1 ≤ R.frames ∧ 8 + (maxL + 11) + rm.locals ≤ R.locals) (hst : st0 = As.reverse ++ rest) (hn : As.length = n) (hcat : (rest.map fun v => v.category).sum ≤ 8) (hcs : cells ≤ R.cells ∧ slots ≤ R.slots) (hdg : decode cc pc = .ok (.invokestatic index, 3)) (hp : pc + 3 = pc') (kk : ∀ (r : Int32), post r → VV p l e R s m args below meth c cells slots Q w D A H0 nL σ pc' lv (.int r :: rest)) : VV p l e R s m args below meth c cells slots Q w D A H0 nL σ pc lv st0 := by
  subst hst
  subst hp
  intro H locs ls hP hD hS h
  have hF : ∀ q, va_A [] H.size q → A q := by
    intro q hq
    rcases hq with ⟨k, e, hk⟩ | hle
    · cases hk
    · exact C.2 q (Nat.le_trans hS.1 hle)
  refine va_calli (va_runS (As := As) (rest := rest) C.1 (hM H.size) (va_cwS n C.1.2.2.2.2 hG hw hrm.1 hrm.2 hd hR) ⟨v9_blindP, fun U hU hW => ⟨rfl, by show U.heap.size = H.size; rw [hU]⟩⟩ rfl hn h.1 rfl (lv_room hcat) hdg hcs) hS (fun q _ h => hF q h) hF (fun r u t H1 locs1 ht hvm hq2 hB hz hk hS1 => ?_)
  refine kk r hq2 H1 locs1 ls (hP.kept (fun k q hq => hk q.1 ((hP k q hq).lt) ?_)) hD hS1 h
  rintro (⟨k2, e, h2⟩ | hle)
  · cases h2
  · have := (hP k q hq).lt
    omega
theorem v_callVid (C : CX p m c cc nL s args Ts own A H0) (K : va_K D vwCl tys s) {y : MethodName} {ws ws' : List Cond} {rm : Room} {bytes : ByteArray} {maxL n index : Nat} {ret : Option FieldType} {As st0 : List Value} {C' : String} {b ci : Nat} {fs : List Value} {q : vw_C} {r2 : Int32} {σ2 : τ} (hM : CMi l w D tys y ws rm (.ref b :: As) σ (fun (r : Int32) (u : τ) => r = r2 ∧ u = σ2)) (hG : GoodIn Ts (wsV own index C' y ws)) (hw : ws = Cond.code y bytes maxL ret :: ws') (hd : y.cls = C' ∧ y.cls ≠ "java/lang/invoke/MethodHandle" ∧ y.cls ≠ "java/lang/invoke/VarHandle" ∧ (parseMethodDescriptor y.desc).map (fun d => d.parameters.length) = some n) (hrm : rm.cells = 0 ∧ rm.slots = 0) (hR : rm.frames + 1 ≤ R.frames ∧ 8 + (maxL + 11) + rm.locals ≤ R.locals) (q0 : Nat) (he : (w σ)[q0]? = some (b, .inr (ci, fs))) (hc : vwCl[ci]? = some q) (hq : q.1 = C') (hst : st0 = As.reverse ++ .ref b :: rest) (hn : As.length = n) (hcat : (rest.map fun v => v.category).sum ≤ 8) (hcs : cells ≤ R.cells ∧ slots ≤ R.slots) (hdg : decode cc pc = .ok (.invokevirtual index, 3)) (hp : pc + 3 = pc') (kk : VV p l e R s m args below meth c cells slots Q w D A H0 nL σ2 pc' lv (.int r2 :: rest)) : VV p l e R s m args below meth c cells slots Q w D A H0 nL σ pc lv st0 :=
  v_callVi C K hM hG hw hd hrm hR q0 he hc hq hst hn hcat hcs hdg hp (fun r u hu => by rw [hu.1, hu.2]; exact kk)
theorem v_callSid (C : CX p m c cc nL s args Ts own A H0) (K : va_K D vwCl tys s) {y : MethodName} {ws ws' : List Cond} {rm : Room} {bytes : ByteArray} {maxL n index : Nat} {ret : Option FieldType} {As st0 : List Value} {r2 : Int32} {σ2 : τ} (hM : CMi l w D tys y ws rm As σ (fun (r : Int32) (u : τ) => r = r2 ∧ u = σ2)) (hG : GoodIn Ts (va_wsS own index y ws)) (hw : ws = Cond.code y bytes maxL ret :: ws') (hd : y.cls ≠ "java/lang/invoke/MethodHandle" ∧ y.cls ≠ "java/lang/invoke/VarHandle" ∧ (parseMethodDescriptor y.desc).map (fun d => d.parameters.length) = some n) (hrm : rm.cells = 0 ∧ rm.slots = 0) (hR : rm.frames + 1 ≤ R.frames ∧ 8 + (maxL + 11) + rm.locals ≤ R.locals) (hst : st0 = As.reverse ++ rest) (hn : As.length = n) (hcat : (rest.map fun v => v.category).sum ≤ 8) (hcs : cells ≤ R.cells ∧ slots ≤ R.slots) (hdg : decode cc pc = .ok (.invokestatic index, 3)) (hp : pc + 3 = pc') (kk : VV p l e R s m args below meth c cells slots Q w D A H0 nL σ2 pc' lv (.int r2 :: rest)) : VV p l e R s m args below meth c cells slots Q w D A H0 nL σ pc lv st0 :=
  v_callSi C K hM hG hw hd hrm hR hst hn hcat hcs hdg hp (fun r u hu => by rw [hu.1, hu.2]; exact kk)
theorem v_callVvd (C : CX p m c cc nL s args Ts own A H0) (K : va_K D vwCl tys s) {y : MethodName} {ws ws' : List Cond} {rm : Room} {bytes : ByteArray} {maxL n index : Nat} {ret : Option FieldType} {As st0 : List Value} {C' : String} {b ci : Nat} {fs : List Value} {q : vw_C} {σ2 : τ} (hM : CMv l w D tys y ws rm (.ref b :: As) σ (fun (u : τ) => u = σ2)) (hG : GoodIn Ts (wsV own index C' y ws)) (hw : ws = Cond.code y bytes maxL ret :: ws') (hd : y.cls = C' ∧ y.cls ≠ "java/lang/invoke/MethodHandle" ∧ y.cls ≠ "java/lang/invoke/VarHandle" ∧ (parseMethodDescriptor y.desc).map (fun d => d.parameters.length) = some n) (hrm : rm.cells = 0 ∧ rm.slots = 0) (hR : rm.frames + 1 ≤ R.frames ∧ 8 + (maxL + 11) + rm.locals ≤ R.locals) (q0 : Nat) (he : (w σ)[q0]? = some (b, .inr (ci, fs))) (hc : vwCl[ci]? = some q) (hq : q.1 = C') (hst : st0 = As.reverse ++ .ref b :: rest) (hn : As.length = n) (hcat : (rest.map fun v => v.category).sum ≤ 8) (hcs : cells ≤ R.cells ∧ slots ≤ R.slots) (hdg : decode cc pc = .ok (.invokevirtual index, 3)) (hp : pc + 3 = pc') (kk : VV p l e R s m args below meth c cells slots Q w D A H0 nL σ2 pc' lv rest) : VV p l e R s m args below meth c cells slots Q w D A H0 nL σ pc lv st0 :=
  v_callVv C K hM hG hw hd hrm hR q0 he hc hq hst hn hcat hcs hdg hp (fun u hu => by rw [hu]; exact kk)
theorem v_callSvd (C : CX p m c cc nL s args Ts own A H0) (K : va_K D vwCl tys s) {y : MethodName} {ws ws' : List Cond} {rm : Room} {bytes : ByteArray} {maxL n index : Nat} {ret : Option FieldType} {As st0 : List Value} {σ2 : τ} (hM : CMv l w D tys y ws rm As σ (fun (u : τ) => u = σ2)) (hG : GoodIn Ts (va_wsS own index y ws)) (hw : ws = Cond.code y bytes maxL ret :: ws') (hd : y.cls ≠ "java/lang/invoke/MethodHandle" ∧ y.cls ≠ "java/lang/invoke/VarHandle" ∧ (parseMethodDescriptor y.desc).map (fun d => d.parameters.length) = some n) (hrm : rm.cells = 0 ∧ rm.slots = 0) (hR : rm.frames + 1 ≤ R.frames ∧ 8 + (maxL + 11) + rm.locals ≤ R.locals) (hst : st0 = As.reverse ++ rest) (hn : As.length = n) (hcat : (rest.map fun v => v.category).sum ≤ 8) (hcs : cells ≤ R.cells ∧ slots ≤ R.slots) (hdg : decode cc pc = .ok (.invokestatic index, 3)) (hp : pc + 3 = pc') (kk : VV p l e R s m args below meth c cells slots Q w D A H0 nL σ2 pc' lv rest) : VV p l e R s m args below meth c cells slots Q w D A H0 nL σ pc lv st0 :=
  v_callSv C K hM hG hw hd hrm hR hst hn hcat hcs hdg hp (fun u hu => by rw [hu]; exact kk)
theorem v_callSpd (C : CX p m c cc nL s args Ts own A H0) {y : MethodName} {ws ws' : List Cond} {rm : Room} {bytes : ByteArray} {maxL n index : Nat} {ret : Option FieldType} {As st0 : List Value} {r2 : Int32} (hM : CPi l y ws rm As (fun (r : Int32) => r = r2)) (hG : GoodIn Ts (va_wsS own index y ws)) (hw : ws = Cond.code y bytes maxL ret :: ws') (hd : y.cls ≠ "java/lang/invoke/MethodHandle" ∧ y.cls ≠ "java/lang/invoke/VarHandle" ∧ (parseMethodDescriptor y.desc).map (fun d => d.parameters.length) = some n) (hrm : rm.cells = 0 ∧ rm.slots = 0) (hR : rm.frames + 1 ≤ R.frames ∧ 8 + (maxL + 11) + rm.locals ≤ R.locals) (hst : st0 = As.reverse ++ rest) (hn : As.length = n) (hcat : (rest.map fun v => v.category).sum ≤ 8) (hcs : cells ≤ R.cells ∧ slots ≤ R.slots) (hdg : decode cc pc = .ok (.invokestatic index, 3)) (hp : pc + 3 = pc') (kk : VV p l e R s m args below meth c cells slots Q w D A H0 nL σ pc' lv (.int r2 :: rest)) : VV p l e R s m args below meth c cells slots Q w D A H0 nL σ pc lv st0 :=
  v_callSp C hM hG hw hd hrm hR hst hn hcat hcs hdg hp (fun r hu => by rw [hu]; exact kk)
theorem v_iret (C : CX p m c cc nL s args Ts own A H0) (K : va_K D vwCl tys s) {post : Int32 → τ → Prop} {ty : FieldType} {r : Int32} (hr : meth.sig.returnType = some ty) (hlocks : meth.locks = false) (hn : narrow ty (.int r) = .int r) (hpost : post r σ) (hdg : decode cc pc = .ok (.ireturn, 1)) : VV p l e R s m args below meth c 0 0 (MQ below (va_Qi post (v9_world D w tys A) A) args s 0 0 A) w D A s.heap nL σ pc lv [.int r] :=
  fun H locs ls hP hD hS h => W.zret C.1.1 C.1.2.1 hr hn (fun t ht hW => ⟨⟨r, σ, rfl, hpost, by rw [ht]; exact hP, va_K.moved hW.alike K, hD⟩, hS.F ht⟩) hS.2.2 hdg
theorem v_vret (C : CX p m c cc nL s args Ts own A H0) (K : va_K D vwCl tys s) {post : τ → Prop} (hr : meth.sig.returnType = none) (hlocks : meth.locks = false) (hpost : post σ) (hdg : decode cc pc = .ok (.return_, 1)) : VV p l e R s m args below meth c 0 0 (MQ below (va_Qv post (v9_world D w tys A) A) args s 0 0 A) w D A s.heap nL σ pc lv [] :=
  fun H locs ls hP hD hS h => W.vret C.1.1 C.1.2.1 hr (fun t ht hW => ⟨⟨σ, rfl, hpost, by rw [ht]; exact hP, va_K.moved hW.alike K, hD⟩, hS.F ht⟩) hS.2.2 hdg
theorem v_pret (C : CX p m c cc nL s args Ts own A H0) {post : Int32 → Prop} {ty : FieldType} {r : Int32} (hr : meth.sig.returnType = some ty) (hlocks : meth.locks = false) (hn : narrow ty (.int r) = .int r) (hpost : post r) (hdg : decode cc pc = .ok (.ireturn, 1)) : VV p l e R s m args below meth c 0 0 (MQ below (va_Qi (fun r (_ : Unit) => post r) (fun _ _ => True) A) args s 0 0 A) w D A s.heap nL σ pc lv [.int r] :=
  fun H locs ls hP hD hS h => W.zret C.1.1 C.1.2.1 hr hn (fun t ht hW => ⟨⟨r, (), rfl, hpost, trivial⟩, hS.F ht⟩) hS.2.2 hdg
theorem v_starti {y : MethodName} {ws ws' : List Cond} {rm : Room} {ty : FieldType} {As : List Value} {post : Int32 → τ → Prop} (ho : y.cls = own) (hy : plainName y.cls = true) (hw : ws = Cond.code y cc nL (some ty) :: ws') (hlg : (lg_sl As).length ≤ nL)
    (body : ∀ (p : Program) (e : Env) (s : State) (m : MethodId) (args : Array Value) (below : List Frame) (meth : Method) (c : Code) (A : Nat → Prop) (Q : State → Prop), CX p m c cc nL s args ws own A s.heap → va_K D vwCl tys s → (∀ {σ1 : τ} {pc1 : Nat} {lv1 : List (Nat × Value)} {r : Int32}, post r σ1 → narrow ty (.int r) = .int r → decode cc pc1 = .ok (.ireturn, 1) → VV p l e rm s m args below meth c 0 0 Q w D A s.heap nL σ1 pc1 lv1 [.int r]) → VV p l e rm s m args below meth c 0 0 Q w D A s.heap nL σ 0 (lv_args 0 As) []) : CMi l w D tys y ws rm As σ post := by
  subst ho
  intro sz
  refine Met.ofW (cc := cc) (maxL := nL) (ret := some ty) hy hw ?_
  intro p e s m args below meth c s₁ B hml hv
  obtain ⟨rfl, hsz, hP, K, hD0⟩ := hv
  subst hsz
  have hl := lv_entry As (n := nL) hlg
  rw [lg_entry_eq]
  have C : CX p m c cc nL s As.toArray ws y.cls (va_A (w σ) s.heap.size) s.heap := ⟨⟨B.exec, B.bytes, hml, findClass_of_methodNamed B.named, atoms_spec (ws := ws) B.pre⟩, fun q h => Or.inr h⟩
  exact body p e s m As.toArray below meth c (va_A (w σ) s.heap.size) _ C K (fun h1 h2 h3 => v_iret C K B.returns B.notSynchronized h2 h1 h3) s.heap [] _ hP hD0.self va_S.rf hl
theorem v_startv {y : MethodName} {ws ws' : List Cond} {rm : Room} {As : List Value} {post : τ → Prop} (ho : y.cls = own) (hy : plainName y.cls = true) (hw : ws = Cond.code y cc nL (none) :: ws') (hlg : (lg_sl As).length ≤ nL)
    (body : ∀ (p : Program) (e : Env) (s : State) (m : MethodId) (args : Array Value) (below : List Frame) (meth : Method) (c : Code) (A : Nat → Prop) (Q : State → Prop), CX p m c cc nL s args ws own A s.heap → va_K D vwCl tys s → (∀ {σ1 : τ} {pc1 : Nat} {lv1 : List (Nat × Value)}, post σ1 → decode cc pc1 = .ok (.return_, 1) → VV p l e rm s m args below meth c 0 0 Q w D A s.heap nL σ1 pc1 lv1 []) → VV p l e rm s m args below meth c 0 0 Q w D A s.heap nL σ 0 (lv_args 0 As) []) : CMv l w D tys y ws rm As σ post := by
  subst ho
  intro sz
  refine Met.ofW (cc := cc) (maxL := nL) (ret := none) hy hw ?_
  intro p e s m args below meth c s₁ B hml hv
  obtain ⟨rfl, hsz, hP, K, hD0⟩ := hv
  subst hsz
  have hl := lv_entry As (n := nL) hlg
  rw [lg_entry_eq]
  have C : CX p m c cc nL s As.toArray ws y.cls (va_A (w σ) s.heap.size) s.heap := ⟨⟨B.exec, B.bytes, hml, findClass_of_methodNamed B.named, atoms_spec (ws := ws) B.pre⟩, fun q h => Or.inr h⟩
  exact body p e s m As.toArray below meth c (va_A (w σ) s.heap.size) _ C K (fun h1 h3 => v_vret C K B.returns B.notSynchronized h1 h3) s.heap [] _ hP hD0.self va_S.rf hl
theorem v_startP {y : MethodName} {ws ws' : List Cond} {rm : Room} {ty : FieldType} {As : List Value} {post : Int32 → Prop} (D : va_G) (ho : y.cls = own) (hy : plainName y.cls = true) (hw : ws = Cond.code y cc nL (some ty) :: ws') (hlg : (lg_sl As).length ≤ nL)
    (body : ∀ (p : Program) (e : Env) (s : State) (m : MethodId) (args : Array Value) (below : List Frame) (meth : Method) (c : Code) (A : Nat → Prop) (Q : State → Prop), CX p m c cc nL s args ws own A s.heap → (∀ {pc1 : Nat} {lv1 : List (Nat × Value)} {r : Int32}, post r → narrow ty (.int r) = .int r → decode cc pc1 = .ok (.ireturn, 1) → VV p l e rm s m args below meth c 0 0 Q (fun _ : Unit => []) D A s.heap nL () pc1 lv1 [.int r]) → VV p l e rm s m args below meth c 0 0 Q (fun _ : Unit => []) D A s.heap nL () 0 (lv_args 0 As) []) : CPi l y ws rm As post := by
  subst ho
  intro sz
  refine Met.ofW (cc := cc) (maxL := nL) (ret := some ty) hy hw ?_
  intro p e s m args below meth c s₁ B hml hv
  obtain ⟨rfl, hsz⟩ := hv
  subst hsz
  have hl := lv_entry As (n := nL) hlg
  rw [lg_entry_eq]
  have C : CX p m c cc nL s As.toArray ws y.cls (va_A [] s.heap.size) s.heap := ⟨⟨B.exec, B.bytes, hml, findClass_of_methodNamed B.named, atoms_spec (ws := ws) B.pre⟩, fun q h => Or.inr h⟩
  exact body p e s m As.toArray below meth c (va_A [] s.heap.size) _ C (fun h1 h2 h3 => v_pret (w := fun _ : Unit => []) C B.returns B.notSynchronized h2 h1 h3) s.heap [] _ (fun k q h => by simp at h) ⟨(fun i j p q h => by simp at h), (fun k q h => by simp at h)⟩ va_S.rf hl
theorem v9cast {σ1 : τ} {lv1 : List (Nat × Value)} {st1 : List Value} (kk : VV p l e R s m args below meth c cells slots Q w D A H0 nL σ1 pc lv1 st1) (h1 : σ = σ1) (h2 : lv = lv1) (h3 : st = st1) : VV p l e R s m args below meth c cells slots Q w D A H0 nL σ pc lv st := by
  subst h1
  subst h2
  subst h3
  exact kk
end V9
/-- a loop of counted turns, backward: what holds behind the last turn, and each turn -/
theorem lpB9 (V : Nat → Prop) (N : Nat) (hs : ∀ d, d < N → V (d + 1) → V d) (hN : V N) : ∀ d, d ≤ N → V d := by
  intro d hd
  have h : ∀ n d, d + n = N → V d := by
    intro n
    induction n with
    | zero => intro d h; rw [show d = N by omega]; exact hN
    | succ n ih => intro d h; exact hs d (by omega) (ih (d + 1) (by omega))
  exact h (N - d) d (by omega)
end
section
theorem in_X0_init_X0 : ∀ x ∈ u_ws RX0 TX0 6, x ∈ wsX0_init := fun x h => List.mem_cons_of_mem _ (List.mem_append_right _ h)
set_option maxRecDepth 20000 in
theorem fl_X0_init_X0_0 : Cond.fieldLink RX0 9 (TX0 0).1 (TX0 0).2.1 (TX0 0).2.2.1 ∈ wsX0_init := by decide +kernel
set_option maxRecDepth 20000 in
theorem fl_X0_init_X0_1 : Cond.fieldLink RX0 15 (TX0 1).1 (TX0 1).2.1 (TX0 1).2.2.1 ∈ wsX0_init := by decide +kernel
set_option maxRecDepth 20000 in
theorem fl_X0_init_X0_2 : Cond.fieldLink RX0 18 (TX0 2).1 (TX0 2).2.1 (TX0 2).2.2.1 ∈ wsX0_init := by decide +kernel
set_option maxRecDepth 20000 in
theorem fl_X0_init_X0_3 : Cond.fieldLink RX0 21 (TX0 3).1 (TX0 3).2.1 (TX0 3).2.2.1 ∈ wsX0_init := by decide +kernel
theorem in_X0_follow_X0 : ∀ x ∈ u_ws RX0 TX0 6, x ∈ wsX0_follow := fun x h => List.mem_cons_of_mem _ (List.mem_append_left _ (List.mem_append_right _ h))
set_option maxRecDepth 20000 in
theorem fl_X0_follow_X0_0 : Cond.fieldLink RX0 9 (TX0 0).1 (TX0 0).2.1 (TX0 0).2.2.1 ∈ wsX0_follow := by decide +kernel
set_option maxRecDepth 20000 in
theorem fl_X0_follow_X0_1 : Cond.fieldLink RX0 15 (TX0 1).1 (TX0 1).2.1 (TX0 1).2.2.1 ∈ wsX0_follow := by decide +kernel
set_option maxRecDepth 20000 in
theorem fl_X0_follow_X0_2 : Cond.fieldLink RX0 18 (TX0 2).1 (TX0 2).2.1 (TX0 2).2.2.1 ∈ wsX0_follow := by decide +kernel
set_option maxRecDepth 20000 in
theorem fl_X0_follow_X0_3 : Cond.fieldLink RX0 21 (TX0 3).1 (TX0 3).2.1 (TX0 3).2.2.1 ∈ wsX0_follow := by decide +kernel
set_option maxRecDepth 20000 in
theorem fl_X0_follow_X0_4 : Cond.fieldLink RX0 30 (TX0 4).1 (TX0 4).2.1 (TX0 4).2.2.1 ∈ wsX0_follow := by decide +kernel
set_option maxRecDepth 20000 in
theorem fl_X0_follow_X0_5 : Cond.fieldLink RX0 49 (TX0 5).1 (TX0 5).2.1 (TX0 5).2.2.1 ∈ wsX0_follow := by decide +kernel
set_option maxRecDepth 20000 in
theorem ma_X0_follow_min_0 : Cond.methodLink RX0 63 Lib.Math.min.name ∈ wsX0_follow := by decide +kernel
set_option maxRecDepth 20000 in
theorem ma_X0_follow_min_1 : Cond.static Lib.Math.min.name ∈ wsX0_follow := by decide +kernel
set_option maxRecDepth 20000 in
theorem ma_X0_follow_min_2 : Cond.initialized "java/lang/Math" ∈ wsX0_follow := by decide +kernel
set_option maxRecDepth 20000 in
theorem ma_X0_follow_min_3 : Cond.code Lib.Math.min.name Lib.Math.min.code 2 (some .int) ∈ wsX0_follow := by decide +kernel
set_option maxRecDepth 20000 in
theorem ma_X0_follow_max_0 : Cond.methodLink RX0 68 Lib.Math.max.name ∈ wsX0_follow := by decide +kernel
set_option maxRecDepth 20000 in
theorem ma_X0_follow_max_1 : Cond.static Lib.Math.max.name ∈ wsX0_follow := by decide +kernel
set_option maxRecDepth 20000 in
theorem ma_X0_follow_max_2 : Cond.initialized "java/lang/Math" ∈ wsX0_follow := by decide +kernel
set_option maxRecDepth 20000 in
theorem ma_X0_follow_max_3 : Cond.code Lib.Math.max.name Lib.Math.max.code 2 (some .int) ∈ wsX0_follow := by decide +kernel
theorem in_X0_followWeek_X0 : ∀ x ∈ u_ws RX0 TX0 6, x ∈ wsX0_followWeek := fun x h => List.mem_cons_of_mem _ (List.mem_append_left _ (List.mem_append_right _ h))
set_option maxRecDepth 20000 in
theorem fl_X0_followWeek_X0_0 : Cond.fieldLink RX0 9 (TX0 0).1 (TX0 0).2.1 (TX0 0).2.2.1 ∈ wsX0_followWeek := by decide +kernel
set_option maxRecDepth 20000 in
theorem fl_X0_followWeek_X0_1 : Cond.fieldLink RX0 15 (TX0 1).1 (TX0 1).2.1 (TX0 1).2.2.1 ∈ wsX0_followWeek := by decide +kernel
set_option maxRecDepth 20000 in
theorem fl_X0_followWeek_X0_2 : Cond.fieldLink RX0 18 (TX0 2).1 (TX0 2).2.1 (TX0 2).2.2.1 ∈ wsX0_followWeek := by decide +kernel
set_option maxRecDepth 20000 in
theorem fl_X0_followWeek_X0_4 : Cond.fieldLink RX0 30 (TX0 4).1 (TX0 4).2.1 (TX0 4).2.2.1 ∈ wsX0_followWeek := by decide +kernel
set_option maxRecDepth 20000 in
theorem ma_X0_followWeek_min_0 : Cond.methodLink RX0 63 Lib.Math.min.name ∈ wsX0_followWeek := by decide +kernel
set_option maxRecDepth 20000 in
theorem ma_X0_followWeek_min_1 : Cond.static Lib.Math.min.name ∈ wsX0_followWeek := by decide +kernel
set_option maxRecDepth 20000 in
theorem ma_X0_followWeek_min_2 : Cond.initialized "java/lang/Math" ∈ wsX0_followWeek := by decide +kernel
set_option maxRecDepth 20000 in
theorem ma_X0_followWeek_min_3 : Cond.code Lib.Math.min.name Lib.Math.min.code 2 (some .int) ∈ wsX0_followWeek := by decide +kernel
set_option maxRecDepth 20000 in
theorem ma_X0_peopleOf_min_0 : Cond.methodLink RX0 63 Lib.Math.min.name ∈ wsX0_peopleOf := by decide +kernel
set_option maxRecDepth 20000 in
theorem ma_X0_peopleOf_min_1 : Cond.static Lib.Math.min.name ∈ wsX0_peopleOf := by decide +kernel
set_option maxRecDepth 20000 in
theorem ma_X0_peopleOf_min_2 : Cond.initialized "java/lang/Math" ∈ wsX0_peopleOf := by decide +kernel
set_option maxRecDepth 20000 in
theorem ma_X0_peopleOf_min_3 : Cond.code Lib.Math.min.name Lib.Math.min.code 2 (some .int) ∈ wsX0_peopleOf := by decide +kernel
set_option maxRecDepth 20000 in
theorem ma_X0_nextShare_max_0 : Cond.methodLink RX0 68 Lib.Math.max.name ∈ wsX0_nextShare := by decide +kernel
set_option maxRecDepth 20000 in
theorem ma_X0_nextShare_max_1 : Cond.static Lib.Math.max.name ∈ wsX0_nextShare := by decide +kernel
set_option maxRecDepth 20000 in
theorem ma_X0_nextShare_max_2 : Cond.initialized "java/lang/Math" ∈ wsX0_nextShare := by decide +kernel
set_option maxRecDepth 20000 in
theorem ma_X0_nextShare_max_3 : Cond.code Lib.Math.max.name Lib.Math.max.code 2 (some .int) ∈ wsX0_nextShare := by decide +kernel
theorem in_X0_reckonWeek_X0 : ∀ x ∈ u_ws RX0 TX0 6, x ∈ wsX0_reckonWeek := fun x h => List.mem_cons_of_mem _ (List.mem_append_left _ (List.mem_append_right _ h))
set_option maxRecDepth 20000 in
theorem fl_X0_reckonWeek_X0_2 : Cond.fieldLink RX0 18 (TX0 2).1 (TX0 2).2.1 (TX0 2).2.2.1 ∈ wsX0_reckonWeek := by decide +kernel
set_option maxRecDepth 20000 in
theorem fl_X0_reckonWeek_X0_3 : Cond.fieldLink RX0 21 (TX0 3).1 (TX0 3).2.1 (TX0 3).2.2.1 ∈ wsX0_reckonWeek := by decide +kernel
set_option maxRecDepth 20000 in
theorem ma_X0_reckonWeek_max_0 : Cond.methodLink RX0 68 Lib.Math.max.name ∈ wsX0_reckonWeek := by decide +kernel
set_option maxRecDepth 20000 in
theorem ma_X0_reckonWeek_max_1 : Cond.static Lib.Math.max.name ∈ wsX0_reckonWeek := by decide +kernel
set_option maxRecDepth 20000 in
theorem ma_X0_reckonWeek_max_2 : Cond.initialized "java/lang/Math" ∈ wsX0_reckonWeek := by decide +kernel
set_option maxRecDepth 20000 in
theorem ma_X0_reckonWeek_max_3 : Cond.code Lib.Math.max.name Lib.Math.max.code 2 (some .int) ∈ wsX0_reckonWeek := by decide +kernel
theorem in_X0_shareOfTakings_X0 : ∀ x ∈ u_ws RX0 TX0 6, x ∈ wsX0_shareOfTakings := fun x h => List.mem_cons_of_mem _ (List.mem_append_right _ h)
set_option maxRecDepth 20000 in
theorem fl_X0_shareOfTakings_X0_2 : Cond.fieldLink RX0 18 (TX0 2).1 (TX0 2).2.1 (TX0 2).2.2.1 ∈ wsX0_shareOfTakings := by decide +kernel
set_option maxRecDepth 20000 in
theorem fl_X0_shareOfTakings_X0_3 : Cond.fieldLink RX0 21 (TX0 3).1 (TX0 3).2.1 (TX0 3).2.2.1 ∈ wsX0_shareOfTakings := by decide +kernel
theorem in_X0_dueAboveShare_X0 : ∀ x ∈ u_ws RX0 TX0 6, x ∈ wsX0_dueAboveShare := fun x h => List.mem_cons_of_mem _ (List.mem_append_right _ h)
set_option maxRecDepth 20000 in
theorem fl_X0_dueAboveShare_X0_2 : Cond.fieldLink RX0 18 (TX0 2).1 (TX0 2).2.1 (TX0 2).2.2.1 ∈ wsX0_dueAboveShare := by decide +kernel
set_option maxRecDepth 20000 in
theorem fl_X0_dueAboveShare_X0_3 : Cond.fieldLink RX0 21 (TX0 3).1 (TX0 3).2.1 (TX0 3).2.2.1 ∈ wsX0_dueAboveShare := by decide +kernel
theorem in_X0_sumOfWeek_X0 : ∀ x ∈ u_ws RX0 TX0 6, x ∈ wsX0_sumOfWeek := fun x h => List.mem_cons_of_mem _ (List.mem_append_right _ h)
set_option maxRecDepth 20000 in
theorem fl_X0_sumOfWeek_X0_2 : Cond.fieldLink RX0 18 (TX0 2).1 (TX0 2).2.1 (TX0 2).2.2.1 ∈ wsX0_sumOfWeek := by decide +kernel
theorem in_X0_sum_X0 : ∀ x ∈ u_ws RX0 TX0 6, x ∈ wsX0_sum := fun x h => List.mem_cons_of_mem _ (List.mem_append_right _ h)
set_option maxRecDepth 20000 in
theorem fl_X0_sum_X0_2 : Cond.fieldLink RX0 18 (TX0 2).1 (TX0 2).2.1 (TX0 2).2.2.1 ∈ wsX0_sum := by decide +kernel
theorem in_X0_shareIn_X0 : ∀ x ∈ u_ws RX0 TX0 6, x ∈ wsX0_shareIn := fun x h => List.mem_cons_of_mem _ (List.mem_append_right _ h)
set_option maxRecDepth 20000 in
theorem fl_X0_shareIn_X0_3 : Cond.fieldLink RX0 21 (TX0 3).1 (TX0 3).2.1 (TX0 3).2.2.1 ∈ wsX0_shareIn := by decide +kernel
theorem in_X0_peopleAt_X0 : ∀ x ∈ u_ws RX0 TX0 6, x ∈ wsX0_peopleAt := fun x h => List.mem_cons_of_mem _ (List.mem_append_right _ h)
set_option maxRecDepth 20000 in
theorem fl_X0_peopleAt_X0_0 : Cond.fieldLink RX0 9 (TX0 0).1 (TX0 0).2.1 (TX0 0).2.2.1 ∈ wsX0_peopleAt := by decide +kernel
theorem in_X0_leftBehind_X0 : ∀ x ∈ u_ws RX0 TX0 6, x ∈ wsX0_leftBehind := fun x h => List.mem_cons_of_mem _ (List.mem_append_right _ h)
set_option maxRecDepth 20000 in
theorem fl_X0_leftBehind_X0_1 : Cond.fieldLink RX0 15 (TX0 1).1 (TX0 1).2.1 (TX0 1).2.2.1 ∈ wsX0_leftBehind := by decide +kernel
theorem in_X0_fullShows_X0 : ∀ x ∈ u_ws RX0 TX0 6, x ∈ wsX0_fullShows := fun x h => List.mem_cons_of_mem _ (List.mem_append_right _ h)
set_option maxRecDepth 20000 in
theorem fl_X0_fullShows_X0_4 : Cond.fieldLink RX0 30 (TX0 4).1 (TX0 4).2.1 (TX0 4).2.2.1 ∈ wsX0_fullShows := by decide +kernel
theorem in_X0_leftAtEnd_X0 : ∀ x ∈ u_ws RX0 TX0 6, x ∈ wsX0_leftAtEnd := fun x h => List.mem_cons_of_mem _ (List.mem_append_right _ h)
set_option maxRecDepth 20000 in
theorem fl_X0_leftAtEnd_X0_5 : Cond.fieldLink RX0 49 (TX0 5).1 (TX0 5).2.1 (TX0 5).2.2.1 ∈ wsX0_leftAtEnd := by decide +kernel
theorem in_X1_init_X1 : ∀ x ∈ u_ws RX1 TX1 1, x ∈ wsX1_init := fun x h => List.mem_cons_of_mem _ (List.mem_append_right _ h)
set_option maxRecDepth 20000 in
theorem fl_X1_init_X1_0 : Cond.fieldLink RX1 11 (TX1 0).1 (TX1 0).2.1 (TX1 0).2.2.1 ∈ wsX1_init := by decide +kernel
set_option maxRecDepth 20000 in
theorem cp_X1_init_0 : Cond.methodLink RX1 18 arraycopyName ∈ wsX1_init := by decide +kernel
set_option maxRecDepth 20000 in
theorem cp_X1_init_1 : Cond.native arraycopyName ∈ wsX1_init := by decide +kernel
set_option maxRecDepth 20000 in
theorem cp_X1_init_2 : Cond.static arraycopyName ∈ wsX1_init := by decide +kernel
set_option maxRecDepth 20000 in
theorem cp_X1_init_3 : Cond.initialized "java/lang/System" ∈ wsX1_init := by decide +kernel
theorem in_X1_copyTo_X1 : ∀ x ∈ u_ws RX1 TX1 1, x ∈ wsX1_copyTo := fun x h => List.mem_cons_of_mem _ (List.mem_append_right _ h)
set_option maxRecDepth 20000 in
theorem fl_X1_copyTo_X1_0 : Cond.fieldLink RX1 11 (TX1 0).1 (TX1 0).2.1 (TX1 0).2.2.1 ∈ wsX1_copyTo := by decide +kernel
set_option maxRecDepth 20000 in
theorem cp_X1_copyTo_0 : Cond.methodLink RX1 18 arraycopyName ∈ wsX1_copyTo := by decide +kernel
set_option maxRecDepth 20000 in
theorem cp_X1_copyTo_1 : Cond.native arraycopyName ∈ wsX1_copyTo := by decide +kernel
set_option maxRecDepth 20000 in
theorem cp_X1_copyTo_2 : Cond.static arraycopyName ∈ wsX1_copyTo := by decide +kernel
set_option maxRecDepth 20000 in
theorem cp_X1_copyTo_3 : Cond.initialized "java/lang/System" ∈ wsX1_copyTo := by decide +kernel
theorem in_X1_setting_X1 : ∀ x ∈ u_ws RX1 TX1 1, x ∈ wsX1_setting := fun x h => List.mem_cons_of_mem _ (List.mem_append_right _ h)
set_option maxRecDepth 20000 in
theorem fl_X1_setting_X1_0 : Cond.fieldLink RX1 11 (TX1 0).1 (TX1 0).2.1 (TX1 0).2.2.1 ∈ wsX1_setting := by decide +kernel
theorem in_X1_changeSetting_X1 : ∀ x ∈ u_ws RX1 TX1 1, x ∈ wsX1_changeSetting := fun x h => List.mem_cons_of_mem _ (List.mem_append_right _ h)
set_option maxRecDepth 20000 in
theorem fl_X1_changeSetting_X1_0 : Cond.fieldLink RX1 11 (TX1 0).1 (TX1 0).2.1 (TX1 0).2.2.1 ∈ wsX1_changeSetting := by decide +kernel
theorem in_X1_films_X1 : ∀ x ∈ u_ws RX1 TX1 1, x ∈ wsX1_films := fun x h => List.mem_cons_of_mem _ (List.mem_append_right _ h)
set_option maxRecDepth 20000 in
theorem fl_X1_films_X1_0 : Cond.fieldLink RX1 11 (TX1 0).1 (TX1 0).2.1 (TX1 0).2.2.1 ∈ wsX1_films := by decide +kernel
theorem in_X1_hasFilm_X1 : ∀ x ∈ u_ws RX1 TX1 1, x ∈ wsX1_hasFilm := fun x h => List.mem_cons_of_mem _ (List.mem_append_right _ h)
set_option maxRecDepth 20000 in
theorem fl_X1_hasFilm_X1_0 : Cond.fieldLink RX1 11 (TX1 0).1 (TX1 0).2.1 (TX1 0).2.2.1 ∈ wsX1_hasFilm := by decide +kernel
theorem in_X1_addFilm_X1 : ∀ x ∈ u_ws RX1 TX1 1, x ∈ wsX1_addFilm := fun x h => List.mem_cons_of_mem _ (List.mem_append_right _ h)
set_option maxRecDepth 20000 in
theorem fl_X1_addFilm_X1_0 : Cond.fieldLink RX1 11 (TX1 0).1 (TX1 0).2.1 (TX1 0).2.2.1 ∈ wsX1_addFilm := by decide +kernel
theorem in_X1_fact_X1 : ∀ x ∈ u_ws RX1 TX1 1, x ∈ wsX1_fact := fun x h => List.mem_cons_of_mem _ (List.mem_append_right _ h)
set_option maxRecDepth 20000 in
theorem fl_X1_fact_X1_0 : Cond.fieldLink RX1 11 (TX1 0).1 (TX1 0).2.1 (TX1 0).2.2.1 ∈ wsX1_fact := by decide +kernel
theorem in_X1_showAt_X1 : ∀ x ∈ u_ws RX1 TX1 1, x ∈ wsX1_showAt := fun x h => List.mem_cons_of_mem _ (List.mem_append_right _ h)
set_option maxRecDepth 20000 in
theorem fl_X1_showAt_X1_0 : Cond.fieldLink RX1 11 (TX1 0).1 (TX1 0).2.1 (TX1 0).2.2.1 ∈ wsX1_showAt := by decide +kernel
theorem in_X1_replaceShow_X1 : ∀ x ∈ u_ws RX1 TX1 1, x ∈ wsX1_replaceShow := fun x h => List.mem_cons_of_mem _ (List.mem_append_right _ h)
set_option maxRecDepth 20000 in
theorem fl_X1_replaceShow_X1_0 : Cond.fieldLink RX1 11 (TX1 0).1 (TX1 0).2.1 (TX1 0).2.2.1 ∈ wsX1_replaceShow := by decide +kernel
theorem in_X1_canHold_X1 : ∀ x ∈ u_ws RX1 TX1 1, x ∈ wsX1_canHold := fun x h => List.mem_cons_of_mem _ (List.mem_append_right _ h)
set_option maxRecDepth 20000 in
theorem fl_X1_canHold_X1_0 : Cond.fieldLink RX1 11 (TX1 0).1 (TX1 0).2.1 (TX1 0).2.2.1 ∈ wsX1_canHold := by decide +kernel
theorem in_X1_firstDayShown_X1 : ∀ x ∈ u_ws RX1 TX1 1, x ∈ wsX1_firstDayShown := fun x h => List.mem_cons_of_mem _ (List.mem_append_right _ h)
set_option maxRecDepth 20000 in
theorem fl_X1_firstDayShown_X1_0 : Cond.fieldLink RX1 11 (TX1 0).1 (TX1 0).2.1 (TX1 0).2.2.1 ∈ wsX1_firstDayShown := by decide +kernel
theorem in_X1_rentOf_X1 : ∀ x ∈ u_ws RX1 TX1 1, x ∈ wsX1_rentOf := fun x h => List.mem_cons_of_mem _ (List.mem_append_right _ h)
set_option maxRecDepth 20000 in
theorem fl_X1_rentOf_X1_0 : Cond.fieldLink RX1 11 (TX1 0).1 (TX1 0).2.1 (TX1 0).2.2.1 ∈ wsX1_rentOf := by decide +kernel
theorem in_X1_changeRent_X1 : ∀ x ∈ u_ws RX1 TX1 1, x ∈ wsX1_changeRent := fun x h => List.mem_cons_of_mem _ (List.mem_append_right _ h)
set_option maxRecDepth 20000 in
theorem fl_X1_changeRent_X1_0 : Cond.fieldLink RX1 11 (TX1 0).1 (TX1 0).2.1 (TX1 0).2.2.1 ∈ wsX1_changeRent := by decide +kernel
theorem in_X1_rentsOf_X1 : ∀ x ∈ u_ws RX1 TX1 1, x ∈ wsX1_rentsOf := fun x h => List.mem_cons_of_mem _ (List.mem_append_right _ h)
set_option maxRecDepth 20000 in
theorem fl_X1_rentsOf_X1_0 : Cond.fieldLink RX1 11 (TX1 0).1 (TX1 0).2.1 (TX1 0).2.2.1 ∈ wsX1_rentsOf := by decide +kernel
theorem in_X2_init_X2 : ∀ x ∈ u_ws RX2 TX2 3, x ∈ wsX2_init := fun x h => List.mem_cons_of_mem _ (List.mem_append_right _ h)
set_option maxRecDepth 20000 in
theorem fl_X2_init_X2_0 : Cond.fieldLink RX2 13 (TX2 0).1 (TX2 0).2.1 (TX2 0).2.2.1 ∈ wsX2_init := by decide +kernel
theorem in_X2_size_X2 : ∀ x ∈ u_ws RX2 TX2 3, x ∈ wsX2_size := fun x h => List.mem_cons_of_mem _ (List.mem_append_right _ h)
set_option maxRecDepth 20000 in
theorem fl_X2_size_X2_2 : Cond.fieldLink RX2 16 (TX2 2).1 (TX2 2).2.1 (TX2 2).2.2.1 ∈ wsX2_size := by decide +kernel
theorem in_X2_record_X2 : ∀ x ∈ u_ws RX2 TX2 3, x ∈ wsX2_record := fun x h => List.mem_cons_of_mem _ (List.mem_append_left _ (List.mem_append_right _ h))
set_option maxRecDepth 20000 in
theorem fl_X2_record_X2_0 : Cond.fieldLink RX2 13 (TX2 0).1 (TX2 0).2.1 (TX2 0).2.2.1 ∈ wsX2_record := by decide +kernel
set_option maxRecDepth 20000 in
theorem fl_X2_record_X2_2 : Cond.fieldLink RX2 16 (TX2 2).1 (TX2 2).2.1 (TX2 2).2.2.1 ∈ wsX2_record := by decide +kernel
set_option maxRecDepth 20000 in
theorem fl_X2_record_X2_1 : Cond.fieldLink RX2 20 (TX2 1).1 (TX2 1).2.1 (TX2 1).2.2.1 ∈ wsX2_record := by decide +kernel
theorem in_X3_init_X3 : ∀ x ∈ u_ws RX3 TX3 2, x ∈ wsX3_init := fun x h => List.mem_cons_of_mem _ (List.mem_append_right _ h)
set_option maxRecDepth 20000 in
theorem fl_X3_init_X3_0 : Cond.fieldLink RX3 11 (TX3 0).1 (TX3 0).2.1 (TX3 0).2.2.1 ∈ wsX3_init := by decide +kernel
theorem in_X3_length_X3 : ∀ x ∈ u_ws RX3 TX3 2, x ∈ wsX3_length := fun x h => List.mem_cons_of_mem _ (List.mem_append_right _ h)
set_option maxRecDepth 20000 in
theorem fl_X3_length_X3_1 : Cond.fieldLink RX3 15 (TX3 1).1 (TX3 1).2.1 (TX3 1).2.2.1 ∈ wsX3_length := by decide +kernel
theorem in_X4_init_X4 : ∀ x ∈ u_ws RX4 TX4 6, x ∈ wsX4_init := fun x h => List.mem_cons_of_mem _ (List.mem_append_left _ (List.mem_append_left _ (List.mem_append_left _ (List.mem_append_right _ h))))
set_option maxRecDepth 20000 in
theorem fl_X4_init_X4_0 : Cond.fieldLink RX4 12 (TX4 0).1 (TX4 0).2.1 (TX4 0).2.2.1 ∈ wsX4_init := by decide +kernel
set_option maxRecDepth 20000 in
theorem fl_X4_init_X4_1 : Cond.fieldLink RX4 19 (TX4 1).1 (TX4 1).2.1 (TX4 1).2.2.1 ∈ wsX4_init := by decide +kernel
set_option maxRecDepth 20000 in
theorem fl_X4_init_X4_2 : Cond.fieldLink RX4 26 (TX4 2).1 (TX4 2).2.1 (TX4 2).2.2.1 ∈ wsX4_init := by decide +kernel
set_option maxRecDepth 20000 in
theorem fl_X4_init_X4_3 : Cond.fieldLink RX4 33 (TX4 3).1 (TX4 3).2.1 (TX4 3).2.2.1 ∈ wsX4_init := by decide +kernel
set_option maxRecDepth 20000 in
theorem fl_X4_init_X4_4 : Cond.fieldLink RX4 39 (TX4 4).1 (TX4 4).2.1 (TX4 4).2.2.1 ∈ wsX4_init := by decide +kernel
set_option maxRecDepth 20000 in
theorem fl_X4_init_X4_5 : Cond.fieldLink RX4 42 (TX4 5).1 (TX4 5).2.1 (TX4 5).2.2.1 ∈ wsX4_init := by decide +kernel
theorem in_X4_set_X4 : ∀ x ∈ u_ws RX4 TX4 6, x ∈ wsX4_set := fun x h => List.mem_cons_of_mem _ (List.mem_append_left _ (List.mem_append_left _ (List.mem_append_right _ h)))
set_option maxRecDepth 20000 in
theorem fl_X4_set_X4_0 : Cond.fieldLink RX4 12 (TX4 0).1 (TX4 0).2.1 (TX4 0).2.2.1 ∈ wsX4_set := by decide +kernel
set_option maxRecDepth 20000 in
theorem fl_X4_set_X4_3 : Cond.fieldLink RX4 33 (TX4 3).1 (TX4 3).2.1 (TX4 3).2.2.1 ∈ wsX4_set := by decide +kernel
theorem in_X4_film_X4 : ∀ x ∈ u_ws RX4 TX4 6, x ∈ wsX4_film := fun x h => List.mem_cons_of_mem _ (List.mem_append_left _ (List.mem_append_left _ (List.mem_append_right _ h)))
set_option maxRecDepth 20000 in
theorem fl_X4_film_X4_0 : Cond.fieldLink RX4 12 (TX4 0).1 (TX4 0).2.1 (TX4 0).2.2.1 ∈ wsX4_film := by decide +kernel
set_option maxRecDepth 20000 in
theorem fl_X4_film_X4_3 : Cond.fieldLink RX4 33 (TX4 3).1 (TX4 3).2.1 (TX4 3).2.2.1 ∈ wsX4_film := by decide +kernel
theorem in_X4_show_X4 : ∀ x ∈ u_ws RX4 TX4 6, x ∈ wsX4_show := fun x h => List.mem_cons_of_mem _ (List.mem_append_left _ (List.mem_append_left _ (List.mem_append_right _ h)))
set_option maxRecDepth 20000 in
theorem fl_X4_show_X4_0 : Cond.fieldLink RX4 12 (TX4 0).1 (TX4 0).2.1 (TX4 0).2.2.1 ∈ wsX4_show := by decide +kernel
set_option maxRecDepth 20000 in
theorem fl_X4_show_X4_3 : Cond.fieldLink RX4 33 (TX4 3).1 (TX4 3).2.1 (TX4 3).2.2.1 ∈ wsX4_show := by decide +kernel
theorem in_X4_drop_X4 : ∀ x ∈ u_ws RX4 TX4 6, x ∈ wsX4_drop := fun x h => List.mem_cons_of_mem _ (List.mem_append_left _ (List.mem_append_left _ (List.mem_append_right _ h)))
set_option maxRecDepth 20000 in
theorem fl_X4_drop_X4_0 : Cond.fieldLink RX4 12 (TX4 0).1 (TX4 0).2.1 (TX4 0).2.2.1 ∈ wsX4_drop := by decide +kernel
set_option maxRecDepth 20000 in
theorem fl_X4_drop_X4_3 : Cond.fieldLink RX4 33 (TX4 3).1 (TX4 3).2.1 (TX4 3).2.2.1 ∈ wsX4_drop := by decide +kernel
theorem in_X4_exchange_X4 : ∀ x ∈ u_ws RX4 TX4 6, x ∈ wsX4_exchange := fun x h => List.mem_cons_of_mem _ (List.mem_append_left _ (List.mem_append_left _ (List.mem_append_left _ (List.mem_append_right _ h))))
set_option maxRecDepth 20000 in
theorem fl_X4_exchange_X4_0 : Cond.fieldLink RX4 12 (TX4 0).1 (TX4 0).2.1 (TX4 0).2.2.1 ∈ wsX4_exchange := by decide +kernel
set_option maxRecDepth 20000 in
theorem fl_X4_exchange_X4_1 : Cond.fieldLink RX4 19 (TX4 1).1 (TX4 1).2.1 (TX4 1).2.2.1 ∈ wsX4_exchange := by decide +kernel
set_option maxRecDepth 20000 in
theorem fl_X4_exchange_X4_3 : Cond.fieldLink RX4 33 (TX4 3).1 (TX4 3).2.1 (TX4 3).2.2.1 ∈ wsX4_exchange := by decide +kernel
set_option maxRecDepth 20000 in
theorem ct_X4_exchange_101 : Cond.constant RX4 101 (1000000) ∈ wsX4_exchange := by decide +kernel
theorem in_X4_let_X4 : ∀ x ∈ u_ws RX4 TX4 6, x ∈ wsX4_let := fun x h => List.mem_cons_of_mem _ (List.mem_append_left _ (List.mem_append_left _ (List.mem_append_right _ h)))
set_option maxRecDepth 20000 in
theorem fl_X4_let_X4_0 : Cond.fieldLink RX4 12 (TX4 0).1 (TX4 0).2.1 (TX4 0).2.2.1 ∈ wsX4_let := by decide +kernel
set_option maxRecDepth 20000 in
theorem fl_X4_let_X4_3 : Cond.fieldLink RX4 33 (TX4 3).1 (TX4 3).2.1 (TX4 3).2.2.1 ∈ wsX4_let := by decide +kernel
theorem in_X4_at_X4 : ∀ x ∈ u_ws RX4 TX4 6, x ∈ wsX4_at := fun x h => List.mem_cons_of_mem _ (List.mem_append_left _ (List.mem_append_left _ (List.mem_append_right _ h)))
set_option maxRecDepth 20000 in
theorem fl_X4_at_X4_0 : Cond.fieldLink RX4 12 (TX4 0).1 (TX4 0).2.1 (TX4 0).2.2.1 ∈ wsX4_at := by decide +kernel
set_option maxRecDepth 20000 in
theorem fl_X4_at_X4_1 : Cond.fieldLink RX4 19 (TX4 1).1 (TX4 1).2.1 (TX4 1).2.2.1 ∈ wsX4_at := by decide +kernel
theorem in_X4_of_X4 : ∀ x ∈ u_ws RX4 TX4 6, x ∈ wsX4_of := fun x h => List.mem_cons_of_mem _ (List.mem_append_left _ (List.mem_append_left _ (List.mem_append_right _ h)))
set_option maxRecDepth 20000 in
theorem fl_X4_of_X4_0 : Cond.fieldLink RX4 12 (TX4 0).1 (TX4 0).2.1 (TX4 0).2.2.1 ∈ wsX4_of := by decide +kernel
set_option maxRecDepth 20000 in
theorem fl_X4_of_X4_1 : Cond.fieldLink RX4 19 (TX4 1).1 (TX4 1).2.1 (TX4 1).2.2.1 ∈ wsX4_of := by decide +kernel
theorem in_X4_inWeek_X4 : ∀ x ∈ u_ws RX4 TX4 6, x ∈ wsX4_inWeek := fun x h => List.mem_cons_of_mem _ (List.mem_append_left _ (List.mem_append_left _ (List.mem_append_right _ h)))
set_option maxRecDepth 20000 in
theorem fl_X4_inWeek_X4_0 : Cond.fieldLink RX4 12 (TX4 0).1 (TX4 0).2.1 (TX4 0).2.2.1 ∈ wsX4_inWeek := by decide +kernel
set_option maxRecDepth 20000 in
theorem fl_X4_inWeek_X4_1 : Cond.fieldLink RX4 19 (TX4 1).1 (TX4 1).2.1 (TX4 1).2.2.1 ∈ wsX4_inWeek := by decide +kernel
theorem in_X4_week_X4 : ∀ x ∈ u_ws RX4 TX4 6, x ∈ wsX4_week := fun x h => List.mem_cons_of_mem _ (List.mem_append_left _ (List.mem_append_left _ (List.mem_append_right _ h)))
set_option maxRecDepth 20000 in
theorem fl_X4_week_X4_0 : Cond.fieldLink RX4 12 (TX4 0).1 (TX4 0).2.1 (TX4 0).2.2.1 ∈ wsX4_week := by decide +kernel
set_option maxRecDepth 20000 in
theorem fl_X4_week_X4_1 : Cond.fieldLink RX4 19 (TX4 1).1 (TX4 1).2.1 (TX4 1).2.2.1 ∈ wsX4_week := by decide +kernel
set_option maxRecDepth 20000 in
theorem ct_X4_week_101 : Cond.constant RX4 101 (1000000) ∈ wsX4_week := by decide +kernel
theorem in_X4_rent_X4 : ∀ x ∈ u_ws RX4 TX4 6, x ∈ wsX4_rent := fun x h => List.mem_cons_of_mem _ (List.mem_append_left _ (List.mem_append_right _ h))
set_option maxRecDepth 20000 in
theorem fl_X4_rent_X4_0 : Cond.fieldLink RX4 12 (TX4 0).1 (TX4 0).2.1 (TX4 0).2.2.1 ∈ wsX4_rent := by decide +kernel
theorem in_X4_count_X4 : ∀ x ∈ u_ws RX4 TX4 6, x ∈ wsX4_count := fun x h => List.mem_cons_of_mem _ (List.mem_append_left _ (List.mem_append_left _ (List.mem_append_left _ (List.mem_append_left _ (List.mem_append_right _ h)))))
set_option maxRecDepth 20000 in
theorem fl_X4_count_X4_0 : Cond.fieldLink RX4 12 (TX4 0).1 (TX4 0).2.1 (TX4 0).2.2.1 ∈ wsX4_count := by decide +kernel
set_option maxRecDepth 20000 in
theorem fl_X4_count_X4_1 : Cond.fieldLink RX4 19 (TX4 1).1 (TX4 1).2.1 (TX4 1).2.2.1 ∈ wsX4_count := by decide +kernel
set_option maxRecDepth 20000 in
theorem fl_X4_count_X4_2 : Cond.fieldLink RX4 26 (TX4 2).1 (TX4 2).2.1 (TX4 2).2.2.1 ∈ wsX4_count := by decide +kernel
set_option maxRecDepth 20000 in
theorem fl_X4_count_X4_3 : Cond.fieldLink RX4 33 (TX4 3).1 (TX4 3).2.1 (TX4 3).2.2.1 ∈ wsX4_count := by decide +kernel
set_option maxRecDepth 20000 in
theorem ct_X4_count_101 : Cond.constant RX4 101 (1000000) ∈ wsX4_count := by decide +kernel
theorem in_X4_ifShown_X4 : ∀ x ∈ u_ws RX4 TX4 6, x ∈ wsX4_ifShown := fun x h => List.mem_cons_of_mem _ (List.mem_append_left _ (List.mem_append_left _ (List.mem_append_right _ h)))
set_option maxRecDepth 20000 in
theorem fl_X4_ifShown_X4_0 : Cond.fieldLink RX4 12 (TX4 0).1 (TX4 0).2.1 (TX4 0).2.2.1 ∈ wsX4_ifShown := by decide +kernel
set_option maxRecDepth 20000 in
theorem fl_X4_ifShown_X4_1 : Cond.fieldLink RX4 19 (TX4 1).1 (TX4 1).2.1 (TX4 1).2.2.1 ∈ wsX4_ifShown := by decide +kernel
set_option maxRecDepth 20000 in
theorem ct_X4_ifShown_101 : Cond.constant RX4 101 (1000000) ∈ wsX4_ifShown := by decide +kernel
theorem in_X4_errorOfShow_X4 : ∀ x ∈ u_ws RX4 TX4 6, x ∈ wsX4_errorOfShow := fun x h => List.mem_cons_of_mem _ (List.mem_append_left _ (List.mem_append_right _ h))
set_option maxRecDepth 20000 in
theorem fl_X4_errorOfShow_X4_0 : Cond.fieldLink RX4 12 (TX4 0).1 (TX4 0).2.1 (TX4 0).2.2.1 ∈ wsX4_errorOfShow := by decide +kernel
theorem in_X4_dropShowsOfDay_X4 : ∀ x ∈ u_ws RX4 TX4 6, x ∈ wsX4_dropShowsOfDay := fun x h => List.mem_cons_of_mem _ (List.mem_append_left _ (List.mem_append_right _ h))
set_option maxRecDepth 20000 in
theorem fl_X4_dropShowsOfDay_X4_0 : Cond.fieldLink RX4 12 (TX4 0).1 (TX4 0).2.1 (TX4 0).2.2.1 ∈ wsX4_dropShowsOfDay := by decide +kernel
theorem in_X4_sumOfFilm_X4 : ∀ x ∈ u_ws RX4 TX4 6, x ∈ wsX4_sumOfFilm := fun x h => List.mem_cons_of_mem _ (List.mem_append_left _ (List.mem_append_left _ (List.mem_append_right _ h)))
set_option maxRecDepth 20000 in
theorem fl_X4_sumOfFilm_X4_0 : Cond.fieldLink RX4 12 (TX4 0).1 (TX4 0).2.1 (TX4 0).2.2.1 ∈ wsX4_sumOfFilm := by decide +kernel
set_option maxRecDepth 20000 in
theorem fl_X4_sumOfFilm_X4_1 : Cond.fieldLink RX4 19 (TX4 1).1 (TX4 1).2.1 (TX4 1).2.2.1 ∈ wsX4_sumOfFilm := by decide +kernel
theorem in_X4_sumOfFilms_X4 : ∀ x ∈ u_ws RX4 TX4 6, x ∈ wsX4_sumOfFilms := fun x h => List.mem_cons_of_mem _ (List.mem_append_left _ (List.mem_append_left _ (List.mem_append_right _ h)))
set_option maxRecDepth 20000 in
theorem fl_X4_sumOfFilms_X4_0 : Cond.fieldLink RX4 12 (TX4 0).1 (TX4 0).2.1 (TX4 0).2.2.1 ∈ wsX4_sumOfFilms := by decide +kernel
set_option maxRecDepth 20000 in
theorem fl_X4_sumOfFilms_X4_1 : Cond.fieldLink RX4 19 (TX4 1).1 (TX4 1).2.1 (TX4 1).2.2.1 ∈ wsX4_sumOfFilms := by decide +kernel
theorem in_X4_sumOfFilmsInWeek_X4 : ∀ x ∈ u_ws RX4 TX4 6, x ∈ wsX4_sumOfFilmsInWeek := fun x h => List.mem_cons_of_mem _ (List.mem_append_left _ (List.mem_append_left _ (List.mem_append_right _ h)))
set_option maxRecDepth 20000 in
theorem fl_X4_sumOfFilmsInWeek_X4_0 : Cond.fieldLink RX4 12 (TX4 0).1 (TX4 0).2.1 (TX4 0).2.2.1 ∈ wsX4_sumOfFilmsInWeek := by decide +kernel
set_option maxRecDepth 20000 in
theorem fl_X4_sumOfFilmsInWeek_X4_1 : Cond.fieldLink RX4 19 (TX4 1).1 (TX4 1).2.1 (TX4 1).2.2.1 ∈ wsX4_sumOfFilmsInWeek := by decide +kernel
theorem in_X4_fullShows_X4 : ∀ x ∈ u_ws RX4 TX4 6, x ∈ wsX4_fullShows := fun x h => List.mem_cons_of_mem _ (List.mem_append_left _ (List.mem_append_left _ (List.mem_append_right _ h)))
set_option maxRecDepth 20000 in
theorem fl_X4_fullShows_X4_0 : Cond.fieldLink RX4 12 (TX4 0).1 (TX4 0).2.1 (TX4 0).2.2.1 ∈ wsX4_fullShows := by decide +kernel
set_option maxRecDepth 20000 in
theorem fl_X4_fullShows_X4_1 : Cond.fieldLink RX4 19 (TX4 1).1 (TX4 1).2.1 (TX4 1).2.2.1 ∈ wsX4_fullShows := by decide +kernel
theorem in_X4_leftOfFilm_X4 : ∀ x ∈ u_ws RX4 TX4 6, x ∈ wsX4_leftOfFilm := fun x h => List.mem_cons_of_mem _ (List.mem_append_left _ (List.mem_append_left _ (List.mem_append_right _ h)))
set_option maxRecDepth 20000 in
theorem fl_X4_leftOfFilm_X4_0 : Cond.fieldLink RX4 12 (TX4 0).1 (TX4 0).2.1 (TX4 0).2.2.1 ∈ wsX4_leftOfFilm := by decide +kernel
set_option maxRecDepth 20000 in
theorem fl_X4_leftOfFilm_X4_1 : Cond.fieldLink RX4 19 (TX4 1).1 (TX4 1).2.1 (TX4 1).2.2.1 ∈ wsX4_leftOfFilm := by decide +kernel
theorem in_X4_gainWith_X4 : ∀ x ∈ u_ws RX4 TX4 6, x ∈ wsX4_gainWith := fun x h => List.mem_cons_of_mem _ (List.mem_append_left _ (List.mem_append_left _ (List.mem_append_right _ h)))
set_option maxRecDepth 20000 in
theorem fl_X4_gainWith_X4_0 : Cond.fieldLink RX4 12 (TX4 0).1 (TX4 0).2.1 (TX4 0).2.2.1 ∈ wsX4_gainWith := by decide +kernel
set_option maxRecDepth 20000 in
theorem fl_X4_gainWith_X4_1 : Cond.fieldLink RX4 19 (TX4 1).1 (TX4 1).2.1 (TX4 1).2.2.1 ∈ wsX4_gainWith := by decide +kernel
theorem hd_X0_init : yX0_init.cls = RX0 ∧ yX0_init.cls ≠ "java/lang/invoke/MethodHandle" ∧ yX0_init.cls ≠ "java/lang/invoke/VarHandle" ∧ (parseMethodDescriptor yX0_init.desc).map (fun d => d.parameters.length) = some 0 := by decide +kernel
theorem hd_X0_follow : yX0_follow.cls = RX0 ∧ yX0_follow.cls ≠ "java/lang/invoke/MethodHandle" ∧ yX0_follow.cls ≠ "java/lang/invoke/VarHandle" ∧ (parseMethodDescriptor yX0_follow.desc).map (fun d => d.parameters.length) = some 2 := by decide +kernel
theorem hd_X0_followWeek : yX0_followWeek.cls = RX0 ∧ yX0_followWeek.cls ≠ "java/lang/invoke/MethodHandle" ∧ yX0_followWeek.cls ≠ "java/lang/invoke/VarHandle" ∧ (parseMethodDescriptor yX0_followWeek.desc).map (fun d => d.parameters.length) = some 4 := by decide +kernel
theorem hd_X0_peopleOf : yX0_peopleOf.cls = RX0 ∧ yX0_peopleOf.cls ≠ "java/lang/invoke/MethodHandle" ∧ yX0_peopleOf.cls ≠ "java/lang/invoke/VarHandle" ∧ (parseMethodDescriptor yX0_peopleOf.desc).map (fun d => d.parameters.length) = some 3 := by decide +kernel
theorem hd_X0_nextShare : yX0_nextShare.cls = RX0 ∧ yX0_nextShare.cls ≠ "java/lang/invoke/MethodHandle" ∧ yX0_nextShare.cls ≠ "java/lang/invoke/VarHandle" ∧ (parseMethodDescriptor yX0_nextShare.desc).map (fun d => d.parameters.length) = some 3 := by decide +kernel
theorem hd_X0_reckonWeek : yX0_reckonWeek.cls = RX0 ∧ yX0_reckonWeek.cls ≠ "java/lang/invoke/MethodHandle" ∧ yX0_reckonWeek.cls ≠ "java/lang/invoke/VarHandle" ∧ (parseMethodDescriptor yX0_reckonWeek.desc).map (fun d => d.parameters.length) = some 3 := by decide +kernel
theorem hd_X0_shareOfTakings : yX0_shareOfTakings.cls = RX0 ∧ yX0_shareOfTakings.cls ≠ "java/lang/invoke/MethodHandle" ∧ yX0_shareOfTakings.cls ≠ "java/lang/invoke/VarHandle" ∧ (parseMethodDescriptor yX0_shareOfTakings.desc).map (fun d => d.parameters.length) = some 1 := by decide +kernel
theorem hd_X0_dueAboveShare : yX0_dueAboveShare.cls = RX0 ∧ yX0_dueAboveShare.cls ≠ "java/lang/invoke/MethodHandle" ∧ yX0_dueAboveShare.cls ≠ "java/lang/invoke/VarHandle" ∧ (parseMethodDescriptor yX0_dueAboveShare.desc).map (fun d => d.parameters.length) = some 1 := by decide +kernel
theorem hd_X0_sumOfWeek : yX0_sumOfWeek.cls = RX0 ∧ yX0_sumOfWeek.cls ≠ "java/lang/invoke/MethodHandle" ∧ yX0_sumOfWeek.cls ≠ "java/lang/invoke/VarHandle" ∧ (parseMethodDescriptor yX0_sumOfWeek.desc).map (fun d => d.parameters.length) = some 2 := by decide +kernel
theorem hd_X0_sum : yX0_sum.cls = RX0 ∧ yX0_sum.cls ≠ "java/lang/invoke/MethodHandle" ∧ yX0_sum.cls ≠ "java/lang/invoke/VarHandle" ∧ (parseMethodDescriptor yX0_sum.desc).map (fun d => d.parameters.length) = some 1 := by decide +kernel
theorem hd_X0_shareIn : yX0_shareIn.cls = RX0 ∧ yX0_shareIn.cls ≠ "java/lang/invoke/MethodHandle" ∧ yX0_shareIn.cls ≠ "java/lang/invoke/VarHandle" ∧ (parseMethodDescriptor yX0_shareIn.desc).map (fun d => d.parameters.length) = some 1 := by decide +kernel
theorem hd_X0_peopleAt : yX0_peopleAt.cls = RX0 ∧ yX0_peopleAt.cls ≠ "java/lang/invoke/MethodHandle" ∧ yX0_peopleAt.cls ≠ "java/lang/invoke/VarHandle" ∧ (parseMethodDescriptor yX0_peopleAt.desc).map (fun d => d.parameters.length) = some 1 := by decide +kernel
theorem hd_X0_leftBehind : yX0_leftBehind.cls = RX0 ∧ yX0_leftBehind.cls ≠ "java/lang/invoke/MethodHandle" ∧ yX0_leftBehind.cls ≠ "java/lang/invoke/VarHandle" ∧ (parseMethodDescriptor yX0_leftBehind.desc).map (fun d => d.parameters.length) = some 1 := by decide +kernel
theorem hd_X0_fullShows : yX0_fullShows.cls = RX0 ∧ yX0_fullShows.cls ≠ "java/lang/invoke/MethodHandle" ∧ yX0_fullShows.cls ≠ "java/lang/invoke/VarHandle" ∧ (parseMethodDescriptor yX0_fullShows.desc).map (fun d => d.parameters.length) = some 0 := by decide +kernel
theorem hd_X0_leftAtEnd : yX0_leftAtEnd.cls = RX0 ∧ yX0_leftAtEnd.cls ≠ "java/lang/invoke/MethodHandle" ∧ yX0_leftAtEnd.cls ≠ "java/lang/invoke/VarHandle" ∧ (parseMethodDescriptor yX0_leftAtEnd.desc).map (fun d => d.parameters.length) = some 0 := by decide +kernel
theorem hd_X1_init : yX1_init.cls = RX1 ∧ yX1_init.cls ≠ "java/lang/invoke/MethodHandle" ∧ yX1_init.cls ≠ "java/lang/invoke/VarHandle" ∧ (parseMethodDescriptor yX1_init.desc).map (fun d => d.parameters.length) = some 0 := by decide +kernel
theorem hd_X1_copyTo : yX1_copyTo.cls = RX1 ∧ yX1_copyTo.cls ≠ "java/lang/invoke/MethodHandle" ∧ yX1_copyTo.cls ≠ "java/lang/invoke/VarHandle" ∧ (parseMethodDescriptor yX1_copyTo.desc).map (fun d => d.parameters.length) = some 1 := by decide +kernel
theorem hd_X1_setting : yX1_setting.cls = RX1 ∧ yX1_setting.cls ≠ "java/lang/invoke/MethodHandle" ∧ yX1_setting.cls ≠ "java/lang/invoke/VarHandle" ∧ (parseMethodDescriptor yX1_setting.desc).map (fun d => d.parameters.length) = some 1 := by decide +kernel
theorem hd_X1_changeSetting : yX1_changeSetting.cls = RX1 ∧ yX1_changeSetting.cls ≠ "java/lang/invoke/MethodHandle" ∧ yX1_changeSetting.cls ≠ "java/lang/invoke/VarHandle" ∧ (parseMethodDescriptor yX1_changeSetting.desc).map (fun d => d.parameters.length) = some 2 := by decide +kernel
theorem hd_X1_films : yX1_films.cls = RX1 ∧ yX1_films.cls ≠ "java/lang/invoke/MethodHandle" ∧ yX1_films.cls ≠ "java/lang/invoke/VarHandle" ∧ (parseMethodDescriptor yX1_films.desc).map (fun d => d.parameters.length) = some 0 := by decide +kernel
theorem hd_X1_hasFilm : yX1_hasFilm.cls = RX1 ∧ yX1_hasFilm.cls ≠ "java/lang/invoke/MethodHandle" ∧ yX1_hasFilm.cls ≠ "java/lang/invoke/VarHandle" ∧ (parseMethodDescriptor yX1_hasFilm.desc).map (fun d => d.parameters.length) = some 1 := by decide +kernel
theorem hd_X1_addFilm : yX1_addFilm.cls = RX1 ∧ yX1_addFilm.cls ≠ "java/lang/invoke/MethodHandle" ∧ yX1_addFilm.cls ≠ "java/lang/invoke/VarHandle" ∧ (parseMethodDescriptor yX1_addFilm.desc).map (fun d => d.parameters.length) = some 5 := by decide +kernel
theorem hd_X1_fact : yX1_fact.cls = RX1 ∧ yX1_fact.cls ≠ "java/lang/invoke/MethodHandle" ∧ yX1_fact.cls ≠ "java/lang/invoke/VarHandle" ∧ (parseMethodDescriptor yX1_fact.desc).map (fun d => d.parameters.length) = some 2 := by decide +kernel
theorem hd_X1_showAt : yX1_showAt.cls = RX1 ∧ yX1_showAt.cls ≠ "java/lang/invoke/MethodHandle" ∧ yX1_showAt.cls ≠ "java/lang/invoke/VarHandle" ∧ (parseMethodDescriptor yX1_showAt.desc).map (fun d => d.parameters.length) = some 1 := by decide +kernel
theorem hd_X1_replaceShow : yX1_replaceShow.cls = RX1 ∧ yX1_replaceShow.cls ≠ "java/lang/invoke/MethodHandle" ∧ yX1_replaceShow.cls ≠ "java/lang/invoke/VarHandle" ∧ (parseMethodDescriptor yX1_replaceShow.desc).map (fun d => d.parameters.length) = some 2 := by decide +kernel
theorem hd_X1_canHold : yX1_canHold.cls = RX1 ∧ yX1_canHold.cls ≠ "java/lang/invoke/MethodHandle" ∧ yX1_canHold.cls ≠ "java/lang/invoke/VarHandle" ∧ (parseMethodDescriptor yX1_canHold.desc).map (fun d => d.parameters.length) = some 2 := by decide +kernel
theorem hd_X1_firstDayShown : yX1_firstDayShown.cls = RX1 ∧ yX1_firstDayShown.cls ≠ "java/lang/invoke/MethodHandle" ∧ yX1_firstDayShown.cls ≠ "java/lang/invoke/VarHandle" ∧ (parseMethodDescriptor yX1_firstDayShown.desc).map (fun d => d.parameters.length) = some 1 := by decide +kernel
theorem hd_X1_rentOf : yX1_rentOf.cls = RX1 ∧ yX1_rentOf.cls ≠ "java/lang/invoke/MethodHandle" ∧ yX1_rentOf.cls ≠ "java/lang/invoke/VarHandle" ∧ (parseMethodDescriptor yX1_rentOf.desc).map (fun d => d.parameters.length) = some 1 := by decide +kernel
theorem hd_X1_changeRent : yX1_changeRent.cls = RX1 ∧ yX1_changeRent.cls ≠ "java/lang/invoke/MethodHandle" ∧ yX1_changeRent.cls ≠ "java/lang/invoke/VarHandle" ∧ (parseMethodDescriptor yX1_changeRent.desc).map (fun d => d.parameters.length) = some 2 := by decide +kernel
theorem hd_X1_rentsOf : yX1_rentsOf.cls = RX1 ∧ yX1_rentsOf.cls ≠ "java/lang/invoke/MethodHandle" ∧ yX1_rentsOf.cls ≠ "java/lang/invoke/VarHandle" ∧ (parseMethodDescriptor yX1_rentsOf.desc).map (fun d => d.parameters.length) = some 2 := by decide +kernel
theorem hd_X2_init : yX2_init.cls = RX2 ∧ yX2_init.cls ≠ "java/lang/invoke/MethodHandle" ∧ yX2_init.cls ≠ "java/lang/invoke/VarHandle" ∧ (parseMethodDescriptor yX2_init.desc).map (fun d => d.parameters.length) = some 0 := by decide +kernel
theorem hd_X2_size : yX2_size.cls = RX2 ∧ yX2_size.cls ≠ "java/lang/invoke/MethodHandle" ∧ yX2_size.cls ≠ "java/lang/invoke/VarHandle" ∧ (parseMethodDescriptor yX2_size.desc).map (fun d => d.parameters.length) = some 0 := by decide +kernel
theorem hd_X2_record : yX2_record.cls = RX2 ∧ yX2_record.cls ≠ "java/lang/invoke/MethodHandle" ∧ yX2_record.cls ≠ "java/lang/invoke/VarHandle" ∧ (parseMethodDescriptor yX2_record.desc).map (fun d => d.parameters.length) = some 1 := by decide +kernel
theorem hd_X3_init : yX3_init.cls = RX3 ∧ yX3_init.cls ≠ "java/lang/invoke/MethodHandle" ∧ yX3_init.cls ≠ "java/lang/invoke/VarHandle" ∧ (parseMethodDescriptor yX3_init.desc).map (fun d => d.parameters.length) = some 0 := by decide +kernel
theorem hd_X3_length : yX3_length.cls = RX3 ∧ yX3_length.cls ≠ "java/lang/invoke/MethodHandle" ∧ yX3_length.cls ≠ "java/lang/invoke/VarHandle" ∧ (parseMethodDescriptor yX3_length.desc).map (fun d => d.parameters.length) = some 0 := by decide +kernel
theorem hd_X4_init : yX4_init.cls = RX4 ∧ yX4_init.cls ≠ "java/lang/invoke/MethodHandle" ∧ yX4_init.cls ≠ "java/lang/invoke/VarHandle" ∧ (parseMethodDescriptor yX4_init.desc).map (fun d => d.parameters.length) = some 0 := by decide +kernel
theorem hd_X4_set : yX4_set.cls = RX4 ∧ yX4_set.cls ≠ "java/lang/invoke/MethodHandle" ∧ yX4_set.cls ≠ "java/lang/invoke/VarHandle" ∧ (parseMethodDescriptor yX4_set.desc).map (fun d => d.parameters.length) = some 2 := by decide +kernel
theorem hd_X4_film : yX4_film.cls = RX4 ∧ yX4_film.cls ≠ "java/lang/invoke/MethodHandle" ∧ yX4_film.cls ≠ "java/lang/invoke/VarHandle" ∧ (parseMethodDescriptor yX4_film.desc).map (fun d => d.parameters.length) = some 5 := by decide +kernel
theorem hd_X4_show : yX4_show.cls = RX4 ∧ yX4_show.cls ≠ "java/lang/invoke/MethodHandle" ∧ yX4_show.cls ≠ "java/lang/invoke/VarHandle" ∧ (parseMethodDescriptor yX4_show.desc).map (fun d => d.parameters.length) = some 3 := by decide +kernel
theorem hd_X4_drop : yX4_drop.cls = RX4 ∧ yX4_drop.cls ≠ "java/lang/invoke/MethodHandle" ∧ yX4_drop.cls ≠ "java/lang/invoke/VarHandle" ∧ (parseMethodDescriptor yX4_drop.desc).map (fun d => d.parameters.length) = some 2 := by decide +kernel
theorem hd_X4_exchange : yX4_exchange.cls = RX4 ∧ yX4_exchange.cls ≠ "java/lang/invoke/MethodHandle" ∧ yX4_exchange.cls ≠ "java/lang/invoke/VarHandle" ∧ (parseMethodDescriptor yX4_exchange.desc).map (fun d => d.parameters.length) = some 4 := by decide +kernel
theorem hd_X4_let : yX4_let.cls = RX4 ∧ yX4_let.cls ≠ "java/lang/invoke/MethodHandle" ∧ yX4_let.cls ≠ "java/lang/invoke/VarHandle" ∧ (parseMethodDescriptor yX4_let.desc).map (fun d => d.parameters.length) = some 2 := by decide +kernel
theorem hd_X4_at : yX4_at.cls = RX4 ∧ yX4_at.cls ≠ "java/lang/invoke/MethodHandle" ∧ yX4_at.cls ≠ "java/lang/invoke/VarHandle" ∧ (parseMethodDescriptor yX4_at.desc).map (fun d => d.parameters.length) = some 3 := by decide +kernel
theorem hd_X4_of : yX4_of.cls = RX4 ∧ yX4_of.cls ≠ "java/lang/invoke/MethodHandle" ∧ yX4_of.cls ≠ "java/lang/invoke/VarHandle" ∧ (parseMethodDescriptor yX4_of.desc).map (fun d => d.parameters.length) = some 2 := by decide +kernel
theorem hd_X4_inWeek : yX4_inWeek.cls = RX4 ∧ yX4_inWeek.cls ≠ "java/lang/invoke/MethodHandle" ∧ yX4_inWeek.cls ≠ "java/lang/invoke/VarHandle" ∧ (parseMethodDescriptor yX4_inWeek.desc).map (fun d => d.parameters.length) = some 3 := by decide +kernel
theorem hd_X4_week : yX4_week.cls = RX4 ∧ yX4_week.cls ≠ "java/lang/invoke/MethodHandle" ∧ yX4_week.cls ≠ "java/lang/invoke/VarHandle" ∧ (parseMethodDescriptor yX4_week.desc).map (fun d => d.parameters.length) = some 2 := by decide +kernel
theorem hd_X4_rent : yX4_rent.cls = RX4 ∧ yX4_rent.cls ≠ "java/lang/invoke/MethodHandle" ∧ yX4_rent.cls ≠ "java/lang/invoke/VarHandle" ∧ (parseMethodDescriptor yX4_rent.desc).map (fun d => d.parameters.length) = some 1 := by decide +kernel
theorem hd_X4_count : yX4_count.cls = RX4 ∧ yX4_count.cls ≠ "java/lang/invoke/MethodHandle" ∧ yX4_count.cls ≠ "java/lang/invoke/VarHandle" ∧ (parseMethodDescriptor yX4_count.desc).map (fun d => d.parameters.length) = some 1 := by decide +kernel
theorem hd_X4_ifShown : yX4_ifShown.cls = RX4 ∧ yX4_ifShown.cls ≠ "java/lang/invoke/MethodHandle" ∧ yX4_ifShown.cls ≠ "java/lang/invoke/VarHandle" ∧ (parseMethodDescriptor yX4_ifShown.desc).map (fun d => d.parameters.length) = some 3 := by decide +kernel
theorem hd_X4_isWithin : yX4_isWithin.cls = RX4 ∧ yX4_isWithin.cls ≠ "java/lang/invoke/MethodHandle" ∧ yX4_isWithin.cls ≠ "java/lang/invoke/VarHandle" ∧ (parseMethodDescriptor yX4_isWithin.desc).map (fun d => d.parameters.length) = some 3 := by decide +kernel
theorem hd_X4_isDay : yX4_isDay.cls = RX4 ∧ yX4_isDay.cls ≠ "java/lang/invoke/MethodHandle" ∧ yX4_isDay.cls ≠ "java/lang/invoke/VarHandle" ∧ (parseMethodDescriptor yX4_isDay.desc).map (fun d => d.parameters.length) = some 1 := by decide +kernel
theorem hd_X4_isWeek : yX4_isWeek.cls = RX4 ∧ yX4_isWeek.cls ≠ "java/lang/invoke/MethodHandle" ∧ yX4_isWeek.cls ≠ "java/lang/invoke/VarHandle" ∧ (parseMethodDescriptor yX4_isWeek.desc).map (fun d => d.parameters.length) = some 1 := by decide +kernel
theorem hd_X4_isPlace : yX4_isPlace.cls = RX4 ∧ yX4_isPlace.cls ≠ "java/lang/invoke/MethodHandle" ∧ yX4_isPlace.cls ≠ "java/lang/invoke/VarHandle" ∧ (parseMethodDescriptor yX4_isPlace.desc).map (fun d => d.parameters.length) = some 2 := by decide +kernel
theorem hd_X4_placeOf : yX4_placeOf.cls = RX4 ∧ yX4_placeOf.cls ≠ "java/lang/invoke/MethodHandle" ∧ yX4_placeOf.cls ≠ "java/lang/invoke/VarHandle" ∧ (parseMethodDescriptor yX4_placeOf.desc).map (fun d => d.parameters.length) = some 2 := by decide +kernel
theorem hd_X4_errorOfShow : yX4_errorOfShow.cls = RX4 ∧ yX4_errorOfShow.cls ≠ "java/lang/invoke/MethodHandle" ∧ yX4_errorOfShow.cls ≠ "java/lang/invoke/VarHandle" ∧ (parseMethodDescriptor yX4_errorOfShow.desc).map (fun d => d.parameters.length) = some 3 := by decide +kernel
theorem hd_X4_dropShowsOfDay : yX4_dropShowsOfDay.cls = RX4 ∧ yX4_dropShowsOfDay.cls ≠ "java/lang/invoke/MethodHandle" ∧ yX4_dropShowsOfDay.cls ≠ "java/lang/invoke/VarHandle" ∧ (parseMethodDescriptor yX4_dropShowsOfDay.desc).map (fun d => d.parameters.length) = some 1 := by decide +kernel
theorem hd_X4_sumOfFilm : yX4_sumOfFilm.cls = RX4 ∧ yX4_sumOfFilm.cls ≠ "java/lang/invoke/MethodHandle" ∧ yX4_sumOfFilm.cls ≠ "java/lang/invoke/VarHandle" ∧ (parseMethodDescriptor yX4_sumOfFilm.desc).map (fun d => d.parameters.length) = some 2 := by decide +kernel
theorem hd_X4_sumOfFilms : yX4_sumOfFilms.cls = RX4 ∧ yX4_sumOfFilms.cls ≠ "java/lang/invoke/MethodHandle" ∧ yX4_sumOfFilms.cls ≠ "java/lang/invoke/VarHandle" ∧ (parseMethodDescriptor yX4_sumOfFilms.desc).map (fun d => d.parameters.length) = some 1 := by decide +kernel
theorem hd_X4_sumOfFilmsInWeek : yX4_sumOfFilmsInWeek.cls = RX4 ∧ yX4_sumOfFilmsInWeek.cls ≠ "java/lang/invoke/MethodHandle" ∧ yX4_sumOfFilmsInWeek.cls ≠ "java/lang/invoke/VarHandle" ∧ (parseMethodDescriptor yX4_sumOfFilmsInWeek.desc).map (fun d => d.parameters.length) = some 2 := by decide +kernel
theorem hd_X4_fullShows : yX4_fullShows.cls = RX4 ∧ yX4_fullShows.cls ≠ "java/lang/invoke/MethodHandle" ∧ yX4_fullShows.cls ≠ "java/lang/invoke/VarHandle" ∧ (parseMethodDescriptor yX4_fullShows.desc).map (fun d => d.parameters.length) = some 0 := by decide +kernel
theorem hd_X4_leftOfFilm : yX4_leftOfFilm.cls = RX4 ∧ yX4_leftOfFilm.cls ≠ "java/lang/invoke/MethodHandle" ∧ yX4_leftOfFilm.cls ≠ "java/lang/invoke/VarHandle" ∧ (parseMethodDescriptor yX4_leftOfFilm.desc).map (fun d => d.parameters.length) = some 1 := by decide +kernel
theorem hd_X4_gainWith : yX4_gainWith.cls = RX4 ∧ yX4_gainWith.cls ≠ "java/lang/invoke/MethodHandle" ∧ yX4_gainWith.cls ≠ "java/lang/invoke/VarHandle" ∧ (parseMethodDescriptor yX4_gainWith.desc).map (fun d => d.parameters.length) = some 2 := by decide +kernel
theorem ic_m6 : Int32.ofInt (-6) = -6 := by decide
theorem ic_m5 : Int32.ofInt (-5) = -5 := by decide
theorem ic_m4 : Int32.ofInt (-4) = -4 := by decide
theorem ic_m3 : Int32.ofInt (-3) = -3 := by decide
theorem ic_m2 : Int32.ofInt (-2) = -2 := by decide
theorem ic_m1 : Int32.ofInt (-1) = -1 := by decide
theorem ic_0 : Int32.ofInt (0) = 0 := by decide
theorem ic_1 : Int32.ofInt (1) = 1 := by decide
theorem ic_2 : Int32.ofInt (2) = 2 := by decide
theorem ic_3 : Int32.ofInt (3) = 3 := by decide
theorem ic_4 : Int32.ofInt (4) = 4 := by decide
theorem ic_5 : Int32.ofInt (5) = 5 := by decide
theorem bp_m6 : (Int8.ofInt (-6)).toInt32 = -6 := by decide
theorem bp_m5 : (Int8.ofInt (-5)).toInt32 = -5 := by decide
theorem bp_m4 : (Int8.ofInt (-4)).toInt32 = -4 := by decide
theorem bp_m3 : (Int8.ofInt (-3)).toInt32 = -3 := by decide
theorem bp_m2 : (Int8.ofInt (-2)).toInt32 = -2 := by decide
theorem bp_6 : (Int8.ofInt (6)).toInt32 = 6 := by decide
theorem bp_7 : (Int8.ofInt (7)).toInt32 = 7 := by decide
theorem bp_8 : (Int8.ofInt (8)).toInt32 = 8 := by decide
theorem bp_9 : (Int8.ofInt (9)).toInt32 = 9 := by decide
theorem bp_10 : (Int8.ofInt (10)).toInt32 = 10 := by decide
theorem bp_12 : (Int8.ofInt (12)).toInt32 = 12 := by decide
theorem bp_14 : (Int8.ofInt (14)).toInt32 = 14 := by decide
theorem bp_20 : (Int8.ofInt (20)).toInt32 = 20 := by decide
theorem bp_25 : (Int8.ofInt (25)).toInt32 = 25 := by decide
theorem bp_28 : (Int8.ofInt (28)).toInt32 = 28 := by decide
theorem bp_30 : (Int8.ofInt (30)).toInt32 = 30 := by decide
theorem bp_31 : (Int8.ofInt (31)).toInt32 = 31 := by decide
theorem bp_33 : (Int8.ofInt (33)).toInt32 = 33 := by decide
theorem bp_34 : (Int8.ofInt (34)).toInt32 = 34 := by decide
theorem bp_35 : (Int8.ofInt (35)).toInt32 = 35 := by decide
theorem bp_40 : (Int8.ofInt (40)).toInt32 = 40 := by decide
theorem bp_44 : (Int8.ofInt (44)).toInt32 = 44 := by decide
theorem bp_46 : (Int8.ofInt (46)).toInt32 = 46 := by decide
theorem bp_48 : (Int8.ofInt (48)).toInt32 = 48 := by decide
theorem bp_49 : (Int8.ofInt (49)).toInt32 = 49 := by decide
theorem bp_50 : (Int8.ofInt (50)).toInt32 = 50 := by decide
theorem bp_51 : (Int8.ofInt (51)).toInt32 = 51 := by decide
theorem bp_52 : (Int8.ofInt (52)).toInt32 = 52 := by decide
theorem bp_55 : (Int8.ofInt (55)).toInt32 = 55 := by decide
theorem bp_57 : (Int8.ofInt (57)).toInt32 = 57 := by decide
theorem bp_60 : (Int8.ofInt (60)).toInt32 = 60 := by decide
theorem bp_69 : (Int8.ofInt (69)).toInt32 = 69 := by decide
theorem bp_70 : (Int8.ofInt (70)).toInt32 = 70 := by decide
theorem bp_80 : (Int8.ofInt (80)).toInt32 = 80 := by decide
theorem bp_90 : (Int8.ofInt (90)).toInt32 = 90 := by decide
theorem bp_97 : (Int8.ofInt (97)).toInt32 = 97 := by decide
theorem bp_100 : (Int8.ofInt (100)).toInt32 = 100 := by decide
theorem bp_101 : (Int8.ofInt (101)).toInt32 = 101 := by decide
theorem bp_116 : (Int8.ofInt (116)).toInt32 = 116 := by decide
theorem bp_126 : (Int8.ofInt (126)).toInt32 = 126 := by decide
theorem sp_151 : (Int16.ofInt (151)).toInt32 = 151 := by decide
theorem sp_200 : (Int16.ofInt (200)).toInt32 = 200 := by decide
theorem sp_300 : (Int16.ofInt (300)).toInt32 = 300 := by decide
theorem sp_302 : (Int16.ofInt (302)).toInt32 = 302 := by decide
theorem sp_500 : (Int16.ofInt (500)).toInt32 = 500 := by decide
theorem sp_755 : (Int16.ofInt (755)).toInt32 = 755 := by decide
theorem sp_906 : (Int16.ofInt (906)).toInt32 = 906 := by decide
theorem sp_999 : (Int16.ofInt (999)).toInt32 = 999 := by decide
theorem sp_5000 : (Int16.ofInt (5000)).toInt32 = 5000 := by decide
theorem inc9 (d : Nat) : nI d + Int32.ofInt 1 = nI (d + 1) := nI_1 d
theorem dec9 (d : Nat) : nI (d + 1) + Int32.ofInt (-1) = nI d := by rw [show Int32.ofInt (-1) = (-1 : Int32) by decide]; exact pk_m1 d
end
section
/-! ===== the law: the heads of its methods, its constants ===== -/
set_option maxRecDepth 20000 in
theorem ct_L_cell_7 : Cond.constant RL 7 (760123163) ∈ wsL_cell := List.mem_of_getElem? (i := 1) (by decide +kernel)
set_option maxRecDepth 20000 in
theorem ct_L_cell_8 : Cond.constant RL 8 (1518091113) ∈ wsL_cell := List.mem_of_getElem? (i := 2) (by decide +kernel)
theorem hd_L_cell : yL_cell.cls = RL ∧ yL_cell.cls ≠ "java/lang/invoke/MethodHandle" ∧ yL_cell.cls ≠ "java/lang/invoke/VarHandle" ∧ (parseMethodDescriptor yL_cell.desc).map (fun d => d.parameters.length) = some 2 := by decide +kernel
set_option maxRecDepth 20000 in
theorem ct_L_low_9 : Cond.constant RL 9 (2147483647) ∈ wsL_low := List.mem_of_getElem? (i := 1) (by decide +kernel)
theorem hd_L_low : yL_low.cls = RL ∧ yL_low.cls ≠ "java/lang/invoke/MethodHandle" ∧ yL_low.cls ≠ "java/lang/invoke/VarHandle" ∧ (parseMethodDescriptor yL_low.desc).map (fun d => d.parameters.length) = some 2 := by decide +kernel
theorem hd_L_leftAt : yL_leftAt.cls = RL ∧ yL_leftAt.cls ≠ "java/lang/invoke/MethodHandle" ∧ yL_leftAt.cls ≠ "java/lang/invoke/VarHandle" ∧ (parseMethodDescriptor yL_leftAt.desc).map (fun d => d.parameters.length) = some 6 := by decide +kernel
theorem hd_L_coming : yL_coming.cls = RL ∧ yL_coming.cls ≠ "java/lang/invoke/MethodHandle" ∧ yL_coming.cls ≠ "java/lang/invoke/VarHandle" ∧ (parseMethodDescriptor yL_coming.desc).map (fun d => d.parameters.length) = some 3 := by decide +kernel
theorem hd_L_film : yL_film.cls = RL ∧ yL_film.cls ≠ "java/lang/invoke/MethodHandle" ∧ yL_film.cls ≠ "java/lang/invoke/VarHandle" ∧ (parseMethodDescriptor yL_film.desc).map (fun d => d.parameters.length) = some 4 := by decide +kernel
theorem hd_L_people : yL_people.cls = RL ∧ yL_people.cls ≠ "java/lang/invoke/MethodHandle" ∧ yL_people.cls ≠ "java/lang/invoke/VarHandle" ∧ (parseMethodDescriptor yL_people.desc).map (fun d => d.parameters.length) = some 6 := by decide +kernel
theorem hd_L_shows : yL_shows.cls = RL ∧ yL_shows.cls ≠ "java/lang/invoke/MethodHandle" ∧ yL_shows.cls ≠ "java/lang/invoke/VarHandle" ∧ (parseMethodDescriptor yL_shows.desc).map (fun d => d.parameters.length) = some 4 := by decide +kernel
theorem hd_L_takings : yL_takings.cls = RL ∧ yL_takings.cls ≠ "java/lang/invoke/MethodHandle" ∧ yL_takings.cls ≠ "java/lang/invoke/VarHandle" ∧ (parseMethodDescriptor yL_takings.desc).map (fun d => d.parameters.length) = some 6 := by decide +kernel
theorem hd_L_share : yL_share.cls = RL ∧ yL_share.cls ≠ "java/lang/invoke/MethodHandle" ∧ yL_share.cls ≠ "java/lang/invoke/VarHandle" ∧ (parseMethodDescriptor yL_share.desc).map (fun d => d.parameters.length) = some 5 := by decide +kernel
theorem hd_L_due : yL_due.cls = RL ∧ yL_due.cls ≠ "java/lang/invoke/MethodHandle" ∧ yL_due.cls ≠ "java/lang/invoke/VarHandle" ∧ (parseMethodDescriptor yL_due.desc).map (fun d => d.parameters.length) = some 6 := by decide +kernel
theorem hd_L_left : yL_left.cls = RL ∧ yL_left.cls ≠ "java/lang/invoke/MethodHandle" ∧ yL_left.cls ≠ "java/lang/invoke/VarHandle" ∧ (parseMethodDescriptor yL_left.desc).map (fun d => d.parameters.length) = some 5 := by decide +kernel
set_option maxRecDepth 20000 in
theorem ct_L_same_9 : Cond.constant RL 9 (2147483647) ∈ wsL_same := List.mem_of_getElem? (i := 163) (by decide +kernel)
set_option maxRecDepth 20000 in
theorem ct_L_same_63 : Cond.constant RL 63 (1000000) ∈ wsL_same := List.mem_of_getElem? (i := 1) (by decide +kernel)
theorem hd_L_same : yL_same.cls = RL ∧ yL_same.cls ≠ "java/lang/invoke/MethodHandle" ∧ yL_same.cls ≠ "java/lang/invoke/VarHandle" ∧ (parseMethodDescriptor yL_same.desc).map (fun d => d.parameters.length) = some 7 := by decide +kernel
set_option maxRecDepth 20000 in
theorem ct_L_law_7 : Cond.constant RL 7 (760123163) ∈ wsL_law := List.mem_of_getElem? (i := 61) (by decide +kernel)
set_option maxRecDepth 20000 in
theorem ct_L_law_8 : Cond.constant RL 8 (1518091113) ∈ wsL_law := List.mem_of_getElem? (i := 62) (by decide +kernel)
set_option maxRecDepth 20000 in
theorem ct_L_law_9 : Cond.constant RL 9 (2147483647) ∈ wsL_law := List.mem_of_getElem? (i := 66) (by decide +kernel)
set_option maxRecDepth 20000 in
theorem ct_L_law_63 : Cond.constant RL 63 (1000000) ∈ wsL_law := List.mem_of_getElem? (i := 4) (by decide +kernel)
theorem hd_L_law : yL_law.cls = RL ∧ yL_law.cls ≠ "java/lang/invoke/MethodHandle" ∧ yL_law.cls ≠ "java/lang/invoke/VarHandle" ∧ (parseMethodDescriptor yL_law.desc).map (fun d => d.parameters.length) = some 1 := by decide +kernel
theorem bp_11 : (Int8.ofInt (11)).toInt32 = 11 := by decide
theorem bp_16 : (Int8.ofInt (16)).toInt32 = 16 := by decide
theorem bp_71 : (Int8.ofInt (71)).toInt32 = 71 := by decide
theorem sp_201 : (Int16.ofInt (201)).toInt32 = 201 := by decide
theorem sp_291 : (Int16.ofInt (291)).toInt32 = 291 := by decide
theorem sp_501 : (Int16.ofInt (501)).toInt32 = 501 := by decide
theorem sp_1000 : (Int16.ofInt (1000)).toInt32 = 1000 := by decide
end
section
theorem lit9 (n : Nat) : (OfNat.ofNat n : Int32) = nI n := rfl
/-! the reference: its object at ad 0, its arrays at ad 1 .. ad 12 (σ 0 .. σ 11), its whole numbers σ 12 0 .. σ 12 5 -/
def mFs (ad : Nat → Nat) (σ : S9) : List Value := [.ref (ad 1), .ref (ad 2), .int (σ 12 0), .ref (ad 3), .ref (ad 4), .ref (ad 5), .int (σ 12 1), .ref (ad 6), .ref (ad 7), .ref (ad 8), .ref (ad 9), .ref (ad 10), .ref (ad 11), .ref (ad 12), .int (σ 12 2), .int (σ 12 3), .int (σ 12 4), .int (σ 12 5)]
def mW (ad : Nat → Nat) (cI : ClassId) (σ : S9) : va_W := [(ad 0, .inr (5, mFs ad σ)), (ad 1, .inl (cI, 151, .inl (σ 0))), (ad 2, .inl (cI, 906, .inl (σ 1))), (ad 3, .inl (cI, 302, .inl (σ 2))), (ad 4, .inl (cI, 2, .inl (σ 3))), (ad 5, .inl (cI, 60, .inl (σ 4))), (ad 6, .inl (cI, 70, .inl (σ 5))), (ad 7, .inl (cI, 70, .inl (σ 6))), (ad 8, .inl (cI, 8, .inl (σ 7))), (ad 9, .inl (cI, 40, .inl (σ 8))), (ad 10, .inl (cI, 40, .inl (σ 9))), (ad 11, .inl (cI, 40, .inl (σ 10))), (ad 12, .inl (cI, 40, .inl (σ 11)))]
theorem mW_a0 (ad : Nat → Nat) (cI : ClassId) (σ : S9) (g : Nat → Int32) : (mW ad cI σ).set 1 (ad 1, .inl (cI, 151, .inl g)) = mW ad cI (st9 σ 0 g) := by simp [mW, mFs, st9]
theorem mW_a1 (ad : Nat → Nat) (cI : ClassId) (σ : S9) (g : Nat → Int32) : (mW ad cI σ).set 2 (ad 2, .inl (cI, 906, .inl g)) = mW ad cI (st9 σ 1 g) := by simp [mW, mFs, st9]
theorem mW_a2 (ad : Nat → Nat) (cI : ClassId) (σ : S9) (g : Nat → Int32) : (mW ad cI σ).set 3 (ad 3, .inl (cI, 302, .inl g)) = mW ad cI (st9 σ 2 g) := by simp [mW, mFs, st9]
theorem mW_a3 (ad : Nat → Nat) (cI : ClassId) (σ : S9) (g : Nat → Int32) : (mW ad cI σ).set 4 (ad 4, .inl (cI, 2, .inl g)) = mW ad cI (st9 σ 3 g) := by simp [mW, mFs, st9]
theorem mW_a4 (ad : Nat → Nat) (cI : ClassId) (σ : S9) (g : Nat → Int32) : (mW ad cI σ).set 5 (ad 5, .inl (cI, 60, .inl g)) = mW ad cI (st9 σ 4 g) := by simp [mW, mFs, st9]
theorem mW_a5 (ad : Nat → Nat) (cI : ClassId) (σ : S9) (g : Nat → Int32) : (mW ad cI σ).set 6 (ad 6, .inl (cI, 70, .inl g)) = mW ad cI (st9 σ 5 g) := by simp [mW, mFs, st9]
theorem mW_a6 (ad : Nat → Nat) (cI : ClassId) (σ : S9) (g : Nat → Int32) : (mW ad cI σ).set 7 (ad 7, .inl (cI, 70, .inl g)) = mW ad cI (st9 σ 6 g) := by simp [mW, mFs, st9]
theorem mW_a7 (ad : Nat → Nat) (cI : ClassId) (σ : S9) (g : Nat → Int32) : (mW ad cI σ).set 8 (ad 8, .inl (cI, 8, .inl g)) = mW ad cI (st9 σ 7 g) := by simp [mW, mFs, st9]
theorem mW_a8 (ad : Nat → Nat) (cI : ClassId) (σ : S9) (g : Nat → Int32) : (mW ad cI σ).set 9 (ad 9, .inl (cI, 40, .inl g)) = mW ad cI (st9 σ 8 g) := by simp [mW, mFs, st9]
theorem mW_a9 (ad : Nat → Nat) (cI : ClassId) (σ : S9) (g : Nat → Int32) : (mW ad cI σ).set 10 (ad 10, .inl (cI, 40, .inl g)) = mW ad cI (st9 σ 9 g) := by simp [mW, mFs, st9]
theorem mW_a10 (ad : Nat → Nat) (cI : ClassId) (σ : S9) (g : Nat → Int32) : (mW ad cI σ).set 11 (ad 11, .inl (cI, 40, .inl g)) = mW ad cI (st9 σ 10 g) := by simp [mW, mFs, st9]
theorem mW_a11 (ad : Nat → Nat) (cI : ClassId) (σ : S9) (g : Nat → Int32) : (mW ad cI σ).set 12 (ad 12, .inl (cI, 40, .inl g)) = mW ad cI (st9 σ 11 g) := by simp [mW, mFs, st9]
theorem mW_f0 (ad : Nat → Nat) (cI : ClassId) (σ : S9) (x : Int32) : (mW ad cI σ).set 0 (ad 0, .inr (5, (mFs ad σ).set 2 (.int x))) = mW ad cI (st9 σ 12 (upd (σ 12) 0 x)) := by simp [mW, mFs, st9, upd]
theorem mW_f1 (ad : Nat → Nat) (cI : ClassId) (σ : S9) (x : Int32) : (mW ad cI σ).set 0 (ad 0, .inr (5, (mFs ad σ).set 6 (.int x))) = mW ad cI (st9 σ 12 (upd (σ 12) 1 x)) := by simp [mW, mFs, st9, upd]
theorem mW_f2 (ad : Nat → Nat) (cI : ClassId) (σ : S9) (x : Int32) : (mW ad cI σ).set 0 (ad 0, .inr (5, (mFs ad σ).set 14 (.int x))) = mW ad cI (st9 σ 12 (upd (σ 12) 2 x)) := by simp [mW, mFs, st9, upd]
theorem mW_f3 (ad : Nat → Nat) (cI : ClassId) (σ : S9) (x : Int32) : (mW ad cI σ).set 0 (ad 0, .inr (5, (mFs ad σ).set 15 (.int x))) = mW ad cI (st9 σ 12 (upd (σ 12) 3 x)) := by simp [mW, mFs, st9, upd]
theorem mW_f4 (ad : Nat → Nat) (cI : ClassId) (σ : S9) (x : Int32) : (mW ad cI σ).set 0 (ad 0, .inr (5, (mFs ad σ).set 16 (.int x))) = mW ad cI (st9 σ 12 (upd (σ 12) 4 x)) := by simp [mW, mFs, st9, upd]
theorem mW_f5 (ad : Nat → Nat) (cI : ClassId) (σ : S9) (x : Int32) : (mW ad cI σ).set 0 (ad 0, .inr (5, (mFs ad σ).set 17 (.int x))) = mW ad cI (st9 σ 12 (upd (σ 12) 5 x)) := by simp [mW, mFs, st9, upd]
def mLen (a : Nat) : Nat := ([151, 906, 302, 2, 60, 70, 70, 8, 40, 40, 40, 40] : List Nat).getD a 0
theorem mW_get (ad : Nat → Nat) (cI : ClassId) (σ : S9) {a : Nat} (h : a < 12) : (mW ad cI σ)[a + 1]? = some (ad (a + 1), .inl (cI, mLen a, .inl (σ a))) := by
  rcases (show a = 0 ∨ a = 1 ∨ a = 2 ∨ a = 3 ∨ a = 4 ∨ a = 5 ∨ a = 6 ∨ a = 7 ∨ a = 8 ∨ a = 9 ∨ a = 10 ∨ a = 11 by omega) with rfl | rfl | rfl | rfl | rfl | rfl | rfl | rfl | rfl | rfl | rfl | rfl <;> rfl
theorem mW_ax (ad : Nat → Nat) (cI : ClassId) (σ : S9) (g : Nat → Int32) {a : Nat} (h : a < 12) : (mW ad cI σ).set (a + 1) (ad (a + 1), .inl (cI, mLen a, .inl g)) = mW ad cI (st9 σ a g) := by
  rcases (show a = 0 ∨ a = 1 ∨ a = 2 ∨ a = 3 ∨ a = 4 ∨ a = 5 ∨ a = 6 ∨ a = 7 ∨ a = 8 ∨ a = 9 ∨ a = 10 ∨ a = 11 by omega) with rfl | rfl | rfl | rfl | rfl | rfl | rfl | rfl | rfl | rfl | rfl | rfl
  · exact mW_a0 ad cI σ g
  · exact mW_a1 ad cI σ g
  · exact mW_a2 ad cI σ g
  · exact mW_a3 ad cI σ g
  · exact mW_a4 ad cI σ g
  · exact mW_a5 ad cI σ g
  · exact mW_a6 ad cI σ g
  · exact mW_a7 ad cI σ g
  · exact mW_a8 ad cI σ g
  · exact mW_a9 ad cI σ g
  · exact mW_a10 ad cI σ g
  · exact mW_a11 ad cI σ g
end
section
def p_in (v lo hi : Int32) : Int32 := if v < lo then 0 else if hi < v then 0 else 1
theorem p_in_nar (v lo hi : Int32) : narrow .boolean (.int (p_in v lo hi)) = .int (p_in v lo hi) := by
  unfold p_in
  split
  · rfl
  · split <;> rfl
end
section
theorem st9_tw (σ : S9) (i : Nat) (g h : Nat → Int32) : st9 (st9 σ i g) i h = st9 σ i h := by
  funext k
  by_cases e : k = i <;> simp [st9, e]
theorem st9_sw (σ : S9) {i j : Nat} (g h : Nat → Int32) (n : i ≠ j) : st9 (st9 σ i g) j h = st9 (st9 σ j h) i g := by
  funext k
  by_cases e : k = i
  · subst e
    simp [st9, n]
  · by_cases e2 : k = j
    · subst e2
      simp [st9, e]
    · simp [st9, e, e2]
theorem st9_id (σ : S9) (i : Nat) : st9 σ i (σ i) = σ := by
  funext k
  by_cases e : k = i <;> simp [st9, e]
theorem upd_tw (f : Nat → Int32) (k : Nat) (x y : Int32) : upd (upd f k x) k y = upd f k y := by
  funext j
  by_cases e : j = k <;> simp [upd, e]
theorem upd_id (f : Nat → Int32) (k : Nat) : upd f k (f k) = f := by
  funext j
  by_cases e : j = k <;> simp [upd, e]
theorem upd_s (f : Nat → Int32) (k : Nat) (x : Int32) : upd f k x k = x := if_pos rfl
theorem upd_n (f : Nat → Int32) {j k : Nat} (x : Int32) (h : j ≠ k) : upd f k x j = f j := if_neg h
def sm9 (t : Nat → Int32) : Nat → Int32
  | 0 => 0
  | d + 1 => sm9 t d + t d
def it9 (g : Nat → S9 → S9) : Nat → S9 → S9
  | 0, u => u
  | k + 1, u => g k (it9 g k u)
def p_part (d q : Int32) : Int32 := if p_in d 0 34 = 0 then 0 else if p_in q 0 1 = 0 then 0 else 1
theorem p_part_nar (d q : Int32) : narrow .boolean (.int (p_part d q)) = .int (p_part d q) := by
  unfold p_part
  split
  · rfl
  · split <;> rfl
def p_let (r : Nat → Int32) (d : Nat) : Int32 := if r (116 + d) ≤ 0 then 0 else 1
def p_canShow (r : Nat → Int32) (f d : Nat) : Int32 := if ¬ p_let r d = 0 then 0 else if nI d < r (6 + 5 * f + 4) then 0 else 1
def p_why (r : Nat → Int32) (f d q : Int32) : Int32 := if p_in f 0 (r 5 - 1) = 0 then -1 else if p_part d q = 0 then -2 else if p_canShow r f.toNatClampNeg d.toNatClampNeg = 0 then -5 else 0
theorem p_in_ne {v lo hi : Int32} (h : ¬ p_in v lo hi = 0) : lo ≤ v ∧ v ≤ hi := by
  unfold p_in at h
  by_cases h1 : v < lo
  · simp [h1] at h
  · by_cases h2 : hi < v
    · simp [h1, h2] at h
    · exact ⟨Int32.not_lt.mp h1, Int32.not_lt.mp h2⟩
theorem p_in_nI {v : Int32} {n : Nat} (hn : n < 2 ^ 31) (h : ¬ p_in v 0 (nI n) = 0) : ∃ j : Nat, j ≤ n ∧ v = nI j := by
  obtain ⟨h1, h2⟩ := p_in_ne h
  exact nI_of2 (M := nI n) (nI_toInt hn) (Int32.not_lt.mpr h1) h2
theorem p_part_ne {d q : Int32} (h : ¬ p_part d q = 0) : ∃ (i j : Nat), i < 35 ∧ j < 2 ∧ d = nI i ∧ q = nI j := by
  unfold p_part at h
  by_cases h1 : p_in d 0 34 = 0
  · simp [h1] at h
  · by_cases h2 : p_in q 0 1 = 0
    · simp [h1, h2] at h
    · obtain ⟨i, hi, rfl⟩ := p_in_nI (n := 34) (by decide) h1
      obtain ⟨j, hj, rfl⟩ := p_in_nI (n := 1) (by decide) h2
      exact ⟨i, j, by omega, by omega, rfl, rfl⟩
theorem p_film_ne {f : Int32} {r : Nat → Int32} {n : Nat} (hn : r 5 = nI n) (h8 : n ≤ 8) (h : ¬ p_in f 0 (r 5 - 1) = 0) : ∃ i : Nat, i < n ∧ f = nI i := by
  rcases Nat.eq_zero_or_pos n with h0 | h0
  · subst h0
    obtain ⟨h1, h2⟩ := p_in_ne h
    rw [hn] at h2
    have h3 := Int32.le_trans h1 h2
    exact absurd h3 (by decide)
  · rw [hn, show nI n - 1 = nI (n - 1) by have := nI_pred (n - 1); rwa [Nat.sub_add_cancel h0] at this] at h
    obtain ⟨i, hi, rfl⟩ := p_in_nI (by omega) h
    exact ⟨i, by omega, rfl⟩
theorem nI_cl {n : Nat} (h : n < 100000) : (nI n).toNatClampNeg = n := nI_clamp (by omega)
def p_canBe (r : Nat → Int32) (x : Int32) (d : Nat) : Int32 := if ¬ p_let r d = 0 then 0 else if x = -6 then 1 else if nI d < r (6 + 5 * x.toNatClampNeg + 4) then 0 else 1
def mvF (g h : Nat → Int32) (fo t : Nat) : Nat → (Nat → Int32)
  | 0 => h
  | k + 1 => upd (mvF g h fo t k) (t + k) (g (fo + k))
theorem mvF_in (g h : Nat → Int32) (fo t : Nat) : ∀ (n k : Nat), k < n → mvF g h fo t n (t + k) = g (fo + k)
  | 0, k, hk => absurd hk (Nat.not_lt_zero k)
  | n + 1, k, hk => by
    by_cases e : k = n
    · subst e
      exact upd_s _ _ _
    · rw [mvF, upd_n _ _ (by omega)]
      exact mvF_in g h fo t n k (by omega)
theorem mvF_out (g h : Nat → Int32) (fo t : Nat) {j : Nat} : ∀ (n : Nat), (j < t ∨ t + n ≤ j) → mvF g h fo t n j = h j
  | 0, _ => rfl
  | n + 1, hj => by
    rw [mvF, upd_n _ _ (by omega)]
    exact mvF_out g h fo t n (by omega)
def shF (g : Nat → Int32) : Nat → (Nat → Int32)
  | 0 => g
  | k + 1 => upd (shF g k) k (shF g k (k + 151))
theorem shF_spec (g : Nat → Int32) : ∀ (n j : Nat), shF g n j = if j < n then g (j + 151) else g j
  | 0, j => by simp [shF]
  | n + 1, j => by
    rw [shF]
    by_cases e : j = n
    · subst e
      rw [upd_s, shF_spec g j (j + 151), if_neg (by omega), if_pos (by omega)]
    · rw [upd_n _ _ e, shF_spec g n j]
      by_cases h : j < n
      · rw [if_pos h, if_pos (by omega)]
      · rw [if_neg h, if_neg (by omega)]
def rcN (n : Nat) : Nat := if n = 6 then 5 else n
def rcH (σ : S9) (n : Nat) : Nat → Int32 := mvF (σ 0) (if n = 6 then shF (σ 1) 755 else σ 1) 0 (rcN n * 151) 151
def rcM (σ : S9) (n : Nat) : S9 := st9 (st9 σ 1 (rcH σ n)) 12 (upd (σ 12) 0 (nI (rcN n + 1)))
end
section
theorem sw9 {x : Int32} {n : Nat} (hn : n < 100) (h : ∀ j, j ≤ n → ¬ x = nI j) : x.toInt < 0 ∨ (n : Int) < x.toInt := by
  by_cases h0 : x < 0
  · left
    have := Int32.lt_iff_toInt_lt.mp h0
    simpa using this
  · right
    by_cases h1 : x ≤ nI n
    · obtain ⟨j, hj, e⟩ := nI_of2 (M := nI n) (nI_toInt (by omega)) h0 h1
      exact absurd e (h j hj)
    · have h2 := Int32.lt_iff_toInt_lt.mp (Int32.not_le.mp h1)
      rwa [nI_toInt (by omega)] at h2
/-- a row of the hall as it must be: n films, every show a film's or none -/
def wfS (r : Nat → Int32) (n : Nat) : Prop := r 5 = nI n ∧ n ≤ 8 ∧ ∀ k, k < 70 → r (46 + k) = -6 ∨ ∃ f : Nat, f < n ∧ r (46 + k) = nI f
def fdS (wk : Int32) (f : Nat) (u : S9) : S9 := st9 u 7 (upd (u 7) f (u 7 f - (if wk ≤ u 0 (6 + 5 * f + 4) / 7 then 0 else u 7 f / 4)))
theorem fd_i (wk : Int32) (i : Nat) (h : i ≠ 7) (u : S9) : ∀ n, it9 (fdS wk) n u i = u i
  | 0 => rfl
  | n + 1 => by rw [it9, fdS, st9_n _ _ h]; exact fd_i wk i h u n
theorem st9_five (U : S9) (a b c d e : Nat → Int32) : st9 (st9 (st9 (st9 (st9 U 5 a) 6 b) 5 c) 7 d) 6 e = st9 (st9 (st9 U 5 c) 7 d) 6 e := by
  funext i
  by_cases h5 : i = 5
  · subst h5
    simp [st9]
  · by_cases h6 : i = 6
    · subst h6
      simp [st9]
    · simp [st9, h5, h6]
def fp0 (f : Nat) (u : S9) : S9 := st9 u 7 (upd (u 7) f (u 0 (6 + 5 * f + 1)))
def fpS (n k : Nat) (u : S9) : S9 :=
  if u 0 (46 + k) = -6 then st9 (st9 (if k % 14 = 0 then it9 (fdS (nI (k / 14))) n u else u) 5 (upd (u 5) k 0)) 6 (upd (u 6) k (-6))
  else (fun (u1 : S9) (f : Nat) => (fun (c : Int32) => (fun (q : Int32) => st9 (st9 (st9 u1 5 (upd (u 5) k q)) 7 (upd (u1 7) f (u1 7 f - q))) 6 (upd (u 6) k (u1 7 f - q))) (if u 0 0 ≤ c then u 0 0 else c)) (u1 7 f * (if k % 2 = 0 then u 0 4 else u 0 3) / 100)) (if k % 14 = 0 then it9 (fdS (nI (k / 14))) n u else u) (u 0 (46 + k)).toNatClampNeg
theorem fp_i0 (i : Nat) (h : i ≠ 7) (u : S9) : ∀ n, it9 fp0 n u i = u i
  | 0 => rfl
  | n + 1 => by rw [it9, fp0, st9_n _ _ h]; exact fp_i0 i h u n
theorem fpS_i (n k i : Nat) (h5 : i ≠ 5) (h6 : i ≠ 6) (h7 : i ≠ 7) (u : S9) : fpS n k u i = u i := by
  have e : (if k % 14 = 0 then it9 (fdS (nI (k / 14))) n u else u) i = u i := by
    split
    · exact fd_i _ _ h7 _ _
    · rfl
  unfold fpS
  split
  · rw [st9_n _ _ h6, st9_n _ _ h5, e]
  · show st9 _ _ _ i = _
    rw [st9_n _ _ h6, st9_n _ _ h7, st9_n _ _ h5, e]
theorem fp_i (n i : Nat) (h5 : i ≠ 5) (h6 : i ≠ 6) (h7 : i ≠ 7) (u : S9) : ∀ k, it9 (fpS n) k u i = u i
  | 0 => rfl
  | k + 1 => by rw [it9, fpS_i n k i h5 h6 h7, fp_i n i h5 h6 h7 u k]
def fpM (n : Nat) (σ : S9) : S9 := it9 (fpS n) 70 (it9 fp0 8 σ)
theorem fpM_i (n i : Nat) (h5 : i ≠ 5) (h6 : i ≠ 6) (h7 : i ≠ 7) (σ : S9) : fpM n σ i = σ i := (fp_i n i h5 h6 h7 _ 70).trans (fp_i0 i h7 σ 8)
end
section
def ft0 (k : Nat) (u : S9) : S9 := st9 (st9 u 8 (upd (u 8) k 0)) 9 (upd (u 9) k 0)
theorem ft0_i (k i : Nat) (h8 : i ≠ 8) (h9 : i ≠ 9) (u : S9) : ft0 k u i = u i := by rw [ft0, st9_n _ _ h9, st9_n _ _ h8]
theorem ft0_m (i : Nat) (h8 : i ≠ 8) (h9 : i ≠ 9) (u : S9) : ∀ n, it9 ft0 n u i = u i
  | 0 => rfl
  | n + 1 => by rw [it9, ft0_i n i h8 h9, ft0_m i h8 h9 u n]
def ftI (u : S9) (k : Nat) : Nat := 5 * (u 0 (46 + k)).toNatClampNeg + k / 14
def ftS (k : Nat) (u : S9) : S9 := if u 0 (46 + k) = -6 then u else st9 (st9 u 8 (upd (u 8) (ftI u k) (u 8 (ftI u k) + 1))) 9 (upd (u 9) (ftI u k) (u 9 (ftI u k) + u 5 k * u 0 1))
theorem ftS_i (k i : Nat) (h8 : i ≠ 8) (h9 : i ≠ 9) (u : S9) : ftS k u i = u i := by
  unfold ftS
  split
  · rfl
  · rw [st9_n _ _ h9, st9_n _ _ h8]
theorem ftS_m (i : Nat) (h8 : i ≠ 8) (h9 : i ≠ 9) (u : S9) : ∀ n, it9 ftS n u i = u i
  | 0 => rfl
  | n + 1 => by rw [it9, ftS_i n i h8 h9, ftS_m i h8 h9 u n]
def ftM (σ : S9) : S9 := it9 ftS 70 (it9 ft0 40 σ)
theorem ftM_i (i : Nat) (h8 : i ≠ 8) (h9 : i ≠ 9) (σ : S9) : ftM σ i = σ i := (ftS_m i h8 h9 _ 70).trans (ft0_m i h8 h9 σ 40)
def p_share (r : Nat → Int32) (f : Nat) (x : Int32) : Int32 := if r (6 + 5 * f + 3) - 10 * x ≤ 20 then 20 else r (6 + 5 * f + 3) - 10 * x
def p_sot (u : S9) (k : Nat) : Int32 := if u 10 k = -6 then 0 else u 9 k * u 10 k / 100
def duF (f w : Nat) (p : Int32 × S9) : Int32 := if p.1 = -6 ∧ ¬ p.2 8 (5 * f + w) ≤ 0 then nI w else p.1
def duH (f w : Nat) (p : Int32 × S9) : Int32 := if duF f w p = -6 then -6 else p_share (p.2 0) f (nI w - duF f w p)
def duV (u : S9) (f k : Nat) : Int32 := if u 8 k = 0 then 0 else if p_sot u k ≤ u 0 (6 + 5 * f + 2) then u 0 (6 + 5 * f + 2) else p_sot u k
def duU (f w : Nat) (p : Int32 × S9) : S9 := st9 p.2 10 (upd (p.2 10) (5 * f + w) (duH f w p))
def duS (f w : Nat) (p : Int32 × S9) : Int32 × S9 := (duF f w p, st9 (duU f w p) 11 (upd ((duU f w p) 11) (5 * f + w) (duV (duU f w p) f (5 * f + w))))
def duI (f : Nat) (u : S9) : Nat → Int32 × S9
  | 0 => (-6, u)
  | w + 1 => duS f w (duI f u w)
def duT (f : Nat) (u : S9) : S9 := (duI f u 5).2
def duM (σ : S9) : S9 := it9 duT 8 σ
theorem duS_i (f w i : Nat) (h10 : i ≠ 10) (h11 : i ≠ 11) (p : Int32 × S9) : (duS f w p).2 i = p.2 i := by
  show st9 _ 11 _ i = _
  rw [st9_n _ _ h11, duU, st9_n _ _ h10]
theorem duI_i (f i : Nat) (h10 : i ≠ 10) (h11 : i ≠ 11) (u : S9) : ∀ n, (duI f u n).2 i = u i
  | 0 => rfl
  | n + 1 => by rw [duI, duS_i f n i h10 h11, duI_i f i h10 h11 u n]
theorem duT_m (i : Nat) (h10 : i ≠ 10) (h11 : i ≠ 11) (u : S9) : ∀ n, it9 duT n u i = u i
  | 0 => rfl
  | n + 1 => by rw [it9, duT, duI_i _ i h10 h11, duT_m i h10 h11 u n]
end
section
def rkM (n : Nat) (σ : S9) : S9 := duM (ftM (fpM n σ))
theorem fpM_0 (n : Nat) (σ : S9) : fpM n σ 0 = σ 0 := fpM_i n 0 (by decide) (by decide) (by decide) σ
theorem ftM_0 (σ : S9) : ftM σ 0 = σ 0 := ftM_i 0 (by decide) (by decide) σ
theorem duM_i (i : Nat) (h10 : i ≠ 10) (h11 : i ≠ 11) (σ : S9) : duM σ i = σ i := duT_m i h10 h11 σ 8
theorem rkM_i (n i : Nat) (h : i < 5 ∨ 11 < i) (σ : S9) : rkM n σ i = σ i := by
  unfold rkM
  rw [duM_i i (by omega) (by omega), ftM_i i (by omega) (by omega), fpM_i n i (by omega) (by omega) (by omega)]
def swT (g : Nat → Int32) (wk : Int32) (d : Nat) : Int32 := if wk < 0 ∨ nI (d % 5) = wk then g d else 0
def rnT (r : Nat → Int32) (wk : Int32) (d : Nat) : Int32 := if wk < 0 ∨ nI (d / 7) = wk then r (116 + d) else 0
def ppT (g : Nat → Int32) (wk : Int32) (d : Nat) : Int32 := if wk < 0 ∨ nI (d / 14) = wk then g d else 0
def p_left (σ : S9) (wk : Int32) : Int32 := sm9 (swT (σ 9) wk) 40 - sm9 (swT (σ 11) wk) 40 - σ 0 2 * sm9 (swT (σ 8) wk) 40 + sm9 (rnT (σ 0) wk) 35
def p_val (x v : Int32) : Int32 := if x = 0 then p_in v 10 300 else if x = 1 then p_in v 1 20 else if x = 2 then p_in v 0 200 else if x = 3 then p_in v 1 100 else if x = 4 then p_in v 1 100 else 0
def poT (u : S9) (x : Int32) (d : Nat) : Int32 := if u 0 (46 + d) = x then u 5 d else 0
def fsT (u : S9) (d : Nat) : Int32 := if ¬ u 0 (46 + d) = -6 ∧ u 5 d = u 0 0 then 1 else 0
def shT (r : Nat → Int32) (d : Nat) : Int32 := if r (46 + d) = -6 then 0 else 1
/-- the first show of a film, found from behind: down from n -/
def fsh (r : Nat → Int32) (x : Int32) : Nat → Int32
  | 0 => -6
  | n + 1 => if r (46 + (69 - n)) = x then nI ((69 - n) / 2) else fsh r x n
end
section
/-! ===== what the reference's reckoning leaves in its rows, said of the hall's row alone ===== -/
def q_fade (r : Nat → Int32) (f w : Nat) (x : Int32) : Int32 := x - (if nI w ≤ r (6 + 5 * f + 4) / 7 then 0 else x / 4)
def q_pre (r : Nat → Int32) (f k : Nat) (x : Int32) : Int32 := if k % 14 = 0 then q_fade r f (k / 14) x else x
def q_c (r : Nat → Int32) (k : Nat) (x : Int32) : Int32 := x * (if k % 2 = 0 then r 4 else r 3) / 100
def q_ppl (r : Nat → Int32) (k : Nat) (x : Int32) : Int32 := if r 0 ≤ q_c r k x then r 0 else q_c r k x
def q_L (r : Nat → Int32) (f : Nat) : Nat → Int32
  | 0 => r (6 + 5 * f + 1)
  | k + 1 => if r (46 + k) = nI f then q_pre r f k (q_L r f k) - q_ppl r k (q_pre r f k (q_L r f k)) else q_pre r f k (q_L r f k)
def q_Y (r : Nat → Int32) (f k : Nat) : Int32 := q_pre r f k (q_L r f k)
def q_P (r : Nat → Int32) (f k : Nat) : Int32 := q_ppl r k (q_Y r f k)
theorem q_L_s (r : Nat → Int32) (f k : Nat) : q_L r f (k + 1) = if r (46 + k) = nI f then q_Y r f k - q_P r f k else q_Y r f k := rfl
def q_ppa (r : Nat → Int32) (k : Nat) : Int32 := if r (46 + k) = -6 then 0 else q_P r (r (46 + k)).toNatClampNeg k
def q_bhd (r : Nat → Int32) (k : Nat) : Int32 := if r (46 + k) = -6 then -6 else q_L r (r (46 + k)).toNatClampNeg (k + 1)
theorem nI_ne6 {f : Nat} (h : f < 100000) : ¬ nI f = -6 := by
  intro e
  have h1 := nI_pos' (n := f) (by omega)
  rw [e] at h1
  exact absurd h1 (by decide)
theorem nI_inj {a b : Nat} (ha : a < 100000) (hb : b < 100000) (h : nI a = nI b) : a = b := (nI_eq (by omega) (by omega)).mp h
theorem fd_7 (wk : Int32) (u : S9) : ∀ n f, it9 (fdS wk) n u 7 f = if f < n then u 7 f - (if wk ≤ u 0 (6 + 5 * f + 4) / 7 then 0 else u 7 f / 4) else u 7 f
  | 0, f => by simp [it9]
  | n + 1, f => by
    rw [it9]
    unfold fdS
    rw [st9_s]
    have h0 : it9 (fdS wk) n u 0 = u 0 := fd_i wk 0 (by decide) u n
    by_cases e : f = n
    · subst e
      rw [upd_s, if_pos (Nat.lt_succ_self f)]
      have e1 := fd_7 wk u f f
      rw [if_neg (Nat.lt_irrefl f)] at e1
      show it9 (fdS wk) f u 7 f - (if wk ≤ it9 (fdS wk) f u 0 (6 + 5 * f + 4) / 7 then 0 else it9 (fdS wk) f u 7 f / 4) = _
      rw [e1, h0]
    · rw [upd_n _ _ e]
      refine (fd_7 wk u n f).trans ?_
      by_cases h : f < n
      · rw [if_pos h, if_pos (show f < n + 1 by omega)]
      · rw [if_neg h, if_neg (show ¬ f < n + 1 by omega)]
theorem fp0_7 (σ : S9) : ∀ n f, it9 fp0 n σ 7 f = if f < n then σ 0 (6 + 5 * f + 1) else σ 7 f
  | 0, f => by simp [it9]
  | n + 1, f => by
    rw [it9]
    unfold fp0
    rw [st9_s]
    by_cases e : f = n
    · subst e
      rw [upd_s, if_pos (Nat.lt_succ_self f)]
      exact congrFun (fp_i0 0 (by decide) σ f) _
    · rw [upd_n _ _ e]
      refine (fp0_7 σ n f).trans ?_
      by_cases h : f < n
      · rw [if_pos h, if_pos (by omega)]
      · rw [if_neg h, if_neg (by omega)]
/-- what holds after k turns of findPeople -/
def fpJ (r : Nat → Int32) (n k : Nat) (u : S9) : Prop := u 0 = r ∧ (∀ f, f < n → u 7 f = q_L r f k) ∧ (∀ j, j < k → u 5 j = q_ppa r j ∧ u 6 j = q_bhd r j)
theorem fpJ_s {r : Nat → Int32} {n k : Nat} {u : S9} (hw : wfS r n) (hk : k < 70) (h : fpJ r n k u) : fpJ r n (k + 1) (fpS n k u) := by
  obtain ⟨h0, h7, h56⟩ := h
  have h00 : fpS n k u 0 = r := (fpS_i n k 0 (by decide) (by decide) (by decide) u).trans h0
  have hU : ∀ f, f < n → (if k % 14 = 0 then it9 (fdS (nI (k / 14))) n u else u) 7 f = q_Y r f k := by
    intro f hf
    unfold q_Y q_pre
    by_cases e : k % 14 = 0
    · rw [if_pos e, if_pos e, fd_7, if_pos hf, h0, h7 f hf]
      rfl
    · rw [if_neg e, if_neg e, h7 f hf]
  refine ⟨h00, ?_⟩
  by_cases e6 : r (46 + k) = -6
  · have ee : fpS n k u = st9 (st9 (if k % 14 = 0 then it9 (fdS (nI (k / 14))) n u else u) 5 (upd (u 5) k 0)) 6 (upd (u 6) k (-6)) := by
      unfold fpS
      rw [h0, if_pos e6]
    rw [ee]
    refine ⟨fun f hf => ?_, fun j hj => ?_⟩
    · rw [st9_n _ _ (by decide), st9_n _ _ (by decide), hU f hf, q_L_s, if_neg]
      rw [e6]
      exact fun q => nI_ne6 (by have := hw.2.1; omega) q.symm
    · rw [st9_n _ _ (by decide), st9_s, st9_s]
      by_cases e : j = k
      · subst e
        rw [upd_s, upd_s, q_ppa, q_bhd, if_pos e6, if_pos e6]
        exact ⟨rfl, rfl⟩
      · rw [upd_n _ _ e, upd_n _ _ e]
        exact h56 j (by omega)
  · obtain ⟨g, hg, eg⟩ := (hw.2.2 k hk).resolve_left e6
    have hg8 : g < 8 := Nat.lt_of_lt_of_le hg hw.2.1
    have ecl : (nI g).toNatClampNeg = g := nI_cl (by omega)
    generalize hU1 : (if k % 14 = 0 then it9 (fdS (nI (k / 14))) n u else u) = U at hU
    have ee : fpS n k u = st9 (st9 (st9 U 5 (upd (u 5) k (q_P r g k))) 7 (upd (U 7) g (q_Y r g k - q_P r g k))) 6 (upd (u 6) k (q_Y r g k - q_P r g k)) := by
      unfold fpS
      rw [h0, if_neg e6, hU1, eg, ecl]
      show st9 (st9 (st9 U 5 _) 7 _) 6 _ = _
      rw [hU g hg]
      rfl
    rw [ee]
    refine ⟨fun f hf => ?_, fun j hj => ?_⟩
    · rw [st9_n _ _ (by decide), st9_s, q_L_s]
      by_cases e : f = g
      · subst e
        rw [upd_s, if_pos eg]
      · rw [upd_n _ _ e, hU f hf, if_neg]
        rw [eg]
        exact fun q => e (nI_inj (by omega) (by have := hw.2.1; omega) q).symm
    · rw [st9_n _ _ (by decide), st9_n _ _ (by decide), st9_s, st9_s]
      by_cases e : j = k
      · subst e
        rw [upd_s, upd_s, q_ppa, q_bhd, if_neg e6, if_neg e6, eg, ecl, q_L_s, if_pos eg]
        exact ⟨rfl, rfl⟩
      · rw [upd_n _ _ e, upd_n _ _ e]
        exact h56 j (by omega)
theorem fpJ_m {r : Nat → Int32} {u0 : S9} {n : Nat} (hw : wfS r n) (h0 : fpJ r n 0 u0) : ∀ k, k ≤ 70 → fpJ r n k (it9 (fpS n) k u0) := by
  intro k
  induction k with
  | zero => exact fun _ => h0
  | succ k ih =>
    intro h
    rw [it9]
    exact fpJ_s hw (by omega) (ih (by omega))
theorem fpM_J {σ : S9} {n : Nat} (hw : wfS (σ 0) n) : fpJ (σ 0) n 70 (fpM n σ) := by
  rw [fpM]
  exact fpJ_m hw ⟨fp_i0 0 (by decide) σ 8, fun f hf => by
    rw [fp0_7, if_pos (Nat.lt_of_lt_of_le hf hw.2.1), q_L], fun j hj => absurd hj (Nat.not_lt_zero j)⟩ 70 (Nat.le_refl _)
/-! counts and takings of a film in a week -/
def q_ct (r : Nat → Int32) (f w k : Nat) : Int32 := if r (46 + k) = nI f ∧ k / 14 = w then 1 else 0
def q_tt (r : Nat → Int32) (f w k : Nat) : Int32 := if r (46 + k) = nI f ∧ k / 14 = w then q_ppa r k * r 1 else 0
def q_S (r : Nat → Int32) (f w : Nat) : Int32 := sm9 (q_ct r f w) 70
def q_T (r : Nat → Int32) (f w : Nat) : Int32 := sm9 (q_tt r f w) 70
theorem ft0_89 (σ : S9) : ∀ n k, k < n → it9 ft0 n σ 8 k = 0 ∧ it9 ft0 n σ 9 k = 0
  | 0, k, h => absurd h (Nat.not_lt_zero k)
  | n + 1, k, h => by
    rw [it9]
    unfold ft0
    rw [st9_n _ _ (by decide), st9_s, st9_s]
    by_cases e : k = n
    · subst e
      rw [upd_s, upd_s]
      exact ⟨rfl, rfl⟩
    · rw [upd_n _ _ e, upd_n _ _ e]
      exact ft0_89 σ n k (by omega)
theorem ftJ_m {r : Nat → Int32} {u0 : S9} {n : Nat} (h0 : u0 0 = r) (hw : wfS r n) (hp : ∀ k, k < 70 → u0 5 k = q_ppa r k) (hz : ∀ f w, f < 8 → w < 5 → u0 8 (5 * f + w) = 0 ∧ u0 9 (5 * f + w) = 0) (f w : Nat) (hf : f < 8) (hw5 : w < 5) : ∀ k, k ≤ 70 → it9 ftS k u0 8 (5 * f + w) = sm9 (q_ct r f w) k ∧ it9 ftS k u0 9 (5 * f + w) = sm9 (q_tt r f w) k := by
  intro k
  induction k with
  | zero => exact fun _ => hz f w hf hw5
  | succ k ih =>
    intro hk
    obtain ⟨i1, i2⟩ := ih (by omega)
    have e0 : it9 ftS k u0 0 = r := (ftS_m 0 (by decide) (by decide) _ k).trans h0
    have e5 : it9 ftS k u0 5 k = q_ppa r k := by rw [ftS_m 5 (by decide) (by decide) _ k]; exact hp k (by omega)
    rw [it9, sm9, sm9]
    generalize it9 ftS k u0 = u at i1 i2 e0 e5
    unfold ftS ftI q_ct q_tt
    rw [e0]
    by_cases e6 : r (46 + k) = -6
    · have hne : ¬ (r (46 + k) = nI f ∧ k / 14 = w) := fun q => nI_ne6 (f := f) (by omega) (q.1.symm.trans e6)
      rw [if_pos e6, if_neg hne, if_neg hne, i1, i2]
      unfold q_ct q_tt
      simp
    · obtain ⟨g, hg, eg⟩ := (hw.2.2 k (by omega)).resolve_left e6
      have hg8 : g < 8 := Nat.lt_of_lt_of_le hg hw.2.1
      rw [if_neg e6, eg, nI_cl (show g < 100000 by omega), st9_n _ _ (by decide), st9_s, st9_s, e5]
      by_cases e : f = g ∧ k / 14 = w
      · obtain ⟨rfl, rfl⟩ := e
        rw [upd_s, upd_s, if_pos ⟨rfl, rfl⟩, if_pos ⟨rfl, rfl⟩, i1, i2]
        exact ⟨rfl, rfl⟩
      · have hx : 5 * f + w ≠ 5 * g + k / 14 := by
          intro q
          have : k / 14 < 5 := by omega
          exact e ⟨by omega, by omega⟩
        have hy : ¬ (nI g = nI f ∧ k / 14 = w) := fun q => e ⟨(nI_inj (by omega) (by omega) q.1).symm, q.2⟩
        rw [upd_n _ _ hx, upd_n _ _ hx, if_neg hy, if_neg hy, i1, i2]
        unfold q_ct q_tt
        simp
/-! what is due -/
def q_fw (S : Nat → Int32) : Nat → Int32
  | 0 => -6
  | w + 1 => if q_fw S w = -6 ∧ ¬ S w ≤ 0 then nI w else q_fw S w
def q_sh (r : Nat → Int32) (f w : Nat) : Int32 := if q_fw (q_S r f) (w + 1) = -6 then -6 else p_share r f (nI w - q_fw (q_S r f) (w + 1))
def q_so (r : Nat → Int32) (f w : Nat) : Int32 := if q_sh r f w = -6 then 0 else q_T r f w * q_sh r f w / 100
def q_D (r : Nat → Int32) (f w : Nat) : Int32 := if q_S r f w = 0 then 0 else if q_so r f w ≤ r (6 + 5 * f + 2) then r (6 + 5 * f + 2) else q_so r f w
theorem duI_J {r : Nat → Int32} {u : S9} (h0 : u 0 = r) {f : Nat} (hf : f < 8) (h8 : ∀ w, w < 5 → u 8 (5 * f + w) = q_S r f w) (h9 : ∀ w, w < 5 → u 9 (5 * f + w) = q_T r f w) : ∀ w, w ≤ 5 → (duI f u w).1 = q_fw (q_S r f) w ∧ (∀ v, v < w → (duI f u w).2 10 (5 * f + v) = q_sh r f v ∧ (duI f u w).2 11 (5 * f + v) = q_D r f v) ∧ (∀ j, (j < 5 * f ∨ 5 * f + 5 ≤ j) → (duI f u w).2 10 j = u 10 j ∧ (duI f u w).2 11 j = u 11 j)
  | 0, _ => ⟨rfl, fun v hv => absurd hv (Nat.not_lt_zero v), fun j _ => ⟨rfl, rfl⟩⟩
  | w + 1, hw => by
    obtain ⟨i1, i2, i3⟩ := duI_J h0 hf h8 h9 w (by omega)
    have e0 : (duI f u w).2 0 = r := (duI_i f 0 (by decide) (by decide) u w).trans h0
    have e8 : (duI f u w).2 8 (5 * f + w) = q_S r f w := by rw [duI_i f 8 (by decide) (by decide) u w]; exact h8 w (by omega)
    have e9 : (duI f u w).2 9 (5 * f + w) = q_T r f w := by rw [duI_i f 9 (by decide) (by decide) u w]; exact h9 w (by omega)
    rw [duI]
    generalize duI f u w = p at i1 i2 i3 e0 e8 e9
    have eF : duF f w p = q_fw (q_S r f) (w + 1) := by unfold duF; rw [i1, e8, q_fw]
    have eH : duH f w p = q_sh r f w := by unfold duH q_sh; rw [eF, e0]
    have eO : p_sot (duU f w p) (5 * f + w) = q_so r f w := by
      unfold p_sot duU q_so
      rw [st9_s, st9_n _ _ (by decide), upd_s, e9, eH]
    have eV : duV (duU f w p) f (5 * f + w) = q_D r f w := by
      unfold duV q_D
      rw [eO]
      unfold duU
      rw [st9_n _ _ (by decide), st9_n _ _ (by decide), e8, e0]
    refine ⟨eF, fun v hv => ?_, fun j hj => ?_⟩
    · rw [show (duS f w p).2 = st9 (duU f w p) 11 (upd ((duU f w p) 11) (5 * f + w) (duV (duU f w p) f (5 * f + w))) from rfl]
      rw [st9_n _ _ (by decide), st9_s, eV]
      unfold duU
      rw [st9_s, st9_n _ _ (by decide), eH]
      by_cases e : v = w
      · subst e
        rw [upd_s, upd_s]
        exact ⟨rfl, rfl⟩
      · rw [upd_n _ _ (by omega), upd_n _ _ (by omega)]
        exact i2 v (by omega)
    · rw [show (duS f w p).2 = st9 (duU f w p) 11 (upd ((duU f w p) 11) (5 * f + w) (duV (duU f w p) f (5 * f + w))) from rfl]
      rw [st9_n _ _ (by decide), st9_s]
      unfold duU
      rw [st9_s, st9_n _ _ (by decide), upd_n _ _ (by omega), upd_n _ _ (by omega)]
      exact i3 j hj
theorem duM_J {r : Nat → Int32} {σ : S9} (h0 : σ 0 = r) (h8 : ∀ f w, f < 8 → w < 5 → σ 8 (5 * f + w) = q_S r f w) (h9 : ∀ f w, f < 8 → w < 5 → σ 9 (5 * f + w) = q_T r f w) : ∀ n, n ≤ 8 → ∀ f w, f < n → w < 5 → it9 duT n σ 10 (5 * f + w) = q_sh r f w ∧ it9 duT n σ 11 (5 * f + w) = q_D r f w := by
  intro n
  induction n with
  | zero => exact fun _ f w hf _ => absurd hf (Nat.not_lt_zero f)
  | succ n ih =>
    intro hn f w hf hw
    have e0 := (duT_m 0 (by decide) (by decide) σ n).trans h0
    have e8 := duT_m 8 (by decide) (by decide) σ n
    have e9 := duT_m 9 (by decide) (by decide) σ n
    have ih := ih (by omega)
    rw [it9]
    generalize it9 duT n σ = u at e0 e8 e9 ih
    obtain ⟨-, j2, j3⟩ := duI_J (r := r) (u := u) e0 (f := n) (by omega) (fun w hw => by rw [e8]; exact h8 n w (by omega) hw) (fun w hw => by rw [e9]; exact h9 n w (by omega) hw) 5 (Nat.le_refl _)
    rw [duT]
    by_cases e : f = n
    · subst e
      exact j2 w hw
    · obtain ⟨g1, g2⟩ := j3 (5 * f + w) (by omega)
      rw [g1, g2]
      exact ih f w (by omega) hw
/-- what reckon leaves, of a hall's row that is as it must be -/
theorem rkM_J {σ : S9} {n : Nat} (hw : wfS (σ 0) n) : (∀ f, f < n → rkM n σ 7 f = q_L (σ 0) f 70) ∧ (∀ k, k < 70 → rkM n σ 5 k = q_ppa (σ 0) k ∧ rkM n σ 6 k = q_bhd (σ 0) k) ∧ (∀ f w, f < 8 → w < 5 → rkM n σ 8 (5 * f + w) = q_S (σ 0) f w ∧ rkM n σ 9 (5 * f + w) = q_T (σ 0) f w ∧ rkM n σ 10 (5 * f + w) = q_sh (σ 0) f w ∧ rkM n σ 11 (5 * f + w) = q_D (σ 0) f w) := by
  obtain ⟨h0, h7, h56⟩ := fpM_J hw
  unfold rkM
  generalize fpM n σ = u at h0 h7 h56
  have ht : ∀ f w, f < 8 → w < 5 → it9 ftS 70 (it9 ft0 40 u) 8 (5 * f + w) = q_S (σ 0) f w ∧ it9 ftS 70 (it9 ft0 40 u) 9 (5 * f + w) = q_T (σ 0) f w := fun f w hf hw5 =>
    ftJ_m (u0 := it9 ft0 40 u) ((ft0_m 0 (by decide) (by decide) u 40).trans h0) hw (fun k hk => by rw [ft0_m 5 (by decide) (by decide) u 40]; exact (h56 k hk).1) (fun f w hf hw => ft0_89 u 40 (5 * f + w) (by omega)) f w hf hw5 70 (Nat.le_refl _)
  have g0 := ftM_0 u
  have g5 := ftM_i 5 (by decide) (by decide) u
  have g6 := ftM_i 6 (by decide) (by decide) u
  have g7 := ftM_i 7 (by decide) (by decide) u
  have ht' : ∀ f w, f < 8 → w < 5 → ftM u 8 (5 * f + w) = q_S (σ 0) f w ∧ ftM u 9 (5 * f + w) = q_T (σ 0) f w := fun f w hf hw => by
    rw [ftM]
    exact ht f w hf hw
  generalize ftM u = v at g0 g5 g6 g7 ht'
  have hv0 : v 0 = σ 0 := g0.trans h0
  have hd := duM_J (σ := v) hv0 (fun f w hf hw => (ht' f w hf hw).1) (fun f w hf hw => (ht' f w hf hw).2) 8 (Nat.le_refl _)
  refine ⟨fun f hf => ?_, fun k hk => ?_, fun f w hf hw => ?_⟩
  · rw [duM_i 7 (by decide) (by decide), g7]
    exact h7 f hf
  · rw [duM_i 5 (by decide) (by decide), duM_i 6 (by decide) (by decide), g5, g6]
    exact h56 k hk
  · rw [duM_i 8 (by decide) (by decide), duM_i 9 (by decide) (by decide)]
    refine ⟨(ht' f w hf hw).1, (ht' f w hf hw).2, ?_⟩
    rw [duM]
    exact hd f w hf hw
end
section
theorem sm9_congr {f g : Nat → Int32} : ∀ {n : Nat}, (∀ k, k < n → f k = g k) → sm9 f n = sm9 g n
  | 0, _ => rfl
  | n + 1, h => by rw [sm9, sm9, sm9_congr (fun k hk => h k (by omega)), h n (by omega)]
/-- a sum over films and weeks, of one week or (below 0) of all -/
def q_W (X : Nat → Nat → Int32) (wk : Int32) : Int32 := sm9 (fun f => sm9 (fun w => if wk < 0 ∨ nI w = wk then X f w else 0) 5) 8
theorem q_W_J {g : Nat → Int32} {X : Nat → Nat → Int32} (h : ∀ f w, f < 8 → w < 5 → g (5 * f + w) = X f w) (wk : Int32) : sm9 (swT g wk) 40 = q_W X wk := by
  have key : ∀ f, f ≤ 8 → sm9 (swT g wk) (5 * f) = sm9 (fun f => sm9 (fun w => if wk < 0 ∨ nI w = wk then X f w else 0) 5) f := by
    intro f
    induction f with
    | zero => exact fun _ => rfl
    | succ f ih =>
      intro hf
      have t : ∀ w, w < 5 → swT g wk (5 * f + w) = if wk < 0 ∨ nI w = wk then X f w else 0 := by
        intro w hw
        unfold swT
        rw [show (5 * f + w) % 5 = w by omega, h f w (by omega) hw]
      rw [show 5 * (f + 1) = 5 * f + 4 + 1 by omega, sm9, show 5 * f + 4 = 5 * f + 3 + 1 by omega, sm9, show 5 * f + 3 = 5 * f + 2 + 1 by omega, sm9, show 5 * f + 2 = 5 * f + 1 + 1 by omega, sm9, sm9]
      rw [ih (by omega), show 5 * f + 1 + 1 + 1 + 1 = 5 * f + 4 from rfl, show 5 * f + 1 + 1 + 1 = 5 * f + 3 from rfl, show 5 * f + 1 + 1 = 5 * f + 2 from rfl]
      have t0 := t 0 (by decide)
      rw [Nat.add_zero] at t0
      rw [t 4 (by decide), t 3 (by decide), t 2 (by decide), t 1 (by decide), t0, sm9]
      simp only [sm9, Int32.zero_add, Int32.add_assoc]
  have h8 := key 8 (Nat.le_refl _)
  rw [show 5 * 8 = 40 from rfl] at h8
  exact h8
def q_left (r : Nat → Int32) (wk : Int32) : Int32 := q_W (q_T r) wk - q_W (q_D r) wk - r 2 * q_W (q_S r) wk + sm9 (rnT r wk) 35
theorem p_left_J {σ : S9} {n : Nat} (hw : wfS (σ 0) n) (wk : Int32) : p_left (rkM n σ) wk = q_left (σ 0) wk := by
  obtain ⟨-, -, h⟩ := rkM_J hw
  unfold p_left q_left
  rw [q_W_J (fun f w hf hw => (h f w hf hw).1) wk, q_W_J (fun f w hf hw => (h f w hf hw).2.1) wk, q_W_J (fun f w hf hw => (h f w hf hw).2.2.2) wk, rkM_i n 0 (by decide)]
/-- but for what is reckoned, nothing is different -/
def sc9 (σ u : S9) : Prop := ∀ i, (i < 5 ∨ 11 < i) → u i = σ i
theorem sc9_rf (σ : S9) : sc9 σ σ := fun _ _ => rfl
theorem sc9_tr {a b c : S9} (h : sc9 a b) (k : sc9 b c) : sc9 a c := fun i hi => (k i hi).trans (h i hi)
theorem sc9_rk (n : Nat) (σ : S9) : sc9 σ (rkM n σ) := fun i hi => rkM_i n i hi σ
theorem sc9_0 {σ u : S9} (h : sc9 σ u) : u 0 = σ 0 := h 0 (by decide)
theorem sc9_12 {σ u : S9} (h : sc9 σ u) : u 12 = σ 12 := h 12 (by decide)
def q_at (r : Nat → Int32) (k : Nat) (what : Int32) : Int32 := if what = 0 then r (46 + k) else if what = 1 then q_ppa r k else if what = 2 then q_ppa r k * r 1 else if what = 3 then q_bhd r k else -2
def q_k (d q : Int32) : Nat := 2 * d.toNatClampNeg + q.toNatClampNeg
def q_po (r : Nat → Int32) (f k : Nat) : Int32 := if r (46 + k) = nI f then q_ppa r k else 0
def q_of (r : Nat → Int32) (f : Nat) (what : Int32) : Int32 := if what = 0 then r (6 + 5 * f + 0) else if what = 1 then r (6 + 5 * f + 1) else if what = 2 then r (6 + 5 * f + 2) else if what = 3 then r (6 + 5 * f + 3) else if what = 4 then r (6 + 5 * f + 4) else if what = 5 then sm9 (q_S r f) 5 else if what = 6 then sm9 (q_po r f) 70 else if what = 7 then sm9 (q_T r f) 5 else if what = 8 then sm9 (q_D r f) 5 else if what = 9 then q_L r f 70 else if what = 10 then fsh r (nI f) 70 else -2
theorem w5 {w : Int32} (h : ¬ p_in w 0 4 = 0) : ∃ j : Nat, j < 5 ∧ w = nI j := by
  obtain ⟨j, hj, e⟩ := p_in_nI (n := 4) (by decide) h
  exact ⟨j, by omega, e⟩
def q_iw (r : Nat → Int32) (f w : Nat) (what : Int32) : Int32 := if what = 0 then q_T r f w else if what = 1 then q_sh r f w else if what = 2 then q_D r f w else if what = 3 then q_D r f w - q_so r f w else -2
def q_wk (r : Nat → Int32) (wk what : Int32) : Int32 := if what = 0 then q_W (q_S r) wk else if what = 1 then sm9 (ppT (q_ppa r) wk) 70 else if what = 2 then q_W (q_T r) wk else if what = 3 then q_W (q_D r) wk else if what = 4 then q_left r wk + 1000000 else -2
def q_fs (r : Nat → Int32) (k : Nat) : Int32 := if ¬ r (46 + k) = -6 ∧ q_ppa r k = r 0 then 1 else 0
def q_cnt (r : Nat → Int32) (pl rc what : Int32) : Int32 := if what = 0 then r 5 else if what = 1 then q_W (q_S r) (-1) else if what = 2 then sm9 (ppT (q_ppa r) (-1)) 70 else if what = 3 then q_W (q_T r) (-1) else if what = 4 then q_W (q_D r) (-1) else if what = 5 then q_left r (-1) + 1000000 else if what = 6 then sm9 (rnT r (-1)) 35 else if what = 7 then sm9 (q_fs r) 70 else if what = 8 then r 0 else if what = 9 then r 1 else if what = 10 then r 2 else if what = 11 then r 3 else if what = 12 then r 4 else if what = 13 then pl else if what = 14 then rc else -2
end
section
theorem wfS_upd {r : Nat → Int32} {n k : Nat} {x : Int32} (hw : wfS r n) (hk : k < 70) (hx : x = -6 ∨ ∃ f : Nat, f < n ∧ x = nI f) : wfS (upd r (46 + k) x) n := by
  refine ⟨by rw [upd_n _ _ (by omega)]; exact hw.1, hw.2.1, fun j hj => ?_⟩
  by_cases e : j = k
  · subst e
    rw [upd_s]
    exact hx
  · rw [upd_n _ _ (by omega)]
    exact hw.2.2 j hj
def q_more (r : Nat → Int32) (k : Nat) (x : Int32) : Int32 := q_left (upd r (46 + k) x) (-1) - q_left r (-1)
theorem sc9_of {n : Nat} {σ u : S9} (h : u = rkM n σ) : sc9 σ u := by
  rw [h]
  exact sc9_rk n σ
theorem p_why_ge {r : Nat → Int32} {n : Nat} (h5 : r 5 = nI n) (h8 : n ≤ 8) {f d q : Int32} (h : 0 ≤ p_why r f d q) : p_why r f d q = 0 ∧ ∃ (f' d' q' : Nat), f' < n ∧ d' < 35 ∧ q' < 2 ∧ f = nI f' ∧ d = nI d' ∧ q = nI q' ∧ ¬ p_canShow r f' d' = 0 := by
  unfold p_why at h ⊢
  by_cases h1 : p_in f 0 (r 5 - 1) = 0
  · rw [if_pos h1] at h
    exact absurd h (by decide)
  · rw [if_neg h1] at h ⊢
    by_cases h2 : p_part d q = 0
    · rw [if_pos h2] at h
      exact absurd h (by decide)
    · rw [if_neg h2] at h ⊢
      by_cases h3 : p_canShow r f.toNatClampNeg d.toNatClampNeg = 0
      · rw [if_pos h3] at h
        exact absurd h (by decide)
      · rw [if_neg h3]
        obtain ⟨f', hf, rfl⟩ := p_film_ne h5 h8 h1
        obtain ⟨d', q', hd, hq, rfl, rfl⟩ := p_part_ne h2
        rw [nI_cl (by omega), nI_cl (by omega)] at h3
        exact ⟨rfl, f', d', q', hf, hd, hq, rfl, rfl, rfl, h3⟩
/-- the best film of the first f, and how much more would be left -/
def q_bb (r : Nat → Int32) (dd k : Nat) : Nat → Int32 × Int32
  | 0 => (-6, 0)
  | f + 1 => if p_canShow r f dd = 0 then q_bb r dd k f else if (q_bb r dd k f).1 = -6 ∨ ¬ q_more r k (nI f) ≤ (q_bb r dd k f).2 then (nI f, q_more r k (nI f)) else q_bb r dd k f
def q_bf (p : Int32 × Int32) (what : Int32) : Int32 := if p.1 = -6 then -6 else if what = 0 then p.1 else p.2 + 1000000
/-- the worst show of the first k places -/
def q_ww (r : Nat → Int32) : Nat → Int32 × Int32
  | 0 => (-6, 0)
  | k + 1 => if r (46 + k) = -6 then q_ww r k else if (q_ww r k).1 = -6 ∨ ¬ q_more r k (-6) ≤ (q_ww r k).2 then (nI k, q_more r k (-6)) else q_ww r k
def q_ws (p : Int32 × Int32) (what : Int32) : Int32 := if p.1 = -6 then -6 else if what = 0 then p.1 / 2 else if what = 1 then p.1 - p.1 / 2 * 2 else p.2 + 1000000
def q_pf (x t : Int32) : Nat → Int32
  | 0 => -6
  | d + 1 => if x * nI (20 - d) < t then q_pf x t d else nI (20 - d)
def q_dv (r : Nat → Int32) (what : Int32) (f : Nat) : Int32 := if what = 0 then 1 else if what = 1 then sm9 (q_S r f) 5 else sm9 (q_D r f) 5
def q_di (r : Nat → Int32) (x what : Int32) (f : Nat) : Int32 := if r (6 + 5 * f + 0) = x then q_dv r what f else 0
end
section
theorem rcM_i (σ : S9) (h i : Nat) (h1 : i ≠ 1) (h12 : i ≠ 12) : rcM σ h i = σ i := by rw [rcM, st9_n _ _ h12, st9_n _ _ h1]
theorem rcM_0 (σ : S9) (h : Nat) : rcM σ h 0 = σ 0 := rcM_i σ h 0 (by decide) (by decide)
theorem p_val_ne {x v : Int32} (h : ¬ p_val x v = 0) : ∃ i : Nat, i < 5 ∧ x = nI i := by
  unfold p_val at h
  by_cases h0 : x = 0
  · exact ⟨0, by decide, h0⟩
  · by_cases h1 : x = 1
    · exact ⟨1, by decide, h1⟩
    · by_cases h2 : x = 2
      · exact ⟨2, by decide, h2⟩
      · by_cases h3 : x = 3
        · exact ⟨3, by decide, h3⟩
        · by_cases h4 : x = 4
          · exact ⟨4, by decide, h4⟩
          · simp [h0, h1, h2, h3, h4] at h
def q_setE (x v : Int32) : Int32 := if p_val x v = 0 then -2 else 0
def q_filmE (r : Nat → Int32) (d c m s f : Int32) : Int32 := if p_in d 0 3 = 0 then -2 else if p_in c 1 999 = 0 then -2 else if p_in m 0 500 = 0 then -2 else if p_in s 20 90 = 0 then -2 else if p_in f 0 34 = 0 then -2 else if r 5 = 8 then -4 else 0
def film9 (r : Nat → Int32) (n : Nat) (d c m s f : Int32) : Nat → Int32 := upd (upd (upd (upd (upd (upd r (6 + 5 * n + 0) d) (6 + 5 * n + 1) c) (6 + 5 * n + 2) m) (6 + 5 * n + 3) s) (6 + 5 * n + 4) f) 5 (nI (n + 1))
def q_dropE (r : Nat → Int32) (d q : Int32) : Int32 := if p_part d q = 0 then -2 else if r (46 + q_k d q) = -6 then -5 else 0
def q_exE (r : Nat → Int32) (d q d2 q2 : Int32) : Int32 := if p_part d q = 0 then -2 else if p_part d2 q2 = 0 then -2 else if p_canBe r (r (46 + q_k d2 q2)) d.toNatClampNeg = 0 then -5 else if p_canBe r (r (46 + q_k d q)) d2.toNatClampNeg = 0 then -5 else 0
def q_exR (r : Nat → Int32) (k k2 : Nat) : Nat → Int32 := upd (upd r (46 + k) (r (46 + k2))) (46 + k2) (r (46 + k))
theorem wfS_x {r : Nat → Int32} {n k : Nat} (hw : wfS r n) (hk : k < 70) : r (46 + k) = -6 ∨ ∃ f : Nat, f < 8 ∧ r (46 + k) = nI f := by
  rcases hw.2.2 k hk with h | ⟨f, hf, h⟩
  · exact Or.inl h
  · exact Or.inr ⟨f, Nat.lt_of_lt_of_le hf hw.2.1, h⟩
theorem wfS_ex {r : Nat → Int32} {n k k2 : Nat} (hw : wfS r n) (hk : k < 70) (hk2 : k2 < 70) : wfS (q_exR r k k2) n := wfS_upd (wfS_upd hw hk (hw.2.2 k2 hk2)) hk2 (hw.2.2 k hk)
def q_letE (d v : Int32) : Int32 := if p_in d 0 34 = 0 then -2 else if p_in v 0 999 = 0 then -2 else 0
def ltF (r : Nat → Int32) (d : Nat) : Nat → (Nat → Int32)
  | 0 => r
  | j + 1 => upd (ltF r d j) (46 + 2 * d + j) (-6)
theorem ltF_n (r : Nat → Int32) (d i : Nat) : ∀ j, 46 + 2 * d + j ≤ i → ltF r d j i = r i
  | 0, _ => rfl
  | j + 1, h => by rw [ltF, upd_n _ _ (by omega)]; exact ltF_n r d i j (by omega)
def q_lt (r : Nat → Int32) (d j : Nat) : Int32 := if r (46 + 2 * d + j) = -6 then 0 else 1
def q_letR (r : Nat → Int32) (d : Nat) (v : Int32) : Nat → Int32 := upd (if v ≤ 0 then r else ltF r d 2) (116 + d) v
def un9 (σ : S9) (h : Nat) : S9 := st9 (st9 σ 12 (upd (σ 12) 0 (nI (h - 1)))) 0 (mvF (σ 1) (σ 0) ((h - 1) * 151) 0 151)
theorem s1 {s : Int32} (h : ¬ p_in s 0 1 = 0) : ∃ j : Nat, j < 2 ∧ s = nI j := by
  obtain ⟨j, hj, e⟩ := p_in_nI (n := 1) (by decide) h
  exact ⟨j, by omega, e⟩
def q_savS (σ : S9) (s : Nat) : S9 := st9 (st9 σ 2 (mvF (σ 0) (σ 2) 0 (151 * s) 151)) 3 (upd (σ 3) s 1)
def q_resE (σ : S9) (s : Int32) : Int32 := if p_in s 0 1 = 0 then -2 else if σ 3 s.toNatClampNeg = 0 then -5 else 0
end
section
/-! ===== texts: characters, a show's three parts, the first fault, as the reference reads them ===== -/
def chr (T : Nat → Int32) (L a : Nat) : Int32 := if a < L then T a else -1
def dg (T : Nat → Int32) (L a : Nat) (m : Int32) : Int32 := if p_in (chr T L a - 48) 0 m = 0 then -1 else chr T L a - 48
def nx (r : Int32) (a : Nat) : Nat := if r < 0 then a else a + 1
def ptv (T : Nat → Int32) (L a : Nat) : Int32 := if chr T L a = 97 then 0 else if chr T L a = 101 then 1 else -1
def dy1 (T : Nat → Int32) (L a : Nat) : Nat := nx (dg T L a 9) a
def dy2 (T : Nat → Int32) (L a : Nat) : Int32 := chr T L (dy1 T L a) - 48
abbrev dyc (T : Nat → Int32) (L a : Nat) : Prop := ¬ dg T L a 9 ≤ 0 ∧ ¬ p_in (dy2 T L a) 0 9 = 0 ∧ ¬ 35 ≤ 10 * dg T L a 9 + dy2 T L a
def dyv (T : Nat → Int32) (L a : Nat) : Int32 := if dyc T L a then 10 * dg T L a 9 + dy2 T L a else dg T L a 9
def dya (T : Nat → Int32) (L a : Nat) : Nat := if dyc T L a then dy1 T L a + 1 else dy1 T L a
def rdf (T : Nat → Int32) (L a : Nat) : Int32 := dg T L a 7
def rd1 (T : Nat → Int32) (L a : Nat) : Nat := nx (rdf T L a) a
def rdq (T : Nat → Int32) (L a : Nat) : Int32 := if 0 ≤ rdf T L a then ptv T L (rd1 T L a) else -1
def rd2 (T : Nat → Int32) (L a : Nat) : Nat := if 0 ≤ rdf T L a then nx (ptv T L (rd1 T L a)) (rd1 T L a) else rd1 T L a
def rdd (T : Nat → Int32) (L a : Nat) : Int32 := if 0 ≤ rdq T L a then dyv T L (rd2 T L a) else -1
def rd3 (T : Nat → Int32) (L a : Nat) : Nat := if 0 ≤ rdq T L a then dya T L (rd2 T L a) else rd2 T L a
def ffl (T : Nat → Int32) (L : Nat) : Nat → Nat → Int32
  | 0, a => nI a
  | n + 1, a => if rdd T L a < 0 then nI (rd3 T L a) else if rd3 T L a = L then -6 else if chr T L (rd3 T L a) = 44 then ffl T L n (rd3 T L a + 1) else nI (rd3 T L a)
def cy (T : Nat → Int32) (L : Nat) : Nat → (Nat → Int32) → Nat → Nat × (Nat → Int32)
  | 0, r, _ => (0, r)
  | n + 1, r, a => if a < L then (if p_why r (rdf T L a) (rdd T L a) (rdq T L a) = 0 then ((cy T L n (upd r (46 + q_k (rdd T L a) (rdq T L a)) (rdf T L a)) (rd3 T L a + 1)).1 + 1, (cy T L n (upd r (46 + q_k (rdd T L a) (rdq T L a)) (rdf T L a)) (rd3 T L a + 1)).2) else (0, r)) else (0, r)
theorem cy_ge (T : Nat → Int32) {L a : Nat} (h : L ≤ a) (n : Nat) (r : Nat → Int32) : cy T L n r a = (0, r) := by
  cases n with
  | zero => rfl
  | succ n => rw [cy, if_neg (by omega)]
theorem chr_lt {T : Nat → Int32} {L a : Nat} (h : ¬ chr T L a = -1) : a < L := by
  rcases Nat.lt_or_ge a L with q | q
  · exact q
  · exact absurd (if_neg (by omega)) h
theorem dg_cs (T : Nat → Int32) (L a : Nat) {n : Nat} (hn : n < 100) : (p_in (chr T L a - 48) 0 (nI n) = 0 ∧ dg T L a (nI n) = -1) ∨ (¬ p_in (chr T L a - 48) 0 (nI n) = 0 ∧ a < L ∧ ∃ j : Nat, j ≤ n ∧ chr T L a - 48 = nI j ∧ dg T L a (nI n) = nI j) := by
  by_cases h : p_in (chr T L a - 48) 0 (nI n) = 0
  · exact Or.inl ⟨h, if_pos h⟩
  · obtain ⟨j, hj, e⟩ := p_in_nI (n := n) (by omega) h
    refine Or.inr ⟨h, chr_lt (T := T) ?_, j, hj, e, (if_neg h).trans e⟩
    intro q
    rw [q] at h
    exact h (if_pos (by decide))
theorem nI_nneg {n : Nat} (h : n < 100000) : ¬ nI n < 0 := nI_pos (by omega)
theorem nx_m (a : Nat) : nx (-1) a = a := rfl
theorem nx_n {j : Nat} (hj : j < 100000) (a : Nat) : nx (nI j) a = a + 1 := if_neg (nI_nneg hj)
theorem nx_dg (T : Nat → Int32) {L a : Nat} {n : Nat} (hn : n < 100) (hal : a ≤ L) : nx (dg T L a (nI n)) a ≤ L ∧ a ≤ nx (dg T L a (nI n)) a := by
  rcases dg_cs T L a hn with ⟨-, e⟩ | ⟨-, h, j, hj, -, e⟩
  · rw [e, nx_m]
    exact ⟨hal, Nat.le_refl _⟩
  · rw [e, nx_n (by omega)]
    omega
theorem ptv_cs (T : Nat → Int32) (L a : Nat) : (¬ chr T L a = 97 ∧ ¬ chr T L a = 101 ∧ ptv T L a = -1) ∨ (chr T L a = 97 ∧ a < L ∧ ptv T L a = nI 0) ∨ (¬ chr T L a = 97 ∧ chr T L a = 101 ∧ a < L ∧ ptv T L a = nI 1) := by
  by_cases h : chr T L a = 97
  · exact Or.inr (Or.inl ⟨h, chr_lt (by rw [h]; decide), if_pos h⟩)
  · by_cases h2 : chr T L a = 101
    · exact Or.inr (Or.inr ⟨h, h2, chr_lt (by rw [h2]; decide), by rw [ptv, if_neg h, if_pos h2]; rfl⟩)
    · exact Or.inl ⟨h, h2, by rw [ptv, if_neg h, if_neg h2]⟩
theorem nx_pt (T : Nat → Int32) {L a : Nat} (hal : a ≤ L) : nx (ptv T L a) a ≤ L ∧ a ≤ nx (ptv T L a) a := by
  rcases ptv_cs T L a with ⟨-, -, e⟩ | ⟨-, h, e⟩ | ⟨-, -, h, e⟩ <;> rw [e]
  · exact ⟨hal, Nat.le_refl _⟩
  · rw [nx_n (by decide)]
    omega
  · rw [nx_n (by decide)]
    omega
theorem dy1_le (T : Nat → Int32) {L a : Nat} (hal : a ≤ L) : dy1 T L a ≤ L ∧ a ≤ dy1 T L a := nx_dg (n := 9) T (by decide) hal
theorem dya_le (T : Nat → Int32) {L a : Nat} (hal : a ≤ L) : dya T L a ≤ L ∧ a ≤ dya T L a := by
  have h1 := dy1_le T hal
  unfold dya
  by_cases h : dyc T L a
  · rw [if_pos h]
    have h2 : dy1 T L a < L := by
      refine chr_lt (T := T) (fun q => h.2.1 ?_)
      rw [dy2, q]
      decide
    omega
  · rw [if_neg h]
    exact h1
theorem rd1_le (T : Nat → Int32) {L a : Nat} (hal : a ≤ L) : rd1 T L a ≤ L ∧ a ≤ rd1 T L a := nx_dg (n := 7) T (by decide) hal
theorem rd2_le (T : Nat → Int32) {L a : Nat} (hal : a ≤ L) : rd2 T L a ≤ L ∧ a ≤ rd2 T L a := by
  have h1 := rd1_le T hal
  have h2 := nx_pt T h1.1
  unfold rd2
  by_cases h : 0 ≤ rdf T L a
  · rw [if_pos h]
    omega
  · rw [if_neg h]
    exact h1
theorem rd3_le (T : Nat → Int32) {L a : Nat} (hal : a ≤ L) : rd3 T L a ≤ L ∧ a ≤ rd3 T L a := by
  have h1 := rd2_le T hal
  have h2 := dya_le T h1.1
  unfold rd3
  by_cases h : 0 ≤ rdq T L a
  · rw [if_pos h]
    omega
  · rw [if_neg h]
    exact h1
/-! the reference's place in the text, and the show that it has read -/
def atS (σ : S9) (a : Nat) : S9 := st9 σ 12 (upd (σ 12) 2 (nI a))
theorem atS_12 (σ : S9) (a : Nat) : atS σ a 12 = upd (σ 12) 2 (nI a) := st9_s σ 12 _
theorem atS_id {σ : S9} {a : Nat} (h : σ 12 2 = nI a) : atS σ a = σ := by
  rw [atS, ← h, upd_id, st9_id]
theorem atS_pt (σ : S9) (a : Nat) (x : Int32) : st9 (atS σ a) 12 (upd (atS σ a 12) 2 x) = st9 σ 12 (upd (σ 12) 2 x) := by
  rw [atS_12, upd_tw, atS, st9_tw]
def rS1 (σ : S9) (a : Nat) (f : Int32) : S9 := st9 σ 12 (upd (upd (σ 12) 2 (nI a)) 3 f)
def rS2 (σ : S9) (a : Nat) (f q : Int32) : S9 := st9 σ 12 (upd (upd (upd (σ 12) 2 (nI a)) 3 f) 4 q)
def rS3 (σ : S9) (a : Nat) (f q d : Int32) : S9 := st9 σ 12 (upd (upd (upd (upd (σ 12) 2 (nI a)) 3 f) 4 q) 5 d)
theorem rS1_of (σ : S9) (a : Nat) (f : Int32) : st9 (atS σ a) 12 (upd (atS σ a 12) 3 f) = rS1 σ a f := by rw [atS_12, atS, st9_tw, rS1]
theorem upd_sw (f : Nat → Int32) {i j : Nat} (x y : Int32) (h : i ≠ j) : upd (upd f i x) j y = upd (upd f j y) i x := by
  funext k
  by_cases e : k = i
  · subst e
    rw [upd_n _ _ h, upd_s, upd_s]
  · rw [upd_n _ _ e]
    by_cases e2 : k = j
    · subst e2
      rw [upd_s, upd_s]
    · rw [upd_n _ _ e2, upd_n _ _ e2, upd_n _ _ e]
theorem rS1_at (σ : S9) (a b : Nat) (f : Int32) : atS (rS1 σ a f) b = rS1 σ b f := by
  rw [atS, rS1, st9_s, st9_tw, upd_sw _ _ _ (show 3 ≠ 2 by decide), upd_tw, rS1]
theorem rS2_of (σ : S9) (a : Nat) (f q : Int32) : st9 (rS1 σ a f) 12 (upd (rS1 σ a f 12) 4 q) = rS2 σ a f q := by rw [rS1, st9_s, st9_tw, rS2]
theorem rS2_at (σ : S9) (a b : Nat) (f q : Int32) : atS (rS2 σ a f q) b = rS2 σ b f q := by
  rw [atS, rS2, st9_s, st9_tw, upd_sw _ _ _ (show 4 ≠ 2 by decide), upd_sw _ _ _ (show 3 ≠ 2 by decide), upd_tw, rS2]
theorem rS3_of (σ : S9) (a : Nat) (f q d : Int32) : st9 (rS2 σ a f q) 12 (upd (rS2 σ a f q 12) 5 d) = rS3 σ a f q d := by rw [rS2, st9_s, st9_tw, rS3]
/-- all but the reference's place and what it has read -/
def tx9 (σ u : S9) : Prop := (∀ i, i ≠ 12 → u i = σ i) ∧ u 12 0 = σ 12 0 ∧ u 12 1 = σ 12 1
theorem tx9_rf (σ : S9) : tx9 σ σ := ⟨fun _ _ => rfl, rfl, rfl⟩
theorem tx9_tr {a b c : S9} (h : tx9 a b) (k : tx9 b c) : tx9 a c := ⟨fun i hi => (k.1 i hi).trans (h.1 i hi), k.2.1.trans h.2.1, k.2.2.trans h.2.2⟩
theorem tx9_at (σ : S9) (a : Nat) : tx9 σ (atS σ a) := ⟨fun i hi => st9_n _ _ hi, by rw [atS_12, upd_n _ _ (by decide)], by rw [atS_12, upd_n _ _ (by decide)]⟩
theorem tx9_r3 (σ : S9) (a : Nat) (f q d : Int32) : tx9 σ (rS3 σ a f q d) ∧ rS3 σ a f q d 12 2 = nI a ∧ rS3 σ a f q d 12 3 = f ∧ rS3 σ a f q d 12 4 = q ∧ rS3 σ a f q d 12 5 = d := by
  refine ⟨⟨fun i hi => st9_n _ _ hi, ?_, ?_⟩, ?_, ?_, ?_, ?_⟩ <;> rw [rS3, st9_s]
  · rw [upd_n _ _ (by decide), upd_n _ _ (by decide), upd_n _ _ (by decide), upd_n _ _ (by decide)]
  · rw [upd_n _ _ (by decide), upd_n _ _ (by decide), upd_n _ _ (by decide), upd_n _ _ (by decide)]
  · rw [upd_n _ _ (by decide), upd_n _ _ (by decide), upd_n _ _ (by decide), upd_s]
  · rw [upd_n _ _ (by decide), upd_n _ _ (by decide), upd_s]
  · rw [upd_n _ _ (by decide), upd_s]
  · rw [upd_s]
def isn (T : Nat → Int32) (L a : Nat) : Int32 := if chr T L a = 44 then 1 else 0
end
section
/-! the class: its objects at ad 0 (the cinema), ad 1 (hall), ad 3 (run), ad 8 (pad), ad 10 (history); rows of numbers σ 0 .. σ 17 -/
def cTy (cI cC cZ cQ : ClassId) : List (ClassId × FieldType) := [(cI, .int), (cC, .char), (cZ, .boolean), (cQ, .array .int)]
def cFr (ad : Nat → Nat) (σ : S9) : List Value := [.ref (ad 4), .ref (ad 5), .ref (ad 6), .ref (ad 7), .int (σ 5 0), .int (σ 5 1)]
def cFp (ad : Nat → Nat) (σ : S9) : List Value := [.ref (ad 9), .int (σ 7 0)]
def cFh (ad : Nat → Nat) (σ : S9) : List Value := [.ref (ad 11), .int (σ 8 0), .int (σ 8 1)]
def cW (ad : Nat → Nat) (cI cC cZ cQ : ClassId) (σ : S9) : va_W := [(ad 0, .inr (4, [.ref (ad 1), .ref (ad 3), .ref (ad 8), .ref (ad 10), .ref (ad 12), .ref (ad 13)])), (ad 1, .inr (1, [.ref (ad 2)])), (ad 2, .inl (cI, 151, .inl (σ 0))), (ad 3, .inr (0, cFr ad σ)), (ad 4, .inl (cI, 70, .inl (σ 1))), (ad 5, .inl (cI, 70, .inl (σ 2))), (ad 6, .inl (cI, 25, .inl (σ 3))), (ad 7, .inl (cI, 5, .inl (σ 4))), (ad 8, .inr (3, cFp ad σ)), (ad 9, .inl (cC, 60, .inl (σ 6))), (ad 10, .inr (2, cFh ad σ)), (ad 11, .inl (cQ, 6, .inr (.inr (.inr (.inr (fun i => if i < 6 then some (ad (14 + i)) else none)))))), (ad 12, .inl (cQ, 2, .inr (.inr (.inr (.inr (fun i => if i < 2 then some (ad (14 + (6 + i))) else none)))))), (ad 13, .inl (cZ, 2, .inl (σ 9))), (ad 14, .inl (cI, 151, .inl (σ 10))), (ad 15, .inl (cI, 151, .inl (σ 11))), (ad 16, .inl (cI, 151, .inl (σ 12))), (ad 17, .inl (cI, 151, .inl (σ 13))), (ad 18, .inl (cI, 151, .inl (σ 14))), (ad 19, .inl (cI, 151, .inl (σ 15))), (ad 20, .inl (cI, 151, .inl (σ 16))), (ad 21, .inl (cI, 151, .inl (σ 17)))]
theorem cW_a2 (ad : Nat → Nat) (cI cC cZ cQ : ClassId) (σ : S9) (g : Nat → Int32) : (cW ad cI cC cZ cQ σ).set 2 (ad 2, .inl (cI, 151, .inl g)) = cW ad cI cC cZ cQ (st9 σ 0 g) := by simp [cW, cFr, cFp, cFh, st9]
theorem cW_a4 (ad : Nat → Nat) (cI cC cZ cQ : ClassId) (σ : S9) (g : Nat → Int32) : (cW ad cI cC cZ cQ σ).set 4 (ad 4, .inl (cI, 70, .inl g)) = cW ad cI cC cZ cQ (st9 σ 1 g) := by simp [cW, cFr, cFp, cFh, st9]
theorem cW_a5 (ad : Nat → Nat) (cI cC cZ cQ : ClassId) (σ : S9) (g : Nat → Int32) : (cW ad cI cC cZ cQ σ).set 5 (ad 5, .inl (cI, 70, .inl g)) = cW ad cI cC cZ cQ (st9 σ 2 g) := by simp [cW, cFr, cFp, cFh, st9]
theorem cW_a6 (ad : Nat → Nat) (cI cC cZ cQ : ClassId) (σ : S9) (g : Nat → Int32) : (cW ad cI cC cZ cQ σ).set 6 (ad 6, .inl (cI, 25, .inl g)) = cW ad cI cC cZ cQ (st9 σ 3 g) := by simp [cW, cFr, cFp, cFh, st9]
theorem cW_a7 (ad : Nat → Nat) (cI cC cZ cQ : ClassId) (σ : S9) (g : Nat → Int32) : (cW ad cI cC cZ cQ σ).set 7 (ad 7, .inl (cI, 5, .inl g)) = cW ad cI cC cZ cQ (st9 σ 4 g) := by simp [cW, cFr, cFp, cFh, st9]
theorem cW_a9 (ad : Nat → Nat) (cI cC cZ cQ : ClassId) (σ : S9) (g : Nat → Int32) : (cW ad cI cC cZ cQ σ).set 9 (ad 9, .inl (cC, 60, .inl g)) = cW ad cI cC cZ cQ (st9 σ 6 g) := by simp [cW, cFr, cFp, cFh, st9]
theorem cW_a13 (ad : Nat → Nat) (cI cC cZ cQ : ClassId) (σ : S9) (g : Nat → Int32) : (cW ad cI cC cZ cQ σ).set 13 (ad 13, .inl (cZ, 2, .inl g)) = cW ad cI cC cZ cQ (st9 σ 9 g) := by simp [cW, cFr, cFp, cFh, st9]
theorem cW_fX0_4 (ad : Nat → Nat) (cI cC cZ cQ : ClassId) (σ : S9) (x : Int32) : (cW ad cI cC cZ cQ σ).set 3 (ad 3, .inr (0, (cFr ad σ).set 4 (.int x))) = cW ad cI cC cZ cQ (st9 σ 5 (upd (σ 5) 0 x)) := by simp [cW, cFr, cFp, cFh, st9, upd]
theorem cW_fX0_5 (ad : Nat → Nat) (cI cC cZ cQ : ClassId) (σ : S9) (x : Int32) : (cW ad cI cC cZ cQ σ).set 3 (ad 3, .inr (0, (cFr ad σ).set 5 (.int x))) = cW ad cI cC cZ cQ (st9 σ 5 (upd (σ 5) 1 x)) := by simp [cW, cFr, cFp, cFh, st9, upd]
theorem cW_fX3_1 (ad : Nat → Nat) (cI cC cZ cQ : ClassId) (σ : S9) (x : Int32) : (cW ad cI cC cZ cQ σ).set 8 (ad 8, .inr (3, (cFp ad σ).set 1 (.int x))) = cW ad cI cC cZ cQ (st9 σ 7 (upd (σ 7) 0 x)) := by simp [cW, cFr, cFp, cFh, st9, upd]
theorem cW_fX2_1 (ad : Nat → Nat) (cI cC cZ cQ : ClassId) (σ : S9) (x : Int32) : (cW ad cI cC cZ cQ σ).set 10 (ad 10, .inr (2, (cFh ad σ).set 1 (.int x))) = cW ad cI cC cZ cQ (st9 σ 8 (upd (σ 8) 0 x)) := by simp [cW, cFr, cFp, cFh, st9, upd]
theorem cW_fX2_2 (ad : Nat → Nat) (cI cC cZ cQ : ClassId) (σ : S9) (x : Int32) : (cW ad cI cC cZ cQ σ).set 10 (ad 10, .inr (2, (cFh ad σ).set 2 (.int x))) = cW ad cI cC cZ cQ (st9 σ 8 (upd (σ 8) 1 x)) := by simp [cW, cFr, cFp, cFh, st9, upd]
theorem cW_row (ad : Nat → Nat) (cI cC cZ cQ : ClassId) (σ : S9) {i : Nat} (h : i < 8) : (cW ad cI cC cZ cQ σ)[14 + i]? = some (ad (14 + i), .inl (cI, 151, .inl (σ (10 + i)))) := by
  rcases (show i = 0 ∨ i = 1 ∨ i = 2 ∨ i = 3 ∨ i = 4 ∨ i = 5 ∨ i = 6 ∨ i = 7 by omega) with rfl | rfl | rfl | rfl | rfl | rfl | rfl | rfl <;> rfl
theorem cW_rx (ad : Nat → Nat) (cI cC cZ cQ : ClassId) (σ : S9) (g : Nat → Int32) {i : Nat} (h : i < 8) : (cW ad cI cC cZ cQ σ).set (14 + i) (ad (14 + i), .inl (cI, 151, .inl g)) = cW ad cI cC cZ cQ (st9 σ (10 + i) g) := by
  rcases (show i = 0 ∨ i = 1 ∨ i = 2 ∨ i = 3 ∨ i = 4 ∨ i = 5 ∨ i = 6 ∨ i = 7 by omega) with rfl | rfl | rfl | rfl | rfl | rfl | rfl | rfl <;> simp [cW, cFr, cFp, cFh, st9]
end
section
set_option maxHeartbeats 4000000 in
set_option maxRecDepth 100000 in
theorem c_X1_copyTo (l : Launch) (D : va_G) (ad : Nat → Nat) (cI cC cZ cQ : ClassId) (σ : S9) (i : Nat) (hi : i < 8) : CMv l (cW ad cI cC cZ cQ) D (cTy cI cC cZ cQ) yX1_copyTo wsX1_copyTo ({ frames := 1, cells := 0, slots := 0, locals := 26 } : Room) [.ref (ad 1), .ref (ad (14 + i))] σ (fun u => u = st9 σ (10 + i) (va_cpy (σ 0) (σ (10 + i)) 0 0 151)) := by
  refine v_startv (own := RX1) (cc := cX1_copyTo) (nL := 2) rfl (by decide) rfl (Nat.le_of_ble_eq_true rfl) ?_
  intro p e s m args below meth c A Q C K hend
  refine v_lv (lv' := [(0, .ref (ad 1)), (1, .ref (ad (14 + i)))]) [0, 1] rfl ?_
  refine v_aload_n C dX1_copyTo_0 rfl 0 0 rfl rfl ?_
  refine v_get C K in_X1_copyTo_X1 1 rfl rfl 0 (by decide) fl_X1_copyTo_X1_0 rfl dX1_copyTo_1 rfl ?_
  refine v_iconst (v := 0) C dX1_copyTo_4 rfl ic_0 ?_
  refine v_aload_n C dX1_copyTo_5 rfl 1 1 rfl rfl ?_
  refine v_iconst (v := 0) C dX1_copyTo_6 rfl ic_0 ?_
  refine v_sipush (v := 151) C dX1_copyTo_7 rfl sp_151 ?_
  refine v_copyi C K cp_X1_copyTo_0 cp_X1_copyTo_1 cp_X1_copyTo_2 cp_X1_copyTo_3 _ 2 (14 + i) 0 0 rfl (cW_row ad cI cC cZ cQ _ (by omega)) rfl rfl 0 0 151 rfl rfl rfl (by decide) (by decide) (by decide) (Nat.le_of_ble_eq_true rfl) (by decide) (cW_rx ad cI cC cZ cQ _ _ (by omega)) dX1_copyTo_10 rfl ?_
  exact hend (rfl) dX1_copyTo_13
set_option maxHeartbeats 4000000 in
set_option maxRecDepth 100000 in
theorem c_X1_setting (l : Launch) (D : va_G) (ad : Nat → Nat) (cI cC cZ cQ : ClassId) (σ : S9) (k : Nat) (hk : k < 5) : CMi l (cW ad cI cC cZ cQ) D (cTy cI cC cZ cQ) yX1_setting wsX1_setting ({ frames := 0, cells := 0, slots := 0, locals := 0 } : Room) [.ref (ad 1), .int (nI k)] σ (fun r u => r = σ 0 k ∧ u = σ) := by
  refine v_starti (own := RX1) (cc := cX1_setting) (nL := 2) rfl (by decide) rfl (Nat.le_of_ble_eq_true rfl) ?_
  intro p e s m args below meth c A Q C K hend
  refine v_lv (lv' := [(0, .ref (ad 1)), (1, .int (nI k))]) [0, 1] rfl ?_
  refine v_aload_n C dX1_setting_0 rfl 0 0 rfl rfl ?_
  refine v_get C K in_X1_setting_X1 1 rfl rfl 0 (by decide) fl_X1_setting_X1_0 rfl dX1_setting_1 rfl ?_
  refine v_iload_n C dX1_setting_4 rfl 1 1 rfl rfl ?_
  refine v_iald C K 2 0 rfl rfl (k) (rfl) (by omega) (by decide) dX1_setting_5 rfl ?_
  exact hend (⟨rfl, rfl⟩) (rfl) dX1_setting_6
set_option maxHeartbeats 4000000 in
set_option maxRecDepth 100000 in
theorem c_X1_changeSetting (l : Launch) (D : va_G) (ad : Nat → Nat) (cI cC cZ cQ : ClassId) (σ : S9) (k : Nat) (hk : k < 5) (v : Int32) : CMi l (cW ad cI cC cZ cQ) D (cTy cI cC cZ cQ) yX1_changeSetting wsX1_changeSetting ({ frames := 0, cells := 0, slots := 0, locals := 0 } : Room) [.ref (ad 1), .int (nI k), .int v] σ (fun r u => r = σ 0 k ∧ u = st9 σ 0 (upd (σ 0) k v)) := by
  refine v_starti (own := RX1) (cc := cX1_changeSetting) (nL := 4) rfl (by decide) rfl (Nat.le_of_ble_eq_true rfl) ?_
  intro p e s m args below meth c A Q C K hend
  refine v_lv (lv' := [(0, .ref (ad 1)), (1, .int (nI k)), (2, .int v)]) [0, 1, 2] rfl ?_
  refine v_aload_n C dX1_changeSetting_0 rfl 0 0 rfl rfl ?_
  refine v_get C K in_X1_changeSetting_X1 1 rfl rfl 0 (by decide) fl_X1_changeSetting_X1_0 rfl dX1_changeSetting_1 rfl ?_
  refine v_iload_n C dX1_changeSetting_4 rfl 1 1 rfl rfl ?_
  refine v_iald C K 2 0 rfl rfl (k) (rfl) (by omega) (by decide) dX1_changeSetting_5 rfl ?_
  refine v_istore_n (lv' := [(3, _), (0, _), (1, _), (2, _)]) C dX1_changeSetting_6 rfl 3 rfl (by decide) rfl ?_
  refine v_aload_n C dX1_changeSetting_7 rfl 0 1 rfl rfl ?_
  refine v_get C K in_X1_changeSetting_X1 1 rfl rfl 0 (by decide) fl_X1_changeSetting_X1_0 rfl dX1_changeSetting_8 rfl ?_
  refine v_iload_n C dX1_changeSetting_11 rfl 1 2 rfl rfl ?_
  refine v_iload_n C dX1_changeSetting_12 rfl 2 3 rfl rfl ?_
  refine v_iast C K _ 2 0 rfl rfl (k) (rfl) (by omega) (by decide) (cW_a2 ad cI cC cZ cQ _ _) dX1_changeSetting_13 rfl ?_
  refine v_iload_n C dX1_changeSetting_14 rfl 3 0 rfl rfl ?_
  exact hend (⟨rfl, rfl⟩) (rfl) dX1_changeSetting_15
set_option maxHeartbeats 4000000 in
set_option maxRecDepth 100000 in
theorem c_X1_films (l : Launch) (D : va_G) (ad : Nat → Nat) (cI cC cZ cQ : ClassId) (σ : S9)  : CMi l (cW ad cI cC cZ cQ) D (cTy cI cC cZ cQ) yX1_films wsX1_films ({ frames := 0, cells := 0, slots := 0, locals := 0 } : Room) [.ref (ad 1)] σ (fun r u => r = σ 0 5 ∧ u = σ) := by
  refine v_starti (own := RX1) (cc := cX1_films) (nL := 1) rfl (by decide) rfl (Nat.le_of_ble_eq_true rfl) ?_
  intro p e s m args below meth c A Q C K hend
  refine v_lv (lv' := [(0, .ref (ad 1))]) [0] rfl ?_
  refine v_aload_n C dX1_films_0 rfl 0 0 rfl rfl ?_
  refine v_get C K in_X1_films_X1 1 rfl rfl 0 (by decide) fl_X1_films_X1_0 rfl dX1_films_1 rfl ?_
  refine v_iconst (v := 5) C dX1_films_4 rfl ic_5 ?_
  refine v_iald C K 2 0 rfl rfl (5) (rfl) (by omega) (by decide) dX1_films_5 rfl ?_
  exact hend (⟨rfl, rfl⟩) (rfl) dX1_films_6
def c_has (r : Nat → Int32) (x : Int32) : Int32 := if x < 0 then 0 else if r 5 ≤ x then 0 else 1
set_option maxHeartbeats 4000000 in
set_option maxRecDepth 100000 in
theorem c_X1_hasFilm (l : Launch) (D : va_G) (ad : Nat → Nat) (cI cC cZ cQ : ClassId) (σ : S9) (x : Int32) : CMi l (cW ad cI cC cZ cQ) D (cTy cI cC cZ cQ) yX1_hasFilm wsX1_hasFilm ({ frames := 1, cells := 0, slots := 0, locals := 20 } : Room) [.ref (ad 1), .int x] σ (fun r u => r = c_has (σ 0) x ∧ u = σ) := by
  refine v_starti (own := RX1) (cc := cX1_hasFilm) (nL := 2) rfl (by decide) rfl (Nat.le_of_ble_eq_true rfl) ?_
  intro p e s m args below meth c A Q C K hend
  refine v_lv (lv' := [(0, .ref (ad 1)), (1, .int x)]) [0, 1] rfl ?_
  refine v_iload_n C dX1_hasFilm_0 rfl 1 1 rfl rfl ?_
  refine v_if_lt C 16 dX1_hasFilm_1 (by decide) rfl (fun h1 => ?_) (fun h1 => ?_)
  · skip
    refine v_iconst (v := 0) C dX1_hasFilm_16 rfl ic_0 ?_
    exact hend (⟨by simp [c_has, h1], rfl⟩) (rfl) dX1_hasFilm_17
  · skip
    refine v_iload_n C dX1_hasFilm_4 rfl 1 1 rfl rfl ?_
    refine v_aload_n C dX1_hasFilm_5 rfl 0 0 rfl rfl ?_
    refine v_callVid C K (c_X1_films l D ad cI cC cZ cQ _) gX1_hasFilm_X1_films rfl hd_X1_films ⟨rfl, rfl⟩ ⟨Nat.le_of_ble_eq_true rfl, Nat.le_of_ble_eq_true rfl⟩ 1 rfl rfl rfl rfl rfl (Nat.le_of_ble_eq_true rfl) ⟨Nat.le_refl _, Nat.le_refl _⟩ dX1_hasFilm_6 rfl ?_
    refine v_icmp_ge C 16 dX1_hasFilm_9 (by decide) rfl (fun h9 => ?_) (fun h9 => ?_)
    · skip
      refine v_iconst (v := 0) C dX1_hasFilm_16 rfl ic_0 ?_
      exact hend (⟨by simp [c_has, h1, h9], rfl⟩) (rfl) dX1_hasFilm_17
    · skip
      refine v_iconst (v := 1) C dX1_hasFilm_12 rfl ic_1 ?_
      refine v_goto C 17 dX1_hasFilm_13 (by decide) ?_
      exact hend (⟨by simp [c_has, h1, h9], rfl⟩) (rfl) dX1_hasFilm_17
set_option maxHeartbeats 4000000 in
set_option maxRecDepth 100000 in
theorem c_X1_addFilm (l : Launch) (D : va_G) (ad : Nat → Nat) (cI cC cZ cQ : ClassId) (σ : S9) (n : Nat) (hn : σ 0 5 = nI n) (hn8 : n < 8) (xd xc xm xs xf : Int32) : CMi l (cW ad cI cC cZ cQ) D (cTy cI cC cZ cQ) yX1_addFilm wsX1_addFilm ({ frames := 1, cells := 0, slots := 0, locals := 20 } : Room) [.ref (ad 1), .int xd, .int xc, .int xm, .int xs, .int xf] σ (fun r u => r = nI n ∧ u = st9 σ 0 (film9 (σ 0) n xd xc xm xs xf)) := by
  refine v_starti (own := RX1) (cc := cX1_addFilm) (nL := 8) rfl (by decide) rfl (Nat.le_of_ble_eq_true rfl) ?_
  intro p e s m args below meth c A Q C K hend
  refine v_lv (lv' := [(0, .ref (ad 1)), (1, .int xd), (2, .int xc), (3, .int xm), (4, .int xs), (5, .int xf)]) [0, 1, 2, 3, 4, 5] rfl ?_
  refine v_aload_n C dX1_addFilm_0 rfl 0 0 rfl rfl ?_
  refine v_callVid C K (c_X1_films l D ad cI cC cZ cQ _) gX1_addFilm_X1_films rfl hd_X1_films ⟨rfl, rfl⟩ ⟨Nat.le_of_ble_eq_true rfl, Nat.le_of_ble_eq_true rfl⟩ 1 rfl rfl rfl rfl rfl (Nat.le_of_ble_eq_true rfl) ⟨Nat.le_refl _, Nat.le_refl _⟩ dX1_addFilm_1 rfl ?_
  refine v_top (nI n) (hn) ?_
  refine v_istore (lv' := [(6, _), (0, _), (1, _), (2, _), (3, _), (4, _), (5, _)]) C dX1_addFilm_4 rfl (by decide) rfl ?_
  refine v_bipush (v := 6) C dX1_addFilm_6 rfl bp_6 ?_
  refine v_iload C dX1_addFilm_8 rfl 0 rfl ?_
  refine v_iconst (v := 5) C dX1_addFilm_10 rfl ic_5 ?_
  refine v_imul C dX1_addFilm_11 rfl ?_
  refine v_iadd C dX1_addFilm_12 rfl ?_
  refine v_top (nI (6 + 5 * n)) (by simp only [lit9, pk_mul, nI_add]; congr 1; omega) ?_
  refine v_istore (lv' := [(7, _), (6, _), (0, _), (1, _), (2, _), (3, _), (4, _), (5, _)]) C dX1_addFilm_13 rfl (by decide) rfl ?_
  refine v_aload_n C dX1_addFilm_15 rfl 0 2 rfl rfl ?_
  refine v_get C K in_X1_addFilm_X1 1 rfl rfl 0 (by decide) fl_X1_addFilm_X1_0 rfl dX1_addFilm_16 rfl ?_
  refine v_iload C dX1_addFilm_19 rfl 0 rfl ?_
  refine v_iconst (v := 0) C dX1_addFilm_21 rfl ic_0 ?_
  refine v_iadd C dX1_addFilm_22 rfl ?_
  refine v_iload_n C dX1_addFilm_23 rfl 1 3 rfl rfl ?_
  refine v_iast C K _ 2 0 rfl rfl (6 + 5 * n + 0) (by simp only [lit9, pk_mul, nI_add]) (by omega) (by decide) (cW_a2 ad cI cC cZ cQ _ _) dX1_addFilm_24 rfl ?_
  refine v_aload_n C dX1_addFilm_25 rfl 0 2 rfl rfl ?_
  refine v_get C K in_X1_addFilm_X1 1 rfl rfl 0 (by decide) fl_X1_addFilm_X1_0 rfl dX1_addFilm_26 rfl ?_
  refine v_iload C dX1_addFilm_29 rfl 0 rfl ?_
  refine v_iconst (v := 1) C dX1_addFilm_31 rfl ic_1 ?_
  refine v_iadd C dX1_addFilm_32 rfl ?_
  refine v_iload_n C dX1_addFilm_33 rfl 2 4 rfl rfl ?_
  refine v_iast C K _ 2 0 rfl rfl (6 + 5 * n + 1) (by simp only [lit9, pk_mul, nI_add]) (by omega) (by decide) (cW_a2 ad cI cC cZ cQ _ _) dX1_addFilm_34 rfl ?_
  refine v_aload_n C dX1_addFilm_35 rfl 0 2 rfl rfl ?_
  refine v_get C K in_X1_addFilm_X1 1 rfl rfl 0 (by decide) fl_X1_addFilm_X1_0 rfl dX1_addFilm_36 rfl ?_
  refine v_iload C dX1_addFilm_39 rfl 0 rfl ?_
  refine v_iconst (v := 2) C dX1_addFilm_41 rfl ic_2 ?_
  refine v_iadd C dX1_addFilm_42 rfl ?_
  refine v_iload_n C dX1_addFilm_43 rfl 3 5 rfl rfl ?_
  refine v_iast C K _ 2 0 rfl rfl (6 + 5 * n + 2) (by simp only [lit9, pk_mul, nI_add]) (by omega) (by decide) (cW_a2 ad cI cC cZ cQ _ _) dX1_addFilm_44 rfl ?_
  refine v_aload_n C dX1_addFilm_45 rfl 0 2 rfl rfl ?_
  refine v_get C K in_X1_addFilm_X1 1 rfl rfl 0 (by decide) fl_X1_addFilm_X1_0 rfl dX1_addFilm_46 rfl ?_
  refine v_iload C dX1_addFilm_49 rfl 0 rfl ?_
  refine v_iconst (v := 3) C dX1_addFilm_51 rfl ic_3 ?_
  refine v_iadd C dX1_addFilm_52 rfl ?_
  refine v_iload C dX1_addFilm_53 rfl 6 rfl ?_
  refine v_iast C K _ 2 0 rfl rfl (6 + 5 * n + 3) (by simp only [lit9, pk_mul, nI_add]) (by omega) (by decide) (cW_a2 ad cI cC cZ cQ _ _) dX1_addFilm_55 rfl ?_
  refine v_aload_n C dX1_addFilm_56 rfl 0 2 rfl rfl ?_
  refine v_get C K in_X1_addFilm_X1 1 rfl rfl 0 (by decide) fl_X1_addFilm_X1_0 rfl dX1_addFilm_57 rfl ?_
  refine v_iload C dX1_addFilm_60 rfl 0 rfl ?_
  refine v_iconst (v := 4) C dX1_addFilm_62 rfl ic_4 ?_
  refine v_iadd C dX1_addFilm_63 rfl ?_
  refine v_iload C dX1_addFilm_64 rfl 7 rfl ?_
  refine v_iast C K _ 2 0 rfl rfl (6 + 5 * n + 4) (by simp only [lit9, pk_mul, nI_add]) (by omega) (by decide) (cW_a2 ad cI cC cZ cQ _ _) dX1_addFilm_66 rfl ?_
  refine v_aload_n C dX1_addFilm_67 rfl 0 2 rfl rfl ?_
  refine v_get C K in_X1_addFilm_X1 1 rfl rfl 0 (by decide) fl_X1_addFilm_X1_0 rfl dX1_addFilm_68 rfl ?_
  refine v_iconst (v := 5) C dX1_addFilm_71 rfl ic_5 ?_
  refine v_iload C dX1_addFilm_72 rfl 1 rfl ?_
  refine v_iconst (v := 1) C dX1_addFilm_74 rfl ic_1 ?_
  refine v_iadd C dX1_addFilm_75 rfl ?_
  refine v_top (nI (n + 1)) (nI_1 n) ?_
  refine v_iast C K _ 2 0 rfl rfl (5) (rfl) (by omega) (by decide) (cW_a2 ad cI cC cZ cQ _ _) dX1_addFilm_76 rfl ?_
  refine v_iload C dX1_addFilm_77 rfl 1 rfl ?_
  exact hend (⟨rfl, by simp only [st9_tw, st9_s]; rfl⟩) (rfl) dX1_addFilm_79
set_option maxHeartbeats 4000000 in
set_option maxRecDepth 100000 in
theorem c_X1_fact (l : Launch) (D : va_G) (ad : Nat → Nat) (cI cC cZ cQ : ClassId) (σ : S9) (f w : Nat) (hf : f < 8) (hw : w < 5) : CMi l (cW ad cI cC cZ cQ) D (cTy cI cC cZ cQ) yX1_fact wsX1_fact ({ frames := 0, cells := 0, slots := 0, locals := 0 } : Room) [.ref (ad 1), .int (nI f), .int (nI w)] σ (fun r u => r = σ 0 (6 + 5 * f + w) ∧ u = σ) := by
  refine v_starti (own := RX1) (cc := cX1_fact) (nL := 3) rfl (by decide) rfl (Nat.le_of_ble_eq_true rfl) ?_
  intro p e s m args below meth c A Q C K hend
  refine v_lv (lv' := [(0, .ref (ad 1)), (1, .int (nI f)), (2, .int (nI w))]) [0, 1, 2] rfl ?_
  refine v_aload_n C dX1_fact_0 rfl 0 0 rfl rfl ?_
  refine v_get C K in_X1_fact_X1 1 rfl rfl 0 (by decide) fl_X1_fact_X1_0 rfl dX1_fact_1 rfl ?_
  refine v_bipush (v := 6) C dX1_fact_4 rfl bp_6 ?_
  refine v_iload_n C dX1_fact_6 rfl 1 1 rfl rfl ?_
  refine v_iconst (v := 5) C dX1_fact_7 rfl ic_5 ?_
  refine v_imul C dX1_fact_8 rfl ?_
  refine v_iadd C dX1_fact_9 rfl ?_
  refine v_iload_n C dX1_fact_10 rfl 2 2 rfl rfl ?_
  refine v_iadd C dX1_fact_11 rfl ?_
  refine v_iald C K 2 0 rfl rfl (6 + 5 * f + w) (by simp only [lit9, pk_mul, nI_add]; congr 1; omega) (by omega) (by decide) dX1_fact_12 rfl ?_
  exact hend (⟨rfl, rfl⟩) (rfl) dX1_fact_13
set_option maxHeartbeats 4000000 in
set_option maxRecDepth 100000 in
theorem c_X1_showAt (l : Launch) (D : va_G) (ad : Nat → Nat) (cI cC cZ cQ : ClassId) (σ : S9) (k : Nat) (hk : k < 70) : CMi l (cW ad cI cC cZ cQ) D (cTy cI cC cZ cQ) yX1_showAt wsX1_showAt ({ frames := 0, cells := 0, slots := 0, locals := 0 } : Room) [.ref (ad 1), .int (nI k)] σ (fun r u => r = σ 0 (46 + k) ∧ u = σ) := by
  refine v_starti (own := RX1) (cc := cX1_showAt) (nL := 2) rfl (by decide) rfl (Nat.le_of_ble_eq_true rfl) ?_
  intro p e s m args below meth c A Q C K hend
  refine v_lv (lv' := [(0, .ref (ad 1)), (1, .int (nI k))]) [0, 1] rfl ?_
  refine v_aload_n C dX1_showAt_0 rfl 0 0 rfl rfl ?_
  refine v_get C K in_X1_showAt_X1 1 rfl rfl 0 (by decide) fl_X1_showAt_X1_0 rfl dX1_showAt_1 rfl ?_
  refine v_bipush (v := 46) C dX1_showAt_4 rfl bp_46 ?_
  refine v_iload_n C dX1_showAt_6 rfl 1 1 rfl rfl ?_
  refine v_iadd C dX1_showAt_7 rfl ?_
  refine v_iald C K 2 0 rfl rfl (46 + k) (by simp only [lit9, pk_mul, nI_add]) (by omega) (by decide) dX1_showAt_8 rfl ?_
  exact hend (⟨rfl, rfl⟩) (rfl) dX1_showAt_9
set_option maxHeartbeats 4000000 in
set_option maxRecDepth 100000 in
theorem c_X1_replaceShow (l : Launch) (D : va_G) (ad : Nat → Nat) (cI cC cZ cQ : ClassId) (σ : S9) (k : Nat) (hk : k < 70) (x : Int32) : CMi l (cW ad cI cC cZ cQ) D (cTy cI cC cZ cQ) yX1_replaceShow wsX1_replaceShow ({ frames := 0, cells := 0, slots := 0, locals := 0 } : Room) [.ref (ad 1), .int (nI k), .int x] σ (fun r u => r = σ 0 (46 + k) ∧ u = st9 σ 0 (upd (σ 0) (46 + k) x)) := by
  refine v_starti (own := RX1) (cc := cX1_replaceShow) (nL := 4) rfl (by decide) rfl (Nat.le_of_ble_eq_true rfl) ?_
  intro p e s m args below meth c A Q C K hend
  refine v_lv (lv' := [(0, .ref (ad 1)), (1, .int (nI k)), (2, .int x)]) [0, 1, 2] rfl ?_
  refine v_aload_n C dX1_replaceShow_0 rfl 0 0 rfl rfl ?_
  refine v_get C K in_X1_replaceShow_X1 1 rfl rfl 0 (by decide) fl_X1_replaceShow_X1_0 rfl dX1_replaceShow_1 rfl ?_
  refine v_bipush (v := 46) C dX1_replaceShow_4 rfl bp_46 ?_
  refine v_iload_n C dX1_replaceShow_6 rfl 1 1 rfl rfl ?_
  refine v_iadd C dX1_replaceShow_7 rfl ?_
  refine v_iald C K 2 0 rfl rfl (46 + k) (by simp only [lit9, pk_mul, nI_add]) (by omega) (by decide) dX1_replaceShow_8 rfl ?_
  refine v_istore_n (lv' := [(3, _), (0, _), (1, _), (2, _)]) C dX1_replaceShow_9 rfl 3 rfl (by decide) rfl ?_
  refine v_aload_n C dX1_replaceShow_10 rfl 0 1 rfl rfl ?_
  refine v_get C K in_X1_replaceShow_X1 1 rfl rfl 0 (by decide) fl_X1_replaceShow_X1_0 rfl dX1_replaceShow_11 rfl ?_
  refine v_bipush (v := 46) C dX1_replaceShow_14 rfl bp_46 ?_
  refine v_iload_n C dX1_replaceShow_16 rfl 1 2 rfl rfl ?_
  refine v_iadd C dX1_replaceShow_17 rfl ?_
  refine v_iload_n C dX1_replaceShow_18 rfl 2 3 rfl rfl ?_
  refine v_iast C K _ 2 0 rfl rfl (46 + k) (by simp only [lit9, pk_mul, nI_add]) (by omega) (by decide) (cW_a2 ad cI cC cZ cQ _ _) dX1_replaceShow_19 rfl ?_
  refine v_iload_n C dX1_replaceShow_20 rfl 3 0 rfl rfl ?_
  exact hend (⟨rfl, rfl⟩) (rfl) dX1_replaceShow_21
set_option maxHeartbeats 4000000 in
set_option maxRecDepth 100000 in
theorem c_X1_rentOf (l : Launch) (D : va_G) (ad : Nat → Nat) (cI cC cZ cQ : ClassId) (σ : S9) (d : Nat) (hd : d < 35) : CMi l (cW ad cI cC cZ cQ) D (cTy cI cC cZ cQ) yX1_rentOf wsX1_rentOf ({ frames := 0, cells := 0, slots := 0, locals := 0 } : Room) [.ref (ad 1), .int (nI d)] σ (fun r u => r = σ 0 (116 + d) ∧ u = σ) := by
  refine v_starti (own := RX1) (cc := cX1_rentOf) (nL := 2) rfl (by decide) rfl (Nat.le_of_ble_eq_true rfl) ?_
  intro p e s m args below meth c A Q C K hend
  refine v_lv (lv' := [(0, .ref (ad 1)), (1, .int (nI d))]) [0, 1] rfl ?_
  refine v_aload_n C dX1_rentOf_0 rfl 0 0 rfl rfl ?_
  refine v_get C K in_X1_rentOf_X1 1 rfl rfl 0 (by decide) fl_X1_rentOf_X1_0 rfl dX1_rentOf_1 rfl ?_
  refine v_bipush (v := 116) C dX1_rentOf_4 rfl bp_116 ?_
  refine v_iload_n C dX1_rentOf_6 rfl 1 1 rfl rfl ?_
  refine v_iadd C dX1_rentOf_7 rfl ?_
  refine v_iald C K 2 0 rfl rfl (116 + d) (by simp only [lit9, pk_mul, nI_add]) (by omega) (by decide) dX1_rentOf_8 rfl ?_
  exact hend (⟨rfl, rfl⟩) (rfl) dX1_rentOf_9
set_option maxHeartbeats 4000000 in
set_option maxRecDepth 100000 in
theorem c_X1_changeRent (l : Launch) (D : va_G) (ad : Nat → Nat) (cI cC cZ cQ : ClassId) (σ : S9) (d : Nat) (hd : d < 35) (v : Int32) : CMv l (cW ad cI cC cZ cQ) D (cTy cI cC cZ cQ) yX1_changeRent wsX1_changeRent ({ frames := 0, cells := 0, slots := 0, locals := 0 } : Room) [.ref (ad 1), .int (nI d), .int v] σ (fun u => u = st9 σ 0 (upd (σ 0) (116 + d) v)) := by
  refine v_startv (own := RX1) (cc := cX1_changeRent) (nL := 3) rfl (by decide) rfl (Nat.le_of_ble_eq_true rfl) ?_
  intro p e s m args below meth c A Q C K hend
  refine v_lv (lv' := [(0, .ref (ad 1)), (1, .int (nI d)), (2, .int v)]) [0, 1, 2] rfl ?_
  refine v_aload_n C dX1_changeRent_0 rfl 0 0 rfl rfl ?_
  refine v_get C K in_X1_changeRent_X1 1 rfl rfl 0 (by decide) fl_X1_changeRent_X1_0 rfl dX1_changeRent_1 rfl ?_
  refine v_bipush (v := 116) C dX1_changeRent_4 rfl bp_116 ?_
  refine v_iload_n C dX1_changeRent_6 rfl 1 1 rfl rfl ?_
  refine v_iadd C dX1_changeRent_7 rfl ?_
  refine v_iload_n C dX1_changeRent_8 rfl 2 2 rfl rfl ?_
  refine v_iast C K _ 2 0 rfl rfl (116 + d) (by simp only [lit9, pk_mul, nI_add]) (by omega) (by decide) (cW_a2 ad cI cC cZ cQ _ _) dX1_changeRent_9 rfl ?_
  exact hend (rfl) dX1_changeRent_10
def c_can (r : Nat → Int32) (d : Nat) (x : Int32) : Int32 := if ¬ r (116 + d) = 0 then 0 else if c_has r x = 0 then 1 else if nI d < r (6 + 5 * x.toNatClampNeg + 4) then 0 else 1
theorem c_has_ne {r : Nat → Int32} {n : Nat} (hn : r 5 = nI n) (h8 : n ≤ 8) {x : Int32} (h : ¬ c_has r x = 0) : ∃ f : Nat, f < n ∧ x = nI f := by
  unfold c_has at h
  by_cases h1 : x < 0
  · simp [h1] at h
  · by_cases h2 : r 5 ≤ x
    · simp [h1, h2] at h
    · rw [hn] at h2
      have h3 := Int32.not_le.mp h2
      obtain ⟨f, hf, rfl⟩ := nI_of h1
      exact ⟨f, (nI_ltI hf (by omega)).mp h3, rfl⟩
theorem c_has_nI {r : Nat → Int32} {n : Nat} (hn : r 5 = nI n) (h8 : n ≤ 8) {f : Nat} (hf : f < n) : c_has r (nI f) = 1 := by
  unfold c_has
  rw [if_neg (nI_pos (by omega)), hn, if_neg (nI_ge hf (by omega))]
theorem c_has_6 (r : Nat → Int32) : c_has r (-6) = 0 := by
  unfold c_has
  rw [if_pos (by decide)]
set_option maxHeartbeats 4000000 in
set_option maxRecDepth 100000 in
theorem c_X1_canHold (l : Launch) (D : va_G) (ad : Nat → Nat) (cI cC cZ cQ : ClassId) (σ : S9) (n : Nat) (hw : wfS (σ 0) n) (d : Nat) (hd : d < 35) (x : Int32) : CMi l (cW ad cI cC cZ cQ) D (cTy cI cC cZ cQ) yX1_canHold wsX1_canHold ({ frames := 2, cells := 0, slots := 0, locals := 41 } : Room) [.ref (ad 1), .int (nI d), .int x] σ (fun r u => r = c_can (σ 0) d x ∧ u = σ) := by
  refine v_starti (own := RX1) (cc := cX1_canHold) (nL := 3) rfl (by decide) rfl (Nat.le_of_ble_eq_true rfl) ?_
  intro p e s m args below meth c A Q C K hend
  refine v_lv (lv' := [(0, .ref (ad 1)), (1, .int (nI d)), (2, .int x)]) [0, 1, 2] rfl ?_
  refine v_aload_n C dX1_canHold_0 rfl 0 0 rfl rfl ?_
  refine v_iload_n C dX1_canHold_1 rfl 1 1 rfl rfl ?_
  refine v_callVid C K (c_X1_rentOf l D ad cI cC cZ cQ _ d hd) gX1_canHold_X1_rentOf rfl hd_X1_rentOf ⟨rfl, rfl⟩ ⟨Nat.le_of_ble_eq_true rfl, Nat.le_of_ble_eq_true rfl⟩ 1 rfl rfl rfl rfl rfl (Nat.le_of_ble_eq_true rfl) ⟨Nat.le_refl _, Nat.le_refl _⟩ dX1_canHold_2 rfl ?_
  refine v_if_eq C 10 dX1_canHold_5 (by decide) rfl (fun h5 => ?_) (fun h5 => ?_)
  · skip
    refine v_aload_n C dX1_canHold_10 rfl 0 0 rfl rfl ?_
    refine v_iload_n C dX1_canHold_11 rfl 2 2 rfl rfl ?_
    refine v_callVid C K (c_X1_hasFilm l D ad cI cC cZ cQ _ _) gX1_canHold_X1_hasFilm rfl hd_X1_hasFilm ⟨rfl, rfl⟩ ⟨Nat.le_of_ble_eq_true rfl, Nat.le_of_ble_eq_true rfl⟩ 1 rfl rfl rfl rfl rfl (Nat.le_of_ble_eq_true rfl) ⟨Nat.le_refl _, Nat.le_refl _⟩ dX1_canHold_12 rfl ?_
    refine v_if_eq C 28 dX1_canHold_15 (by decide) rfl (fun h15t => ?_) (fun h15 => ?_)
    · skip
      refine v_iconst (v := 1) C dX1_canHold_28 rfl ic_1 ?_
      refine v_goto C 33 dX1_canHold_29 (by decide) ?_
      exact hend (⟨by simp [c_can, h5, h15t], rfl⟩) (rfl) dX1_canHold_33
    · skip
      obtain ⟨f, hf, rfl⟩ := c_has_ne hw.1 hw.2.1 h15
      have ecf : (nI f).toNatClampNeg = f := nI_cl (by have := hw.2.1; omega)
      refine v_aload_n C dX1_canHold_18 rfl 0 0 rfl rfl ?_
      refine v_iload_n C dX1_canHold_19 rfl 2 2 rfl rfl ?_
      refine v_iconst (v := 4) C dX1_canHold_20 rfl ic_4 ?_
      refine v_callVid C K (c_X1_fact l D ad cI cC cZ cQ _ f 4 (by have := hw.2.1; omega) (by decide)) gX1_canHold_X1_fact rfl hd_X1_fact ⟨rfl, rfl⟩ ⟨Nat.le_of_ble_eq_true rfl, Nat.le_of_ble_eq_true rfl⟩ 1 rfl rfl rfl rfl rfl (Nat.le_of_ble_eq_true rfl) ⟨Nat.le_refl _, Nat.le_refl _⟩ dX1_canHold_21 rfl ?_
      refine v_iload_n C dX1_canHold_24 rfl 1 1 rfl rfl ?_
      refine v_icmp_gt C 32 dX1_canHold_25 (by decide) rfl (fun h25 => ?_) (fun h25 => ?_)
      · skip
        refine v_iconst (v := 0) C dX1_canHold_32 rfl ic_0 ?_
        exact hend (⟨by simp [c_can, ecf, h5, h15, h25], rfl⟩) (rfl) dX1_canHold_33
      · skip
        refine v_iconst (v := 1) C dX1_canHold_28 rfl ic_1 ?_
        refine v_goto C 33 dX1_canHold_29 (by decide) ?_
        exact hend (⟨by simp [c_can, ecf, h5, h15, h25], rfl⟩) (rfl) dX1_canHold_33
  · skip
    refine v_iconst (v := 0) C dX1_canHold_8 rfl ic_0 ?_
    exact hend (⟨by simp [c_can, h5], rfl⟩) (rfl) dX1_canHold_9
set_option maxHeartbeats 4000000 in
set_option maxRecDepth 100000 in
theorem c_X1_firstDayShown (l : Launch) (D : va_G) (ad : Nat → Nat) (cI cC cZ cQ : ClassId) (σ : S9) (x : Int32) : CMi l (cW ad cI cC cZ cQ) D (cTy cI cC cZ cQ) yX1_firstDayShown wsX1_firstDayShown ({ frames := 1, cells := 0, slots := 0, locals := 21 } : Room) [.ref (ad 1), .int x] σ (fun r u => r = fsh (σ 0) x 70 ∧ u = σ) := by
  refine v_starti (own := RX1) (cc := cX1_firstDayShown) (nL := 3) rfl (by decide) rfl (Nat.le_of_ble_eq_true rfl) ?_
  intro p e s m args below meth c A Q C K hend
  refine v_lv (lv' := [(0, .ref (ad 1)), (1, .int x)]) [0, 1] rfl ?_
  refine v_iconst (v := 0) C dX1_firstDayShown_0 rfl ic_0 ?_
  refine v_istore_n (lv' := [(2, _), (0, _), (1, _)]) C dX1_firstDayShown_1 rfl 2 rfl (by decide) rfl ?_
  have LP2 : ∀ d, d ≤ 70 → fsh (σ 0) x 70 = fsh (σ 0) x (70 - d) → VV p l e ({ frames := 1, cells := 0, slots := 0, locals := 21 } : Room) s m args below meth c 0 0 Q (cW ad cI cC cZ cQ) D A s.heap 3 σ 2 [(0, .ref (ad 1)), (1, .int x), (2, .int (nI d))] [] := by
    refine lpB9 (fun d => fsh (σ 0) x 70 = fsh (σ 0) x (70 - d) → VV p l e ({ frames := 1, cells := 0, slots := 0, locals := 21 } : Room) s m args below meth c 0 0 Q (cW ad cI cC cZ cQ) D A s.heap 3 σ 2 [(0, .ref (ad 1)), (1, .int x), (2, .int (nI d))] []) 70 (fun d hd ih => ?_) ?_
    · intro hq
      refine v_iload_n C dX1_firstDayShown_2 rfl 2 2 rfl rfl ?_
      refine v_bipush (v := 70) C dX1_firstDayShown_3 rfl bp_70 ?_
      refine v_icmp_ge C 27 dX1_firstDayShown_5 (by decide) rfl (fun h9 => absurd h9 (nI_ge hd (by decide))) (fun _ => ?_)
      refine v_aload_n C dX1_firstDayShown_8 rfl 0 0 rfl rfl ?_
      refine v_iload_n C dX1_firstDayShown_9 rfl 2 2 rfl rfl ?_
      refine v_callVid C K (c_X1_showAt l D ad cI cC cZ cQ _ d hd) gX1_firstDayShown_X1_showAt rfl hd_X1_showAt ⟨rfl, rfl⟩ ⟨Nat.le_of_ble_eq_true rfl, Nat.le_of_ble_eq_true rfl⟩ 1 rfl rfl rfl rfl rfl (Nat.le_of_ble_eq_true rfl) ⟨Nat.le_refl _, Nat.le_refl _⟩ dX1_firstDayShown_10 rfl ?_
      refine v_iload_n C dX1_firstDayShown_13 rfl 1 1 rfl rfl ?_
      refine v_icmp_ne C 21 dX1_firstDayShown_14 (by decide) rfl (fun h14 => ?_) (fun h14f => ?_)
      · skip
        refine v_iinc (lv' := [(2, _), (0, _), (1, _)]) C dX1_firstDayShown_21 rfl 2 rfl (inc9 _) (by decide) rfl ?_
        refine v_goto C 2 dX1_firstDayShown_24 (by decide) ?_
        refine v_lv (lv' := [(0, _), (1, _), (2, _)]) [1, 2, 0] rfl ?_
        exact ih (by rw [hq, show 70 - d = (70 - (d + 1)) + 1 by omega, fsh, show 69 - (70 - (d + 1)) = d by omega, if_neg h14])
      · skip
        refine v_iload_n C dX1_firstDayShown_17 rfl 2 2 rfl rfl ?_
        refine v_iconst (v := 2) C dX1_firstDayShown_18 rfl ic_2 ?_
        refine v_idiv C dX1_firstDayShown_19 rfl (by decide) ?_
        refine v_top (nI (d / 2)) (pk_div (by omega) (by decide) (by decide)) ?_
        exact hend (⟨by rw [hq, show 70 - d = (69 - d) + 1 by omega, fsh, show 69 - (69 - d) = d by omega, if_pos h14f], rfl⟩) (rfl) dX1_firstDayShown_20
    · intro hq
      refine v_iload_n C dX1_firstDayShown_2 rfl 2 2 rfl rfl ?_
      refine v_bipush (v := 70) C dX1_firstDayShown_3 rfl bp_70 ?_
      refine v_icmp_ge C 27 dX1_firstDayShown_5 (by decide) rfl (fun _ => ?_) (fun h9 => absurd (nI_le (Nat.le_refl _) (by decide)) h9)
      refine v_bipush (v := -6) C dX1_firstDayShown_27 rfl bp_m6 ?_
      exact hend (⟨by rw [hq]; rfl, rfl⟩) (rfl) dX1_firstDayShown_29
  refine v_lv (lv' := [(0, _), (1, _), (2, _)]) [1, 2, 0] rfl ?_
  exact LP2 0 (by omega) rfl
set_option maxHeartbeats 4000000 in
set_option maxRecDepth 100000 in
theorem c_X1_rentsOf (l : Launch) (D : va_G) (ad : Nat → Nat) (cI cC cZ cQ : ClassId) (σ : S9) (a b : Nat) (hab : a ≤ b) (hb : b ≤ 35) : CMi l (cW ad cI cC cZ cQ) D (cTy cI cC cZ cQ) yX1_rentsOf wsX1_rentsOf ({ frames := 1, cells := 0, slots := 0, locals := 21 } : Room) [.ref (ad 1), .int (nI a), .int (nI b)] σ (fun r u => r = sm9 (fun j => σ 0 (116 + (a + j))) (b - a) ∧ u = σ) := by
  refine v_starti (own := RX1) (cc := cX1_rentsOf) (nL := 5) rfl (by decide) rfl (Nat.le_of_ble_eq_true rfl) ?_
  intro p e s m args below meth c A Q C K hend
  refine v_lv (lv' := [(0, .ref (ad 1)), (1, .int (nI a)), (2, .int (nI b))]) [0, 1, 2] rfl ?_
  refine v_iconst (v := 0) C dX1_rentsOf_0 rfl ic_0 ?_
  refine v_istore_n (lv' := [(3, _), (0, _), (1, _), (2, _)]) C dX1_rentsOf_1 rfl 3 rfl (by decide) rfl ?_
  refine v_iload_n C dX1_rentsOf_2 rfl 1 2 rfl rfl ?_
  refine v_istore (lv' := [(4, _), (3, _), (0, _), (1, _), (2, _)]) C dX1_rentsOf_3 rfl (by decide) rfl ?_
  have LP5 : ∀ d, d ≤ (b - a) → VV p l e ({ frames := 1, cells := 0, slots := 0, locals := 21 } : Room) s m args below meth c 0 0 Q (cW ad cI cC cZ cQ) D A s.heap 5 σ 5 [(0, .ref (ad 1)), (1, .int (nI a)), (2, .int (nI b)), (3, .int (sm9 (fun j => σ 0 (116 + (a + j))) d)), (4, .int (nI (a + d)))] [] := by
    refine lpB9 (fun d => VV p l e ({ frames := 1, cells := 0, slots := 0, locals := 21 } : Room) s m args below meth c 0 0 Q (cW ad cI cC cZ cQ) D A s.heap 5 σ 5 [(0, .ref (ad 1)), (1, .int (nI a)), (2, .int (nI b)), (3, .int (sm9 (fun j => σ 0 (116 + (a + j))) d)), (4, .int (nI (a + d)))] []) (b - a) (fun d hd ih => ?_) ?_
    · skip
      refine v_iload C dX1_rentsOf_5 rfl 4 rfl ?_
      refine v_iload_n C dX1_rentsOf_7 rfl 2 2 rfl rfl ?_
      refine v_icmp_ge C 26 dX1_rentsOf_8 (by decide) rfl (fun h9 => absurd h9 (nI_ge (by omega) (by omega))) (fun _ => ?_)
      refine v_iload_n C dX1_rentsOf_11 rfl 3 3 rfl rfl ?_
      refine v_aload_n C dX1_rentsOf_12 rfl 0 0 rfl rfl ?_
      refine v_iload C dX1_rentsOf_13 rfl 4 rfl ?_
      refine v_callVid C K (c_X1_rentOf l D ad cI cC cZ cQ _ (a + d) (by omega)) gX1_rentsOf_X1_rentOf rfl hd_X1_rentOf ⟨rfl, rfl⟩ ⟨Nat.le_of_ble_eq_true rfl, Nat.le_of_ble_eq_true rfl⟩ 1 rfl rfl rfl rfl rfl (Nat.le_of_ble_eq_true rfl) ⟨Nat.le_refl _, Nat.le_refl _⟩ dX1_rentsOf_15 rfl ?_
      refine v_iadd C dX1_rentsOf_18 rfl ?_
      refine v_top (sm9 (fun j => σ 0 (116 + (a + j))) (d + 1)) (rfl) ?_
      refine v_istore_n (lv' := [(3, _), (0, _), (1, _), (2, _), (4, _)]) C dX1_rentsOf_19 rfl 3 rfl (by decide) rfl ?_
      refine v_iinc (lv' := [(4, _), (3, _), (0, _), (1, _), (2, _)]) C dX1_rentsOf_20 rfl 4 rfl (inc9 _) (by decide) rfl ?_
      refine v_goto C 5 dX1_rentsOf_23 (by decide) ?_
      refine v_lv (lv' := [(0, _), (1, _), (2, _), (3, _), (4, _)]) [2, 3, 4, 1, 0] rfl ?_
      exact ih
    · skip
      refine v_iload C dX1_rentsOf_5 rfl 4 rfl ?_
      refine v_iload_n C dX1_rentsOf_7 rfl 2 2 rfl rfl ?_
      refine v_icmp_ge C 26 dX1_rentsOf_8 (by decide) rfl (fun _ => ?_) (fun h9 => absurd (nI_le (by omega) (by omega)) h9)
      refine v_iload_n C dX1_rentsOf_26 rfl 3 3 rfl rfl ?_
      exact hend (⟨rfl, rfl⟩) (rfl) dX1_rentsOf_27
  refine v_lv (lv' := [(0, _), (1, _), (2, _), (3, _), (4, _)]) [2, 3, 4, 1, 0] rfl ?_
  exact LP5 0 (Nat.zero_le _)
def hsM (σ : S9) (o s : Nat) : S9 := st9 (st9 σ (10 + (o + s) % 6) (va_cpy (σ 0) (σ (10 + (o + s) % 6)) 0 0 151)) 8 (if s < 6 then upd (σ 8) 1 (nI (s + 1)) else upd (σ 8) 0 (nI ((o + 1) % 6)))
def tbM (σ : S9) (o g : Nat) : S9 := st9 (st9 σ 8 (upd (σ 8) 1 (nI g))) 0 (va_cpy (σ (10 + (o + g) % 6)) (σ 0) 0 0 151)
set_option maxHeartbeats 4000000 in
set_option maxRecDepth 100000 in
theorem c_X2_size (l : Launch) (D : va_G) (ad : Nat → Nat) (cI cC cZ cQ : ClassId) (σ : S9)  : CMi l (cW ad cI cC cZ cQ) D (cTy cI cC cZ cQ) yX2_size wsX2_size ({ frames := 0, cells := 0, slots := 0, locals := 0 } : Room) [.ref (ad 10)] σ (fun r u => r = σ 8 1 ∧ u = σ) := by
  refine v_starti (own := RX2) (cc := cX2_size) (nL := 1) rfl (by decide) rfl (Nat.le_of_ble_eq_true rfl) ?_
  intro p e s m args below meth c A Q C K hend
  refine v_lv (lv' := [(0, .ref (ad 10))]) [0] rfl ?_
  refine v_aload_n C dX2_size_0 rfl 0 0 rfl rfl ?_
  refine v_get C K in_X2_size_X2 10 rfl rfl 2 (by decide) fl_X2_size_X2_2 rfl dX2_size_1 rfl ?_
  exact hend (⟨rfl, rfl⟩) (rfl) dX2_size_4
set_option maxHeartbeats 4000000 in
set_option maxRecDepth 100000 in
theorem c_X2_record (l : Launch) (D : va_G) (ad : Nat → Nat) (cI cC cZ cQ : ClassId) (σ : S9) (o : Nat) (ho : σ 8 0 = nI o) (ho6 : o < 6) (s9 : Nat) (hs : σ 8 1 = nI s9) (hs6 : s9 ≤ 6) : CMv l (cW ad cI cC cZ cQ) D (cTy cI cC cZ cQ) yX2_record wsX2_record ({ frames := 2, cells := 0, slots := 0, locals := 47 } : Room) [.ref (ad 10), .ref (ad 1)] σ (fun u => u = hsM σ o s9) := by
  refine v_startv (own := RX2) (cc := cX2_record) (nL := 2) rfl (by decide) rfl (Nat.le_of_ble_eq_true rfl) ?_
  intro p e s m args below meth c A Q C K hend
  refine v_lv (lv' := [(0, .ref (ad 10)), (1, .ref (ad 1))]) [0, 1] rfl ?_
  refine v_aload_n C dX2_record_0 rfl 1 1 rfl rfl ?_
  refine v_aload_n C dX2_record_1 rfl 0 0 rfl rfl ?_
  refine v_get C K in_X2_record_X2 10 rfl rfl 0 (by decide) fl_X2_record_X2_0 rfl dX2_record_2 rfl ?_
  refine v_aload_n C dX2_record_5 rfl 0 0 rfl rfl ?_
  refine v_get C K in_X2_record_X2 10 rfl rfl 1 (by decide) fl_X2_record_X2_1 rfl dX2_record_6 rfl ?_
  refine v_aload_n C dX2_record_9 rfl 0 0 rfl rfl ?_
  refine v_get C K in_X2_record_X2 10 rfl rfl 2 (by decide) fl_X2_record_X2_2 rfl dX2_record_10 rfl ?_
  refine v_iadd C dX2_record_13 rfl ?_
  refine v_bipush (v := 6) C dX2_record_14 rfl bp_6 ?_
  refine v_irem C dX2_record_16 rfl (by decide) ?_
  refine v_top (nI ((o + s9) % 6)) (by rw [ho, hs, nI_add]; exact pk_rem (by omega) (by decide) (by decide)) ?_
  refine v_aald C K rfl 11 3 rfl rfl ((o + s9) % 6) (rfl) (by omega) (by decide) (if_pos (by omega)) dX2_record_17 rfl ?_
  refine v_callVvd C K (c_X1_copyTo l D ad cI cC cZ cQ _ ((o + s9) % 6) (by omega)) gX2_record_X1_copyTo rfl hd_X1_copyTo ⟨rfl, rfl⟩ ⟨Nat.le_of_ble_eq_true rfl, Nat.le_of_ble_eq_true rfl⟩ 1 rfl rfl rfl rfl rfl (Nat.le_of_ble_eq_true rfl) ⟨Nat.le_refl _, Nat.le_refl _⟩ dX2_record_18 rfl ?_
  refine v_aload_n C dX2_record_21 rfl 0 0 rfl rfl ?_
  refine v_get C K in_X2_record_X2 10 rfl rfl 2 (by decide) fl_X2_record_X2_2 rfl dX2_record_22 rfl ?_
  refine v_top (nI s9) (by rw [st9_n _ _ (by omega), hs]) ?_
  refine v_bipush (v := 6) C dX2_record_25 rfl bp_6 ?_
  refine v_icmp_ge C 43 dX2_record_27 (by decide) rfl (fun h27 => ?_) (fun h27f => ?_)
  · skip
    have hn : ¬ s9 < 6 := fun q => absurd h27 (nI_ge (b := 6) q (by decide))
    refine v_aload_n C dX2_record_43 rfl 0 0 rfl rfl ?_
    refine v_aload_n C dX2_record_44 rfl 0 0 rfl rfl ?_
    refine v_get C K in_X2_record_X2 10 rfl rfl 1 (by decide) fl_X2_record_X2_1 rfl dX2_record_45 rfl ?_
    refine v_iconst (v := 1) C dX2_record_48 rfl ic_1 ?_
    refine v_iadd C dX2_record_49 rfl ?_
    refine v_bipush (v := 6) C dX2_record_50 rfl bp_6 ?_
    refine v_irem C dX2_record_52 rfl (by decide) ?_
    refine v_top (nI ((o + 1) % 6)) (by rw [st9_n _ _ (by omega), ho, show nI o + 1 = nI (o + 1) from nI_1 o]; exact pk_rem (by omega) (by decide) (by decide)) ?_
    refine v_put (ty := .int) C K _ in_X2_record_X2 tyX2_ok nmX2 10 rfl rfl 1 (by decide) fl_X2_record_X2_1 rfl (by decide +kernel) rfl rfl (Nat.le_of_ble_eq_true rfl) (cW_fX2_1 ad cI cC cZ cQ _ _) dX2_record_53 rfl ?_
    exact hend (by rw [hsM, if_neg hn, st9_n _ _ (by omega)]) dX2_record_56
  · skip
    have hn : s9 < 6 := by
      rcases Nat.lt_or_ge s9 6 with q | q
      · exact q
      · exact absurd (nI_le q (by omega)) h27f
    refine v_aload_n C dX2_record_30 rfl 0 0 rfl rfl ?_
    refine v_dup C dX2_record_31 rfl rfl ?_
    refine v_get C K in_X2_record_X2 10 rfl rfl 2 (by decide) fl_X2_record_X2_2 rfl dX2_record_32 rfl ?_
    refine v_iconst (v := 1) C dX2_record_35 rfl ic_1 ?_
    refine v_iadd C dX2_record_36 rfl ?_
    refine v_top (nI (s9 + 1)) (by rw [st9_n _ _ (by omega), hs]; exact nI_1 s9) ?_
    refine v_put (ty := .int) C K _ in_X2_record_X2 tyX2_ok nmX2 10 rfl rfl 2 (by decide) fl_X2_record_X2_2 rfl (by decide +kernel) rfl rfl (Nat.le_of_ble_eq_true rfl) (cW_fX2_2 ad cI cC cZ cQ _ _) dX2_record_37 rfl ?_
    refine v_goto C 56 dX2_record_40 (by decide) ?_
    exact hend (by rw [hsM, if_pos hn, st9_n _ _ (by omega)]) dX2_record_56
end
section
/-! ===== one film's way through the weeks, in the words of the reference's rows ===== -/
theorem sm9_split (g : Nat → Int32) (a : Nat) : ∀ b, sm9 g (a + b) = sm9 g a + sm9 (fun j => g (a + j)) b
  | 0 => by rw [sm9]; exact (Int32.add_zero _).symm
  | b + 1 => by rw [show a + (b + 1) = (a + b) + 1 by omega, sm9, sm9_split g a b, sm9, Int32.add_assoc]
theorem sm9_zero {g : Nat → Int32} {n : Nat} (h : ∀ k, k < n → g k = 0) : sm9 g n = 0 := by
  induction n with
  | zero => rfl
  | succ n ih => rw [sm9, ih (fun k hk => h k (by omega)), h n (by omega)]; rfl
theorem sm9_week {P : Nat → Prop} [DecidablePred P] (t : Nat → Int32) {w : Nat} (hw : w < 5) : sm9 (fun k => if P k ∧ k / 14 = w then t k else 0) 70 = sm9 (fun j => if P (14 * w + j) then t (14 * w + j) else 0) 14 := by
  rw [show (70 : Nat) = 14 * w + (14 + (70 - 14 * (w + 1))) by omega, sm9_split, sm9_split]
  rw [sm9_zero (fun k hk => if_neg (fun q => by omega)), sm9_zero (n := 70 - 14 * (w + 1)) (fun k hk => if_neg (fun q => by omega)), Int32.zero_add, Int32.add_zero]
  exact sm9_congr (fun j hj => by
    by_cases e : P (14 * w + j)
    · rw [if_pos e, if_pos ⟨e, by omega⟩]
    · rw [if_neg e, if_neg (fun q => e q.1)])
def q_cj (r : Nat → Int32) (f w j : Nat) : Int32 := if r (46 + (14 * w + j)) = nI f then 1 else 0
theorem q_S_w (r : Nat → Int32) (f : Nat) {w : Nat} (hw : w < 5) : q_S r f w = sm9 (q_cj r f w) 14 := sm9_week (P := fun k => r (46 + k) = nI f) (fun _ => 1) hw
def q_Z (r : Nat → Int32) (f w j : Nat) : Int32 := if j = 0 then q_Y r f (14 * w) else q_L r f (14 * w + j)
theorem Z_Y (r : Nat → Int32) (f w : Nat) {j : Nat} (hj : j < 14) : q_Z r f w j = q_Y r f (14 * w + j) := by
  unfold q_Z
  by_cases e : j = 0
  · subst e
    rfl
  · rw [if_neg e]
    unfold q_Y q_pre
    rw [if_neg (by omega)]
theorem Z_s (r : Nat → Int32) (f w : Nat) {j : Nat} (hj : j < 14) : q_Z r f w (j + 1) = if r (46 + (14 * w + j)) = nI f then q_Z r f w j - q_P r f (14 * w + j) else q_Z r f w j := by
  rw [Z_Y r f w hj]
  unfold q_Z
  rw [if_neg (Nat.succ_ne_zero j), show 14 * w + (j + 1) = (14 * w + j) + 1 by omega, q_L_s]
theorem Z_14 (r : Nat → Int32) (f w : Nat) : q_Z r f w 14 = q_L r f (14 * w + 14) := if_neg (by decide)
def q_ps (r : Nat → Int32) (f w : Nat) : Int32 := q_Y r f (14 * w) - q_L r f (14 * w + 14)
theorem tele (r : Nat → Int32) (f w : Nat) : ∀ j, j ≤ 14 → sm9 (fun j => if r (46 + (14 * w + j)) = nI f then q_P r f (14 * w + j) else 0) j = q_Y r f (14 * w) - q_Z r f w j
  | 0, _ => by
    show (0 : Int32) = _ - q_Y r f (14 * w)
    grind
  | j + 1, h => by
    rw [sm9, tele r f w j (by omega), Z_s r f w (by omega)]
    by_cases e : r (46 + (14 * w + j)) = nI f
    · rw [if_pos e, if_pos e]
      grind
    · rw [if_neg e, if_neg e]
      grind
theorem sm9_mul {P : Nat → Prop} [DecidablePred P] (t : Nat → Int32) (p : Int32) : ∀ n, sm9 (fun j => if P j then t j * p else 0) n = sm9 (fun j => if P j then t j else 0) n * p
  | 0 => by simp [sm9]
  | n + 1 => by
    rw [sm9, sm9, sm9_mul t p n]
    by_cases e : P n
    · rw [if_pos e, if_pos e]
      grind
    · rw [if_neg e, if_neg e]
      grind
theorem q_ppa_nI {r : Nat → Int32} {f k : Nat} (hf : f < 100000) (h : r (46 + k) = nI f) : q_ppa r k = q_P r f k := by
  unfold q_ppa
  rw [h, if_neg (nI_ne6 hf), nI_cl hf]
theorem q_T_w (r : Nat → Int32) {f w : Nat} (hf : f < 8) (hw : w < 5) : q_T r f w = q_ps r f w * r 1 := by
  have e1 : q_T r f w = sm9 (fun k => if r (46 + k) = nI f ∧ k / 14 = w then q_P r f k * r 1 else 0) 70 := sm9_congr (fun k _ => by
    unfold q_tt
    by_cases e : r (46 + k) = nI f ∧ k / 14 = w
    · rw [if_pos e, if_pos e, q_ppa_nI (by omega) e.1]
    · rw [if_neg e, if_neg e])
  rw [e1, sm9_week (P := fun k => r (46 + k) = nI f) (fun k => q_P r f k * r 1) hw, sm9_mul (P := fun j => r (46 + (14 * w + j)) = nI f) (fun j => q_P r f (14 * w + j)) (r 1) 14, tele r f w 14 (Nat.le_refl _), Z_14]
  rfl
def q_ff (r : Nat → Int32) (f k : Nat) : Int32 := if r (46 + k) = nI f ∧ q_P r f k = r 0 then 1 else 0
theorem Y0 (r : Nat → Int32) (f w : Nat) : q_Y r f (14 * w) = q_L r f (14 * w) - (if nI w ≤ r (6 + 5 * f + 4) / 7 then 0 else q_L r f (14 * w) / 4) := by
  unfold q_Y q_pre
  rw [if_pos (by omega), show 14 * w / 14 = w by omega]
  rfl
/-! shares: the chain of the weeks -/
def p_next (s a b : Int32) : Int32 := if s = -6 then (if b = 0 then -6 else a) else (if s - 10 < 20 then 20 else s - 10)
theorem q_fw_c (S : Nat → Int32) : ∀ w, q_fw S w = -6 ∨ ∃ v : Nat, v < w ∧ q_fw S w = nI v
  | 0 => Or.inl rfl
  | w + 1 => by
    rw [q_fw]
    by_cases e : q_fw S w = -6 ∧ ¬ S w ≤ 0
    · rw [if_pos e]
      exact Or.inr ⟨w, Nat.lt_succ_self w, rfl⟩
    · rw [if_neg e]
      rcases q_fw_c S w with h | ⟨v, hv, h⟩
      · exact Or.inl h
      · exact Or.inr ⟨v, by omega, h⟩
theorem sub10 {s m : Nat} (hs : s ≤ 90) (hm : m ≤ 4) : nI s - 10 * nI m = if 10 * m ≤ s then nI (s - 10 * m) else -nI (10 * m - s) := by
  rw [show (10 : Int32) = nI 10 from rfl, pk_mul]
  by_cases h : 10 * m ≤ s
  · rw [if_pos h, pk_sub h]
  · rw [if_neg h]
    have e : nI (10 * m) = nI s + nI (10 * m - s) := by rw [nI_add]; congr 1; omega
    rw [e]
    grind
theorem p_share_nI {r : Nat → Int32} {f s m : Nat} (hr : r (6 + 5 * f + 3) = nI s) (hs : s ≤ 90) (hm : m ≤ 4) : p_share r f (nI m) = nI (if s ≤ 20 + 10 * m then 20 else s - 10 * m) := by
  unfold p_share
  rw [hr, sub10 hs hm]
  by_cases h : 10 * m ≤ s
  · rw [if_pos h]
    by_cases h2 : s ≤ 20 + 10 * m
    · rw [if_pos h2, if_pos (show nI (s - 10 * m) ≤ 20 from nI_le (b := 20) (by omega) (by decide))]
      rfl
    · rw [if_neg h2, if_neg (show ¬ nI (s - 10 * m) ≤ 20 from nI_ge (a := 20) (by omega) (by omega))]
  · rw [if_neg h, if_pos (show s ≤ 20 + 10 * m by omega), if_pos]
    · rfl
    · have h0 : (-nI (10 * m - s)).toInt = -((10 * m - s : Nat) : Int) := sb_negT (by omega)
      rw [Int32.le_iff_toInt_le, h0]
      have : (20 : Int32).toInt = 20 := by decide
      omega
def q_cs (r : Nat → Int32) (f w : Nat) : Int32 := if w = 0 then -6 else q_sh r f (w - 1)
theorem cs_next {r : Nat → Int32} {f s w : Nat} (hw : w < 5) (hr : r (6 + 5 * f + 3) = nI s) (h20 : 20 ≤ s) (h90 : s ≤ 90) : p_next (q_cs r f w) (r (6 + 5 * f + 3)) (if q_S r f w ≤ 0 then 0 else 1) = q_sh r f w := by
  have hcs : q_cs r f w = if q_fw (q_S r f) w = -6 then -6 else p_share r f (nI (w - 1) - q_fw (q_S r f) w) := by
    unfold q_cs
    by_cases e : w = 0
    · subst e
      rw [if_pos rfl, show q_fw (q_S r f) 0 = -6 from rfl, if_pos rfl]
    · rw [if_neg e]
      unfold q_sh
      rw [show w - 1 + 1 = w by omega]
  rw [hcs]
  unfold q_sh
  rcases q_fw_c (q_S r f) w with hF | ⟨v, hv, hF⟩
  · rw [if_pos hF, q_fw, hF]
    unfold p_next
    by_cases e : q_S r f w ≤ 0
    · have c : ¬ ((-6 : Int32) = -6 ∧ ¬ q_S r f w ≤ 0) := fun q => q.2 e
      rw [if_neg c, if_pos e]
      simp
    · have c : (-6 : Int32) = -6 ∧ ¬ q_S r f w ≤ 0 := ⟨rfl, e⟩
      rw [if_pos c, if_neg e, if_neg (nI_ne6 (by omega)), show nI w - nI w = nI 0 by rw [pk_sub (Nat.le_refl w)]; congr 1; omega, p_share_nI hr h90 (by decide), hr]
      rw [if_pos rfl, if_neg (by decide)]
      congr 1
      by_cases q : s ≤ 20 + 10 * 0
      · rw [if_pos q]
        omega
      · rw [if_neg q]
        omega
  · have hne : ¬ nI v = -6 := nI_ne6 (by omega)
    have c2 : ¬ (nI v = -6 ∧ ¬ q_S r f w ≤ 0) := fun q => hne q.1
    rw [q_fw, hF, if_neg hne, if_neg c2, if_neg hne, pk_sub (show v ≤ w - 1 by omega), pk_sub (show v ≤ w by omega), p_share_nI hr h90 (by omega), p_share_nI hr h90 (by omega)]
    unfold p_next
    generalize hM : (if s ≤ 20 + 10 * (w - 1 - v) then 20 else s - 10 * (w - 1 - v)) = M
    have hM1 : 20 ≤ M ∧ M ≤ 90 := by rw [← hM]; split <;> omega
    rw [if_neg (nI_ne6 (by omega)), show nI M - 10 = nI (M - 10) from pk_sub (a := M) (b := 10) (by omega)]
    by_cases q : M - 10 < 20
    · rw [if_pos (show nI (M - 10) < 20 from nI_lt (b := 20) q (by decide)), if_pos (show s ≤ 20 + 10 * (w - v) by
        rw [← hM] at q
        split at q <;> omega)]
      rfl
    · rw [if_neg (show ¬ nI (M - 10) < 20 from nI_nlt (b := 20) (by omega) (by omega))]
      congr 1
      by_cases b : s ≤ 20 + 10 * (w - v)
      · rw [if_pos b]
        by_cases a : s ≤ 20 + 10 * (w - 1 - v)
        · rw [if_pos a] at hM
          omega
        · rw [if_neg a] at hM
          omega
      · rw [if_neg b]
        rw [if_neg (show ¬ s ≤ 20 + 10 * (w - 1 - v) by omega)] at hM
        omega
end
section
theorem min9 (a b : Int32) : (if b < a then b else a) = if b ≤ a then b else a := by
  by_cases h : b < a
  · rw [if_pos h, if_pos (Int32.le_of_lt h)]
  · rw [if_neg h]
    by_cases h2 : b ≤ a
    · rw [if_pos h2]
      exact Int32.le_antisymm (Int32.not_lt.mp h) h2
    · rw [if_neg h2]
theorem max9 (a b : Int32) : (if a < b then b else a) = if b ≤ a then a else b := by
  by_cases h : a < b
  · rw [if_pos h, if_neg (Int32.not_le.mpr h)]
  · rw [if_neg h, if_pos (Int32.not_lt.mp h)]
def q_pp (r : Nat → Int32) (pt : Nat) (x : Int32) : Int32 := if r 0 ≤ x * (if pt = 0 then r 4 else r 3) / 100 then r 0 else x * (if pt = 0 then r 4 else r 3) / 100
set_option maxHeartbeats 4000000 in
set_option maxRecDepth 100000 in
theorem c_X0_peopleOf (l : Launch) (D : va_G) (ad : Nat → Nat) (cI cC cZ cQ : ClassId) (σ : S9) (x : Int32) (pt : Nat) (hpt : pt < 2) : CMi l (cW ad cI cC cZ cQ) D (cTy cI cC cZ cQ) yX0_peopleOf wsX0_peopleOf ({ frames := 1, cells := 0, slots := 0, locals := 21 } : Room) [.ref (ad 1), .int x, .int (nI pt)] σ (fun r u => r = q_pp (σ 0) pt x ∧ u = σ) := by
  refine v_starti (own := RX0) (cc := cX0_peopleOf) (nL := 4) rfl (by decide) rfl (Nat.le_of_ble_eq_true rfl) ?_
  intro p e s m args below meth c A Q C K hend
  refine v_lv (lv' := [(0, .ref (ad 1)), (1, .int x), (2, .int (nI pt))]) [0, 1, 2] rfl ?_
  refine v_aload_n C dX0_peopleOf_0 rfl 0 0 rfl rfl ?_
  refine v_iload_n C dX0_peopleOf_1 rfl 2 2 rfl rfl ?_
  refine v_if_ne C 9 dX0_peopleOf_2 (by decide) rfl (fun h2t => ?_) (fun h2 => ?_)
  · skip
    have e0 : ¬ pt = 0 := by
      rintro rfl
      exact h2t rfl
    refine v_iconst (v := 3) C dX0_peopleOf_9 rfl ic_3 ?_
    refine v_callVid C K (c_X1_setting l D ad cI cC cZ cQ _ 3 (by decide)) gX0_peopleOf_X1_setting rfl hd_X1_setting ⟨rfl, rfl⟩ ⟨Nat.le_of_ble_eq_true rfl, Nat.le_of_ble_eq_true rfl⟩ 1 rfl rfl rfl rfl rfl (Nat.le_of_ble_eq_true rfl) ⟨Nat.le_refl _, Nat.le_refl _⟩ dX0_peopleOf_10 rfl ?_
    refine v_istore_n (lv' := [(3, _), (0, _), (1, _), (2, _)]) C dX0_peopleOf_13 rfl 3 rfl (by decide) rfl ?_
    refine v_iload_n C dX0_peopleOf_14 rfl 1 2 rfl rfl ?_
    refine v_iload_n C dX0_peopleOf_15 rfl 3 0 rfl rfl ?_
    refine v_imul C dX0_peopleOf_16 rfl ?_
    refine v_bipush (v := 100) C dX0_peopleOf_17 rfl bp_100 ?_
    refine v_idiv C dX0_peopleOf_19 rfl (by decide) ?_
    refine v_aload_n C dX0_peopleOf_20 rfl 0 1 rfl rfl ?_
    refine v_iconst (v := 0) C dX0_peopleOf_21 rfl ic_0 ?_
    refine v_callVid C K (c_X1_setting l D ad cI cC cZ cQ _ 0 (by decide)) gX0_peopleOf_X1_setting rfl hd_X1_setting ⟨rfl, rfl⟩ ⟨Nat.le_of_ble_eq_true rfl, Nat.le_of_ble_eq_true rfl⟩ 1 rfl rfl rfl rfl rfl (Nat.le_of_ble_eq_true rfl) ⟨Nat.le_refl _, Nat.le_refl _⟩ dX0_peopleOf_22 rfl ?_
    refine v_mmin C ma_X0_peopleOf_min_0 ma_X0_peopleOf_min_1 ma_X0_peopleOf_min_2 ma_X0_peopleOf_min_3 (Nat.le_of_ble_eq_true rfl) (Nat.le_of_ble_eq_true rfl) ⟨Nat.le_refl _, Nat.le_refl _⟩ dX0_peopleOf_25 rfl ?_
    exact hend (⟨by rw [min9, q_pp]; simp [e0], rfl⟩) (rfl) dX0_peopleOf_28
  · skip
    have e0 : pt = 0 := (nI_eq (by omega) (by decide)).mp h2
    refine v_iconst (v := 4) C dX0_peopleOf_5 rfl ic_4 ?_
    refine v_goto C 10 dX0_peopleOf_6 (by decide) ?_
    refine v_callVid C K (c_X1_setting l D ad cI cC cZ cQ _ 4 (by decide)) gX0_peopleOf_X1_setting rfl hd_X1_setting ⟨rfl, rfl⟩ ⟨Nat.le_of_ble_eq_true rfl, Nat.le_of_ble_eq_true rfl⟩ 1 rfl rfl rfl rfl rfl (Nat.le_of_ble_eq_true rfl) ⟨Nat.le_refl _, Nat.le_refl _⟩ dX0_peopleOf_10 rfl ?_
    refine v_istore_n (lv' := [(3, _), (0, _), (1, _), (2, _)]) C dX0_peopleOf_13 rfl 3 rfl (by decide) rfl ?_
    refine v_iload_n C dX0_peopleOf_14 rfl 1 2 rfl rfl ?_
    refine v_iload_n C dX0_peopleOf_15 rfl 3 0 rfl rfl ?_
    refine v_imul C dX0_peopleOf_16 rfl ?_
    refine v_bipush (v := 100) C dX0_peopleOf_17 rfl bp_100 ?_
    refine v_idiv C dX0_peopleOf_19 rfl (by decide) ?_
    refine v_aload_n C dX0_peopleOf_20 rfl 0 1 rfl rfl ?_
    refine v_iconst (v := 0) C dX0_peopleOf_21 rfl ic_0 ?_
    refine v_callVid C K (c_X1_setting l D ad cI cC cZ cQ _ 0 (by decide)) gX0_peopleOf_X1_setting rfl hd_X1_setting ⟨rfl, rfl⟩ ⟨Nat.le_of_ble_eq_true rfl, Nat.le_of_ble_eq_true rfl⟩ 1 rfl rfl rfl rfl rfl (Nat.le_of_ble_eq_true rfl) ⟨Nat.le_refl _, Nat.le_refl _⟩ dX0_peopleOf_22 rfl ?_
    refine v_mmin C ma_X0_peopleOf_min_0 ma_X0_peopleOf_min_1 ma_X0_peopleOf_min_2 ma_X0_peopleOf_min_3 (Nat.le_of_ble_eq_true rfl) (Nat.le_of_ble_eq_true rfl) ⟨Nat.le_refl _, Nat.le_refl _⟩ dX0_peopleOf_25 rfl ?_
    exact hend (⟨by rw [min9, q_pp]; simp [e0], rfl⟩) (rfl) dX0_peopleOf_28
set_option maxHeartbeats 4000000 in
set_option maxRecDepth 100000 in
theorem c_X0_nextShare (l : Launch) (x a b : Int32) : CPi l yX0_nextShare wsX0_nextShare ({ frames := 1, cells := 0, slots := 0, locals := 21 } : Room) [.int x, .int a, .int b] (fun r => r = p_next x a b) := by
  refine v_startP (own := RX0) (cc := cX0_nextShare) (nL := 3) ((fun _ => 0), (fun _ _ => 0)) rfl (by decide) rfl (Nat.le_of_ble_eq_true rfl) ?_
  intro p e s m args below meth c A Q C hend
  skip
  refine v_lv (lv' := [(0, .int x), (1, .int a), (2, .int b)]) [0, 1, 2] rfl ?_
  refine v_iload_n C dX0_nextShare_0 rfl 0 0 rfl rfl ?_
  refine v_bipush (v := -6) C dX0_nextShare_1 rfl bp_m6 ?_
  refine v_icmp_eq C 16 dX0_nextShare_3 (by decide) rfl (fun h3 => ?_) (fun h3 => ?_)
  · skip
    refine v_iload_n C dX0_nextShare_16 rfl 2 2 rfl rfl ?_
    refine v_if_eq C 24 dX0_nextShare_17 (by decide) rfl (fun h17 => ?_) (fun h17 => ?_)
    · skip
      refine v_bipush (v := -6) C dX0_nextShare_24 rfl bp_m6 ?_
      exact hend (by simp [p_next, h3, h17]) (rfl) dX0_nextShare_26
    · skip
      refine v_iload_n C dX0_nextShare_20 rfl 1 1 rfl rfl ?_
      refine v_goto C 26 dX0_nextShare_21 (by decide) ?_
      exact hend (by simp [p_next, h3, h17]) (rfl) dX0_nextShare_26
  · skip
    refine v_iload_n C dX0_nextShare_6 rfl 0 0 rfl rfl ?_
    refine v_bipush (v := 10) C dX0_nextShare_7 rfl bp_10 ?_
    refine v_isub C dX0_nextShare_9 rfl ?_
    refine v_bipush (v := 20) C dX0_nextShare_10 rfl bp_20 ?_
    refine v_mmax C ma_X0_nextShare_max_0 ma_X0_nextShare_max_1 ma_X0_nextShare_max_2 ma_X0_nextShare_max_3 (Nat.le_of_ble_eq_true rfl) (Nat.le_of_ble_eq_true rfl) ⟨Nat.le_refl _, Nat.le_refl _⟩ dX0_nextShare_12 rfl ?_
    exact hend (by simp [p_next, h3]) (rfl) dX0_nextShare_15
set_option maxHeartbeats 4000000 in
set_option maxRecDepth 100000 in
theorem c_X0_sumOfWeek (l : Launch) (D : va_G) (ad : Nat → Nat) (cI cC cZ cQ : ClassId) (σ : S9) (w9 c9 : Nat) (hw : w9 < 5) (hc : c9 < 5) : CMi l (cW ad cI cC cZ cQ) D (cTy cI cC cZ cQ) yX0_sumOfWeek wsX0_sumOfWeek ({ frames := 0, cells := 0, slots := 0, locals := 0 } : Room) [.ref (ad 3), .int (nI w9), .int (nI c9)] σ (fun r u => r = σ 3 (5 * w9 + c9) ∧ u = σ) := by
  refine v_starti (own := RX0) (cc := cX0_sumOfWeek) (nL := 3) rfl (by decide) rfl (Nat.le_of_ble_eq_true rfl) ?_
  intro p e s m args below meth c A Q C K hend
  refine v_lv (lv' := [(0, .ref (ad 3)), (1, .int (nI w9)), (2, .int (nI c9))]) [0, 1, 2] rfl ?_
  refine v_aload_n C dX0_sumOfWeek_0 rfl 0 0 rfl rfl ?_
  refine v_get C K in_X0_sumOfWeek_X0 3 rfl rfl 2 (by decide) fl_X0_sumOfWeek_X0_2 rfl dX0_sumOfWeek_1 rfl ?_
  refine v_iload_n C dX0_sumOfWeek_4 rfl 1 1 rfl rfl ?_
  refine v_iconst (v := 5) C dX0_sumOfWeek_5 rfl ic_5 ?_
  refine v_imul C dX0_sumOfWeek_6 rfl ?_
  refine v_iload_n C dX0_sumOfWeek_7 rfl 2 2 rfl rfl ?_
  refine v_iadd C dX0_sumOfWeek_8 rfl ?_
  refine v_iald C K 6 0 rfl rfl (5 * w9 + c9) (by simp only [lit9, pk_mul, nI_add]; congr 1; omega) (by omega) (by decide) dX0_sumOfWeek_9 rfl ?_
  exact hend (⟨rfl, rfl⟩) (rfl) dX0_sumOfWeek_10
def c_sot (σ : S9) (w : Nat) : Int32 := if σ 4 w = -6 then 0 else σ 3 (5 * w + 2) * σ 4 w / 100
set_option maxHeartbeats 4000000 in
set_option maxRecDepth 100000 in
theorem c_X0_shareOfTakings (l : Launch) (D : va_G) (ad : Nat → Nat) (cI cC cZ cQ : ClassId) (σ : S9) (w9 : Nat) (hw : w9 < 5) : CMi l (cW ad cI cC cZ cQ) D (cTy cI cC cZ cQ) yX0_shareOfTakings wsX0_shareOfTakings ({ frames := 1, cells := 0, slots := 0, locals := 22 } : Room) [.ref (ad 3), .int (nI w9)] σ (fun r u => r = c_sot σ w9 ∧ u = σ) := by
  refine v_starti (own := RX0) (cc := cX0_shareOfTakings) (nL := 2) rfl (by decide) rfl (Nat.le_of_ble_eq_true rfl) ?_
  intro p e s m args below meth c A Q C K hend
  refine v_lv (lv' := [(0, .ref (ad 3)), (1, .int (nI w9))]) [0, 1] rfl ?_
  refine v_aload_n C dX0_shareOfTakings_0 rfl 0 0 rfl rfl ?_
  refine v_get C K in_X0_shareOfTakings_X0 3 rfl rfl 3 (by decide) fl_X0_shareOfTakings_X0_3 rfl dX0_shareOfTakings_1 rfl ?_
  refine v_iload_n C dX0_shareOfTakings_4 rfl 1 1 rfl rfl ?_
  refine v_iald C K 7 0 rfl rfl (w9) (rfl) (by omega) (by decide) dX0_shareOfTakings_5 rfl ?_
  refine v_bipush (v := -6) C dX0_shareOfTakings_6 rfl bp_m6 ?_
  refine v_icmp_ne C 15 dX0_shareOfTakings_8 (by decide) rfl (fun h8 => ?_) (fun h8 => ?_)
  · skip
    refine v_aload_n C dX0_shareOfTakings_15 rfl 0 0 rfl rfl ?_
    refine v_iload_n C dX0_shareOfTakings_16 rfl 1 1 rfl rfl ?_
    refine v_iconst (v := 2) C dX0_shareOfTakings_17 rfl ic_2 ?_
    refine v_callVid C K (c_X0_sumOfWeek l D ad cI cC cZ cQ _ w9 2 hw (by decide)) gX0_shareOfTakings_X0_sumOfWeek rfl hd_X0_sumOfWeek ⟨rfl, rfl⟩ ⟨Nat.le_of_ble_eq_true rfl, Nat.le_of_ble_eq_true rfl⟩ 3 rfl rfl rfl rfl rfl (Nat.le_of_ble_eq_true rfl) ⟨Nat.le_refl _, Nat.le_refl _⟩ dX0_shareOfTakings_18 rfl ?_
    refine v_aload_n C dX0_shareOfTakings_21 rfl 0 0 rfl rfl ?_
    refine v_get C K in_X0_shareOfTakings_X0 3 rfl rfl 3 (by decide) fl_X0_shareOfTakings_X0_3 rfl dX0_shareOfTakings_22 rfl ?_
    refine v_iload_n C dX0_shareOfTakings_25 rfl 1 1 rfl rfl ?_
    refine v_iald C K 7 0 rfl rfl (w9) (rfl) (by omega) (by decide) dX0_shareOfTakings_26 rfl ?_
    refine v_imul C dX0_shareOfTakings_27 rfl ?_
    refine v_bipush (v := 100) C dX0_shareOfTakings_28 rfl bp_100 ?_
    refine v_idiv C dX0_shareOfTakings_30 rfl (by decide) ?_
    exact hend (⟨by simp [c_sot, h8], rfl⟩) (rfl) dX0_shareOfTakings_31
  · skip
    refine v_iconst (v := 0) C dX0_shareOfTakings_11 rfl ic_0 ?_
    refine v_goto C 31 dX0_shareOfTakings_12 (by decide) ?_
    exact hend (⟨by simp [c_sot, h8], rfl⟩) (rfl) dX0_shareOfTakings_31
set_option maxHeartbeats 4000000 in
set_option maxRecDepth 100000 in
theorem c_X0_dueAboveShare (l : Launch) (D : va_G) (ad : Nat → Nat) (cI cC cZ cQ : ClassId) (σ : S9) (w9 : Nat) (hw : w9 < 5) : CMi l (cW ad cI cC cZ cQ) D (cTy cI cC cZ cQ) yX0_dueAboveShare wsX0_dueAboveShare ({ frames := 2, cells := 0, slots := 0, locals := 43 } : Room) [.ref (ad 3), .int (nI w9)] σ (fun r u => r = σ 3 (5 * w9 + 3) - c_sot σ w9 ∧ u = σ) := by
  refine v_starti (own := RX0) (cc := cX0_dueAboveShare) (nL := 2) rfl (by decide) rfl (Nat.le_of_ble_eq_true rfl) ?_
  intro p e s m args below meth c A Q C K hend
  refine v_lv (lv' := [(0, .ref (ad 3)), (1, .int (nI w9))]) [0, 1] rfl ?_
  refine v_aload_n C dX0_dueAboveShare_0 rfl 0 0 rfl rfl ?_
  refine v_iload_n C dX0_dueAboveShare_1 rfl 1 1 rfl rfl ?_
  refine v_iconst (v := 3) C dX0_dueAboveShare_2 rfl ic_3 ?_
  refine v_callVid C K (c_X0_sumOfWeek l D ad cI cC cZ cQ _ w9 3 hw (by decide)) gX0_dueAboveShare_X0_sumOfWeek rfl hd_X0_sumOfWeek ⟨rfl, rfl⟩ ⟨Nat.le_of_ble_eq_true rfl, Nat.le_of_ble_eq_true rfl⟩ 3 rfl rfl rfl rfl rfl (Nat.le_of_ble_eq_true rfl) ⟨Nat.le_refl _, Nat.le_refl _⟩ dX0_dueAboveShare_3 rfl ?_
  refine v_aload_n C dX0_dueAboveShare_6 rfl 0 0 rfl rfl ?_
  refine v_iload_n C dX0_dueAboveShare_7 rfl 1 1 rfl rfl ?_
  refine v_callVid C K (c_X0_shareOfTakings l D ad cI cC cZ cQ _ w9 hw) gX0_dueAboveShare_X0_shareOfTakings rfl hd_X0_shareOfTakings ⟨rfl, rfl⟩ ⟨Nat.le_of_ble_eq_true rfl, Nat.le_of_ble_eq_true rfl⟩ 3 rfl rfl rfl rfl rfl (Nat.le_of_ble_eq_true rfl) ⟨Nat.le_refl _, Nat.le_refl _⟩ dX0_dueAboveShare_8 rfl ?_
  refine v_isub C dX0_dueAboveShare_11 rfl ?_
  exact hend (⟨rfl, rfl⟩) (rfl) dX0_dueAboveShare_12
set_option maxHeartbeats 4000000 in
set_option maxRecDepth 100000 in
theorem c_X0_sum (l : Launch) (D : va_G) (ad : Nat → Nat) (cI cC cZ cQ : ClassId) (σ : S9) (c9 : Nat) (hc : c9 < 5) : CMi l (cW ad cI cC cZ cQ) D (cTy cI cC cZ cQ) yX0_sum wsX0_sum ({ frames := 1, cells := 0, slots := 0, locals := 22 } : Room) [.ref (ad 3), .int (nI c9)] σ (fun r u => r = sm9 (fun w => σ 3 (5 * w + c9)) 5 ∧ u = σ) := by
  refine v_starti (own := RX0) (cc := cX0_sum) (nL := 4) rfl (by decide) rfl (Nat.le_of_ble_eq_true rfl) ?_
  intro p e s m args below meth c A Q C K hend
  refine v_lv (lv' := [(0, .ref (ad 3)), (1, .int (nI c9))]) [0, 1] rfl ?_
  refine v_iconst (v := 0) C dX0_sum_0 rfl ic_0 ?_
  refine v_istore_n (lv' := [(2, _), (0, _), (1, _)]) C dX0_sum_1 rfl 2 rfl (by decide) rfl ?_
  refine v_iconst (v := 0) C dX0_sum_2 rfl ic_0 ?_
  refine v_istore_n (lv' := [(3, _), (2, _), (0, _), (1, _)]) C dX0_sum_3 rfl 3 rfl (by decide) rfl ?_
  have LP4 : ∀ d, d ≤ 5 → VV p l e ({ frames := 1, cells := 0, slots := 0, locals := 22 } : Room) s m args below meth c 0 0 Q (cW ad cI cC cZ cQ) D A s.heap 4 σ 4 [(0, .ref (ad 3)), (1, .int (nI c9)), (2, .int (sm9 (fun w => σ 3 (5 * w + c9)) d)), (3, .int (nI d))] [] := by
    refine lpB9 (fun d => VV p l e ({ frames := 1, cells := 0, slots := 0, locals := 22 } : Room) s m args below meth c 0 0 Q (cW ad cI cC cZ cQ) D A s.heap 4 σ 4 [(0, .ref (ad 3)), (1, .int (nI c9)), (2, .int (sm9 (fun w => σ 3 (5 * w + c9)) d)), (3, .int (nI d))] []) 5 (fun d hd ih => ?_) ?_
    · skip
      refine v_iload_n C dX0_sum_4 rfl 3 3 rfl rfl ?_
      refine v_iconst (v := 5) C dX0_sum_5 rfl ic_5 ?_
      refine v_icmp_ge C 24 dX0_sum_6 (by decide) rfl (fun h9 => absurd h9 (nI_ge hd (by decide))) (fun _ => ?_)
      refine v_iload_n C dX0_sum_9 rfl 2 2 rfl rfl ?_
      refine v_aload_n C dX0_sum_10 rfl 0 0 rfl rfl ?_
      refine v_iload_n C dX0_sum_11 rfl 3 3 rfl rfl ?_
      refine v_iload_n C dX0_sum_12 rfl 1 1 rfl rfl ?_
      refine v_callVid C K (c_X0_sumOfWeek l D ad cI cC cZ cQ _ d c9 hd hc) gX0_sum_X0_sumOfWeek rfl hd_X0_sumOfWeek ⟨rfl, rfl⟩ ⟨Nat.le_of_ble_eq_true rfl, Nat.le_of_ble_eq_true rfl⟩ 3 rfl rfl rfl rfl rfl (Nat.le_of_ble_eq_true rfl) ⟨Nat.le_refl _, Nat.le_refl _⟩ dX0_sum_13 rfl ?_
      refine v_iadd C dX0_sum_16 rfl ?_
      refine v_top (sm9 (fun w => σ 3 (5 * w + c9)) (d + 1)) (rfl) ?_
      refine v_istore_n (lv' := [(2, _), (0, _), (1, _), (3, _)]) C dX0_sum_17 rfl 2 rfl (by decide) rfl ?_
      refine v_iinc (lv' := [(3, _), (2, _), (0, _), (1, _)]) C dX0_sum_18 rfl 3 rfl (inc9 _) (by decide) rfl ?_
      refine v_goto C 4 dX0_sum_21 (by decide) ?_
      refine v_lv (lv' := [(0, _), (1, _), (2, _), (3, _)]) [2, 3, 1, 0] rfl ?_
      exact ih
    · skip
      refine v_iload_n C dX0_sum_4 rfl 3 3 rfl rfl ?_
      refine v_iconst (v := 5) C dX0_sum_5 rfl ic_5 ?_
      refine v_icmp_ge C 24 dX0_sum_6 (by decide) rfl (fun _ => ?_) (fun h9 => absurd (nI_le (Nat.le_refl _) (by decide)) h9)
      refine v_iload_n C dX0_sum_24 rfl 2 2 rfl rfl ?_
      exact hend (⟨rfl, rfl⟩) (rfl) dX0_sum_25
  refine v_lv (lv' := [(0, _), (1, _), (2, _), (3, _)]) [2, 3, 1, 0] rfl ?_
  exact LP4 0 (by omega)
set_option maxHeartbeats 4000000 in
set_option maxRecDepth 100000 in
theorem c_X0_shareIn (l : Launch) (D : va_G) (ad : Nat → Nat) (cI cC cZ cQ : ClassId) (σ : S9) (w9 : Nat) (hw : w9 < 5) : CMi l (cW ad cI cC cZ cQ) D (cTy cI cC cZ cQ) yX0_shareIn wsX0_shareIn ({ frames := 0, cells := 0, slots := 0, locals := 0 } : Room) [.ref (ad 3), .int (nI w9)] σ (fun r u => r = σ 4 w9 ∧ u = σ) := by
  refine v_starti (own := RX0) (cc := cX0_shareIn) (nL := 2) rfl (by decide) rfl (Nat.le_of_ble_eq_true rfl) ?_
  intro p e s m args below meth c A Q C K hend
  refine v_lv (lv' := [(0, .ref (ad 3)), (1, .int (nI w9))]) [0, 1] rfl ?_
  refine v_aload_n C dX0_shareIn_0 rfl 0 0 rfl rfl ?_
  refine v_get C K in_X0_shareIn_X0 3 rfl rfl 3 (by decide) fl_X0_shareIn_X0_3 rfl dX0_shareIn_1 rfl ?_
  refine v_iload_n C dX0_shareIn_4 rfl 1 1 rfl rfl ?_
  refine v_iald C K 7 0 rfl rfl (w9) (rfl) (by omega) (by decide) dX0_shareIn_5 rfl ?_
  exact hend (⟨rfl, rfl⟩) (rfl) dX0_shareIn_6
set_option maxHeartbeats 4000000 in
set_option maxRecDepth 100000 in
theorem c_X0_peopleAt (l : Launch) (D : va_G) (ad : Nat → Nat) (cI cC cZ cQ : ClassId) (σ : S9) (k : Nat) (hk : k < 70) : CMi l (cW ad cI cC cZ cQ) D (cTy cI cC cZ cQ) yX0_peopleAt wsX0_peopleAt ({ frames := 0, cells := 0, slots := 0, locals := 0 } : Room) [.ref (ad 3), .int (nI k)] σ (fun r u => r = σ 1 k ∧ u = σ) := by
  refine v_starti (own := RX0) (cc := cX0_peopleAt) (nL := 2) rfl (by decide) rfl (Nat.le_of_ble_eq_true rfl) ?_
  intro p e s m args below meth c A Q C K hend
  refine v_lv (lv' := [(0, .ref (ad 3)), (1, .int (nI k))]) [0, 1] rfl ?_
  refine v_aload_n C dX0_peopleAt_0 rfl 0 0 rfl rfl ?_
  refine v_get C K in_X0_peopleAt_X0 3 rfl rfl 0 (by decide) fl_X0_peopleAt_X0_0 rfl dX0_peopleAt_1 rfl ?_
  refine v_iload_n C dX0_peopleAt_4 rfl 1 1 rfl rfl ?_
  refine v_iald C K 4 0 rfl rfl (k) (rfl) (by omega) (by decide) dX0_peopleAt_5 rfl ?_
  exact hend (⟨rfl, rfl⟩) (rfl) dX0_peopleAt_6
set_option maxHeartbeats 4000000 in
set_option maxRecDepth 100000 in
theorem c_X0_leftBehind (l : Launch) (D : va_G) (ad : Nat → Nat) (cI cC cZ cQ : ClassId) (σ : S9) (k : Nat) (hk : k < 70) : CMi l (cW ad cI cC cZ cQ) D (cTy cI cC cZ cQ) yX0_leftBehind wsX0_leftBehind ({ frames := 0, cells := 0, slots := 0, locals := 0 } : Room) [.ref (ad 3), .int (nI k)] σ (fun r u => r = σ 2 k ∧ u = σ) := by
  refine v_starti (own := RX0) (cc := cX0_leftBehind) (nL := 2) rfl (by decide) rfl (Nat.le_of_ble_eq_true rfl) ?_
  intro p e s m args below meth c A Q C K hend
  refine v_lv (lv' := [(0, .ref (ad 3)), (1, .int (nI k))]) [0, 1] rfl ?_
  refine v_aload_n C dX0_leftBehind_0 rfl 0 0 rfl rfl ?_
  refine v_get C K in_X0_leftBehind_X0 3 rfl rfl 1 (by decide) fl_X0_leftBehind_X0_1 rfl dX0_leftBehind_1 rfl ?_
  refine v_iload_n C dX0_leftBehind_4 rfl 1 1 rfl rfl ?_
  refine v_iald C K 5 0 rfl rfl (k) (rfl) (by omega) (by decide) dX0_leftBehind_5 rfl ?_
  exact hend (⟨rfl, rfl⟩) (rfl) dX0_leftBehind_6
set_option maxHeartbeats 4000000 in
set_option maxRecDepth 100000 in
theorem c_X0_fullShows (l : Launch) (D : va_G) (ad : Nat → Nat) (cI cC cZ cQ : ClassId) (σ : S9)  : CMi l (cW ad cI cC cZ cQ) D (cTy cI cC cZ cQ) yX0_fullShows wsX0_fullShows ({ frames := 0, cells := 0, slots := 0, locals := 0 } : Room) [.ref (ad 3)] σ (fun r u => r = σ 5 0 ∧ u = σ) := by
  refine v_starti (own := RX0) (cc := cX0_fullShows) (nL := 1) rfl (by decide) rfl (Nat.le_of_ble_eq_true rfl) ?_
  intro p e s m args below meth c A Q C K hend
  refine v_lv (lv' := [(0, .ref (ad 3))]) [0] rfl ?_
  refine v_aload_n C dX0_fullShows_0 rfl 0 0 rfl rfl ?_
  refine v_get C K in_X0_fullShows_X0 3 rfl rfl 4 (by decide) fl_X0_fullShows_X0_4 rfl dX0_fullShows_1 rfl ?_
  exact hend (⟨rfl, rfl⟩) (rfl) dX0_fullShows_4
set_option maxHeartbeats 4000000 in
set_option maxRecDepth 100000 in
theorem c_X0_leftAtEnd (l : Launch) (D : va_G) (ad : Nat → Nat) (cI cC cZ cQ : ClassId) (σ : S9)  : CMi l (cW ad cI cC cZ cQ) D (cTy cI cC cZ cQ) yX0_leftAtEnd wsX0_leftAtEnd ({ frames := 0, cells := 0, slots := 0, locals := 0 } : Room) [.ref (ad 3)] σ (fun r u => r = σ 5 1 ∧ u = σ) := by
  refine v_starti (own := RX0) (cc := cX0_leftAtEnd) (nL := 1) rfl (by decide) rfl (Nat.le_of_ble_eq_true rfl) ?_
  intro p e s m args below meth c A Q C K hend
  refine v_lv (lv' := [(0, .ref (ad 3))]) [0] rfl ?_
  refine v_aload_n C dX0_leftAtEnd_0 rfl 0 0 rfl rfl ?_
  refine v_get C K in_X0_leftAtEnd_X0 3 rfl rfl 5 (by decide) fl_X0_leftAtEnd_X0_5 rfl dX0_leftAtEnd_1 rfl ?_
  exact hend (⟨rfl, rfl⟩) (rfl) dX0_leftAtEnd_4
def rw_so (sh t : Int32) : Int32 := if sh = -6 then 0 else t * sh / 100
def rw_du (S m so : Int32) : Int32 := if S = 0 then 0 else if so ≤ m then m else so
def rwM (σ : S9) (w : Nat) (m : Int32) : S9 := st9 σ 3 (upd (upd (upd (σ 3) (5 * w + 2) (σ 3 (5 * w + 1) * σ 0 1)) (5 * w + 3) (rw_du (σ 3 (5 * w + 0)) m (rw_so (σ 4 w) (σ 3 (5 * w + 1) * σ 0 1)))) (5 * w + 4) (σ 3 (5 * w + 1) * σ 0 1 - rw_du (σ 3 (5 * w + 0)) m (rw_so (σ 4 w) (σ 3 (5 * w + 1) * σ 0 1)) - σ 3 (5 * w + 0) * σ 0 2))
set_option maxHeartbeats 4000000 in
set_option maxRecDepth 100000 in
theorem c_X0_reckonWeek (l : Launch) (D : va_G) (ad : Nat → Nat) (cI cC cZ cQ : ClassId) (σ : S9) (w9 : Nat) (hw : w9 < 5) (mi : Int32) : CMv l (cW ad cI cC cZ cQ) D (cTy cI cC cZ cQ) yX0_reckonWeek wsX0_reckonWeek ({ frames := 2, cells := 0, slots := 0, locals := 43 } : Room) [.ref (ad 3), .ref (ad 1), .int (nI w9), .int mi] σ (fun u => u = rwM σ w9 mi) := by
  refine v_startv (own := RX0) (cc := cX0_reckonWeek) (nL := 7) rfl (by decide) rfl (Nat.le_of_ble_eq_true rfl) ?_
  intro p e s m args below meth c A Q C K hend
  refine v_lv (lv' := [(0, .ref (ad 3)), (1, .ref (ad 1)), (2, .int (nI w9)), (3, .int mi)]) [0, 1, 2, 3] rfl ?_
  refine v_aload_n C dX0_reckonWeek_0 rfl 0 0 rfl rfl ?_
  refine v_iload_n C dX0_reckonWeek_1 rfl 2 2 rfl rfl ?_
  refine v_iconst (v := 0) C dX0_reckonWeek_2 rfl ic_0 ?_
  refine v_callVid C K (c_X0_sumOfWeek l D ad cI cC cZ cQ _ w9 0 hw (by decide)) gX0_reckonWeek_X0_sumOfWeek rfl hd_X0_sumOfWeek ⟨rfl, rfl⟩ ⟨Nat.le_of_ble_eq_true rfl, Nat.le_of_ble_eq_true rfl⟩ 3 rfl rfl rfl rfl rfl (Nat.le_of_ble_eq_true rfl) ⟨Nat.le_refl _, Nat.le_refl _⟩ dX0_reckonWeek_3 rfl ?_
  refine v_istore (lv' := [(4, _), (0, _), (1, _), (2, _), (3, _)]) C dX0_reckonWeek_6 rfl (by decide) rfl ?_
  refine v_aload_n C dX0_reckonWeek_8 rfl 0 1 rfl rfl ?_
  refine v_iload_n C dX0_reckonWeek_9 rfl 2 3 rfl rfl ?_
  refine v_iconst (v := 1) C dX0_reckonWeek_10 rfl ic_1 ?_
  refine v_callVid C K (c_X0_sumOfWeek l D ad cI cC cZ cQ _ w9 1 hw (by decide)) gX0_reckonWeek_X0_sumOfWeek rfl hd_X0_sumOfWeek ⟨rfl, rfl⟩ ⟨Nat.le_of_ble_eq_true rfl, Nat.le_of_ble_eq_true rfl⟩ 3 rfl rfl rfl rfl rfl (Nat.le_of_ble_eq_true rfl) ⟨Nat.le_refl _, Nat.le_refl _⟩ dX0_reckonWeek_11 rfl ?_
  refine v_aload_n C dX0_reckonWeek_14 rfl 1 2 rfl rfl ?_
  refine v_iconst (v := 1) C dX0_reckonWeek_15 rfl ic_1 ?_
  refine v_callVid C K (c_X1_setting l D ad cI cC cZ cQ _ 1 (by decide)) gX0_reckonWeek_X1_setting rfl hd_X1_setting ⟨rfl, rfl⟩ ⟨Nat.le_of_ble_eq_true rfl, Nat.le_of_ble_eq_true rfl⟩ 1 rfl rfl rfl rfl rfl (Nat.le_of_ble_eq_true rfl) ⟨Nat.le_refl _, Nat.le_refl _⟩ dX0_reckonWeek_16 rfl ?_
  refine v_imul C dX0_reckonWeek_19 rfl ?_
  refine v_istore (lv' := [(5, _), (4, _), (0, _), (1, _), (2, _), (3, _)]) C dX0_reckonWeek_20 rfl (by decide) rfl ?_
  refine v_aload_n C dX0_reckonWeek_22 rfl 0 2 rfl rfl ?_
  refine v_get C K in_X0_reckonWeek_X0 3 rfl rfl 2 (by decide) fl_X0_reckonWeek_X0_2 rfl dX0_reckonWeek_23 rfl ?_
  refine v_iload_n C dX0_reckonWeek_26 rfl 2 4 rfl rfl ?_
  refine v_iconst (v := 5) C dX0_reckonWeek_27 rfl ic_5 ?_
  refine v_imul C dX0_reckonWeek_28 rfl ?_
  refine v_iconst (v := 2) C dX0_reckonWeek_29 rfl ic_2 ?_
  refine v_iadd C dX0_reckonWeek_30 rfl ?_
  refine v_iload C dX0_reckonWeek_31 rfl 0 rfl ?_
  refine v_iast C K _ 6 0 rfl rfl (5 * w9 + 2) (by simp only [lit9, pk_mul, nI_add]; congr 1; omega) (by omega) (by decide) (cW_a6 ad cI cC cZ cQ _ _) dX0_reckonWeek_33 rfl ?_
  refine v_iload C dX0_reckonWeek_34 rfl 1 rfl ?_
  have J52 : VV p l e ({ frames := 2, cells := 0, slots := 0, locals := 43 } : Room) s m args below meth c 0 0 Q (cW ad cI cC cZ cQ) D A s.heap 7 (st9 σ 3 (upd (σ 3) (5 * w9 + 2) (σ 3 (5 * w9 + 1) * σ 0 1))) 52 [(0, .ref (ad 3)), (1, .ref (ad 1)), (2, .int (nI w9)), (3, .int mi), (4, .int (σ 3 (5 * w9 + 0))), (5, .int (σ 3 (5 * w9 + 1) * σ 0 1))] [.int (rw_du (σ 3 (5 * w9 + 0)) mi (rw_so (σ 4 w9) (σ 3 (5 * w9 + 1) * σ 0 1)))] := by
    refine v_istore (lv' := [(6, _), (0, _), (1, _), (2, _), (3, _), (4, _), (5, _)]) C dX0_reckonWeek_52 rfl (by decide) rfl ?_
    refine v_aload_n C dX0_reckonWeek_54 rfl 0 1 rfl rfl ?_
    refine v_get C K in_X0_reckonWeek_X0 3 rfl rfl 2 (by decide) fl_X0_reckonWeek_X0_2 rfl dX0_reckonWeek_55 rfl ?_
    refine v_iload_n C dX0_reckonWeek_58 rfl 2 3 rfl rfl ?_
    refine v_iconst (v := 5) C dX0_reckonWeek_59 rfl ic_5 ?_
    refine v_imul C dX0_reckonWeek_60 rfl ?_
    refine v_iconst (v := 3) C dX0_reckonWeek_61 rfl ic_3 ?_
    refine v_iadd C dX0_reckonWeek_62 rfl ?_
    refine v_iload C dX0_reckonWeek_63 rfl 0 rfl ?_
    refine v_iast C K _ 6 0 rfl rfl (5 * w9 + 3) (by simp only [lit9, pk_mul, nI_add]; congr 1; omega) (by omega) (by decide) (cW_a6 ad cI cC cZ cQ _ _) dX0_reckonWeek_65 rfl ?_
    refine v_aload_n C dX0_reckonWeek_66 rfl 0 1 rfl rfl ?_
    refine v_get C K in_X0_reckonWeek_X0 3 rfl rfl 2 (by decide) fl_X0_reckonWeek_X0_2 rfl dX0_reckonWeek_67 rfl ?_
    refine v_iload_n C dX0_reckonWeek_70 rfl 2 3 rfl rfl ?_
    refine v_iconst (v := 5) C dX0_reckonWeek_71 rfl ic_5 ?_
    refine v_imul C dX0_reckonWeek_72 rfl ?_
    refine v_iconst (v := 4) C dX0_reckonWeek_73 rfl ic_4 ?_
    refine v_iadd C dX0_reckonWeek_74 rfl ?_
    refine v_iload C dX0_reckonWeek_75 rfl 6 rfl ?_
    refine v_iload C dX0_reckonWeek_77 rfl 0 rfl ?_
    refine v_isub C dX0_reckonWeek_79 rfl ?_
    refine v_iload C dX0_reckonWeek_80 rfl 5 rfl ?_
    refine v_aload_n C dX0_reckonWeek_82 rfl 1 2 rfl rfl ?_
    refine v_iconst (v := 2) C dX0_reckonWeek_83 rfl ic_2 ?_
    refine v_callVid C K (c_X1_setting l D ad cI cC cZ cQ _ 2 (by decide)) gX0_reckonWeek_X1_setting rfl hd_X1_setting ⟨rfl, rfl⟩ ⟨Nat.le_of_ble_eq_true rfl, Nat.le_of_ble_eq_true rfl⟩ 1 rfl rfl rfl rfl rfl (Nat.le_of_ble_eq_true rfl) ⟨Nat.le_refl _, Nat.le_refl _⟩ dX0_reckonWeek_84 rfl ?_
    refine v_top (σ 0 2) (by simp [st9]) ?_
    refine v_imul C dX0_reckonWeek_87 rfl ?_
    refine v_isub C dX0_reckonWeek_88 rfl ?_
    refine v_iast C K _ 6 0 rfl rfl (5 * w9 + 4) (by simp only [lit9, pk_mul, nI_add]; congr 1; omega) (by omega) (by decide) (cW_a6 ad cI cC cZ cQ _ _) dX0_reckonWeek_89 rfl ?_
    exact hend (by rw [rwM]; simp only [st9_tw, st9_s]) dX0_reckonWeek_90
  refine v_if_ne C 43 dX0_reckonWeek_36 (by decide) rfl (fun h36n => ?_) (fun h36 => ?_)
  · skip
    refine v_iload_n C dX0_reckonWeek_43 rfl 3 5 rfl rfl ?_
    refine v_aload_n C dX0_reckonWeek_44 rfl 0 2 rfl rfl ?_
    refine v_iload_n C dX0_reckonWeek_45 rfl 2 4 rfl rfl ?_
    refine v_callVid C K (c_X0_shareOfTakings l D ad cI cC cZ cQ _ w9 hw) gX0_reckonWeek_X0_shareOfTakings rfl hd_X0_shareOfTakings ⟨rfl, rfl⟩ ⟨Nat.le_of_ble_eq_true rfl, Nat.le_of_ble_eq_true rfl⟩ 3 rfl rfl rfl rfl rfl (Nat.le_of_ble_eq_true rfl) ⟨Nat.le_refl _, Nat.le_refl _⟩ dX0_reckonWeek_46 rfl ?_
    refine v_mmax C ma_X0_reckonWeek_max_0 ma_X0_reckonWeek_max_1 ma_X0_reckonWeek_max_2 ma_X0_reckonWeek_max_3 (Nat.le_of_ble_eq_true rfl) (Nat.le_of_ble_eq_true rfl) ⟨Nat.le_refl _, Nat.le_refl _⟩ dX0_reckonWeek_49 rfl ?_
    refine v_lv (lv' := [(0, _), (1, _), (2, _), (3, _), (4, _), (5, _)]) [2, 3, 4, 5, 1, 0] rfl ?_
    exact v9cast J52 rfl rfl (by rw [max9, c_sot, st9_n _ _ (by decide), st9_s, upd_s, rw_du, if_neg h36n, rw_so])
  · skip
    refine v_iconst (v := 0) C dX0_reckonWeek_39 rfl ic_0 ?_
    refine v_goto C 52 dX0_reckonWeek_40 (by decide) ?_
    refine v_lv (lv' := [(0, _), (1, _), (2, _), (3, _), (4, _), (5, _)]) [2, 3, 4, 5, 1, 0] rfl ?_
    exact v9cast J52 rfl rfl (by rw [rw_du, if_pos h36])
def IW (r : Nat → Int32) (f w j : Nat) (σ u : S9) : Prop := (∀ i, i ≠ 1 → i ≠ 2 → i ≠ 5 → u i = σ i) ∧ (∀ k, u 1 k = if 14 * w ≤ k ∧ k < 14 * w + j ∧ r (46 + k) = nI f then q_P r f k else σ 1 k) ∧ (∀ k, u 2 k = if 14 * w ≤ k ∧ k < 14 * w + j ∧ r (46 + k) = nI f then q_L r f (k + 1) else σ 2 k) ∧ u 5 1 = σ 5 1 ∧ u 5 0 = σ 5 0 + sm9 (fun i => q_ff r f (14 * w + i)) j
theorem Z_L (r : Nat → Int32) (f w j : Nat) : q_Z r f w (j + 1) = q_L r f (14 * w + j + 1) := if_neg (Nat.succ_ne_zero j)
theorem IW_0 (r : Nat → Int32) (f w : Nat) (σ : S9) : IW r f w 0 σ σ := ⟨fun _ _ _ _ => rfl, fun k => (if_neg (fun q => by omega)).symm, fun k => (if_neg (fun q => by omega)).symm, rfl, (Int32.add_zero _).symm⟩
theorem IW_no {r : Nat → Int32} {f w j : Nat} {σ u : S9} (h : IW r f w j σ u) (e : ¬ r (46 + (14 * w + j)) = nI f) : IW r f w (j + 1) σ u := by
  obtain ⟨h0, h1, h2, h3, h4⟩ := h
  have hc : ∀ k, (14 * w ≤ k ∧ k < 14 * w + (j + 1) ∧ r (46 + k) = nI f) ↔ (14 * w ≤ k ∧ k < 14 * w + j ∧ r (46 + k) = nI f) := fun k => by
    constructor
    · rintro ⟨a, b, c⟩
      refine ⟨a, ?_, c⟩
      rcases Nat.lt_or_ge k (14 * w + j) with q | q
      · exact q
      · exact absurd (by rw [show 14 * w + j = k by omega]; exact c) e
    · rintro ⟨a, b, c⟩
      exact ⟨a, by omega, c⟩
  refine ⟨h0, fun k => ?_, fun k => ?_, h3, ?_⟩
  · rw [h1 k]
    by_cases q : 14 * w ≤ k ∧ k < 14 * w + j ∧ r (46 + k) = nI f
    · rw [if_pos q, if_pos ((hc k).mpr q)]
    · rw [if_neg q, if_neg (fun z => q ((hc k).mp z))]
  · rw [h2 k]
    by_cases q : 14 * w ≤ k ∧ k < 14 * w + j ∧ r (46 + k) = nI f
    · rw [if_pos q, if_pos ((hc k).mpr q)]
    · rw [if_neg q, if_neg (fun z => q ((hc k).mp z))]
  · rw [h4, sm9, show q_ff r f (14 * w + j) = 0 from if_neg (fun z => e z.1), Int32.add_zero]
theorem IW_yes {r : Nat → Int32} {f w j : Nat} {σ u u2 : S9} (h : IW r f w j σ u) (e : r (46 + (14 * w + j)) = nI f) (e0 : ∀ i, i ≠ 1 → i ≠ 2 → i ≠ 5 → u2 i = u i) (e1 : u2 1 = upd (u 1) (14 * w + j) (q_P r f (14 * w + j))) (e2 : u2 2 = upd (u 2) (14 * w + j) (q_L r f (14 * w + j + 1))) (e51 : u2 5 1 = u 5 1) (e50 : u2 5 0 = u 5 0 + q_ff r f (14 * w + j)) : IW r f w (j + 1) σ u2 := by
  obtain ⟨h0, h1, h2, h3, h4⟩ := h
  refine ⟨fun i a b c => (e0 i a b c).trans (h0 i a b c), fun k => ?_, fun k => ?_, e51.trans h3, ?_⟩
  · rw [e1]
    by_cases q : k = 14 * w + j
    · subst q
      rw [upd_s, if_pos ⟨by omega, by omega, e⟩]
    · rw [upd_n _ _ q, h1 k]
      by_cases z : 14 * w ≤ k ∧ k < 14 * w + j ∧ r (46 + k) = nI f
      · rw [if_pos z, if_pos ⟨z.1, by omega, z.2.2⟩]
      · rw [if_neg z, if_neg (fun y => z ⟨y.1, by omega, y.2.2⟩)]
  · rw [e2]
    by_cases q : k = 14 * w + j
    · subst q
      rw [upd_s, if_pos ⟨by omega, by omega, e⟩]
    · rw [upd_n _ _ q, h2 k]
      by_cases z : 14 * w ≤ k ∧ k < 14 * w + j ∧ r (46 + k) = nI f
      · rw [if_pos z, if_pos ⟨z.1, by omega, z.2.2⟩]
      · rw [if_neg z, if_neg (fun y => z ⟨y.1, by omega, y.2.2⟩)]
  · rw [e50, h4, sm9, Int32.add_assoc]
def fwE (r : Nat → Int32) (f w : Nat) (σ u : S9) : Prop := (∀ i, i ≠ 1 → i ≠ 2 → i ≠ 3 → i ≠ 5 → u i = σ i) ∧ (∀ k, u 1 k = if 14 * w ≤ k ∧ k < 14 * w + 14 ∧ r (46 + k) = nI f then q_P r f k else σ 1 k) ∧ (∀ k, u 2 k = if 14 * w ≤ k ∧ k < 14 * w + 14 ∧ r (46 + k) = nI f then q_L r f (k + 1) else σ 2 k) ∧ u 3 = upd (upd (σ 3) (5 * w + 0) (sm9 (q_cj r f w) 14)) (5 * w + 1) (q_ps r f w) ∧ u 5 1 = σ 5 1 ∧ u 5 0 = σ 5 0 + sm9 (fun i => q_ff r f (14 * w + i)) 14
set_option maxHeartbeats 4000000 in
set_option maxRecDepth 100000 in
theorem c_X0_followWeek (l : Launch) (D : va_G) (ad : Nat → Nat) (cI cC cZ cQ : ClassId) (σ : S9) (f : Nat) (hf : f < 8) (w9 : Nat) (hw : w9 < 5) (x : Int32) (hx : x = q_Y (σ 0) f (14 * w9)) : CMi l (cW ad cI cC cZ cQ) D (cTy cI cC cZ cQ) yX0_followWeek wsX0_followWeek ({ frames := 2, cells := 0, slots := 0, locals := 44 } : Room) [.ref (ad 3), .ref (ad 1), .int (nI f), .int (nI w9), .int x] σ (fun r u => r = q_L (σ 0) f (14 * w9 + 14) ∧ fwE (σ 0) f w9 σ u) := by
  refine v_starti (own := RX0) (cc := cX0_followWeek) (nL := 10) rfl (by decide) rfl (Nat.le_of_ble_eq_true rfl) ?_
  intro p e s m args below meth c A Q C K hend
  refine v_lv (lv' := [(0, .ref (ad 3)), (1, .ref (ad 1)), (2, .int (nI f)), (3, .int (nI w9)), (4, .int x)]) [0, 1, 2, 3, 4] rfl ?_
  refine v_iload C dX0_followWeek_0 rfl 4 rfl ?_
  refine v_top (q_Z (σ 0) f w9 0) (hx) ?_
  refine v_istore (lv' := [(5, _), (0, _), (1, _), (2, _), (3, _), (4, _)]) C dX0_followWeek_2 rfl (by decide) rfl ?_
  refine v_iconst (v := 0) C dX0_followWeek_4 rfl ic_0 ?_
  refine v_istore (lv' := [(6, _), (5, _), (0, _), (1, _), (2, _), (3, _), (4, _)]) C dX0_followWeek_5 rfl (by decide) rfl ?_
  refine v_iload_n C dX0_followWeek_7 rfl 3 5 rfl rfl ?_
  refine v_iconst (v := 1) C dX0_followWeek_8 rfl ic_1 ?_
  refine v_iadd C dX0_followWeek_9 rfl ?_
  refine v_bipush (v := 14) C dX0_followWeek_10 rfl bp_14 ?_
  refine v_imul C dX0_followWeek_12 rfl ?_
  refine v_top (nI (14 * w9 + 14)) (by simp only [lit9, pk_mul, nI_add]; congr 1; omega) ?_
  refine v_istore (lv' := [(7, _), (6, _), (5, _), (0, _), (1, _), (2, _), (3, _), (4, _)]) C dX0_followWeek_13 rfl (by decide) rfl ?_
  refine v_iload_n C dX0_followWeek_15 rfl 3 6 rfl rfl ?_
  refine v_bipush (v := 14) C dX0_followWeek_16 rfl bp_14 ?_
  refine v_imul C dX0_followWeek_18 rfl ?_
  refine v_top (nI (14 * w9 + 0)) (by simp only [lit9, pk_mul, nI_add]; congr 1; omega) ?_
  refine v_istore (lv' := [(8, _), (7, _), (6, _), (5, _), (0, _), (1, _), (2, _), (3, _), (4, _)]) C dX0_followWeek_19 rfl (by decide) rfl ?_
  have LP21 : ∀ d, d ≤ 14 → ∀ u : S9, IW (σ 0) f w9 d σ u → VV p l e ({ frames := 2, cells := 0, slots := 0, locals := 44 } : Room) s m args below meth c 0 0 Q (cW ad cI cC cZ cQ) D A s.heap 10 u 21 [(0, .ref (ad 3)), (1, .ref (ad 1)), (2, .int (nI f)), (3, .int (nI w9)), (4, .int x), (5, .int (q_Z (σ 0) f w9 d)), (6, .int (sm9 (q_cj (σ 0) f w9) d)), (7, .int (nI (14 * w9 + 14))), (8, .int (nI (14 * w9 + d)))] [] := by
    refine lpB9 (fun d => ∀ u : S9, IW (σ 0) f w9 d σ u → VV p l e ({ frames := 2, cells := 0, slots := 0, locals := 44 } : Room) s m args below meth c 0 0 Q (cW ad cI cC cZ cQ) D A s.heap 10 u 21 [(0, .ref (ad 3)), (1, .ref (ad 1)), (2, .int (nI f)), (3, .int (nI w9)), (4, .int x), (5, .int (q_Z (σ 0) f w9 d)), (6, .int (sm9 (q_cj (σ 0) f w9) d)), (7, .int (nI (14 * w9 + 14))), (8, .int (nI (14 * w9 + d)))] []) 14 (fun d hd ih => ?_) ?_
    · intro u hI
      have hu0 : u 0 = σ 0 := hI.1 0 (by decide) (by decide) (by decide)
      refine v_iload C dX0_followWeek_21 rfl 8 rfl ?_
      refine v_iload C dX0_followWeek_23 rfl 7 rfl ?_
      refine v_icmp_ge C 104 dX0_followWeek_25 (by decide) rfl (fun h9 => absurd h9 (nI_ge (by omega) (by omega))) (fun _ => ?_)
      refine v_aload_n C dX0_followWeek_28 rfl 1 1 rfl rfl ?_
      refine v_iload C dX0_followWeek_29 rfl 8 rfl ?_
      refine v_callVid C K (c_X1_showAt l D ad cI cC cZ cQ _ (14 * w9 + d) (by omega)) gX0_followWeek_X1_showAt rfl hd_X1_showAt ⟨rfl, rfl⟩ ⟨Nat.le_of_ble_eq_true rfl, Nat.le_of_ble_eq_true rfl⟩ 1 rfl rfl rfl rfl rfl (Nat.le_of_ble_eq_true rfl) ⟨Nat.le_refl _, Nat.le_refl _⟩ dX0_followWeek_31 rfl ?_
      refine v_top (σ 0 (46 + (14 * w9 + d))) (by rw [hu0]) ?_
      refine v_iload_n C dX0_followWeek_34 rfl 2 2 rfl rfl ?_
      refine v_icmp_ne C 98 dX0_followWeek_35 (by decide) rfl (fun h35t => ?_) (fun h35 => ?_)
      · skip
        refine v_iinc (lv' := [(8, _), (0, _), (1, _), (2, _), (3, _), (4, _), (5, _), (6, _), (7, _)]) C dX0_followWeek_98 rfl 8 rfl (inc9 _) (by decide) rfl ?_
        refine v_goto C 21 dX0_followWeek_101 (by decide) ?_
        refine v_lv (lv' := [(0, _), (1, _), (2, _), (3, _), (4, _), (5, _), (6, _), (7, _), (8, _)]) [1, 2, 3, 4, 5, 6, 7, 8, 0] rfl ?_
        exact v9cast (ih _ (IW_no hI h35t)) rfl (by rw [sm9, q_cj, if_neg h35t, Z_s _ _ _ hd, if_neg h35t, Int32.add_zero]; rfl) rfl
      · skip
        refine v_aload_n C dX0_followWeek_38 rfl 1 1 rfl rfl ?_
        refine v_iload C dX0_followWeek_39 rfl 5 rfl ?_
        refine v_iload C dX0_followWeek_41 rfl 8 rfl ?_
        refine v_iconst (v := 2) C dX0_followWeek_43 rfl ic_2 ?_
        refine v_irem C dX0_followWeek_44 rfl (by decide) ?_
        refine v_top (nI ((14 * w9 + d) % 2)) (pk_rem (by omega) (by decide) (by decide)) ?_
        refine v_callSid C K (c_X0_peopleOf l D ad cI cC cZ cQ _ _ ((14 * w9 + d) % 2) (by omega)) gX0_followWeek_X0_peopleOf rfl hd_X0_peopleOf.2 ⟨rfl, rfl⟩ ⟨Nat.le_of_ble_eq_true rfl, Nat.le_of_ble_eq_true rfl⟩ rfl rfl (Nat.le_of_ble_eq_true rfl) ⟨Nat.le_refl _, Nat.le_refl _⟩ dX0_followWeek_45 rfl ?_
        refine v_top (q_P (σ 0) f (14 * w9 + d)) (by rw [hu0, Z_Y _ _ _ hd]; rfl) ?_
        refine v_istore (lv' := [(9, _), (0, _), (1, _), (2, _), (3, _), (4, _), (5, _), (6, _), (7, _), (8, _)]) C dX0_followWeek_48 rfl (by decide) rfl ?_
        refine v_iload C dX0_followWeek_50 rfl 6 rfl ?_
        refine v_iload C dX0_followWeek_52 rfl 0 rfl ?_
        refine v_isub C dX0_followWeek_54 rfl ?_
        refine v_top (q_Z (σ 0) f w9 (d + 1)) (by rw [Z_s _ _ _ hd, if_pos h35]) ?_
        refine v_istore (lv' := [(5, _), (9, _), (0, _), (1, _), (2, _), (3, _), (4, _), (6, _), (7, _), (8, _)]) C dX0_followWeek_55 rfl (by decide) rfl ?_
        refine v_aload_n C dX0_followWeek_57 rfl 0 2 rfl rfl ?_
        refine v_get C K in_X0_followWeek_X0 3 rfl rfl 0 (by decide) fl_X0_followWeek_X0_0 rfl dX0_followWeek_58 rfl ?_
        refine v_iload C dX0_followWeek_61 rfl 9 rfl ?_
        refine v_iload C dX0_followWeek_63 rfl 1 rfl ?_
        refine v_iast C K _ 4 0 rfl rfl (14 * w9 + d) (rfl) (by omega) (by decide) (cW_a4 ad cI cC cZ cQ _ _) dX0_followWeek_65 rfl ?_
        refine v_aload_n C dX0_followWeek_66 rfl 0 2 rfl rfl ?_
        refine v_get C K in_X0_followWeek_X0 3 rfl rfl 1 (by decide) fl_X0_followWeek_X0_1 rfl dX0_followWeek_67 rfl ?_
        refine v_iload C dX0_followWeek_70 rfl 9 rfl ?_
        refine v_iload C dX0_followWeek_72 rfl 0 rfl ?_
        refine v_iast C K _ 5 0 rfl rfl (14 * w9 + d) (rfl) (by omega) (by decide) (cW_a5 ad cI cC cZ cQ _ _) dX0_followWeek_74 rfl ?_
        refine v_iinc (lv' := [(6, _), (5, _), (9, _), (0, _), (1, _), (2, _), (3, _), (4, _), (7, _), (8, _)]) C dX0_followWeek_75 rfl 7 rfl (show _ = sm9 (q_cj (σ 0) f w9) (d + 1) by rw [sm9, q_cj, if_pos h35]; rfl) (by decide) rfl ?_
        refine v_iload C dX0_followWeek_78 rfl 2 rfl ?_
        refine v_aload_n C dX0_followWeek_80 rfl 1 4 rfl rfl ?_
        refine v_iconst (v := 0) C dX0_followWeek_81 rfl ic_0 ?_
        refine v_callVid C K (c_X1_setting l D ad cI cC cZ cQ _ 0 (by decide)) gX0_followWeek_X1_setting rfl hd_X1_setting ⟨rfl, rfl⟩ ⟨Nat.le_of_ble_eq_true rfl, Nat.le_of_ble_eq_true rfl⟩ 1 rfl rfl rfl rfl rfl (Nat.le_of_ble_eq_true rfl) ⟨Nat.le_refl _, Nat.le_refl _⟩ dX0_followWeek_82 rfl ?_
        refine v_top (σ 0 0) (by simp [st9, hu0]) ?_
        refine v_icmp_ne C 98 dX0_followWeek_85 (by decide) rfl (fun h85t => ?_) (fun h85 => ?_)
        · skip
          refine v_iinc (lv' := [(8, _), (6, _), (5, _), (9, _), (0, _), (1, _), (2, _), (3, _), (4, _), (7, _)]) C dX0_followWeek_98 rfl 9 rfl (inc9 _) (by decide) rfl ?_
          refine v_goto C 21 dX0_followWeek_101 (by decide) ?_
          refine v_lv (lv' := [(0, _), (1, _), (2, _), (3, _), (4, _), (5, _), (6, _), (7, _), (8, _)]) [4, 5, 6, 7, 8, 2, 1, 9, 0] rfl ?_
          exact v9cast (ih _ (IW_yes hI h35 (fun i a b c => by simp [st9, a, b, c]) (by simp [st9]) (by simp [st9, Z_L]) (by simp [st9, upd]) (by simp [st9, q_ff, h85t]))) rfl rfl rfl
        · skip
          refine v_aload_n C dX0_followWeek_88 rfl 0 3 rfl rfl ?_
          refine v_dup C dX0_followWeek_89 rfl rfl ?_
          refine v_get C K in_X0_followWeek_X0 3 rfl rfl 4 (by decide) fl_X0_followWeek_X0_4 rfl dX0_followWeek_90 rfl ?_
          refine v_iconst (v := 1) C dX0_followWeek_93 rfl ic_1 ?_
          refine v_iadd C dX0_followWeek_94 rfl ?_
          refine v_put (ty := .int) C K _ in_X0_followWeek_X0 tyX0_ok nmX0 3 rfl rfl 4 (by decide) fl_X0_followWeek_X0_4 rfl (by decide +kernel) rfl rfl (Nat.le_of_ble_eq_true rfl) (cW_fX0_4 ad cI cC cZ cQ _ _) dX0_followWeek_95 rfl ?_
          refine v_iinc (lv' := [(8, _), (6, _), (5, _), (9, _), (0, _), (1, _), (2, _), (3, _), (4, _), (7, _)]) C dX0_followWeek_98 rfl 9 rfl (inc9 _) (by decide) rfl ?_
          refine v_goto C 21 dX0_followWeek_101 (by decide) ?_
          refine v_lv (lv' := [(0, _), (1, _), (2, _), (3, _), (4, _), (5, _), (6, _), (7, _), (8, _)]) [4, 5, 6, 7, 8, 2, 1, 9, 0] rfl ?_
          exact v9cast (ih _ (IW_yes hI h35 (fun i a b c => by simp [st9, a, b, c]) (by simp [st9]) (by simp [st9, Z_L]) (by simp [st9, upd]) (by simp [st9, upd, q_ff, h35, h85]))) rfl rfl rfl
    · intro u hI
      refine v_iload C dX0_followWeek_21 rfl 8 rfl ?_
      refine v_iload C dX0_followWeek_23 rfl 7 rfl ?_
      refine v_icmp_ge C 104 dX0_followWeek_25 (by decide) rfl (fun _ => ?_) (fun h9 => absurd (nI_le (by omega) (by omega)) h9)
      refine v_aload_n C dX0_followWeek_104 rfl 0 0 rfl rfl ?_
      refine v_get C K in_X0_followWeek_X0 3 rfl rfl 2 (by decide) fl_X0_followWeek_X0_2 rfl dX0_followWeek_105 rfl ?_
      refine v_iload_n C dX0_followWeek_108 rfl 3 3 rfl rfl ?_
      refine v_iconst (v := 5) C dX0_followWeek_109 rfl ic_5 ?_
      refine v_imul C dX0_followWeek_110 rfl ?_
      refine v_iconst (v := 0) C dX0_followWeek_111 rfl ic_0 ?_
      refine v_iadd C dX0_followWeek_112 rfl ?_
      refine v_iload C dX0_followWeek_113 rfl 6 rfl ?_
      refine v_iast C K _ 6 0 rfl rfl (5 * w9 + 0) (by simp only [lit9, pk_mul, nI_add]; congr 1; omega) (by omega) (by decide) (cW_a6 ad cI cC cZ cQ _ _) dX0_followWeek_115 rfl ?_
      refine v_aload_n C dX0_followWeek_116 rfl 0 0 rfl rfl ?_
      refine v_get C K in_X0_followWeek_X0 3 rfl rfl 2 (by decide) fl_X0_followWeek_X0_2 rfl dX0_followWeek_117 rfl ?_
      refine v_iload_n C dX0_followWeek_120 rfl 3 3 rfl rfl ?_
      refine v_iconst (v := 5) C dX0_followWeek_121 rfl ic_5 ?_
      refine v_imul C dX0_followWeek_122 rfl ?_
      refine v_iconst (v := 1) C dX0_followWeek_123 rfl ic_1 ?_
      refine v_iadd C dX0_followWeek_124 rfl ?_
      refine v_iload C dX0_followWeek_125 rfl 4 rfl ?_
      refine v_iload C dX0_followWeek_127 rfl 5 rfl ?_
      refine v_isub C dX0_followWeek_129 rfl ?_
      refine v_iast C K _ 6 0 rfl rfl (5 * w9 + 1) (by simp only [lit9, pk_mul, nI_add]; congr 1; omega) (by omega) (by decide) (cW_a6 ad cI cC cZ cQ _ _) dX0_followWeek_130 rfl ?_
      refine v_iload C dX0_followWeek_131 rfl 5 rfl ?_
      exact hend (⟨Z_14 _ _ _, fun i a b c d => by simp [st9, c, hI.1 i a b d], fun k => by rw [st9_n _ _ (by decide), st9_n _ _ (by decide)]; exact hI.2.1 k, fun k => by rw [st9_n _ _ (by decide), st9_n _ _ (by decide)]; exact hI.2.2.1 k, by rw [st9_s, st9_s, hI.1 3 (by decide) (by decide) (by decide), hx, Z_14]; rfl, by rw [st9_n _ _ (by decide), st9_n _ _ (by decide)]; exact hI.2.2.2.1, by rw [st9_n _ _ (by decide), st9_n _ _ (by decide)]; exact hI.2.2.2.2⟩) (rfl) dX0_followWeek_133
  refine v_lv (lv' := [(0, _), (1, _), (2, _), (3, _), (4, _), (5, _), (6, _), (7, _), (8, _)]) [4, 5, 6, 7, 8, 3, 2, 1, 0] rfl ?_
  exact LP21 0 (by omega) σ (IW_0 _ _ _ _)
end
section
/-- a hall's row as it must be: films, shows, shares, rents -/
def wfH (r : Nat → Int32) (n : Nat) : Prop := wfS r n ∧ (∀ f, f < n → ∃ s : Nat, 20 ≤ s ∧ s ≤ 90 ∧ r (6 + 5 * f + 3) = nI s) ∧ ∀ d, d < 35 → ∃ v : Nat, v ≤ 999 ∧ r (116 + d) = nI v
def FS (r : Nat → Int32) (f v : Nat) (u : S9) : Prop := u 3 (5 * v + 0) = q_S r f v ∧ u 3 (5 * v + 1) = q_ps r f v ∧ u 3 (5 * v + 2) = q_T r f v ∧ u 3 (5 * v + 3) = q_D r f v ∧ u 3 (5 * v + 4) = q_T r f v - q_D r f v - q_S r f v * r 2 ∧ u 4 v = q_sh r f v
def FJ (r : Nat → Int32) (f w : Nat) (σ u : S9) : Prop := (∀ i, (i = 0 ∨ 5 < i) → u i = σ i) ∧ (∀ k, k < 14 * w → r (46 + k) = nI f → u 1 k = q_P r f k ∧ u 2 k = q_L r f (k + 1)) ∧ (∀ v, v < w → FS r f v u) ∧ u 5 0 = sm9 (q_ff r f) (14 * w)
theorem FJ_0 {r : Nat → Int32} {f : Nat} {σ u : S9} (h : ∀ i, (i = 0 ∨ 5 < i) → u i = σ i) (h5 : u 5 0 = 0) : FJ r f 0 σ u := ⟨h, fun k hk => absurd hk (Nat.not_lt_zero k), fun v hv => absurd hv (Nat.not_lt_zero v), h5⟩
theorem FJ_s {r : Nat → Int32} {f w : Nat} (hf : f < 8) (hw : w < 5) {σ u u1 : S9} (hr : σ 0 = r) (h : FJ r f w σ u) (h1 : fwE r f w u u1) : FJ r f (w + 1) σ (rwM (st9 u1 4 (upd (u1 4) w (q_sh r f w))) w (r (6 + 5 * f + 2))) := by
  obtain ⟨a0, a1, a2, a3⟩ := h
  obtain ⟨b0, b1, b2, b3, b4, b5⟩ := h1
  have e0 : u1 0 = r := (b0 0 (by decide) (by decide) (by decide) (by decide)).trans ((a0 0 (Or.inl rfl)).trans hr)
  generalize hv : st9 u1 4 (upd (u1 4) w (q_sh r f w)) = v
  have v0 : v 0 = r := by rw [← hv, st9_n _ _ (by decide)]; exact e0
  have v3 : v 3 = upd (upd (u 3) (5 * w + 0) (sm9 (q_cj r f w) 14)) (5 * w + 1) (q_ps r f w) := by rw [← hv, st9_n _ _ (by decide)]; exact b3
  have v4 : v 4 w = q_sh r f w := by rw [← hv, st9_s, upd_s]
  have v30 : v 3 (5 * w + 0) = q_S r f w := by rw [v3, upd_n _ _ (by omega), upd_s, q_S_w r f hw]
  have v31 : v 3 (5 * w + 1) = q_ps r f w := by rw [v3, upd_s]
  have eT : v 3 (5 * w + 1) * v 0 1 = q_T r f w := by rw [v31, v0, q_T_w r hf hw]
  have eso : rw_so (v 4 w) (q_T r f w) = q_so r f w := by rw [v4]; rfl
  have eD : rw_du (v 3 (5 * w + 0)) (r (6 + 5 * f + 2)) (rw_so (v 4 w) (v 3 (5 * w + 1) * v 0 1)) = q_D r f w := by rw [eT, eso, v30]; rfl
  have eM : rwM v w (r (6 + 5 * f + 2)) = st9 v 3 (upd (upd (upd (v 3) (5 * w + 2) (q_T r f w)) (5 * w + 3) (q_D r f w)) (5 * w + 4) (q_T r f w - q_D r f w - q_S r f w * r 2)) := by rw [rwM, eD, eT, v30, v0]
  rw [eM]
  have vi : ∀ i, i ≠ 3 → i ≠ 4 → st9 v 3 (upd (upd (upd (v 3) (5 * w + 2) (q_T r f w)) (5 * w + 3) (q_D r f w)) (5 * w + 4) (q_T r f w - q_D r f w - q_S r f w * r 2)) i = u1 i := fun i h3 h4 => by rw [st9_n _ _ h3, ← hv, st9_n _ _ h4]
  refine ⟨fun i hi => ?_, fun k hk hs => ?_, fun z hz => ?_, ?_⟩
  · rw [vi i (by omega) (by omega), b0 i (by omega) (by omega) (by omega) (by omega)]
    exact a0 i hi
  · rw [vi 1 (by decide) (by decide), vi 2 (by decide) (by decide), b1 k, b2 k]
    by_cases q : 14 * w ≤ k
    · rw [if_pos ⟨q, by omega, hs⟩, if_pos ⟨q, by omega, hs⟩]
      exact ⟨rfl, rfl⟩
    · rw [if_neg (fun y => q y.1), if_neg (fun y => q y.1)]
      exact a1 k (by omega) hs
  · unfold FS
    rw [st9_s, st9_n _ _ (by decide)]
    by_cases q : z = w
    · subst q
      refine ⟨?_, ?_, ?_, ?_, ?_, v4⟩
      · rw [upd_n _ _ (by omega), upd_n _ _ (by omega), upd_n _ _ (by omega)]; exact v30
      · rw [upd_n _ _ (by omega), upd_n _ _ (by omega), upd_n _ _ (by omega)]; exact v31
      · rw [upd_n _ _ (by omega), upd_n _ _ (by omega), upd_s]
      · rw [upd_n _ _ (by omega), upd_s]
      · rw [upd_s]
    · obtain ⟨c0, c1, c2, c3, c4, c5⟩ := a2 z (by omega)
      have key : ∀ c, c < 5 → upd (upd (upd (v 3) (5 * w + 2) (q_T r f w)) (5 * w + 3) (q_D r f w)) (5 * w + 4) (q_T r f w - q_D r f w - q_S r f w * r 2) (5 * z + c) = u 3 (5 * z + c) := fun c hc => by
        rw [upd_n _ _ (by omega), upd_n _ _ (by omega), upd_n _ _ (by omega), v3, upd_n _ _ (by omega), upd_n _ _ (by omega)]
      rw [key 0 (by decide), key 1 (by decide), key 2 (by decide), key 3 (by decide), key 4 (by decide)]
      refine ⟨c0, c1, c2, c3, c4, ?_⟩
      rw [← hv, st9_s, upd_n _ _ q, b0 4 (by decide) (by decide) (by decide) (by decide)]
      exact c5
  · rw [vi 5 (by decide) (by decide), b5, a3, show 14 * (w + 1) = 14 * w + 14 by omega, sm9_split]
def foE (r : Nat → Int32) (f : Nat) (σ u : S9) : Prop := (∀ i, (i = 0 ∨ 5 < i) → u i = σ i) ∧ (∀ k, k < 70 → r (46 + k) = nI f → u 1 k = q_P r f k ∧ u 2 k = q_L r f (k + 1)) ∧ (∀ v, v < 5 → FS r f v u) ∧ u 5 0 = sm9 (q_ff r f) 70 ∧ u 5 1 = q_L r f 70
set_option maxHeartbeats 4000000 in
set_option maxRecDepth 100000 in
theorem c_X0_follow (l : Launch) (D : va_G) (ad : Nat → Nat) (cI cC cZ cQ : ClassId) (σ : S9) (n : Nat) (hw : wfH (σ 0) n) (f : Nat) (hf : f < n) : CMv l (cW ad cI cC cZ cQ) D (cTy cI cC cZ cQ) yX0_follow wsX0_follow ({ frames := 3, cells := 0, slots := 0, locals := 73 } : Room) [.ref (ad 3), .ref (ad 1), .int (nI f)] σ (fun u => foE (σ 0) f σ u) := by
  refine v_startv (own := RX0) (cc := cX0_follow) (nL := 7) rfl (by decide) rfl (Nat.le_of_ble_eq_true rfl) ?_
  intro p e s m args below meth c A Q C K hend
  refine v_lv (lv' := [(0, .ref (ad 3)), (1, .ref (ad 1)), (2, .int (nI f))]) [0, 1, 2] rfl ?_
  have hf8 : f < 8 := Nat.lt_of_lt_of_le hf hw.1.2.1
  refine v_aload_n C dX0_follow_0 rfl 1 1 rfl rfl ?_
  refine v_iload_n C dX0_follow_1 rfl 2 2 rfl rfl ?_
  refine v_iconst (v := 1) C dX0_follow_2 rfl ic_1 ?_
  refine v_callVid C K (c_X1_fact l D ad cI cC cZ cQ _ f 1 hf8 (by decide)) gX0_follow_X1_fact rfl hd_X1_fact ⟨rfl, rfl⟩ ⟨Nat.le_of_ble_eq_true rfl, Nat.le_of_ble_eq_true rfl⟩ 1 rfl rfl rfl rfl rfl (Nat.le_of_ble_eq_true rfl) ⟨Nat.le_refl _, Nat.le_refl _⟩ dX0_follow_3 rfl ?_
  refine v_istore_n (lv' := [(3, _), (0, _), (1, _), (2, _)]) C dX0_follow_6 rfl 3 rfl (by decide) rfl ?_
  refine v_aload_n C dX0_follow_7 rfl 1 2 rfl rfl ?_
  refine v_iload_n C dX0_follow_8 rfl 2 3 rfl rfl ?_
  refine v_iconst (v := 4) C dX0_follow_9 rfl ic_4 ?_
  refine v_callVid C K (c_X1_fact l D ad cI cC cZ cQ _ f 4 hf8 (by decide)) gX0_follow_X1_fact rfl hd_X1_fact ⟨rfl, rfl⟩ ⟨Nat.le_of_ble_eq_true rfl, Nat.le_of_ble_eq_true rfl⟩ 1 rfl rfl rfl rfl rfl (Nat.le_of_ble_eq_true rfl) ⟨Nat.le_refl _, Nat.le_refl _⟩ dX0_follow_10 rfl ?_
  refine v_bipush (v := 7) C dX0_follow_13 rfl bp_7 ?_
  refine v_idiv C dX0_follow_15 rfl (by decide) ?_
  refine v_istore (lv' := [(4, _), (3, _), (0, _), (1, _), (2, _)]) C dX0_follow_16 rfl (by decide) rfl ?_
  refine v_bipush (v := -6) C dX0_follow_18 rfl bp_m6 ?_
  refine v_istore (lv' := [(5, _), (4, _), (3, _), (0, _), (1, _), (2, _)]) C dX0_follow_20 rfl (by decide) rfl ?_
  refine v_aload_n C dX0_follow_22 rfl 0 3 rfl rfl ?_
  refine v_iconst (v := 0) C dX0_follow_23 rfl ic_0 ?_
  refine v_put (ty := .int) C K _ in_X0_follow_X0 tyX0_ok nmX0 3 rfl rfl 4 (by decide) fl_X0_follow_X0_4 rfl (by decide +kernel) rfl rfl (Nat.le_of_ble_eq_true rfl) (cW_fX0_4 ad cI cC cZ cQ _ _) dX0_follow_24 rfl ?_
  refine v_iconst (v := 0) C dX0_follow_27 rfl ic_0 ?_
  refine v_istore (lv' := [(6, _), (5, _), (4, _), (3, _), (0, _), (1, _), (2, _)]) C dX0_follow_28 rfl (by decide) rfl ?_
  have LP30 : ∀ w9, w9 ≤ 5 → ∀ u : S9, FJ (σ 0) f w9 σ u → VV p l e ({ frames := 3, cells := 0, slots := 0, locals := 73 } : Room) s m args below meth c 0 0 Q (cW ad cI cC cZ cQ) D A s.heap 7 u 30 [(0, .ref (ad 3)), (1, .ref (ad 1)), (2, .int (nI f)), (3, .int (q_L (σ 0) f (14 * w9))), (4, .int (σ 0 (6 + 5 * f + 4) / 7)), (5, .int (q_cs (σ 0) f w9)), (6, .int (nI w9))] [] := by
    refine lpB9 (fun w9 => ∀ u : S9, FJ (σ 0) f w9 σ u → VV p l e ({ frames := 3, cells := 0, slots := 0, locals := 73 } : Room) s m args below meth c 0 0 Q (cW ad cI cC cZ cQ) D A s.heap 7 u 30 [(0, .ref (ad 3)), (1, .ref (ad 1)), (2, .int (nI f)), (3, .int (q_L (σ 0) f (14 * w9))), (4, .int (σ 0 (6 + 5 * f + 4) / 7)), (5, .int (q_cs (σ 0) f w9)), (6, .int (nI w9))] []) 5 (fun w9 hw9 ih => ?_) ?_
    · intro u hJ
      have hu0 : u 0 = σ 0 := hJ.1 0 (Or.inl rfl)
      obtain ⟨s9, hs1, hs2, hs3⟩ := hw.2.1 f hf
      refine v_iload C dX0_follow_30 rfl 6 rfl ?_
      refine v_iconst (v := 5) C dX0_follow_32 rfl ic_5 ?_
      refine v_icmp_ge C 115 dX0_follow_33 (by decide) rfl (fun h9 => absurd h9 (nI_ge hw9 (by decide))) (fun _ => ?_)
      refine v_iload C dX0_follow_36 rfl 6 rfl ?_
      refine v_iload C dX0_follow_38 rfl 4 rfl ?_
      have J49 : VV p l e ({ frames := 3, cells := 0, slots := 0, locals := 73 } : Room) s m args below meth c 0 0 Q (cW ad cI cC cZ cQ) D A s.heap 7 u 49 [(0, .ref (ad 3)), (1, .ref (ad 1)), (2, .int (nI f)), (4, .int (σ 0 (6 + 5 * f + 4) / 7)), (5, .int (q_cs (σ 0) f w9)), (6, .int (nI w9)), (3, .int (q_Y (σ 0) f (14 * w9)))] [] := by
        refine v_aload_n C dX0_follow_49 rfl 0 0 rfl rfl ?_
        refine v_aload_n C dX0_follow_50 rfl 1 1 rfl rfl ?_
        refine v_iload_n C dX0_follow_51 rfl 2 2 rfl rfl ?_
        refine v_iload C dX0_follow_52 rfl 5 rfl ?_
        refine v_iload_n C dX0_follow_54 rfl 3 6 rfl rfl ?_
        refine v_callVi C K (c_X0_followWeek l D ad cI cC cZ cQ _ f hf8 w9 hw9 _ (by rw [hu0])) gX0_follow_X0_followWeek rfl hd_X0_followWeek ⟨rfl, rfl⟩ ⟨Nat.le_of_ble_eq_true rfl, Nat.le_of_ble_eq_true rfl⟩ 3 rfl rfl rfl rfl rfl (Nat.le_of_ble_eq_true rfl) ⟨Nat.le_refl _, Nat.le_refl _⟩ dX0_follow_55 rfl (fun r55 u55 hc55 => ?_)
        obtain ⟨e55, hE⟩ := hc55
        rw [hu0] at e55 hE
        have hv0 : u55 0 = σ 0 := (hE.1 0 (by decide) (by decide) (by decide) (by decide)).trans hu0
        have hv30 : u55 3 (5 * w9 + 0) = q_S (σ 0) f w9 := by rw [hE.2.2.2.1, upd_n _ _ (by omega), upd_s, q_S_w _ f hw9]
        subst e55
        refine v_istore_n (lv' := [(3, _), (0, _), (1, _), (2, _), (4, _), (5, _), (6, _)]) C dX0_follow_58 rfl 3 rfl (by decide) rfl ?_
        refine v_iload C dX0_follow_59 rfl 5 rfl ?_
        refine v_aload_n C dX0_follow_61 rfl 1 2 rfl rfl ?_
        refine v_iload_n C dX0_follow_62 rfl 2 3 rfl rfl ?_
        refine v_iconst (v := 3) C dX0_follow_63 rfl ic_3 ?_
        refine v_callVid C K (c_X1_fact l D ad cI cC cZ cQ _ f 3 hf8 (by decide)) gX0_follow_X1_fact rfl hd_X1_fact ⟨rfl, rfl⟩ ⟨Nat.le_of_ble_eq_true rfl, Nat.le_of_ble_eq_true rfl⟩ 1 rfl rfl rfl rfl rfl (Nat.le_of_ble_eq_true rfl) ⟨Nat.le_refl _, Nat.le_refl _⟩ dX0_follow_64 rfl ?_
        refine v_top (σ 0 (6 + 5 * f + 3)) (by rw [hv0]) ?_
        refine v_aload_n C dX0_follow_67 rfl 0 1 rfl rfl ?_
        refine v_iload C dX0_follow_68 rfl 6 rfl ?_
        refine v_iconst (v := 0) C dX0_follow_70 rfl ic_0 ?_
        refine v_callVid C K (c_X0_sumOfWeek l D ad cI cC cZ cQ _ w9 0 hw9 (by decide)) gX0_follow_X0_sumOfWeek rfl hd_X0_sumOfWeek ⟨rfl, rfl⟩ ⟨Nat.le_of_ble_eq_true rfl, Nat.le_of_ble_eq_true rfl⟩ 3 rfl rfl rfl rfl rfl (Nat.le_of_ble_eq_true rfl) ⟨Nat.le_refl _, Nat.le_refl _⟩ dX0_follow_71 rfl ?_
        have J82 : VV p l e ({ frames := 3, cells := 0, slots := 0, locals := 73 } : Room) s m args below meth c 0 0 Q (cW ad cI cC cZ cQ) D A s.heap 7 u55 82 [(0, .ref (ad 3)), (1, .ref (ad 1)), (2, .int (nI f)), (4, .int (σ 0 (6 + 5 * f + 4) / 7)), (5, .int (q_cs (σ 0) f w9)), (6, .int (nI w9)), (3, .int (q_L (σ 0) f (14 * w9 + 14)))] [.int (if q_S (σ 0) f w9 ≤ 0 then 0 else 1), .int (σ 0 (6 + 5 * f + 3)), .int (q_cs (σ 0) f w9)] := by
          refine v_callSpd C (c_X0_nextShare l _ _ _) gX0_follow_X0_nextShare rfl hd_X0_nextShare.2 ⟨rfl, rfl⟩ ⟨Nat.le_of_ble_eq_true rfl, Nat.le_of_ble_eq_true rfl⟩ rfl rfl (Nat.le_of_ble_eq_true rfl) ⟨Nat.le_refl _, Nat.le_refl _⟩ dX0_follow_82 rfl ?_
          refine v_top (q_sh (σ 0) f w9) (cs_next hw9 hs3 hs1 hs2) ?_
          refine v_istore (lv' := [(5, _), (0, _), (1, _), (2, _), (4, _), (6, _), (3, _)]) C dX0_follow_85 rfl (by decide) rfl ?_
          refine v_aload_n C dX0_follow_87 rfl 0 1 rfl rfl ?_
          refine v_get C K in_X0_follow_X0 3 rfl rfl 3 (by decide) fl_X0_follow_X0_3 rfl dX0_follow_88 rfl ?_
          refine v_iload C dX0_follow_91 rfl 5 rfl ?_
          refine v_iload C dX0_follow_93 rfl 0 rfl ?_
          refine v_iast C K _ 7 0 rfl rfl (w9) (rfl) (by omega) (by decide) (cW_a7 ad cI cC cZ cQ _ _) dX0_follow_95 rfl ?_
          refine v_aload_n C dX0_follow_96 rfl 0 1 rfl rfl ?_
          refine v_aload_n C dX0_follow_97 rfl 1 2 rfl rfl ?_
          refine v_iload C dX0_follow_98 rfl 5 rfl ?_
          refine v_aload_n C dX0_follow_100 rfl 1 2 rfl rfl ?_
          refine v_iload_n C dX0_follow_101 rfl 2 3 rfl rfl ?_
          refine v_iconst (v := 2) C dX0_follow_102 rfl ic_2 ?_
          refine v_callVid C K (c_X1_fact l D ad cI cC cZ cQ _ f 2 hf8 (by decide)) gX0_follow_X1_fact rfl hd_X1_fact ⟨rfl, rfl⟩ ⟨Nat.le_of_ble_eq_true rfl, Nat.le_of_ble_eq_true rfl⟩ 1 rfl rfl rfl rfl rfl (Nat.le_of_ble_eq_true rfl) ⟨Nat.le_refl _, Nat.le_refl _⟩ dX0_follow_103 rfl ?_
          refine v_top (σ 0 (6 + 5 * f + 2)) (by rw [st9_n _ _ (by decide), hv0]) ?_
          refine v_callVvd C K (c_X0_reckonWeek l D ad cI cC cZ cQ _ w9 hw9 _) gX0_follow_X0_reckonWeek rfl hd_X0_reckonWeek ⟨rfl, rfl⟩ ⟨Nat.le_of_ble_eq_true rfl, Nat.le_of_ble_eq_true rfl⟩ 3 rfl rfl rfl rfl rfl (Nat.le_of_ble_eq_true rfl) ⟨Nat.le_refl _, Nat.le_refl _⟩ dX0_follow_106 rfl ?_
          refine v_iinc (lv' := [(6, _), (5, _), (0, _), (1, _), (2, _), (4, _), (3, _)]) C dX0_follow_109 rfl 5 rfl (inc9 _) (by decide) rfl ?_
          refine v_goto C 30 dX0_follow_112 (by decide) ?_
          refine v_lv (lv' := [(0, _), (1, _), (2, _), (3, _), (4, _), (5, _), (6, _)]) [2, 3, 4, 6, 5, 1, 0] rfl ?_
          exact v9cast (ih _ (FJ_s hf8 hw9 rfl hJ hE)) rfl (by rw [show 14 * (w9 + 1) = 14 * w9 + 14 by omega]; rfl) rfl
        refine v_top (q_S (σ 0) f w9) (hv30) ?_
        refine v_if_le C 81 dX0_follow_74 (by decide) rfl (fun h74 => ?_) (fun h74 => ?_)
        · skip
          refine v_iconst (v := 0) C dX0_follow_81 rfl ic_0 ?_
          refine v_lv (lv' := [(0, _), (1, _), (2, _), (4, _), (5, _), (6, _), (3, _)]) [1, 2, 3, 4, 5, 6, 0] rfl ?_
          exact v9cast J82 rfl rfl (by simp [h74])
        · skip
          refine v_iconst (v := 1) C dX0_follow_77 rfl ic_1 ?_
          refine v_goto C 82 dX0_follow_78 (by decide) ?_
          refine v_lv (lv' := [(0, _), (1, _), (2, _), (4, _), (5, _), (6, _), (3, _)]) [1, 2, 3, 4, 5, 6, 0] rfl ?_
          exact v9cast J82 rfl rfl (by simp [h74])
      refine v_icmp_le C 49 dX0_follow_40 (by decide) rfl (fun h40 => ?_) (fun h40 => ?_)
      · skip
        refine v_lv (lv' := [(0, _), (1, _), (2, _), (4, _), (5, _), (6, _), (3, _)]) [0, 1, 2, 4, 5, 6, 3] rfl ?_
        exact v9cast J49 rfl (by rw [Y0]; simp [h40]) rfl
      · skip
        refine v_iload_n C dX0_follow_43 rfl 3 3 rfl rfl ?_
        refine v_iload_n C dX0_follow_44 rfl 3 3 rfl rfl ?_
        refine v_iconst (v := 4) C dX0_follow_45 rfl ic_4 ?_
        refine v_idiv C dX0_follow_46 rfl (by decide) ?_
        refine v_isub C dX0_follow_47 rfl ?_
        refine v_istore_n (lv' := [(3, _), (0, _), (1, _), (2, _), (4, _), (5, _), (6, _)]) C dX0_follow_48 rfl 3 rfl (by decide) rfl ?_
        refine v_lv (lv' := [(0, _), (1, _), (2, _), (4, _), (5, _), (6, _), (3, _)]) [1, 2, 3, 4, 5, 6, 0] rfl ?_
        exact v9cast J49 rfl (by rw [Y0]; simp [h40]) rfl
    · intro u hJ
      refine v_iload C dX0_follow_30 rfl 6 rfl ?_
      refine v_iconst (v := 5) C dX0_follow_32 rfl ic_5 ?_
      refine v_icmp_ge C 115 dX0_follow_33 (by decide) rfl (fun _ => ?_) (fun h9 => absurd (nI_le (Nat.le_refl _) (by decide)) h9)
      refine v_aload_n C dX0_follow_115 rfl 0 0 rfl rfl ?_
      refine v_iload_n C dX0_follow_116 rfl 3 3 rfl rfl ?_
      refine v_put (ty := .int) C K _ in_X0_follow_X0 tyX0_ok nmX0 3 rfl rfl 5 (by decide) fl_X0_follow_X0_5 rfl (by decide +kernel) rfl rfl (Nat.le_of_ble_eq_true rfl) (cW_fX0_5 ad cI cC cZ cQ _ _) dX0_follow_117 rfl ?_
      exact hend (⟨fun i hi => by rw [st9_n _ _ (by omega)]; exact hJ.1 i hi, fun k hk hs => by rw [st9_n _ _ (by decide), st9_n _ _ (by decide)]; exact hJ.2.1 k hk hs, fun v hv => by have h := hJ.2.2.1 v hv; unfold FS at h ⊢; rw [st9_n _ _ (by decide), st9_n _ _ (by decide)]; exact h, by rw [st9_s, upd_n _ _ (by decide)]; exact hJ.2.2.2, by rw [st9_s, upd_s]⟩) dX0_follow_120
  refine v_lv (lv' := [(0, _), (1, _), (2, _), (3, _), (4, _), (5, _), (6, _)]) [4, 5, 6, 3, 2, 1, 0] rfl ?_
  exact LP30 0 (by omega) _ (FJ_0 (fun i hi => by rw [st9_n _ _ (by omega)]) (by rw [st9_s, upd_s]))
end
section
/-! ===== the class's sums over its films, and the reference's over its places ===== -/
def c_X (r : Nat → Int32) (c f w : Nat) : Int32 := if c = 0 then q_S r f w else if c = 1 then q_ps r f w else if c = 2 then q_T r f w else if c = 3 then q_D r f w else q_T r f w - q_D r f w - q_S r f w * r 2
theorem FS_c {r : Nat → Int32} {f v c : Nat} {u : S9} (h : FS r f v u) (hc : c < 5) : u 3 (5 * v + c) = c_X r c f v := by
  obtain ⟨h0, h1, h2, h3, h4, -⟩ := h
  rcases (show c = 0 ∨ c = 1 ∨ c = 2 ∨ c = 3 ∨ c = 4 by omega) with rfl | rfl | rfl | rfl | rfl
  · exact h0
  · exact h1
  · exact h2
  · exact h3
  · exact h4
theorem sm9_add (a b : Nat → Int32) : ∀ n, sm9 (fun k => a k + b k) n = sm9 a n + sm9 b n
  | 0 => by show (0 : Int32) = 0 + 0; rfl
  | n + 1 => by rw [sm9, sm9, sm9, sm9_add a b n]; grind
theorem sm9_sub (a b : Nat → Int32) : ∀ n, sm9 (fun k => a k - b k) n = sm9 a n - sm9 b n
  | 0 => by show (0 : Int32) = 0 - 0; rfl
  | n + 1 => by rw [sm9, sm9, sm9, sm9_sub a b n]; grind
theorem sm9_mulr (a : Nat → Int32) (c : Int32) : ∀ n, sm9 (fun k => a k * c) n = sm9 a n * c
  | 0 => by show (0 : Int32) = 0 * c; grind
  | n + 1 => by rw [sm9, sm9, sm9_mulr a c n]; grind
theorem sm9_swap (a : Nat → Nat → Int32) (m : Nat) : ∀ n, sm9 (fun k => sm9 (fun f => a f k) n) m = sm9 (fun f => sm9 (fun k => a f k) m) n
  | 0 => by
    show sm9 (fun _ => 0) m = 0
    exact sm9_zero (fun _ _ => rfl)
  | n + 1 => by
    show sm9 (fun k => sm9 (fun f => a f k) n + a n k) m = sm9 (fun f => sm9 (fun k => a f k) m) n + sm9 (fun k => a n k) m
    rw [sm9_add (fun k => sm9 (fun f => a f k) n) (fun k => a n k) m, sm9_swap a m n]
theorem sm9_one {g : Nat → Int32} {a n : Nat} (ha : a < n) (h : ∀ k, k < n → k ≠ a → g k = 0) : sm9 g n = g a := by
  rw [show n = a + (1 + (n - a - 1)) by omega, sm9_split, sm9_split, sm9_zero (fun k hk => h k (by omega) (by omega)), sm9_zero (n := n - a - 1) (fun k hk => h _ (by omega) (by omega))]
  show 0 + (0 + g (a + 0) + 0) = g a
  rw [Nat.add_zero]
  grind
theorem sm9_more {g : Nat → Int32} {n m : Nat} (hm : n ≤ m) (h : ∀ k, n ≤ k → k < m → g k = 0) : sm9 g m = sm9 g n := by
  rw [show m = n + (m - n) by omega, sm9_split, sm9_zero (n := m - n) (fun k hk => h _ (by omega) (by omega)), Int32.add_zero]
theorem nof {r : Nat → Int32} {n f k : Nat} (hw : wfS r n) (hf : n ≤ f) (hf8 : f < 8) (hk : k < 70) : ¬ r (46 + k) = nI f := by
  intro e
  rcases hw.2.2 k hk with h | ⟨g, hg, h⟩
  · exact nI_ne6 (f := f) (by omega) (e.symm.trans h)
  · have := nI_inj (a := f) (b := g) (by omega) (by omega) (e.symm.trans h)
    omega
theorem q_S_0 {r : Nat → Int32} {n f : Nat} (hw : wfS r n) (hf : n ≤ f) (hf8 : f < 8) (w : Nat) : q_S r f w = 0 := sm9_zero (fun k hk => if_neg (fun q => nof hw hf hf8 hk q.1))
theorem q_T_0 {r : Nat → Int32} {n f : Nat} (hw : wfS r n) (hf : n ≤ f) (hf8 : f < 8) (w : Nat) : q_T r f w = 0 := sm9_zero (fun k hk => if_neg (fun q => nof hw hf hf8 hk q.1))
theorem q_D_0 {r : Nat → Int32} {n f : Nat} (hw : wfS r n) (hf : n ≤ f) (hf8 : f < 8) (w : Nat) : q_D r f w = 0 := if_pos (q_S_0 hw hf hf8 w)
theorem q_W_all {X : Nat → Nat → Int32} {n : Nat} (h8 : n ≤ 8) (h0 : ∀ f, n ≤ f → f < 8 → ∀ w, X f w = 0) : q_W X (-1) = sm9 (fun f => sm9 (X f) 5) n := by
  unfold q_W
  rw [sm9_more h8 (fun f hf hf8 => sm9_zero (fun w _ => by rw [h0 f hf hf8 w]; simp))]
  exact sm9_congr (fun f _ => sm9_congr (fun w _ => if_pos (Or.inl (by decide))))
theorem q_W_week {X : Nat → Nat → Int32} {n w : Nat} (h8 : n ≤ 8) (hw5 : w < 5) (h0 : ∀ f, n ≤ f → f < 8 → ∀ w, X f w = 0) : q_W X (nI w) = sm9 (fun f => X f w) n := by
  unfold q_W
  rw [sm9_more h8 (fun f hf hf8 => sm9_zero (fun w _ => by rw [h0 f hf hf8 w]; simp))]
  exact sm9_congr (fun f _ => by
    rw [sm9_one hw5 (fun v hv hne => if_neg (fun q => q.elim (nI_pos (by omega)) (fun e => hne (nI_inj (by omega) (by omega) e)))), if_pos (Or.inr rfl)])
/-- what is left by a film -/
def LF (r : Nat → Int32) (f : Nat) : Int32 := sm9 (c_X r 4 f) 5
theorem q_left_all {r : Nat → Int32} {n : Nat} (hw : wfS r n) : q_left r (-1) = sm9 (LF r) n + sm9 (fun j => r (116 + (0 + j))) (35 - 0) := by
  unfold q_left
  rw [q_W_all hw.2.1 (fun f a b w => q_T_0 hw a b w), q_W_all hw.2.1 (fun f a b w => q_D_0 hw a b w), q_W_all hw.2.1 (fun f a b w => q_S_0 hw a b w)]
  have e : sm9 (LF r) n = sm9 (fun f => sm9 (q_T r f) 5) n - sm9 (fun f => sm9 (q_D r f) 5) n - sm9 (fun f => sm9 (q_S r f) 5) n * r 2 := by
    rw [← sm9_mulr, ← sm9_sub, ← sm9_sub]
    exact sm9_congr (fun f _ => by
      show sm9 (fun w => q_T r f w - q_D r f w - q_S r f w * r 2) 5 = _
      rw [sm9_sub (fun w => q_T r f w - q_D r f w) (fun w => q_S r f w * r 2), sm9_sub (q_T r f) (q_D r f), sm9_mulr (q_S r f)])
  have e2 : sm9 (rnT r (-1)) 35 = sm9 (fun j => r (116 + (0 + j))) (35 - 0) := sm9_congr (fun j _ => by rw [Nat.zero_add]; exact if_pos (Or.inl (by decide)))
  rw [e, e2]
  grind
theorem q_left_week {r : Nat → Int32} {n w : Nat} (hw : wfS r n) (hw5 : w < 5) : q_left r (nI w) = sm9 (fun f => c_X r 4 f w) n + sm9 (fun j => r (116 + (7 * w + j))) (7 * w + 7 - 7 * w) := by
  unfold q_left
  rw [q_W_week hw.2.1 hw5 (fun f a b w => q_T_0 hw a b w), q_W_week hw.2.1 hw5 (fun f a b w => q_D_0 hw a b w), q_W_week hw.2.1 hw5 (fun f a b w => q_S_0 hw a b w)]
  have e : sm9 (fun f => c_X r 4 f w) n = sm9 (fun f => q_T r f w) n - sm9 (fun f => q_D r f w) n - sm9 (fun f => q_S r f w) n * r 2 := by
    rw [← sm9_mulr, ← sm9_sub, ← sm9_sub]
    rfl
  have e2 : sm9 (rnT r (nI w)) 35 = sm9 (fun j => r (116 + (7 * w + j))) (7 * w + 7 - 7 * w) := by
    have h0 : ∀ d, d < 35 → rnT r (nI w) d = if d / 7 = w then r (116 + d) else 0 := fun d hd => by
      unfold rnT
      by_cases q : d / 7 = w
      · rw [if_pos q, if_pos (Or.inr (by rw [q]))]
      · rw [if_neg q, if_neg]
        rintro (z | z)
        · exact nI_pos (by omega) z
        · exact q (nI_inj (by omega) (by omega) z)
    rw [sm9_congr h0, show (35 : Nat) = 7 * w + (7 + (35 - 7 * (w + 1))) by omega, sm9_split, sm9_split, sm9_zero (fun k hk => if_neg (fun q => by omega)), sm9_zero (n := 35 - 7 * (w + 1)) (fun k hk => if_neg (fun q => by omega)), Int32.zero_add, Int32.add_zero, show 7 * w + 7 - 7 * w = 7 by omega]
    exact sm9_congr (fun j hj => if_pos (by omega))
  rw [e, e2]
  grind
/-! people, and full shows: places summed by films -/
theorem by_films {r : Nat → Int32} {n k : Nat} (hw : wfS r n) (hk : k < 70) (t : Nat → Int32) (z : Int32) (hz : r (46 + k) = -6 → z = 0) (ht : ∀ f, f < n → r (46 + k) = nI f → z = t f) : z = sm9 (fun f => if r (46 + k) = nI f then t f else 0) n := by
  rcases hw.2.2 k hk with h | ⟨g, hg, h⟩
  · rw [hz h, sm9_zero (fun f hf => if_neg (fun q => nI_ne6 (f := f) (by have := hw.2.1; omega) (q.symm.trans h)))]
  · rw [sm9_one hg (fun f hf hne => if_neg (fun q => hne (nI_inj (by have := hw.2.1; omega) (by have := hw.2.1; omega) (q.symm.trans h)))), if_pos h]
    exact ht g hg h
theorem q_ppa_f {r : Nat → Int32} {n k : Nat} (hw : wfS r n) (hk : k < 70) : q_ppa r k = sm9 (fun f => if r (46 + k) = nI f then q_P r f k else 0) n :=
  by_films hw hk (fun f => q_P r f k) _ (fun h => if_pos h) (fun f hf h => q_ppa_nI (by have := hw.2.1; omega) h)
theorem q_ps_w (r : Nat → Int32) (f : Nat) {w : Nat} (hw : w < 5) : sm9 (fun k => if r (46 + k) = nI f ∧ k / 14 = w then q_P r f k else 0) 70 = q_ps r f w := by
  rw [sm9_week (P := fun k => r (46 + k) = nI f) (fun k => q_P r f k) hw, tele r f w 14 (Nat.le_refl _), Z_14]
  rfl
theorem ppl_week {r : Nat → Int32} {n w : Nat} (hw : wfS r n) (hw5 : w < 5) : sm9 (ppT (q_ppa r) (nI w)) 70 = sm9 (fun f => q_ps r f w) n := by
  have e : sm9 (ppT (q_ppa r) (nI w)) 70 = sm9 (fun k => sm9 (fun f => if r (46 + k) = nI f ∧ k / 14 = w then q_P r f k else 0) n) 70 := sm9_congr (fun k hk => by
    unfold ppT
    by_cases q : k / 14 = w
    · rw [if_pos (Or.inr (by rw [q])), q_ppa_f hw hk]
      exact sm9_congr (fun f _ => by
        by_cases z : r (46 + k) = nI f
        · rw [if_pos z, if_pos ⟨z, q⟩]
        · rw [if_neg z, if_neg (fun y => z y.1)])
    · rw [if_neg, sm9_zero (fun f _ => if_neg (fun y => q y.2))]
      rintro (z | z)
      · exact nI_pos (by omega) z
      · exact q (nI_inj (by omega) (by omega) z))
  rw [e, sm9_swap (fun f k => if r (46 + k) = nI f ∧ k / 14 = w then q_P r f k else 0)]
  exact sm9_congr (fun f _ => q_ps_w r f hw5)
theorem sm9_blocks (g : Nat → Int32) : ∀ m, sm9 g (14 * m) = sm9 (fun w => sm9 (fun j => g (14 * w + j)) 14) m
  | 0 => rfl
  | m + 1 => by rw [show 14 * (m + 1) = 14 * m + 14 by omega, sm9_split, sm9_blocks g m]; rfl
theorem film_ps (r : Nat → Int32) (f : Nat) : sm9 (fun k => if r (46 + k) = nI f then q_P r f k else 0) 70 = sm9 (q_ps r f) 5 := by
  rw [show (70 : Nat) = 14 * 5 from rfl, sm9_blocks]
  exact sm9_congr (fun w hw => by
    rw [tele r f w 14 (Nat.le_refl _), Z_14]
    rfl)
theorem q_po_ps (r : Nat → Int32) {f : Nat} (hf : f < 8) : sm9 (q_po r f) 70 = sm9 (q_ps r f) 5 := by
  rw [← film_ps]
  exact sm9_congr (fun k _ => by
    unfold q_po
    by_cases e : r (46 + k) = nI f
    · rw [if_pos e, if_pos e, q_ppa_nI (by omega) e]
    · rw [if_neg e, if_neg e])
theorem ppl_all {r : Nat → Int32} {n : Nat} (hw : wfS r n) : sm9 (ppT (q_ppa r) (-1)) 70 = sm9 (fun f => sm9 (q_ps r f) 5) n := by
  rw [sm9_congr (g := fun k => sm9 (fun f => if r (46 + k) = nI f then q_P r f k else 0) n) (fun k hk => by
    rw [← q_ppa_f hw hk]
    exact if_pos (Or.inl (by decide))), sm9_swap (fun f k => if r (46 + k) = nI f then q_P r f k else 0)]
  exact sm9_congr (fun f _ => film_ps r f)
theorem full_all {r : Nat → Int32} {n : Nat} (hw : wfS r n) : sm9 (q_fs r) 70 = sm9 (fun f => sm9 (q_ff r f) 70) n := by
  rw [← sm9_swap (fun f k => q_ff r f k)]
  exact sm9_congr (fun k hk => by
    rw [by_films hw hk (fun f => if q_P r f k = r 0 then 1 else 0) (q_fs r k) (fun h => if_neg (fun q => q.1 h)) (fun f hf h => by
      have hf8 := hw.2.1
      unfold q_fs
      rw [q_ppa_nI (by omega) h, h]
      by_cases q : q_P r f k = r 0
      · rw [if_pos ⟨nI_ne6 (by omega), q⟩, if_pos q]
      · rw [if_neg (fun y => q y.2), if_neg q])]
    exact sm9_congr (fun f _ => by
      unfold q_ff
      by_cases z : r (46 + k) = nI f
      · by_cases q : q_P r f k = r 0
        · rw [if_pos z, if_pos q, if_pos ⟨z, q⟩]
        · rw [if_pos z, if_neg q, if_neg (fun y => q y.2)]
      · rw [if_neg z, if_neg (fun y => z y.1)]))
/-! how much more would be left: only the films concerned count -/
def sameF (r r2 : Nat → Int32) (f : Nat) : Prop := (∀ i, i < 46 → r2 i = r i) ∧ ∀ k, k < 70 → (r2 (46 + k) = nI f ↔ r (46 + k) = nI f)
theorem same_L {r r2 : Nat → Int32} {f : Nat} (hf : f < 8) (h : sameF r r2 f) : ∀ k, k ≤ 70 → q_L r2 f k = q_L r f k
  | 0, _ => h.1 _ (by omega)
  | k + 1, hk => by
    have ih := same_L hf h k (by omega)
    have eY : q_Y r2 f k = q_Y r f k := by
      unfold q_Y q_pre q_fade
      rw [ih, h.1 (6 + 5 * f + 4) (by omega)]
    have eP : q_P r2 f k = q_P r f k := by
      unfold q_P q_ppl q_c
      rw [eY, h.1 0 (by omega), h.1 3 (by omega), h.1 4 (by omega)]
    rw [q_L_s, q_L_s, eY, eP]
    by_cases e : r (46 + k) = nI f
    · rw [if_pos e, if_pos ((h.2 k (by omega)).mpr e)]
    · rw [if_neg e, if_neg (fun q => e ((h.2 k (by omega)).mp q))]
theorem same_S {r r2 : Nat → Int32} {f : Nat} (h : sameF r r2 f) (w : Nat) : q_S r2 f w = q_S r f w := sm9_congr (fun k hk => by
  unfold q_ct
  by_cases e : r (46 + k) = nI f
  · by_cases q : k / 14 = w
    · rw [if_pos ⟨(h.2 k hk).mpr e, q⟩, if_pos ⟨e, q⟩]
    · rw [if_neg (fun y => q y.2), if_neg (fun y => q y.2)]
  · rw [if_neg (fun y => e ((h.2 k hk).mp y.1)), if_neg (fun y => e y.1)])
theorem same_T {r r2 : Nat → Int32} {f w : Nat} (hf : f < 8) (hw : w < 5) (h : sameF r r2 f) : q_T r2 f w = q_T r f w := by
  rw [q_T_w r2 hf hw, q_T_w r hf hw]
  unfold q_ps q_Y q_pre q_fade
  rw [same_L hf h (14 * w) (by omega), same_L hf h (14 * w + 14) (by omega), h.1 1 (by omega), h.1 (6 + 5 * f + 4) (by omega)]
theorem same_sh {r r2 : Nat → Int32} {f : Nat} (hf : f < 8) (h : sameF r r2 f) (w : Nat) : q_sh r2 f w = q_sh r f w := by
  have e : q_S r2 f = q_S r f := funext (same_S h)
  unfold q_sh p_share
  rw [e, h.1 (6 + 5 * f + 3) (by omega)]
theorem same_LF {r r2 : Nat → Int32} {f : Nat} (hf : f < 8) (h : sameF r r2 f) : LF r2 f = LF r f := sm9_congr (fun w hw => by
  show q_T r2 f w - q_D r2 f w - q_S r2 f w * r2 2 = q_T r f w - q_D r f w - q_S r f w * r 2
  unfold q_D q_so
  rw [same_T hf hw h, same_S h w, same_sh hf h w, h.1 2 (by omega), h.1 (6 + 5 * f + 2) (by omega)])
def c_lf (r : Nat → Int32) (x : Int32) : Int32 := if c_has r x = 0 then 0 else LF r x.toNatClampNeg
def c_gain (r : Nat → Int32) (k : Nat) (x : Int32) : Int32 := (c_lf (upd r (46 + k) x) (r (46 + k)) + c_lf (upd r (46 + k) x) x) - (c_lf r (r (46 + k)) + c_lf r x)
theorem c_has_upd (r : Nat → Int32) (k : Nat) (x y : Int32) : c_has (upd r (46 + k) x) y = c_has r y := by
  unfold c_has
  rw [upd_n _ _ (by omega)]
theorem c_lf_nI {r : Nat → Int32} {n : Nat} (hn : r 5 = nI n) (h8 : n ≤ 8) {f : Nat} (hf : f < n) : c_lf r (nI f) = LF r f := by
  unfold c_lf
  rw [c_has_nI hn h8 hf, if_neg (by decide), nI_cl (by omega)]
theorem c_lf_6 (r : Nat → Int32) : c_lf r (-6) = 0 := by
  unfold c_lf
  rw [c_has_6, if_pos rfl]
theorem c_gain_J {r : Nat → Int32} {n k : Nat} {x : Int32} (hw : wfS r n) (hk : k < 70) (hx : x = -6 ∨ ∃ f : Nat, f < n ∧ x = nI f) : c_gain r k x = q_more r k x := by
  have hn8 := hw.2.1
  have hw2 := wfS_upd hw hk hx
  unfold q_more
  rw [q_left_all hw, q_left_all hw2]
  have er : sm9 (fun j => upd r (46 + k) x (116 + (0 + j))) (35 - 0) = sm9 (fun j => r (116 + (0 + j))) (35 - 0) := sm9_congr (fun j _ => upd_n _ _ (by omega))
  rw [er]
  generalize hR : upd r (46 + k) x = R at hw2
  have hsub : sm9 (LF R) n - sm9 (LF r) n = sm9 (fun f => LF R f - LF r f) n := (sm9_sub (LF R) (LF r) n).symm
  have same : ∀ f, f < n → r (46 + k) ≠ nI f → x ≠ nI f → LF R f - LF r f = 0 := fun f hf h1 h2 => by
    rw [same_LF (r := r) (r2 := R) (by omega) ⟨fun i hi => by rw [← hR]; exact upd_n _ _ (by omega), fun j hj => by
      rw [← hR]
      by_cases e : j = k
      · subst e
        rw [upd_s]
        exact ⟨fun q => absurd q h2, fun q => absurd q h1⟩
      · rw [upd_n _ _ (by omega)]⟩]
    grind
  have g1 : c_gain r k x = (c_lf R (r (46 + k)) + c_lf R x) - (c_lf r (r (46 + k)) + c_lf r x) := by rw [c_gain, hR]
  rw [g1]
  have fin : ∀ a b c : Int32, a - b = c → a + sm9 (fun j => r (116 + (0 + j))) (35 - 0) - (b + sm9 (fun j => r (116 + (0 + j))) (35 - 0)) = c := fun a b c h => by rw [← h]; grind
  symm
  apply fin
  rw [hsub]
  rcases hw.2.2 k hk with ht | ⟨g, hg, ht⟩
  · rw [ht, c_lf_6, c_lf_6]
    rcases hx with rfl | ⟨f, hf, rfl⟩
    · rw [c_lf_6, c_lf_6, sm9_zero (fun f hf => same f hf (by rw [ht]; exact fun q => nI_ne6 (f := f) (by omega) q.symm) (fun q => nI_ne6 (f := f) (by omega) q.symm))]
      rfl
    · rw [c_lf_nI hw.1 hn8 hf, c_lf_nI hw2.1 hn8 hf, sm9_one hf (fun f2 hf2 hne => same f2 hf2 (by rw [ht]; exact fun q => nI_ne6 (f := f2) (by omega) q.symm) (fun q => hne (nI_inj (by omega) (by omega) q).symm))]
      grind
  · rw [ht, c_lf_nI hw.1 hn8 hg, c_lf_nI hw2.1 hn8 hg]
    rcases hx with rfl | ⟨f, hf, rfl⟩
    · rw [c_lf_6, c_lf_6, sm9_one hg (fun f2 hf2 hne => same f2 hf2 (by rw [ht]; exact fun q => hne (nI_inj (by omega) (by omega) q).symm) (fun q => nI_ne6 (f := f2) (by omega) q.symm))]
      grind
    · rw [c_lf_nI hw.1 hn8 hf, c_lf_nI hw2.1 hn8 hf]
      by_cases e : f = g
      · subst e
        have eR : R = r := by rw [← hR, ← ht, upd_id]
        rw [eR, sm9_zero (fun f2 _ => by grind)]
        grind
      · have key : sm9 (fun f2 => LF R f2 - LF r f2) n = sm9 (fun f2 => (if f2 = g then LF R g - LF r g else 0) + (if f2 = f then LF R f - LF r f else 0)) n := sm9_congr (fun f2 hf2 => by
          by_cases e1 : f2 = g
          · subst e1
            rw [if_pos rfl, if_neg (fun q => e q.symm)]
            grind
          · by_cases e2 : f2 = f
            · subst e2
              rw [if_neg e1, if_pos rfl]
              grind
            · rw [if_neg e1, if_neg e2, same f2 hf2 (by rw [ht]; exact fun q => e1 (nI_inj (by omega) (by omega) q).symm) (fun q => e2 (nI_inj (by omega) (by omega) q).symm)]
              rfl)
        rw [key, sm9_add, sm9_one hg (fun j _ hne => if_neg hne), sm9_one hf (fun j _ hne => if_neg hne), if_pos rfl, if_pos rfl]
        grind
end
section
set_option maxHeartbeats 4000000 in
set_option maxRecDepth 100000 in
theorem c_X4_isWithin (l : Launch) (v lo hi : Int32) : CPi l yX4_isWithin wsX4_isWithin ({ frames := 0, cells := 0, slots := 0, locals := 0 } : Room) [.int v, .int lo, .int hi] (fun r => r = p_in v lo hi) := by
  refine v_startP (own := RX4) (cc := cX4_isWithin) (nL := 3) ((fun _ => 0), (fun _ _ => 0)) rfl (by decide) rfl (Nat.le_of_ble_eq_true rfl) ?_
  intro p e s m args below meth c A Q C hend
  skip
  refine v_lv (lv' := [(0, .int v), (1, .int lo), (2, .int hi)]) [0, 1, 2] rfl ?_
  refine v_iload_n C dX4_isWithin_0 rfl 0 0 rfl rfl ?_
  refine v_iload_n C dX4_isWithin_1 rfl 1 1 rfl rfl ?_
  refine v_icmp_lt C 14 dX4_isWithin_2 (by decide) rfl (fun h2 => ?_) (fun h2 => ?_)
  · skip
    refine v_iconst (v := 0) C dX4_isWithin_14 rfl ic_0 ?_
    exact hend (by simp [p_in, h2]) (rfl) dX4_isWithin_15
  · skip
    refine v_iload_n C dX4_isWithin_5 rfl 0 0 rfl rfl ?_
    refine v_iload_n C dX4_isWithin_6 rfl 2 2 rfl rfl ?_
    refine v_icmp_gt C 14 dX4_isWithin_7 (by decide) rfl (fun h7 => ?_) (fun h7 => ?_)
    · skip
      refine v_iconst (v := 0) C dX4_isWithin_14 rfl ic_0 ?_
      exact hend (by simp [p_in, h2, h7]) (rfl) dX4_isWithin_15
    · skip
      refine v_iconst (v := 1) C dX4_isWithin_10 rfl ic_1 ?_
      refine v_goto C 15 dX4_isWithin_11 (by decide) ?_
      exact hend (by simp [p_in, h2, h7]) (rfl) dX4_isWithin_15
set_option maxHeartbeats 4000000 in
set_option maxRecDepth 100000 in
theorem c_X4_isDay (l : Launch) (d : Int32) : CPi l yX4_isDay wsX4_isDay ({ frames := 1, cells := 0, slots := 0, locals := 22 } : Room) [.int d] (fun r => r = p_in d 0 34) := by
  refine v_startP (own := RX4) (cc := cX4_isDay) (nL := 1) ((fun _ => 0), (fun _ _ => 0)) rfl (by decide) rfl (Nat.le_of_ble_eq_true rfl) ?_
  intro p e s m args below meth c A Q C hend
  skip
  refine v_lv (lv' := [(0, .int d)]) [0] rfl ?_
  refine v_iload_n C dX4_isDay_0 rfl 0 0 rfl rfl ?_
  refine v_iconst (v := 0) C dX4_isDay_1 rfl ic_0 ?_
  refine v_bipush (v := 34) C dX4_isDay_2 rfl bp_34 ?_
  refine v_callSpd C (c_X4_isWithin l _ _ _) gX4_isDay_X4_isWithin rfl hd_X4_isWithin.2 ⟨rfl, rfl⟩ ⟨Nat.le_of_ble_eq_true rfl, Nat.le_of_ble_eq_true rfl⟩ rfl rfl (Nat.le_of_ble_eq_true rfl) ⟨Nat.le_refl _, Nat.le_refl _⟩ dX4_isDay_4 rfl ?_
  exact hend (rfl) (p_in_nar _ _ _) dX4_isDay_7
set_option maxHeartbeats 4000000 in
set_option maxRecDepth 100000 in
theorem c_X4_isWeek (l : Launch) (d : Int32) : CPi l yX4_isWeek wsX4_isWeek ({ frames := 1, cells := 0, slots := 0, locals := 22 } : Room) [.int d] (fun r => r = p_in d 0 4) := by
  refine v_startP (own := RX4) (cc := cX4_isWeek) (nL := 1) ((fun _ => 0), (fun _ _ => 0)) rfl (by decide) rfl (Nat.le_of_ble_eq_true rfl) ?_
  intro p e s m args below meth c A Q C hend
  skip
  refine v_lv (lv' := [(0, .int d)]) [0] rfl ?_
  refine v_iload_n C dX4_isWeek_0 rfl 0 0 rfl rfl ?_
  refine v_iconst (v := 0) C dX4_isWeek_1 rfl ic_0 ?_
  refine v_iconst (v := 4) C dX4_isWeek_2 rfl ic_4 ?_
  refine v_callSpd C (c_X4_isWithin l _ _ _) gX4_isWeek_X4_isWithin rfl hd_X4_isWithin.2 ⟨rfl, rfl⟩ ⟨Nat.le_of_ble_eq_true rfl, Nat.le_of_ble_eq_true rfl⟩ rfl rfl (Nat.le_of_ble_eq_true rfl) ⟨Nat.le_refl _, Nat.le_refl _⟩ dX4_isWeek_3 rfl ?_
  exact hend (rfl) (p_in_nar _ _ _) dX4_isWeek_6
set_option maxHeartbeats 4000000 in
set_option maxRecDepth 100000 in
theorem c_X4_isPlace (l : Launch) (d q : Int32) : CPi l yX4_isPlace wsX4_isPlace ({ frames := 2, cells := 0, slots := 0, locals := 42 } : Room) [.int d, .int q] (fun r => r = p_part d q) := by
  refine v_startP (own := RX4) (cc := cX4_isPlace) (nL := 2) ((fun _ => 0), (fun _ _ => 0)) rfl (by decide) rfl (Nat.le_of_ble_eq_true rfl) ?_
  intro p e s m args below meth c A Q C hend
  skip
  refine v_lv (lv' := [(0, .int d), (1, .int q)]) [0, 1] rfl ?_
  refine v_iload_n C dX4_isPlace_0 rfl 0 0 rfl rfl ?_
  refine v_callSpd C (c_X4_isDay l _) gX4_isPlace_X4_isDay rfl hd_X4_isDay.2 ⟨rfl, rfl⟩ ⟨Nat.le_of_ble_eq_true rfl, Nat.le_of_ble_eq_true rfl⟩ rfl rfl (Nat.le_of_ble_eq_true rfl) ⟨Nat.le_refl _, Nat.le_refl _⟩ dX4_isPlace_1 rfl ?_
  refine v_if_eq C 20 dX4_isPlace_4 (by decide) rfl (fun h4 => ?_) (fun h4 => ?_)
  · skip
    refine v_iconst (v := 0) C dX4_isPlace_20 rfl ic_0 ?_
    exact hend (by simp [p_part, h4]) (rfl) dX4_isPlace_21
  · skip
    refine v_iload_n C dX4_isPlace_7 rfl 1 1 rfl rfl ?_
    refine v_iconst (v := 0) C dX4_isPlace_8 rfl ic_0 ?_
    refine v_iconst (v := 1) C dX4_isPlace_9 rfl ic_1 ?_
    refine v_callSpd C (c_X4_isWithin l _ _ _) gX4_isPlace_X4_isWithin rfl hd_X4_isWithin.2 ⟨rfl, rfl⟩ ⟨Nat.le_of_ble_eq_true rfl, Nat.le_of_ble_eq_true rfl⟩ rfl rfl (Nat.le_of_ble_eq_true rfl) ⟨Nat.le_refl _, Nat.le_refl _⟩ dX4_isPlace_10 rfl ?_
    refine v_if_eq C 20 dX4_isPlace_13 (by decide) rfl (fun h13 => ?_) (fun h13 => ?_)
    · skip
      refine v_iconst (v := 0) C dX4_isPlace_20 rfl ic_0 ?_
      exact hend (by simp [p_part, h4, h13]) (rfl) dX4_isPlace_21
    · skip
      refine v_iconst (v := 1) C dX4_isPlace_16 rfl ic_1 ?_
      refine v_goto C 21 dX4_isPlace_17 (by decide) ?_
      exact hend (by simp [p_part, h4, h13]) (rfl) dX4_isPlace_21
set_option maxHeartbeats 4000000 in
set_option maxRecDepth 100000 in
theorem c_X4_placeOf (l : Launch) (d q : Nat) : CPi l yX4_placeOf wsX4_placeOf ({ frames := 0, cells := 0, slots := 0, locals := 0 } : Room) [.int (nI d), .int (nI q)] (fun r => r = nI (2 * d + q)) := by
  refine v_startP (own := RX4) (cc := cX4_placeOf) (nL := 2) ((fun _ => 0), (fun _ _ => 0)) rfl (by decide) rfl (Nat.le_of_ble_eq_true rfl) ?_
  intro p e s m args below meth c A Q C hend
  skip
  refine v_lv (lv' := [(0, .int (nI d)), (1, .int (nI q))]) [0, 1] rfl ?_
  refine v_iload_n C dX4_placeOf_0 rfl 0 0 rfl rfl ?_
  refine v_iconst (v := 2) C dX4_placeOf_1 rfl ic_2 ?_
  refine v_imul C dX4_placeOf_2 rfl ?_
  refine v_iload_n C dX4_placeOf_3 rfl 1 1 rfl rfl ?_
  refine v_iadd C dX4_placeOf_4 rfl ?_
  exact hend (by simp only [lit9, pk_mul, nI_add]; congr 1; omega) (rfl) dX4_placeOf_5
/-- but for what is followed, nothing is different -/
def cc9 (σ u : S9) : Prop := ∀ i, (i = 0 ∨ 5 < i) → u i = σ i
theorem cc9_rf (σ : S9) : cc9 σ σ := fun _ _ => rfl
theorem cc9_tr {a b c : S9} (h : cc9 a b) (k : cc9 b c) : cc9 a c := fun i hi => (k i hi).trans (h i hi)
theorem cc9_0 {σ u : S9} (h : cc9 σ u) : u 0 = σ 0 := h 0 (Or.inl rfl)
theorem has_in {r : Nat → Int32} {n : Nat} (hw : wfS r n) (x : Int32) : c_has r x = p_in x 0 (r 5 - 1) := by
  unfold c_has p_in
  by_cases h1 : x < 0
  · rw [if_pos h1, if_pos h1]
  · rw [if_neg h1, if_neg h1, hw.1]
    obtain ⟨j, hj, rfl⟩ := nI_of h1
    rcases Nat.eq_zero_or_pos n with h0 | h0
    · subst h0
      rw [if_pos (nI_le (Nat.zero_le j) hj), if_pos]
      have : (nI 0 - 1) < 0 := by decide
      exact Int32.lt_of_lt_of_le this (nI_pos' hj)
    · have hn := hw.2.1
      rw [show nI n - 1 = nI (n - 1) by have := nI_pred (n - 1); rwa [Nat.sub_add_cancel h0] at this]
      by_cases q : n ≤ j
      · rw [if_pos (nI_le q hj), if_pos (nI_lt (by omega) hj)]
      · rw [if_neg (nI_ge (by omega) (by omega)), if_neg (nI_nlt (by omega) (by omega))]
theorem can_show {r : Nat → Int32} {n : Nat} (hw : wfH r n) {d f : Nat} (hd : d < 35) (hf : f < n) : c_can r d (nI f) = p_canShow r f d := by
  obtain ⟨v, hv, ev⟩ := hw.2.2 d hd
  have hn := hw.1.2.1
  unfold c_can p_canShow p_let
  rw [c_has_nI hw.1.1 hn hf, if_neg (show ¬ (1 : Int32) = 0 by decide), nI_cl (show f < 100000 by omega), ev]
  by_cases q : v = 0
  · subst q
    rw [if_neg (show ¬ ¬ nI 0 = 0 from fun z => z rfl), if_pos (show nI 0 ≤ 0 by decide), if_neg (show ¬ ¬ (0 : Int32) = 0 from fun z => z rfl)]
  · rw [if_pos (nI_ne0 (by omega) (by omega)), if_neg (nI_nle (by omega) (by omega)), if_pos (by decide)]
theorem can_be {r : Nat → Int32} {n : Nat} (hw : wfH r n) {d : Nat} (hd : d < 35) {x : Int32} (hx : x = -6 ∨ ∃ f : Nat, f < n ∧ x = nI f) : c_can r d x = p_canBe r x d := by
  obtain ⟨v, hv, ev⟩ := hw.2.2 d hd
  have hn := hw.1.2.1
  unfold c_can p_canBe p_let
  rw [ev]
  by_cases q : v = 0
  · subst q
    rw [if_neg (show ¬ ¬ nI 0 = 0 from fun z => z rfl), if_pos (show nI 0 ≤ 0 by decide), if_neg (show ¬ ¬ (0 : Int32) = 0 from fun z => z rfl)]
    rcases hx with rfl | ⟨f, hf, rfl⟩
    · rw [c_has_6, if_pos rfl, if_pos rfl]
    · rw [c_has_nI hw.1.1 hn hf, if_neg (show ¬ (1 : Int32) = 0 by decide), if_neg (nI_ne6 (by omega))]
  · rw [if_pos (nI_ne0 (by omega) (by omega)), if_neg (nI_nle (by omega) (by omega)), if_pos (by decide)]
set_option maxHeartbeats 4000000 in
set_option maxRecDepth 100000 in
theorem c_X4_errorOfShow (l : Launch) (D : va_G) (ad : Nat → Nat) (cI cC cZ cQ : ClassId) (σ : S9) (n : Nat) (hw : wfH (σ 0) n) (f d q : Int32) : CMi l (cW ad cI cC cZ cQ) D (cTy cI cC cZ cQ) yX4_errorOfShow wsX4_errorOfShow ({ frames := 3, cells := 0, slots := 0, locals := 63 } : Room) [.ref (ad 0), .int f, .int d, .int q] σ (fun r u => r = p_why (σ 0) f d q ∧ u = σ) := by
  refine v_starti (own := RX4) (cc := cX4_errorOfShow) (nL := 4) rfl (by decide) rfl (Nat.le_of_ble_eq_true rfl) ?_
  intro p e s m args below meth c A Q C K hend
  refine v_lv (lv' := [(0, .ref (ad 0)), (1, .int f), (2, .int d), (3, .int q)]) [0, 1, 2, 3] rfl ?_
  refine v_aload_n C dX4_errorOfShow_0 rfl 0 0 rfl rfl ?_
  refine v_get C K in_X4_errorOfShow_X4 0 rfl rfl 0 (by decide) fl_X4_errorOfShow_X4_0 rfl dX4_errorOfShow_1 rfl ?_
  refine v_iload_n C dX4_errorOfShow_4 rfl 1 1 rfl rfl ?_
  refine v_callVid C K (c_X1_hasFilm l D ad cI cC cZ cQ _ _) gX4_errorOfShow_X1_hasFilm rfl hd_X1_hasFilm ⟨rfl, rfl⟩ ⟨Nat.le_of_ble_eq_true rfl, Nat.le_of_ble_eq_true rfl⟩ 1 rfl rfl rfl rfl rfl (Nat.le_of_ble_eq_true rfl) ⟨Nat.le_refl _, Nat.le_refl _⟩ dX4_errorOfShow_5 rfl ?_
  refine v_top (p_in f 0 (σ 0 5 - 1)) (has_in hw.1 f) ?_
  refine v_if_ne C 13 dX4_errorOfShow_8 (by decide) rfl (fun h8 => ?_) (fun h8 => ?_)
  · skip
    refine v_iload_n C dX4_errorOfShow_13 rfl 2 2 rfl rfl ?_
    refine v_iload_n C dX4_errorOfShow_14 rfl 3 3 rfl rfl ?_
    refine v_callSpd C (c_X4_isPlace l _ _) gX4_errorOfShow_X4_isPlace rfl hd_X4_isPlace.2 ⟨rfl, rfl⟩ ⟨Nat.le_of_ble_eq_true rfl, Nat.le_of_ble_eq_true rfl⟩ rfl rfl (Nat.le_of_ble_eq_true rfl) ⟨Nat.le_refl _, Nat.le_refl _⟩ dX4_errorOfShow_15 rfl ?_
    refine v_if_ne C 24 dX4_errorOfShow_18 (by decide) rfl (fun h18 => ?_) (fun h18 => ?_)
    · skip
      obtain ⟨f, hf, rfl⟩ := p_film_ne hw.1.1 hw.1.2.1 h8
      obtain ⟨d, q, hd, hq, rfl, rfl⟩ := p_part_ne h18
      have ecd : (nI d).toNatClampNeg = d := nI_cl (by omega)
      have ecf : (nI f).toNatClampNeg = f := nI_cl (by have := hw.1.2.1; omega)
      refine v_aload_n C dX4_errorOfShow_24 rfl 0 0 rfl rfl ?_
      refine v_get C K in_X4_errorOfShow_X4 0 rfl rfl 0 (by decide) fl_X4_errorOfShow_X4_0 rfl dX4_errorOfShow_25 rfl ?_
      refine v_iload_n C dX4_errorOfShow_28 rfl 2 2 rfl rfl ?_
      refine v_iload_n C dX4_errorOfShow_29 rfl 1 1 rfl rfl ?_
      refine v_callVid C K (c_X1_canHold l D ad cI cC cZ cQ _ n hw.1 d hd _) gX4_errorOfShow_X1_canHold rfl hd_X1_canHold ⟨rfl, rfl⟩ ⟨Nat.le_of_ble_eq_true rfl, Nat.le_of_ble_eq_true rfl⟩ 1 rfl rfl rfl rfl rfl (Nat.le_of_ble_eq_true rfl) ⟨Nat.le_refl _, Nat.le_refl _⟩ dX4_errorOfShow_30 rfl ?_
      refine v_top (p_canShow (σ 0) f d) (can_show hw hd hf) ?_
      refine v_if_eq C 40 dX4_errorOfShow_33 (by decide) rfl (fun h33 => ?_) (fun h33 => ?_)
      · skip
        refine v_bipush (v := -5) C dX4_errorOfShow_40 rfl bp_m5 ?_
        exact hend (⟨by simp [p_why, h8, h18, h33, ecd, ecf], rfl⟩) (rfl) dX4_errorOfShow_42
      · skip
        refine v_iconst (v := 0) C dX4_errorOfShow_36 rfl ic_0 ?_
        refine v_goto C 42 dX4_errorOfShow_37 (by decide) ?_
        exact hend (⟨by simp [p_why, h8, h18, h33, ecd, ecf], rfl⟩) (rfl) dX4_errorOfShow_42
    · skip
      refine v_bipush (v := -2) C dX4_errorOfShow_21 rfl bp_m2 ?_
      exact hend (⟨by simp [p_why, h8, h18], rfl⟩) (rfl) dX4_errorOfShow_23
  · skip
    refine v_iconst (v := -1) C dX4_errorOfShow_11 rfl ic_m1 ?_
    exact hend (⟨by simp [p_why, h8], rfl⟩) (rfl) dX4_errorOfShow_12
def c_sum (r : Nat → Int32) (c f : Nat) : Int32 := sm9 (c_X r c f) 5
theorem sum_J {r : Nat → Int32} {f c : Nat} {σ u : S9} (h : foE r f σ u) (hc : c < 5) : sm9 (fun w => u 3 (5 * w + c)) 5 = c_sum r c f := sm9_congr (fun w hw => FS_c (h.2.2.1 w hw) hc)
set_option maxHeartbeats 4000000 in
set_option maxRecDepth 100000 in
theorem c_X4_sumOfFilm (l : Launch) (D : va_G) (ad : Nat → Nat) (cI cC cZ cQ : ClassId) (σ : S9) (n : Nat) (hw : wfH (σ 0) n) (f : Nat) (hf : f < n) (c9 : Nat) (hc : c9 < 5) : CMi l (cW ad cI cC cZ cQ) D (cTy cI cC cZ cQ) yX4_sumOfFilm wsX4_sumOfFilm ({ frames := 4, cells := 0, slots := 0, locals := 99 } : Room) [.ref (ad 0), .int (nI f), .int (nI c9)] σ (fun r u => r = c_sum (σ 0) c9 f ∧ cc9 σ u) := by
  refine v_starti (own := RX4) (cc := cX4_sumOfFilm) (nL := 3) rfl (by decide) rfl (Nat.le_of_ble_eq_true rfl) ?_
  intro p e s m args below meth c A Q C K hend
  refine v_lv (lv' := [(0, .ref (ad 0)), (1, .int (nI f)), (2, .int (nI c9))]) [0, 1, 2] rfl ?_
  refine v_aload_n C dX4_sumOfFilm_0 rfl 0 0 rfl rfl ?_
  refine v_get C K in_X4_sumOfFilm_X4 0 rfl rfl 1 (by decide) fl_X4_sumOfFilm_X4_1 rfl dX4_sumOfFilm_1 rfl ?_
  refine v_aload_n C dX4_sumOfFilm_4 rfl 0 0 rfl rfl ?_
  refine v_get C K in_X4_sumOfFilm_X4 0 rfl rfl 0 (by decide) fl_X4_sumOfFilm_X4_0 rfl dX4_sumOfFilm_5 rfl ?_
  refine v_iload_n C dX4_sumOfFilm_8 rfl 1 1 rfl rfl ?_
  refine v_callVv C K (c_X0_follow l D ad cI cC cZ cQ _ n hw f hf) gX4_sumOfFilm_X0_follow rfl hd_X0_follow ⟨rfl, rfl⟩ ⟨Nat.le_of_ble_eq_true rfl, Nat.le_of_ble_eq_true rfl⟩ 3 rfl rfl rfl rfl rfl (Nat.le_of_ble_eq_true rfl) ⟨Nat.le_refl _, Nat.le_refl _⟩ dX4_sumOfFilm_9 rfl (fun u9 hc9 => ?_)
  have hE := hc9
  have hs : cc9 σ u9 := hE.1
  clear hc9
  refine v_aload_n C dX4_sumOfFilm_12 rfl 0 0 rfl rfl ?_
  refine v_get C K in_X4_sumOfFilm_X4 0 rfl rfl 1 (by decide) fl_X4_sumOfFilm_X4_1 rfl dX4_sumOfFilm_13 rfl ?_
  refine v_iload_n C dX4_sumOfFilm_16 rfl 2 2 rfl rfl ?_
  refine v_callVid C K (c_X0_sum l D ad cI cC cZ cQ _ c9 hc) gX4_sumOfFilm_X0_sum rfl hd_X0_sum ⟨rfl, rfl⟩ ⟨Nat.le_of_ble_eq_true rfl, Nat.le_of_ble_eq_true rfl⟩ 3 rfl rfl rfl rfl rfl (Nat.le_of_ble_eq_true rfl) ⟨Nat.le_refl _, Nat.le_refl _⟩ dX4_sumOfFilm_17 rfl ?_
  exact hend (⟨sum_J hE hc, hs⟩) (rfl) dX4_sumOfFilm_20
set_option maxHeartbeats 4000000 in
set_option maxRecDepth 100000 in
theorem c_X4_sumOfFilms (l : Launch) (D : va_G) (ad : Nat → Nat) (cI cC cZ cQ : ClassId) (σ : S9) (n : Nat) (hw : wfH (σ 0) n) (c9 : Nat) (hc : c9 < 5) : CMi l (cW ad cI cC cZ cQ) D (cTy cI cC cZ cQ) yX4_sumOfFilms wsX4_sumOfFilms ({ frames := 5, cells := 0, slots := 0, locals := 121 } : Room) [.ref (ad 0), .int (nI c9)] σ (fun r u => r = sm9 (c_sum (σ 0) c9) n ∧ cc9 σ u) := by
  refine v_starti (own := RX4) (cc := cX4_sumOfFilms) (nL := 4) rfl (by decide) rfl (Nat.le_of_ble_eq_true rfl) ?_
  intro p e s m args below meth c A Q C K hend
  refine v_lv (lv' := [(0, .ref (ad 0)), (1, .int (nI c9))]) [0, 1] rfl ?_
  refine v_iconst (v := 0) C dX4_sumOfFilms_0 rfl ic_0 ?_
  refine v_istore_n (lv' := [(2, _), (0, _), (1, _)]) C dX4_sumOfFilms_1 rfl 2 rfl (by decide) rfl ?_
  refine v_iconst (v := 0) C dX4_sumOfFilms_2 rfl ic_0 ?_
  refine v_istore_n (lv' := [(3, _), (2, _), (0, _), (1, _)]) C dX4_sumOfFilms_3 rfl 3 rfl (by decide) rfl ?_
  have LP4 : ∀ f, f ≤ n → ∀ u : S9, cc9 σ u → VV p l e ({ frames := 5, cells := 0, slots := 0, locals := 121 } : Room) s m args below meth c 0 0 Q (cW ad cI cC cZ cQ) D A s.heap 4 u 4 [(0, .ref (ad 0)), (1, .int (nI c9)), (2, .int (sm9 (c_sum (σ 0) c9) f)), (3, .int (nI f))] [] := by
    refine lpB9 (fun f => ∀ u : S9, cc9 σ u → VV p l e ({ frames := 5, cells := 0, slots := 0, locals := 121 } : Room) s m args below meth c 0 0 Q (cW ad cI cC cZ cQ) D A s.heap 4 u 4 [(0, .ref (ad 0)), (1, .int (nI c9)), (2, .int (sm9 (c_sum (σ 0) c9) f)), (3, .int (nI f))] []) n (fun f hf ih => ?_) ?_
    · intro u hs
      refine v_iload_n C dX4_sumOfFilms_4 rfl 3 3 rfl rfl ?_
      refine v_aload_n C dX4_sumOfFilms_5 rfl 0 0 rfl rfl ?_
      refine v_get C K in_X4_sumOfFilms_X4 0 rfl rfl 0 (by decide) fl_X4_sumOfFilms_X4_0 rfl dX4_sumOfFilms_6 rfl ?_
      refine v_callVid C K (c_X1_films l D ad cI cC cZ cQ _) gX4_sumOfFilms_X1_films rfl hd_X1_films ⟨rfl, rfl⟩ ⟨Nat.le_of_ble_eq_true rfl, Nat.le_of_ble_eq_true rfl⟩ 1 rfl rfl rfl rfl rfl (Nat.le_of_ble_eq_true rfl) ⟨Nat.le_refl _, Nat.le_refl _⟩ dX4_sumOfFilms_9 rfl ?_
      refine v_top (nI n) (by rw [cc9_0 hs]; exact hw.1.1) ?_
      refine v_icmp_ge C 30 dX4_sumOfFilms_12 (by decide) rfl (fun h9 => absurd h9 (nI_ge hf (by have := hw.1.2.1; omega))) (fun _ => ?_)
      refine v_iload_n C dX4_sumOfFilms_15 rfl 2 2 rfl rfl ?_
      refine v_aload_n C dX4_sumOfFilms_16 rfl 0 0 rfl rfl ?_
      refine v_iload_n C dX4_sumOfFilms_17 rfl 3 3 rfl rfl ?_
      refine v_iload_n C dX4_sumOfFilms_18 rfl 1 1 rfl rfl ?_
      refine v_callVi C K (c_X4_sumOfFilm l D ad cI cC cZ cQ _ n (by rw [cc9_0 hs]; exact hw) f hf c9 hc) gX4_sumOfFilms_X4_sumOfFilm rfl hd_X4_sumOfFilm ⟨rfl, rfl⟩ ⟨Nat.le_of_ble_eq_true rfl, Nat.le_of_ble_eq_true rfl⟩ 0 rfl rfl rfl rfl rfl (Nat.le_of_ble_eq_true rfl) ⟨Nat.le_refl _, Nat.le_refl _⟩ dX4_sumOfFilms_19 rfl (fun r19 u19 hc19 => ?_)
      obtain ⟨rfl, hs19⟩ := hc19
      rw [cc9_0 hs]
      replace hs19 := cc9_tr hs hs19
      refine v_iadd C dX4_sumOfFilms_22 rfl ?_
      refine v_top (sm9 (c_sum (σ 0) c9) (f + 1)) (rfl) ?_
      refine v_istore_n (lv' := [(2, _), (0, _), (1, _), (3, _)]) C dX4_sumOfFilms_23 rfl 2 rfl (by decide) rfl ?_
      refine v_iinc (lv' := [(3, _), (2, _), (0, _), (1, _)]) C dX4_sumOfFilms_24 rfl 3 rfl (inc9 _) (by decide) rfl ?_
      refine v_goto C 4 dX4_sumOfFilms_27 (by decide) ?_
      refine v_lv (lv' := [(0, _), (1, _), (2, _), (3, _)]) [2, 3, 1, 0] rfl ?_
      exact ih _ hs19
    · intro u hs
      refine v_iload_n C dX4_sumOfFilms_4 rfl 3 3 rfl rfl ?_
      refine v_aload_n C dX4_sumOfFilms_5 rfl 0 0 rfl rfl ?_
      refine v_get C K in_X4_sumOfFilms_X4 0 rfl rfl 0 (by decide) fl_X4_sumOfFilms_X4_0 rfl dX4_sumOfFilms_6 rfl ?_
      refine v_callVid C K (c_X1_films l D ad cI cC cZ cQ _) gX4_sumOfFilms_X1_films rfl hd_X1_films ⟨rfl, rfl⟩ ⟨Nat.le_of_ble_eq_true rfl, Nat.le_of_ble_eq_true rfl⟩ 1 rfl rfl rfl rfl rfl (Nat.le_of_ble_eq_true rfl) ⟨Nat.le_refl _, Nat.le_refl _⟩ dX4_sumOfFilms_9 rfl ?_
      refine v_top (nI n) (by rw [cc9_0 hs]; exact hw.1.1) ?_
      refine v_icmp_ge C 30 dX4_sumOfFilms_12 (by decide) rfl (fun _ => ?_) (fun h9 => absurd (nI_le (Nat.le_refl _) (by have := hw.1.2.1; omega)) h9)
      refine v_iload_n C dX4_sumOfFilms_30 rfl 2 2 rfl rfl ?_
      exact hend (⟨rfl, hs⟩) (rfl) dX4_sumOfFilms_31
  refine v_lv (lv' := [(0, _), (1, _), (2, _), (3, _)]) [2, 3, 1, 0] rfl ?_
  exact LP4 0 (Nat.zero_le _) σ (cc9_rf σ)
set_option maxHeartbeats 4000000 in
set_option maxRecDepth 100000 in
theorem c_X4_sumOfFilmsInWeek (l : Launch) (D : va_G) (ad : Nat → Nat) (cI cC cZ cQ : ClassId) (σ : S9) (n : Nat) (hw : wfH (σ 0) n) (w9 : Nat) (hw9 : w9 < 5) (c9 : Nat) (hc : c9 < 5) : CMi l (cW ad cI cC cZ cQ) D (cTy cI cC cZ cQ) yX4_sumOfFilmsInWeek wsX4_sumOfFilmsInWeek ({ frames := 4, cells := 0, slots := 0, locals := 99 } : Room) [.ref (ad 0), .int (nI w9), .int (nI c9)] σ (fun r u => r = sm9 (fun f => c_X (σ 0) c9 f w9) n ∧ cc9 σ u) := by
  refine v_starti (own := RX4) (cc := cX4_sumOfFilmsInWeek) (nL := 5) rfl (by decide) rfl (Nat.le_of_ble_eq_true rfl) ?_
  intro p e s m args below meth c A Q C K hend
  refine v_lv (lv' := [(0, .ref (ad 0)), (1, .int (nI w9)), (2, .int (nI c9))]) [0, 1, 2] rfl ?_
  refine v_iconst (v := 0) C dX4_sumOfFilmsInWeek_0 rfl ic_0 ?_
  refine v_istore_n (lv' := [(3, _), (0, _), (1, _), (2, _)]) C dX4_sumOfFilmsInWeek_1 rfl 3 rfl (by decide) rfl ?_
  refine v_iconst (v := 0) C dX4_sumOfFilmsInWeek_2 rfl ic_0 ?_
  refine v_istore (lv' := [(4, _), (3, _), (0, _), (1, _), (2, _)]) C dX4_sumOfFilmsInWeek_3 rfl (by decide) rfl ?_
  have LP5 : ∀ f, f ≤ n → ∀ u : S9, cc9 σ u → VV p l e ({ frames := 4, cells := 0, slots := 0, locals := 99 } : Room) s m args below meth c 0 0 Q (cW ad cI cC cZ cQ) D A s.heap 5 u 5 [(0, .ref (ad 0)), (1, .int (nI w9)), (2, .int (nI c9)), (3, .int (sm9 (fun f => c_X (σ 0) c9 f w9) f)), (4, .int (nI f))] [] := by
    refine lpB9 (fun f => ∀ u : S9, cc9 σ u → VV p l e ({ frames := 4, cells := 0, slots := 0, locals := 99 } : Room) s m args below meth c 0 0 Q (cW ad cI cC cZ cQ) D A s.heap 5 u 5 [(0, .ref (ad 0)), (1, .int (nI w9)), (2, .int (nI c9)), (3, .int (sm9 (fun f => c_X (σ 0) c9 f w9) f)), (4, .int (nI f))] []) n (fun f hf ih => ?_) ?_
    · intro u hs
      refine v_iload C dX4_sumOfFilmsInWeek_5 rfl 4 rfl ?_
      refine v_aload_n C dX4_sumOfFilmsInWeek_7 rfl 0 0 rfl rfl ?_
      refine v_get C K in_X4_sumOfFilmsInWeek_X4 0 rfl rfl 0 (by decide) fl_X4_sumOfFilmsInWeek_X4_0 rfl dX4_sumOfFilmsInWeek_8 rfl ?_
      refine v_callVid C K (c_X1_films l D ad cI cC cZ cQ _) gX4_sumOfFilmsInWeek_X1_films rfl hd_X1_films ⟨rfl, rfl⟩ ⟨Nat.le_of_ble_eq_true rfl, Nat.le_of_ble_eq_true rfl⟩ 1 rfl rfl rfl rfl rfl (Nat.le_of_ble_eq_true rfl) ⟨Nat.le_refl _, Nat.le_refl _⟩ dX4_sumOfFilmsInWeek_11 rfl ?_
      refine v_top (nI n) (by rw [cc9_0 hs]; exact hw.1.1) ?_
      refine v_icmp_ge C 48 dX4_sumOfFilmsInWeek_14 (by decide) rfl (fun h9 => absurd h9 (nI_ge hf (by have := hw.1.2.1; omega))) (fun _ => ?_)
      refine v_aload_n C dX4_sumOfFilmsInWeek_17 rfl 0 0 rfl rfl ?_
      refine v_get C K in_X4_sumOfFilmsInWeek_X4 0 rfl rfl 1 (by decide) fl_X4_sumOfFilmsInWeek_X4_1 rfl dX4_sumOfFilmsInWeek_18 rfl ?_
      refine v_aload_n C dX4_sumOfFilmsInWeek_21 rfl 0 0 rfl rfl ?_
      refine v_get C K in_X4_sumOfFilmsInWeek_X4 0 rfl rfl 0 (by decide) fl_X4_sumOfFilmsInWeek_X4_0 rfl dX4_sumOfFilmsInWeek_22 rfl ?_
      refine v_iload C dX4_sumOfFilmsInWeek_25 rfl 4 rfl ?_
      refine v_callVv C K (c_X0_follow l D ad cI cC cZ cQ _ n (by rw [cc9_0 hs]; exact hw) f hf) gX4_sumOfFilmsInWeek_X0_follow rfl hd_X0_follow ⟨rfl, rfl⟩ ⟨Nat.le_of_ble_eq_true rfl, Nat.le_of_ble_eq_true rfl⟩ 3 rfl rfl rfl rfl rfl (Nat.le_of_ble_eq_true rfl) ⟨Nat.le_refl _, Nat.le_refl _⟩ dX4_sumOfFilmsInWeek_27 rfl (fun u27 hc27 => ?_)
      have hE := hc27
      rw [cc9_0 hs] at hE
      replace hs : cc9 σ u27 := cc9_tr hs hE.1
      clear hc27
      refine v_iload_n C dX4_sumOfFilmsInWeek_30 rfl 3 3 rfl rfl ?_
      refine v_aload_n C dX4_sumOfFilmsInWeek_31 rfl 0 0 rfl rfl ?_
      refine v_get C K in_X4_sumOfFilmsInWeek_X4 0 rfl rfl 1 (by decide) fl_X4_sumOfFilmsInWeek_X4_1 rfl dX4_sumOfFilmsInWeek_32 rfl ?_
      refine v_iload_n C dX4_sumOfFilmsInWeek_35 rfl 1 1 rfl rfl ?_
      refine v_iload_n C dX4_sumOfFilmsInWeek_36 rfl 2 2 rfl rfl ?_
      refine v_callVid C K (c_X0_sumOfWeek l D ad cI cC cZ cQ _ w9 c9 hw9 hc) gX4_sumOfFilmsInWeek_X0_sumOfWeek rfl hd_X0_sumOfWeek ⟨rfl, rfl⟩ ⟨Nat.le_of_ble_eq_true rfl, Nat.le_of_ble_eq_true rfl⟩ 3 rfl rfl rfl rfl rfl (Nat.le_of_ble_eq_true rfl) ⟨Nat.le_refl _, Nat.le_refl _⟩ dX4_sumOfFilmsInWeek_37 rfl ?_
      refine v_top (c_X (σ 0) c9 f w9) (FS_c (hE.2.2.1 w9 hw9) hc) ?_
      refine v_iadd C dX4_sumOfFilmsInWeek_40 rfl ?_
      refine v_top (sm9 (fun f => c_X (σ 0) c9 f w9) (f + 1)) (rfl) ?_
      refine v_istore_n (lv' := [(3, _), (0, _), (1, _), (2, _), (4, _)]) C dX4_sumOfFilmsInWeek_41 rfl 3 rfl (by decide) rfl ?_
      refine v_iinc (lv' := [(4, _), (3, _), (0, _), (1, _), (2, _)]) C dX4_sumOfFilmsInWeek_42 rfl 4 rfl (inc9 _) (by decide) rfl ?_
      refine v_goto C 5 dX4_sumOfFilmsInWeek_45 (by decide) ?_
      refine v_lv (lv' := [(0, _), (1, _), (2, _), (3, _), (4, _)]) [2, 3, 4, 1, 0] rfl ?_
      exact ih _ hs
    · intro u hs
      refine v_iload C dX4_sumOfFilmsInWeek_5 rfl 4 rfl ?_
      refine v_aload_n C dX4_sumOfFilmsInWeek_7 rfl 0 0 rfl rfl ?_
      refine v_get C K in_X4_sumOfFilmsInWeek_X4 0 rfl rfl 0 (by decide) fl_X4_sumOfFilmsInWeek_X4_0 rfl dX4_sumOfFilmsInWeek_8 rfl ?_
      refine v_callVid C K (c_X1_films l D ad cI cC cZ cQ _) gX4_sumOfFilmsInWeek_X1_films rfl hd_X1_films ⟨rfl, rfl⟩ ⟨Nat.le_of_ble_eq_true rfl, Nat.le_of_ble_eq_true rfl⟩ 1 rfl rfl rfl rfl rfl (Nat.le_of_ble_eq_true rfl) ⟨Nat.le_refl _, Nat.le_refl _⟩ dX4_sumOfFilmsInWeek_11 rfl ?_
      refine v_top (nI n) (by rw [cc9_0 hs]; exact hw.1.1) ?_
      refine v_icmp_ge C 48 dX4_sumOfFilmsInWeek_14 (by decide) rfl (fun _ => ?_) (fun h9 => absurd (nI_le (Nat.le_refl _) (by have := hw.1.2.1; omega)) h9)
      refine v_iload_n C dX4_sumOfFilmsInWeek_48 rfl 3 3 rfl rfl ?_
      exact hend (⟨rfl, hs⟩) (rfl) dX4_sumOfFilmsInWeek_49
  refine v_lv (lv' := [(0, _), (1, _), (2, _), (3, _), (4, _)]) [2, 3, 4, 1, 0] rfl ?_
  exact LP5 0 (Nat.zero_le _) σ (cc9_rf σ)
set_option maxHeartbeats 4000000 in
set_option maxRecDepth 100000 in
theorem c_X4_fullShows (l : Launch) (D : va_G) (ad : Nat → Nat) (cI cC cZ cQ : ClassId) (σ : S9) (n : Nat) (hw : wfH (σ 0) n) : CMi l (cW ad cI cC cZ cQ) D (cTy cI cC cZ cQ) yX4_fullShows wsX4_fullShows ({ frames := 4, cells := 0, slots := 0, locals := 99 } : Room) [.ref (ad 0)] σ (fun r u => r = sm9 (fun f => sm9 (q_ff (σ 0) f) 70) n ∧ cc9 σ u) := by
  refine v_starti (own := RX4) (cc := cX4_fullShows) (nL := 3) rfl (by decide) rfl (Nat.le_of_ble_eq_true rfl) ?_
  intro p e s m args below meth c A Q C K hend
  refine v_lv (lv' := [(0, .ref (ad 0))]) [0] rfl ?_
  refine v_iconst (v := 0) C dX4_fullShows_0 rfl ic_0 ?_
  refine v_istore_n (lv' := [(1, _), (0, _)]) C dX4_fullShows_1 rfl 1 rfl (by decide) rfl ?_
  refine v_iconst (v := 0) C dX4_fullShows_2 rfl ic_0 ?_
  refine v_istore_n (lv' := [(2, _), (1, _), (0, _)]) C dX4_fullShows_3 rfl 2 rfl (by decide) rfl ?_
  have LP4 : ∀ f, f ≤ n → ∀ u : S9, cc9 σ u → VV p l e ({ frames := 4, cells := 0, slots := 0, locals := 99 } : Room) s m args below meth c 0 0 Q (cW ad cI cC cZ cQ) D A s.heap 3 u 4 [(0, .ref (ad 0)), (1, .int (sm9 (fun f => sm9 (q_ff (σ 0) f) 70) f)), (2, .int (nI f))] [] := by
    refine lpB9 (fun f => ∀ u : S9, cc9 σ u → VV p l e ({ frames := 4, cells := 0, slots := 0, locals := 99 } : Room) s m args below meth c 0 0 Q (cW ad cI cC cZ cQ) D A s.heap 3 u 4 [(0, .ref (ad 0)), (1, .int (sm9 (fun f => sm9 (q_ff (σ 0) f) 70) f)), (2, .int (nI f))] []) n (fun f hf ih => ?_) ?_
    · intro u hs
      refine v_iload_n C dX4_fullShows_4 rfl 2 2 rfl rfl ?_
      refine v_aload_n C dX4_fullShows_5 rfl 0 0 rfl rfl ?_
      refine v_get C K in_X4_fullShows_X4 0 rfl rfl 0 (by decide) fl_X4_fullShows_X4_0 rfl dX4_fullShows_6 rfl ?_
      refine v_callVid C K (c_X1_films l D ad cI cC cZ cQ _) gX4_fullShows_X1_films rfl hd_X1_films ⟨rfl, rfl⟩ ⟨Nat.le_of_ble_eq_true rfl, Nat.le_of_ble_eq_true rfl⟩ 1 rfl rfl rfl rfl rfl (Nat.le_of_ble_eq_true rfl) ⟨Nat.le_refl _, Nat.le_refl _⟩ dX4_fullShows_9 rfl ?_
      refine v_top (nI n) (by rw [cc9_0 hs]; exact hw.1.1) ?_
      refine v_icmp_ge C 43 dX4_fullShows_12 (by decide) rfl (fun h9 => absurd h9 (nI_ge hf (by have := hw.1.2.1; omega))) (fun _ => ?_)
      refine v_aload_n C dX4_fullShows_15 rfl 0 0 rfl rfl ?_
      refine v_get C K in_X4_fullShows_X4 0 rfl rfl 1 (by decide) fl_X4_fullShows_X4_1 rfl dX4_fullShows_16 rfl ?_
      refine v_aload_n C dX4_fullShows_19 rfl 0 0 rfl rfl ?_
      refine v_get C K in_X4_fullShows_X4 0 rfl rfl 0 (by decide) fl_X4_fullShows_X4_0 rfl dX4_fullShows_20 rfl ?_
      refine v_iload_n C dX4_fullShows_23 rfl 2 2 rfl rfl ?_
      refine v_callVv C K (c_X0_follow l D ad cI cC cZ cQ _ n (by rw [cc9_0 hs]; exact hw) f hf) gX4_fullShows_X0_follow rfl hd_X0_follow ⟨rfl, rfl⟩ ⟨Nat.le_of_ble_eq_true rfl, Nat.le_of_ble_eq_true rfl⟩ 3 rfl rfl rfl rfl rfl (Nat.le_of_ble_eq_true rfl) ⟨Nat.le_refl _, Nat.le_refl _⟩ dX4_fullShows_24 rfl (fun u24 hc24 => ?_)
      have hE := hc24
      rw [cc9_0 hs] at hE
      replace hs : cc9 σ u24 := cc9_tr hs hE.1
      clear hc24
      refine v_iload_n C dX4_fullShows_27 rfl 1 1 rfl rfl ?_
      refine v_aload_n C dX4_fullShows_28 rfl 0 0 rfl rfl ?_
      refine v_get C K in_X4_fullShows_X4 0 rfl rfl 1 (by decide) fl_X4_fullShows_X4_1 rfl dX4_fullShows_29 rfl ?_
      refine v_callVid C K (c_X0_fullShows l D ad cI cC cZ cQ _) gX4_fullShows_X0_fullShows rfl hd_X0_fullShows ⟨rfl, rfl⟩ ⟨Nat.le_of_ble_eq_true rfl, Nat.le_of_ble_eq_true rfl⟩ 3 rfl rfl rfl rfl rfl (Nat.le_of_ble_eq_true rfl) ⟨Nat.le_refl _, Nat.le_refl _⟩ dX4_fullShows_32 rfl ?_
      refine v_top (sm9 (q_ff (σ 0) f) 70) (hE.2.2.2.1) ?_
      refine v_iadd C dX4_fullShows_35 rfl ?_
      refine v_top (sm9 (fun f => sm9 (q_ff (σ 0) f) 70) (f + 1)) (rfl) ?_
      refine v_istore_n (lv' := [(1, _), (0, _), (2, _)]) C dX4_fullShows_36 rfl 1 rfl (by decide) rfl ?_
      refine v_iinc (lv' := [(2, _), (1, _), (0, _)]) C dX4_fullShows_37 rfl 2 rfl (inc9 _) (by decide) rfl ?_
      refine v_goto C 4 dX4_fullShows_40 (by decide) ?_
      refine v_lv (lv' := [(0, _), (1, _), (2, _)]) [2, 1, 0] rfl ?_
      exact ih _ hs
    · intro u hs
      refine v_iload_n C dX4_fullShows_4 rfl 2 2 rfl rfl ?_
      refine v_aload_n C dX4_fullShows_5 rfl 0 0 rfl rfl ?_
      refine v_get C K in_X4_fullShows_X4 0 rfl rfl 0 (by decide) fl_X4_fullShows_X4_0 rfl dX4_fullShows_6 rfl ?_
      refine v_callVid C K (c_X1_films l D ad cI cC cZ cQ _) gX4_fullShows_X1_films rfl hd_X1_films ⟨rfl, rfl⟩ ⟨Nat.le_of_ble_eq_true rfl, Nat.le_of_ble_eq_true rfl⟩ 1 rfl rfl rfl rfl rfl (Nat.le_of_ble_eq_true rfl) ⟨Nat.le_refl _, Nat.le_refl _⟩ dX4_fullShows_9 rfl ?_
      refine v_top (nI n) (by rw [cc9_0 hs]; exact hw.1.1) ?_
      refine v_icmp_ge C 43 dX4_fullShows_12 (by decide) rfl (fun _ => ?_) (fun h9 => absurd (nI_le (Nat.le_refl _) (by have := hw.1.2.1; omega)) h9)
      refine v_iload_n C dX4_fullShows_43 rfl 1 1 rfl rfl ?_
      exact hend (⟨rfl, hs⟩) (rfl) dX4_fullShows_44
  refine v_lv (lv' := [(0, _), (1, _), (2, _)]) [2, 1, 0] rfl ?_
  exact LP4 0 (Nat.zero_le _) σ (cc9_rf σ)
set_option maxHeartbeats 4000000 in
set_option maxRecDepth 100000 in
theorem c_X4_leftOfFilm (l : Launch) (D : va_G) (ad : Nat → Nat) (cI cC cZ cQ : ClassId) (σ : S9) (n : Nat) (hw : wfH (σ 0) n) (x : Int32) : CMi l (cW ad cI cC cZ cQ) D (cTy cI cC cZ cQ) yX4_leftOfFilm wsX4_leftOfFilm ({ frames := 4, cells := 0, slots := 0, locals := 99 } : Room) [.ref (ad 0), .int x] σ (fun r u => r = c_lf (σ 0) x ∧ cc9 σ u) := by
  refine v_starti (own := RX4) (cc := cX4_leftOfFilm) (nL := 2) rfl (by decide) rfl (Nat.le_of_ble_eq_true rfl) ?_
  intro p e s m args below meth c A Q C K hend
  refine v_lv (lv' := [(0, .ref (ad 0)), (1, .int x)]) [0, 1] rfl ?_
  refine v_aload_n C dX4_leftOfFilm_0 rfl 0 0 rfl rfl ?_
  refine v_get C K in_X4_leftOfFilm_X4 0 rfl rfl 0 (by decide) fl_X4_leftOfFilm_X4_0 rfl dX4_leftOfFilm_1 rfl ?_
  refine v_iload_n C dX4_leftOfFilm_4 rfl 1 1 rfl rfl ?_
  refine v_callVid C K (c_X1_hasFilm l D ad cI cC cZ cQ _ _) gX4_leftOfFilm_X1_hasFilm rfl hd_X1_hasFilm ⟨rfl, rfl⟩ ⟨Nat.le_of_ble_eq_true rfl, Nat.le_of_ble_eq_true rfl⟩ 1 rfl rfl rfl rfl rfl (Nat.le_of_ble_eq_true rfl) ⟨Nat.le_refl _, Nat.le_refl _⟩ dX4_leftOfFilm_5 rfl ?_
  refine v_if_ne C 13 dX4_leftOfFilm_8 (by decide) rfl (fun h8 => ?_) (fun h8 => ?_)
  · skip
    obtain ⟨f, hf, rfl⟩ := c_has_ne hw.1.1 hw.1.2.1 h8
    refine v_aload_n C dX4_leftOfFilm_13 rfl 0 0 rfl rfl ?_
    refine v_get C K in_X4_leftOfFilm_X4 0 rfl rfl 1 (by decide) fl_X4_leftOfFilm_X4_1 rfl dX4_leftOfFilm_14 rfl ?_
    refine v_aload_n C dX4_leftOfFilm_17 rfl 0 0 rfl rfl ?_
    refine v_get C K in_X4_leftOfFilm_X4 0 rfl rfl 0 (by decide) fl_X4_leftOfFilm_X4_0 rfl dX4_leftOfFilm_18 rfl ?_
    refine v_iload_n C dX4_leftOfFilm_21 rfl 1 1 rfl rfl ?_
    refine v_callVv C K (c_X0_follow l D ad cI cC cZ cQ _ n hw f hf) gX4_leftOfFilm_X0_follow rfl hd_X0_follow ⟨rfl, rfl⟩ ⟨Nat.le_of_ble_eq_true rfl, Nat.le_of_ble_eq_true rfl⟩ 3 rfl rfl rfl rfl rfl (Nat.le_of_ble_eq_true rfl) ⟨Nat.le_refl _, Nat.le_refl _⟩ dX4_leftOfFilm_22 rfl (fun u22 hc22 => ?_)
    have hE := hc22
    have hs : cc9 σ u22 := hE.1
    clear hc22
    refine v_aload_n C dX4_leftOfFilm_25 rfl 0 0 rfl rfl ?_
    refine v_get C K in_X4_leftOfFilm_X4 0 rfl rfl 1 (by decide) fl_X4_leftOfFilm_X4_1 rfl dX4_leftOfFilm_26 rfl ?_
    refine v_iconst (v := 4) C dX4_leftOfFilm_29 rfl ic_4 ?_
    refine v_callVid C K (c_X0_sum l D ad cI cC cZ cQ _ 4 (by decide)) gX4_leftOfFilm_X0_sum rfl hd_X0_sum ⟨rfl, rfl⟩ ⟨Nat.le_of_ble_eq_true rfl, Nat.le_of_ble_eq_true rfl⟩ 3 rfl rfl rfl rfl rfl (Nat.le_of_ble_eq_true rfl) ⟨Nat.le_refl _, Nat.le_refl _⟩ dX4_leftOfFilm_30 rfl ?_
    exact hend (⟨by rw [c_lf_nI hw.1.1 hw.1.2.1 hf]; exact sum_J hE (by decide), hs⟩) (rfl) dX4_leftOfFilm_33
  · skip
    refine v_iconst (v := 0) C dX4_leftOfFilm_11 rfl ic_0 ?_
    exact hend (⟨by simp [c_lf, h8], cc9_rf σ⟩) (rfl) dX4_leftOfFilm_12
theorem wfH_upd {r : Nat → Int32} {n k : Nat} {x : Int32} (hw : wfH r n) (hk : k < 70) (hx : x = -6 ∨ ∃ f : Nat, f < n ∧ x = nI f) : wfH (upd r (46 + k) x) n := by
  have hn := hw.1.2.1
  refine ⟨wfS_upd hw.1 hk hx, fun f hf => ?_, fun d hd => ?_⟩
  · rw [upd_n _ _ (by omega)]
    exact hw.2.1 f hf
  · rw [upd_n _ _ (by omega)]
    exact hw.2.2 d hd
set_option maxHeartbeats 4000000 in
set_option maxRecDepth 100000 in
theorem c_X4_gainWith (l : Launch) (D : va_G) (ad : Nat → Nat) (cI cC cZ cQ : ClassId) (σ : S9) (n : Nat) (hw : wfH (σ 0) n) (k : Nat) (hk : k < 70) (x : Int32) (hx : x = -6 ∨ ∃ f : Nat, f < n ∧ x = nI f) : CMi l (cW ad cI cC cZ cQ) D (cTy cI cC cZ cQ) yX4_gainWith wsX4_gainWith ({ frames := 5, cells := 0, slots := 0, locals := 120 } : Room) [.ref (ad 0), .int (nI k), .int x] σ (fun r u => r = q_more (σ 0) k x ∧ cc9 σ u) := by
  refine v_starti (own := RX4) (cc := cX4_gainWith) (nL := 6) rfl (by decide) rfl (Nat.le_of_ble_eq_true rfl) ?_
  intro p e s m args below meth c A Q C K hend
  refine v_lv (lv' := [(0, .ref (ad 0)), (1, .int (nI k)), (2, .int x)]) [0, 1, 2] rfl ?_
  refine v_aload_n C dX4_gainWith_0 rfl 0 0 rfl rfl ?_
  refine v_get C K in_X4_gainWith_X4 0 rfl rfl 0 (by decide) fl_X4_gainWith_X4_0 rfl dX4_gainWith_1 rfl ?_
  refine v_iload_n C dX4_gainWith_4 rfl 1 1 rfl rfl ?_
  refine v_callVid C K (c_X1_showAt l D ad cI cC cZ cQ _ k hk) gX4_gainWith_X1_showAt rfl hd_X1_showAt ⟨rfl, rfl⟩ ⟨Nat.le_of_ble_eq_true rfl, Nat.le_of_ble_eq_true rfl⟩ 1 rfl rfl rfl rfl rfl (Nat.le_of_ble_eq_true rfl) ⟨Nat.le_refl _, Nat.le_refl _⟩ dX4_gainWith_5 rfl ?_
  refine v_istore_n (lv' := [(3, _), (0, _), (1, _), (2, _)]) C dX4_gainWith_8 rfl 3 rfl (by decide) rfl ?_
  refine v_aload_n C dX4_gainWith_9 rfl 0 1 rfl rfl ?_
  refine v_iload_n C dX4_gainWith_10 rfl 3 0 rfl rfl ?_
  refine v_callVi C K (c_X4_leftOfFilm l D ad cI cC cZ cQ _ n (hw) _) gX4_gainWith_X4_leftOfFilm rfl hd_X4_leftOfFilm ⟨rfl, rfl⟩ ⟨Nat.le_of_ble_eq_true rfl, Nat.le_of_ble_eq_true rfl⟩ 0 rfl rfl rfl rfl rfl (Nat.le_of_ble_eq_true rfl) ⟨Nat.le_refl _, Nat.le_refl _⟩ dX4_gainWith_11 rfl (fun r11 u11 hc11 => ?_)
  obtain ⟨rfl, hs11⟩ := hc11
  refine v_aload_n C dX4_gainWith_14 rfl 0 1 rfl rfl ?_
  refine v_iload_n C dX4_gainWith_15 rfl 2 3 rfl rfl ?_
  refine v_callVi C K (c_X4_leftOfFilm l D ad cI cC cZ cQ _ n (by rw [cc9_0 hs11]; exact hw) _) gX4_gainWith_X4_leftOfFilm rfl hd_X4_leftOfFilm ⟨rfl, rfl⟩ ⟨Nat.le_of_ble_eq_true rfl, Nat.le_of_ble_eq_true rfl⟩ 0 rfl rfl rfl rfl rfl (Nat.le_of_ble_eq_true rfl) ⟨Nat.le_refl _, Nat.le_refl _⟩ dX4_gainWith_16 rfl (fun r16 u16 hc16 => ?_)
  obtain ⟨rfl, hs16⟩ := hc16
  rw [cc9_0 hs11]
  replace hs16 := cc9_tr hs11 hs16
  refine v_iadd C dX4_gainWith_19 rfl ?_
  refine v_istore (lv' := [(4, _), (3, _), (0, _), (1, _), (2, _)]) C dX4_gainWith_20 rfl (by decide) rfl ?_
  refine v_aload_n C dX4_gainWith_22 rfl 0 2 rfl rfl ?_
  refine v_get C K in_X4_gainWith_X4 0 rfl rfl 0 (by decide) fl_X4_gainWith_X4_0 rfl dX4_gainWith_23 rfl ?_
  refine v_iload_n C dX4_gainWith_26 rfl 1 3 rfl rfl ?_
  refine v_iload_n C dX4_gainWith_27 rfl 2 4 rfl rfl ?_
  refine v_callVid C K (c_X1_replaceShow l D ad cI cC cZ cQ _ k hk _) gX4_gainWith_X1_replaceShow rfl hd_X1_replaceShow ⟨rfl, rfl⟩ ⟨Nat.le_of_ble_eq_true rfl, Nat.le_of_ble_eq_true rfl⟩ 1 rfl rfl rfl rfl rfl (Nat.le_of_ble_eq_true rfl) ⟨Nat.le_refl _, Nat.le_refl _⟩ dX4_gainWith_28 rfl ?_
  refine v_pop C dX4_gainWith_31 rfl rfl ?_
  refine v_aload_n C dX4_gainWith_32 rfl 0 2 rfl rfl ?_
  refine v_iload_n C dX4_gainWith_33 rfl 3 1 rfl rfl ?_
  refine v_callVi C K (c_X4_leftOfFilm l D ad cI cC cZ cQ _ n (by rw [st9_s, cc9_0 hs16]; exact wfH_upd hw hk hx) _) gX4_gainWith_X4_leftOfFilm rfl hd_X4_leftOfFilm ⟨rfl, rfl⟩ ⟨Nat.le_of_ble_eq_true rfl, Nat.le_of_ble_eq_true rfl⟩ 0 rfl rfl rfl rfl rfl (Nat.le_of_ble_eq_true rfl) ⟨Nat.le_refl _, Nat.le_refl _⟩ dX4_gainWith_34 rfl (fun r34 u34 hc34 => ?_)
  obtain ⟨rfl, hs34⟩ := hc34
  rw [st9_s, cc9_0 hs16]
  have h34 : u34 0 = upd (σ 0) (46 + k) x := by rw [cc9_0 hs34, st9_s, cc9_0 hs16]
  refine v_aload_n C dX4_gainWith_37 rfl 0 2 rfl rfl ?_
  refine v_iload_n C dX4_gainWith_38 rfl 2 4 rfl rfl ?_
  refine v_callVi C K (c_X4_leftOfFilm l D ad cI cC cZ cQ _ n (by rw [h34]; exact wfH_upd hw hk hx) _) gX4_gainWith_X4_leftOfFilm rfl hd_X4_leftOfFilm ⟨rfl, rfl⟩ ⟨Nat.le_of_ble_eq_true rfl, Nat.le_of_ble_eq_true rfl⟩ 0 rfl rfl rfl rfl rfl (Nat.le_of_ble_eq_true rfl) ⟨Nat.le_refl _, Nat.le_refl _⟩ dX4_gainWith_39 rfl (fun r39 u39 hc39 => ?_)
  obtain ⟨rfl, hs39⟩ := hc39
  rw [h34]
  refine v_iadd C dX4_gainWith_42 rfl ?_
  refine v_istore (lv' := [(5, _), (4, _), (3, _), (0, _), (1, _), (2, _)]) C dX4_gainWith_43 rfl (by decide) rfl ?_
  refine v_aload_n C dX4_gainWith_45 rfl 0 3 rfl rfl ?_
  refine v_get C K in_X4_gainWith_X4 0 rfl rfl 0 (by decide) fl_X4_gainWith_X4_0 rfl dX4_gainWith_46 rfl ?_
  refine v_iload_n C dX4_gainWith_49 rfl 1 4 rfl rfl ?_
  refine v_iload_n C dX4_gainWith_50 rfl 3 2 rfl rfl ?_
  refine v_callVid C K (c_X1_replaceShow l D ad cI cC cZ cQ _ k hk _) gX4_gainWith_X1_replaceShow rfl hd_X1_replaceShow ⟨rfl, rfl⟩ ⟨Nat.le_of_ble_eq_true rfl, Nat.le_of_ble_eq_true rfl⟩ 1 rfl rfl rfl rfl rfl (Nat.le_of_ble_eq_true rfl) ⟨Nat.le_refl _, Nat.le_refl _⟩ dX4_gainWith_51 rfl ?_
  refine v_pop C dX4_gainWith_54 rfl rfl ?_
  refine v_iload C dX4_gainWith_55 rfl 0 rfl ?_
  refine v_iload C dX4_gainWith_57 rfl 1 rfl ?_
  refine v_isub C dX4_gainWith_59 rfl ?_
  exact hend (⟨c_gain_J hw.1 hk hx, fun i hi => by
      by_cases e : i = 0
      · subst e
        rw [st9_s, cc9_0 hs39, h34, upd_tw, upd_id]
      · rw [st9_n _ _ e, hs39 i hi, hs34 i hi, st9_n _ _ e, hs16 i hi]⟩) (rfl) dX4_gainWith_60
end
section
set_option maxHeartbeats 4000000 in
set_option maxRecDepth 100000 in
theorem c_X3_length (l : Launch) (D : va_G) (ad : Nat → Nat) (cI cC cZ cQ : ClassId) (σ : S9)  : CMi l (cW ad cI cC cZ cQ) D (cTy cI cC cZ cQ) yX3_length wsX3_length ({ frames := 0, cells := 0, slots := 0, locals := 0 } : Room) [.ref (ad 8)] σ (fun r u => r = σ 7 0 ∧ u = σ) := by
  refine v_starti (own := RX3) (cc := cX3_length) (nL := 1) rfl (by decide) rfl (Nat.le_of_ble_eq_true rfl) ?_
  intro p e s m args below meth c A Q C K hend
  refine v_lv (lv' := [(0, .ref (ad 8))]) [0] rfl ?_
  refine v_aload_n C dX3_length_0 rfl 0 0 rfl rfl ?_
  refine v_get C K in_X3_length_X3 8 rfl rfl 1 (by decide) fl_X3_length_X3_1 rfl dX3_length_1 rfl ?_
  exact hend (⟨rfl, rfl⟩) (rfl) dX3_length_4
theorem what3 {x : Int32} (h : ¬ p_in x 0 3 = 0) (h0 : ¬ x = 0) (h1 : ¬ x = 1) (h2 : ¬ x = 2) : x = 3 := by
  obtain ⟨j, hj, rfl⟩ := p_in_nI (n := 3) (by decide) h
  rcases (show j = 0 ∨ j = 1 ∨ j = 2 ∨ j = 3 by omega) with rfl | rfl | rfl | rfl
  · exact absurd rfl h0
  · exact absurd rfl h1
  · exact absurd rfl h2
  · rfl
theorem p_in_no {x : Int32} {n : Nat} (hn : n < 2 ^ 31) (h : p_in x 0 (nI n) = 0) (j : Nat) (hj : j ≤ n) : ¬ x = nI j := by
  rintro rfl
  unfold p_in at h
  rw [if_neg (nI_pos (by omega)), if_neg (nI_nlt hj hn)] at h
  exact absurd h (by decide)
theorem q_at_bad {r : Nat → Int32} {k : Nat} {x : Int32} (h : p_in x 0 3 = 0) : q_at r k x = -2 := by
  have h' := p_in_no (n := 3) (by decide) h
  unfold q_at
  rw [if_neg (show ¬ x = 0 from h' 0 (by decide)), if_neg (show ¬ x = 1 from h' 1 (by decide)), if_neg (show ¬ x = 2 from h' 2 (by decide)), if_neg (show ¬ x = 3 from h' 3 (by decide))]
set_option maxHeartbeats 4000000 in
set_option maxRecDepth 100000 in
theorem c_X4_at (l : Launch) (D : va_G) (ad : Nat → Nat) (cI cC cZ cQ : ClassId) (σ : S9) (n : Nat) (hw : wfH (σ 0) n) (d q what : Int32) : CMi l (cW ad cI cC cZ cQ) D (cTy cI cC cZ cQ) yX4_at wsX4_at ({ frames := 4, cells := 0, slots := 0, locals := 99 } : Room) [.ref (ad 0), .int d, .int q, .int what] σ (fun r u => r = (if p_part d q = 0 then -2 else q_at (σ 0) (q_k d q) what) ∧ cc9 σ u) := by
  refine v_starti (own := RX4) (cc := cX4_at) (nL := 6) rfl (by decide) rfl (Nat.le_of_ble_eq_true rfl) ?_
  intro p e s m args below meth c A Q C K hend
  refine v_lv (lv' := [(0, .ref (ad 0)), (1, .int d), (2, .int q), (3, .int what)]) [0, 1, 2, 3] rfl ?_
  refine v_iload_n C dX4_at_0 rfl 1 1 rfl rfl ?_
  refine v_iload_n C dX4_at_1 rfl 2 2 rfl rfl ?_
  refine v_callSpd C (c_X4_isPlace l _ _) gX4_at_X4_isPlace rfl hd_X4_isPlace.2 ⟨rfl, rfl⟩ ⟨Nat.le_of_ble_eq_true rfl, Nat.le_of_ble_eq_true rfl⟩ rfl rfl (Nat.le_of_ble_eq_true rfl) ⟨Nat.le_refl _, Nat.le_refl _⟩ dX4_at_2 rfl ?_
  refine v_if_eq C 17 dX4_at_5 (by decide) rfl (fun h5t => ?_) (fun h5 => ?_)
  · skip
    refine v_bipush (v := -2) C dX4_at_17 rfl bp_m2 ?_
    exact hend (⟨by rw [if_pos h5t], cc9_rf σ⟩) (rfl) dX4_at_19
  · skip
    refine v_iload_n C dX4_at_8 rfl 3 3 rfl rfl ?_
    refine v_iconst (v := 0) C dX4_at_9 rfl ic_0 ?_
    refine v_iconst (v := 3) C dX4_at_10 rfl ic_3 ?_
    refine v_callSpd C (c_X4_isWithin l _ _ _) gX4_at_X4_isWithin rfl hd_X4_isWithin.2 ⟨rfl, rfl⟩ ⟨Nat.le_of_ble_eq_true rfl, Nat.le_of_ble_eq_true rfl⟩ rfl rfl (Nat.le_of_ble_eq_true rfl) ⟨Nat.le_refl _, Nat.le_refl _⟩ dX4_at_11 rfl ?_
    refine v_if_ne C 20 dX4_at_14 (by decide) rfl (fun h14 => ?_) (fun h14t => ?_)
    · skip
      obtain ⟨d, q, hd, hq, rfl, rfl⟩ := p_part_ne h5
      have ecd : (nI d).toNatClampNeg = d := nI_cl (by omega)
      have ecq : (nI q).toNatClampNeg = q := nI_cl (by omega)
      have ek : q_k (nI d) (nI q) = 2 * d + q := by rw [q_k, ecd, ecq]
      refine v_iload_n C dX4_at_20 rfl 1 1 rfl rfl ?_
      refine v_iload_n C dX4_at_21 rfl 2 2 rfl rfl ?_
      refine v_callSpd C (c_X4_placeOf l _ _) gX4_at_X4_placeOf rfl hd_X4_placeOf.2 ⟨rfl, rfl⟩ ⟨Nat.le_of_ble_eq_true rfl, Nat.le_of_ble_eq_true rfl⟩ rfl rfl (Nat.le_of_ble_eq_true rfl) ⟨Nat.le_refl _, Nat.le_refl _⟩ dX4_at_22 rfl ?_
      refine v_istore (lv' := [(4, _), (0, _), (1, _), (2, _), (3, _)]) C dX4_at_25 rfl (by decide) rfl ?_
      refine v_aload_n C dX4_at_27 rfl 0 1 rfl rfl ?_
      refine v_get C K in_X4_at_X4 0 rfl rfl 0 (by decide) fl_X4_at_X4_0 rfl dX4_at_28 rfl ?_
      refine v_iload C dX4_at_31 rfl 0 rfl ?_
      refine v_callVid C K (c_X1_showAt l D ad cI cC cZ cQ _ (2 * d + q) (by omega)) gX4_at_X1_showAt rfl hd_X1_showAt ⟨rfl, rfl⟩ ⟨Nat.le_of_ble_eq_true rfl, Nat.le_of_ble_eq_true rfl⟩ 1 rfl rfl rfl rfl rfl (Nat.le_of_ble_eq_true rfl) ⟨Nat.le_refl _, Nat.le_refl _⟩ dX4_at_33 rfl ?_
      refine v_istore (lv' := [(5, _), (4, _), (0, _), (1, _), (2, _), (3, _)]) C dX4_at_36 rfl (by decide) rfl ?_
      refine v_aload_n C dX4_at_38 rfl 0 2 rfl rfl ?_
      refine v_get C K in_X4_at_X4 0 rfl rfl 0 (by decide) fl_X4_at_X4_0 rfl dX4_at_39 rfl ?_
      refine v_iload C dX4_at_42 rfl 0 rfl ?_
      refine v_callVid C K (c_X1_hasFilm l D ad cI cC cZ cQ _ _) gX4_at_X1_hasFilm rfl hd_X1_hasFilm ⟨rfl, rfl⟩ ⟨Nat.le_of_ble_eq_true rfl, Nat.le_of_ble_eq_true rfl⟩ 1 rfl rfl rfl rfl rfl (Nat.le_of_ble_eq_true rfl) ⟨Nat.le_refl _, Nat.le_refl _⟩ dX4_at_44 rfl ?_
      refine v_if_ne C 67 dX4_at_47 (by decide) rfl (fun h47 => ?_) (fun h47t => ?_)
      · skip
        obtain ⟨f, hf, ef⟩ := c_has_ne hw.1.1 hw.1.2.1 h47
        have hf8 : f < 8 := Nat.lt_of_lt_of_le hf hw.1.2.1
        have ecf : (nI f).toNatClampNeg = f := nI_cl (by omega)
        have hnf : ¬ nI f = -6 := nI_ne6 (by omega)
        refine v_aload_n C dX4_at_67 rfl 0 2 rfl rfl ?_
        refine v_get C K in_X4_at_X4 0 rfl rfl 1 (by decide) fl_X4_at_X4_1 rfl dX4_at_68 rfl ?_
        refine v_aload_n C dX4_at_71 rfl 0 2 rfl rfl ?_
        refine v_get C K in_X4_at_X4 0 rfl rfl 0 (by decide) fl_X4_at_X4_0 rfl dX4_at_72 rfl ?_
        refine v_iload C dX4_at_75 rfl 0 rfl ?_
        refine v_top (nI f) (ef) ?_
        refine v_callVv C K (c_X0_follow l D ad cI cC cZ cQ _ n hw f hf) gX4_at_X0_follow rfl hd_X0_follow ⟨rfl, rfl⟩ ⟨Nat.le_of_ble_eq_true rfl, Nat.le_of_ble_eq_true rfl⟩ 3 rfl rfl rfl rfl rfl (Nat.le_of_ble_eq_true rfl) ⟨Nat.le_refl _, Nat.le_refl _⟩ dX4_at_77 rfl (fun u77 hc77 => ?_)
        have hE := hc77
        have hs : cc9 σ u77 := hE.1
        clear hc77
        refine v_iload_n C dX4_at_80 rfl 3 5 rfl rfl ?_
        by_cases h81_0 : what = 0
        · refine v_tableIn C 108 dX4_at_81 (by rw [h81_0]; decide) (by rw [h81_0]; decide) (off := 27) (by rw [h81_0]; rfl) (by decide) ?_
          refine v_iload C dX4_at_108 rfl 0 rfl ?_
          exact hend (⟨by rw [if_neg h5, ek]; simp [q_at, h81_0], hs⟩) (rfl) dX4_at_110
        by_cases h81_1 : what = 1
        · refine v_tableIn C 111 dX4_at_81 (by rw [h81_1]; decide) (by rw [h81_1]; decide) (off := 30) (by rw [h81_1]; rfl) (by decide) ?_
          obtain ⟨ep, el⟩ := hE.2.1 (2 * d + q) (by omega) ef
          refine v_aload_n C dX4_at_111 rfl 0 2 rfl rfl ?_
          refine v_get C K in_X4_at_X4 0 rfl rfl 1 (by decide) fl_X4_at_X4_1 rfl dX4_at_112 rfl ?_
          refine v_iload C dX4_at_115 rfl 1 rfl ?_
          refine v_callVid C K (c_X0_peopleAt l D ad cI cC cZ cQ _ (2 * d + q) (by omega)) gX4_at_X0_peopleAt rfl hd_X0_peopleAt ⟨rfl, rfl⟩ ⟨Nat.le_of_ble_eq_true rfl, Nat.le_of_ble_eq_true rfl⟩ 3 rfl rfl rfl rfl rfl (Nat.le_of_ble_eq_true rfl) ⟨Nat.le_refl _, Nat.le_refl _⟩ dX4_at_117 rfl ?_
          exact hend (⟨by rw [if_neg h5, ek, ep]; simp [q_at, h81_1, q_ppa_nI (show f < 100000 by omega) ef], hs⟩) (rfl) dX4_at_120
        by_cases h81_2 : what = 2
        · refine v_tableIn C 121 dX4_at_81 (by rw [h81_2]; decide) (by rw [h81_2]; decide) (off := 40) (by rw [h81_2]; rfl) (by decide) ?_
          obtain ⟨ep, el⟩ := hE.2.1 (2 * d + q) (by omega) ef
          refine v_aload_n C dX4_at_121 rfl 0 2 rfl rfl ?_
          refine v_get C K in_X4_at_X4 0 rfl rfl 1 (by decide) fl_X4_at_X4_1 rfl dX4_at_122 rfl ?_
          refine v_iload C dX4_at_125 rfl 1 rfl ?_
          refine v_callVid C K (c_X0_peopleAt l D ad cI cC cZ cQ _ (2 * d + q) (by omega)) gX4_at_X0_peopleAt rfl hd_X0_peopleAt ⟨rfl, rfl⟩ ⟨Nat.le_of_ble_eq_true rfl, Nat.le_of_ble_eq_true rfl⟩ 3 rfl rfl rfl rfl rfl (Nat.le_of_ble_eq_true rfl) ⟨Nat.le_refl _, Nat.le_refl _⟩ dX4_at_127 rfl ?_
          refine v_aload_n C dX4_at_130 rfl 0 2 rfl rfl ?_
          refine v_get C K in_X4_at_X4 0 rfl rfl 0 (by decide) fl_X4_at_X4_0 rfl dX4_at_131 rfl ?_
          refine v_iconst (v := 1) C dX4_at_134 rfl ic_1 ?_
          refine v_callVid C K (c_X1_setting l D ad cI cC cZ cQ _ 1 (by decide)) gX4_at_X1_setting rfl hd_X1_setting ⟨rfl, rfl⟩ ⟨Nat.le_of_ble_eq_true rfl, Nat.le_of_ble_eq_true rfl⟩ 1 rfl rfl rfl rfl rfl (Nat.le_of_ble_eq_true rfl) ⟨Nat.le_refl _, Nat.le_refl _⟩ dX4_at_135 rfl ?_
          refine v_imul C dX4_at_138 rfl ?_
          exact hend (⟨by rw [if_neg h5, ek, ep, cc9_0 hs]; simp [q_at, h81_2, q_ppa_nI (show f < 100000 by omega) ef], hs⟩) (rfl) dX4_at_139
        refine v_tableOut C 140 dX4_at_81 (sw9 (x := what) (n := 2) (by decide) (fun j hj => by rcases (show j = 0 ∨ j = 1 ∨ j = 2 by omega) with rfl | rfl | rfl <;> first | exact h81_0 | exact h81_1 | exact h81_2)) (by decide) ?_
        have e3 := what3 h14 h81_0 h81_1 h81_2
        obtain ⟨ep, el⟩ := hE.2.1 (2 * d + q) (by omega) ef
        refine v_aload_n C dX4_at_140 rfl 0 2 rfl rfl ?_
        refine v_get C K in_X4_at_X4 0 rfl rfl 1 (by decide) fl_X4_at_X4_1 rfl dX4_at_141 rfl ?_
        refine v_iload C dX4_at_144 rfl 1 rfl ?_
        refine v_callVid C K (c_X0_leftBehind l D ad cI cC cZ cQ _ (2 * d + q) (by omega)) gX4_at_X0_leftBehind rfl hd_X0_leftBehind ⟨rfl, rfl⟩ ⟨Nat.le_of_ble_eq_true rfl, Nat.le_of_ble_eq_true rfl⟩ 3 rfl rfl rfl rfl rfl (Nat.le_of_ble_eq_true rfl) ⟨Nat.le_refl _, Nat.le_refl _⟩ dX4_at_146 rfl ?_
        exact hend (⟨by rw [if_neg h5, ek, el, e3]; simp [q_at, q_bhd, ef, hnf, ecf], hs⟩) (rfl) dX4_at_149
      · skip
        have e6 : σ 0 (46 + (2 * d + q)) = -6 := by
          rcases hw.1.2.2 (2 * d + q) (by omega) with z | ⟨g, hg, z⟩
          · exact z
          · rw [z, c_has_nI hw.1.1 hw.1.2.1 hg] at h47t
            exact absurd h47t (by decide)
        refine v_iload_n C dX4_at_50 rfl 3 5 rfl rfl ?_
        refine v_iconst (v := 1) C dX4_at_51 rfl ic_1 ?_
        refine v_icmp_eq C 60 dX4_at_52 (by decide) rfl (fun h52t => ?_) (fun h52 => ?_)
        · skip
          refine v_iconst (v := 0) C dX4_at_60 rfl ic_0 ?_
          refine v_goto C 66 dX4_at_61 (by decide) ?_
          exact hend (⟨by rw [if_neg h5, ek, q_at, q_ppa, q_bhd, e6]; simp [h52t], cc9_rf σ⟩) (rfl) dX4_at_66
        · skip
          refine v_iload_n C dX4_at_55 rfl 3 5 rfl rfl ?_
          refine v_iconst (v := 2) C dX4_at_56 rfl ic_2 ?_
          refine v_icmp_ne C 64 dX4_at_57 (by decide) rfl (fun h57t => ?_) (fun h57 => ?_)
          · skip
            refine v_bipush (v := -6) C dX4_at_64 rfl bp_m6 ?_
            exact hend (⟨by
      rw [if_neg h5, ek, q_at, q_ppa, q_bhd, e6]
      by_cases z0 : what = 0
      · rw [if_pos z0]
      · rw [if_neg z0, if_neg h52, if_neg h57t, if_pos (what3 h14 z0 h52 h57t), if_pos rfl], cc9_rf σ⟩) (rfl) dX4_at_66
          · skip
            refine v_iconst (v := 0) C dX4_at_60 rfl ic_0 ?_
            refine v_goto C 66 dX4_at_61 (by decide) ?_
            exact hend (⟨by rw [if_neg h5, ek, q_at, q_ppa, q_bhd, e6]; simp [h52, h57], cc9_rf σ⟩) (rfl) dX4_at_66
    · skip
      refine v_bipush (v := -2) C dX4_at_17 rfl bp_m2 ?_
      exact hend (⟨by rw [if_neg h5, q_at_bad h14t], cc9_rf σ⟩) (rfl) dX4_at_19
theorem q_of_bad {r : Nat → Int32} {f : Nat} {x : Int32} (h : p_in x 0 10 = 0) : q_of r f x = -2 := by
  have h' := p_in_no (n := 10) (by decide) h
  unfold q_of
  rw [if_neg (show ¬ x = 0 from h' 0 (by decide)), if_neg (show ¬ x = 1 from h' 1 (by decide)), if_neg (show ¬ x = 2 from h' 2 (by decide)), if_neg (show ¬ x = 3 from h' 3 (by decide)), if_neg (show ¬ x = 4 from h' 4 (by decide)), if_neg (show ¬ x = 5 from h' 5 (by decide)), if_neg (show ¬ x = 6 from h' 6 (by decide)), if_neg (show ¬ x = 7 from h' 7 (by decide)), if_neg (show ¬ x = 8 from h' 8 (by decide)), if_neg (show ¬ x = 9 from h' 9 (by decide)), if_neg (show ¬ x = 10 from h' 10 (by decide))]
theorem q_of_fact (r : Nat → Int32) (f : Nat) {j : Nat} (h : j < 5) : q_of r f (nI j) = r (6 + 5 * f + j) := by
  rcases (show j = 0 ∨ j = 1 ∨ j = 2 ∨ j = 3 ∨ j = 4 by omega) with rfl | rfl | rfl | rfl | rfl <;> rfl
theorem q_of_sum (r : Nat → Int32) {f j : Nat} (hf : f < 8) (h5 : 5 ≤ j) (h9 : j ≤ 8) : q_of r f (nI j) = c_sum r (j - 5) f := by
  rcases (show j = 5 ∨ j = 6 ∨ j = 7 ∨ j = 8 by omega) with rfl | rfl | rfl | rfl
  · exact sm9_congr (fun w _ => rfl)
  · exact (q_po_ps r hf).trans (sm9_congr (fun w _ => rfl))
  · exact sm9_congr (fun w _ => rfl)
  · exact sm9_congr (fun w _ => rfl)
set_option maxHeartbeats 4000000 in
set_option maxRecDepth 100000 in
theorem c_X4_of (l : Launch) (D : va_G) (ad : Nat → Nat) (cI cC cZ cQ : ClassId) (σ : S9) (n : Nat) (hw : wfH (σ 0) n) (x what : Int32) : CMi l (cW ad cI cC cZ cQ) D (cTy cI cC cZ cQ) yX4_of wsX4_of ({ frames := 4, cells := 0, slots := 0, locals := 99 } : Room) [.ref (ad 0), .int x, .int what] σ (fun r u => r = (if p_in x 0 (σ 0 5 - 1) = 0 then -1 else q_of (σ 0) x.toNatClampNeg what) ∧ cc9 σ u) := by
  refine v_starti (own := RX4) (cc := cX4_of) (nL := 3) rfl (by decide) rfl (Nat.le_of_ble_eq_true rfl) ?_
  intro p e s m args below meth c A Q C K hend
  refine v_lv (lv' := [(0, .ref (ad 0)), (1, .int x), (2, .int what)]) [0, 1, 2] rfl ?_
  refine v_aload_n C dX4_of_0 rfl 0 0 rfl rfl ?_
  refine v_get C K in_X4_of_X4 0 rfl rfl 0 (by decide) fl_X4_of_X4_0 rfl dX4_of_1 rfl ?_
  refine v_iload_n C dX4_of_4 rfl 1 1 rfl rfl ?_
  refine v_callVid C K (c_X1_hasFilm l D ad cI cC cZ cQ _ _) gX4_of_X1_hasFilm rfl hd_X1_hasFilm ⟨rfl, rfl⟩ ⟨Nat.le_of_ble_eq_true rfl, Nat.le_of_ble_eq_true rfl⟩ 1 rfl rfl rfl rfl rfl (Nat.le_of_ble_eq_true rfl) ⟨Nat.le_refl _, Nat.le_refl _⟩ dX4_of_5 rfl ?_
  refine v_top (p_in x 0 (σ 0 5 - 1)) (has_in hw.1 x) ?_
  refine v_if_ne C 13 dX4_of_8 (by decide) rfl (fun h8 => ?_) (fun h8t => ?_)
  · skip
    obtain ⟨f, hf, rfl⟩ := p_film_ne hw.1.1 hw.1.2.1 h8
    have hf8 : f < 8 := Nat.lt_of_lt_of_le hf hw.1.2.1
    have ecf : (nI f).toNatClampNeg = f := nI_cl (by omega)
    refine v_iload_n C dX4_of_13 rfl 2 2 rfl rfl ?_
    refine v_iconst (v := 0) C dX4_of_14 rfl ic_0 ?_
    refine v_bipush (v := 10) C dX4_of_15 rfl bp_10 ?_
    refine v_callSpd C (c_X4_isWithin l _ _ _) gX4_of_X4_isWithin rfl hd_X4_isWithin.2 ⟨rfl, rfl⟩ ⟨Nat.le_of_ble_eq_true rfl, Nat.le_of_ble_eq_true rfl⟩ rfl rfl (Nat.le_of_ble_eq_true rfl) ⟨Nat.le_refl _, Nat.le_refl _⟩ dX4_of_17 rfl ?_
    refine v_if_ne C 26 dX4_of_20 (by decide) rfl (fun h20 => ?_) (fun h20t => ?_)
    · skip
      obtain ⟨j, hj, rfl⟩ := p_in_nI (n := 10) (by decide) h20
      refine v_iload_n C dX4_of_26 rfl 2 2 rfl rfl ?_
      refine v_iconst (v := 5) C dX4_of_27 rfl ic_5 ?_
      refine v_icmp_ge C 41 dX4_of_28 (by decide) rfl (fun h28t => ?_) (fun h28 => ?_)
      · skip
        have hj5 : 5 ≤ j := (nI_leI (a := 5) (by decide) (by omega)).mp h28t
        refine v_iload_n C dX4_of_41 rfl 2 2 rfl rfl ?_
        refine v_bipush (v := 10) C dX4_of_42 rfl bp_10 ?_
        refine v_icmp_ne C 56 dX4_of_44 (by decide) rfl (fun h44t => ?_) (fun h44 => ?_)
        · skip
          have hj10 : ¬ j = 10 := fun e => h44t (by rw [e]; rfl)
          refine v_aload_n C dX4_of_56 rfl 0 0 rfl rfl ?_
          refine v_get C K in_X4_of_X4 0 rfl rfl 1 (by decide) fl_X4_of_X4_1 rfl dX4_of_57 rfl ?_
          refine v_aload_n C dX4_of_60 rfl 0 0 rfl rfl ?_
          refine v_get C K in_X4_of_X4 0 rfl rfl 0 (by decide) fl_X4_of_X4_0 rfl dX4_of_61 rfl ?_
          refine v_iload_n C dX4_of_64 rfl 1 1 rfl rfl ?_
          refine v_callVv C K (c_X0_follow l D ad cI cC cZ cQ _ n hw f hf) gX4_of_X0_follow rfl hd_X0_follow ⟨rfl, rfl⟩ ⟨Nat.le_of_ble_eq_true rfl, Nat.le_of_ble_eq_true rfl⟩ 3 rfl rfl rfl rfl rfl (Nat.le_of_ble_eq_true rfl) ⟨Nat.le_refl _, Nat.le_refl _⟩ dX4_of_65 rfl (fun u65 hc65 => ?_)
          have hE := hc65
          have hs : cc9 σ u65 := hE.1
          clear hc65
          refine v_iload_n C dX4_of_68 rfl 2 2 rfl rfl ?_
          refine v_bipush (v := 9) C dX4_of_69 rfl bp_9 ?_
          refine v_icmp_ne C 84 dX4_of_71 (by decide) rfl (fun h71t => ?_) (fun h71 => ?_)
          · skip
            have hj9 : ¬ j = 9 := fun e => h71t (by rw [e]; rfl)
            refine v_aload_n C dX4_of_84 rfl 0 0 rfl rfl ?_
            refine v_get C K in_X4_of_X4 0 rfl rfl 1 (by decide) fl_X4_of_X4_1 rfl dX4_of_85 rfl ?_
            refine v_iload_n C dX4_of_88 rfl 2 2 rfl rfl ?_
            refine v_iconst (v := 5) C dX4_of_89 rfl ic_5 ?_
            refine v_isub C dX4_of_90 rfl ?_
            refine v_top (nI (j - 5)) (pk_sub (a := j) (b := 5) hj5) ?_
            refine v_callVid C K (c_X0_sum l D ad cI cC cZ cQ _ (j - 5) (by omega)) gX4_of_X0_sum rfl hd_X0_sum ⟨rfl, rfl⟩ ⟨Nat.le_of_ble_eq_true rfl, Nat.le_of_ble_eq_true rfl⟩ 3 rfl rfl rfl rfl rfl (Nat.le_of_ble_eq_true rfl) ⟨Nat.le_refl _, Nat.le_refl _⟩ dX4_of_91 rfl ?_
            exact hend (⟨by rw [if_neg h8, ecf, q_of_sum _ hf8 hj5 (by omega)]; exact sum_J hE (by omega), hs⟩) (rfl) dX4_of_94
          · skip
            have hj9 : j = 9 := nI_inj (b := 9) (by omega) (by decide) h71
            subst hj9
            refine v_aload_n C dX4_of_74 rfl 0 0 rfl rfl ?_
            refine v_get C K in_X4_of_X4 0 rfl rfl 1 (by decide) fl_X4_of_X4_1 rfl dX4_of_75 rfl ?_
            refine v_callVid C K (c_X0_leftAtEnd l D ad cI cC cZ cQ _) gX4_of_X0_leftAtEnd rfl hd_X0_leftAtEnd ⟨rfl, rfl⟩ ⟨Nat.le_of_ble_eq_true rfl, Nat.le_of_ble_eq_true rfl⟩ 3 rfl rfl rfl rfl rfl (Nat.le_of_ble_eq_true rfl) ⟨Nat.le_refl _, Nat.le_refl _⟩ dX4_of_78 rfl ?_
            refine v_goto C 94 dX4_of_81 (by decide) ?_
            exact hend (⟨by rw [if_neg h8, ecf, hE.2.2.2.2]; rfl, hs⟩) (rfl) dX4_of_94
        · skip
          have hj10 : j = 10 := nI_inj (b := 10) (by omega) (by decide) h44
          subst hj10
          refine v_aload_n C dX4_of_47 rfl 0 0 rfl rfl ?_
          refine v_get C K in_X4_of_X4 0 rfl rfl 0 (by decide) fl_X4_of_X4_0 rfl dX4_of_48 rfl ?_
          refine v_iload_n C dX4_of_51 rfl 1 1 rfl rfl ?_
          refine v_callVid C K (c_X1_firstDayShown l D ad cI cC cZ cQ _ _) gX4_of_X1_firstDayShown rfl hd_X1_firstDayShown ⟨rfl, rfl⟩ ⟨Nat.le_of_ble_eq_true rfl, Nat.le_of_ble_eq_true rfl⟩ 1 rfl rfl rfl rfl rfl (Nat.le_of_ble_eq_true rfl) ⟨Nat.le_refl _, Nat.le_refl _⟩ dX4_of_52 rfl ?_
          exact hend (⟨by rw [if_neg h8, ecf]; rfl, cc9_rf σ⟩) (rfl) dX4_of_55
      · skip
        have hj5 : j < 5 := by
          rcases Nat.lt_or_ge j 5 with q | q
          · exact q
          · exact absurd (nI_le (a := 5) q (by omega)) h28
        refine v_aload_n C dX4_of_31 rfl 0 0 rfl rfl ?_
        refine v_get C K in_X4_of_X4 0 rfl rfl 0 (by decide) fl_X4_of_X4_0 rfl dX4_of_32 rfl ?_
        refine v_iload_n C dX4_of_35 rfl 1 1 rfl rfl ?_
        refine v_iload_n C dX4_of_36 rfl 2 2 rfl rfl ?_
        refine v_callVid C K (c_X1_fact l D ad cI cC cZ cQ _ f j hf8 hj5) gX4_of_X1_fact rfl hd_X1_fact ⟨rfl, rfl⟩ ⟨Nat.le_of_ble_eq_true rfl, Nat.le_of_ble_eq_true rfl⟩ 1 rfl rfl rfl rfl rfl (Nat.le_of_ble_eq_true rfl) ⟨Nat.le_refl _, Nat.le_refl _⟩ dX4_of_37 rfl ?_
        exact hend (⟨by rw [if_neg h8, ecf, q_of_fact _ _ hj5], cc9_rf σ⟩) (rfl) dX4_of_40
    · skip
      refine v_bipush (v := -2) C dX4_of_23 rfl bp_m2 ?_
      exact hend (⟨by rw [if_neg h8, q_of_bad h20t], cc9_rf σ⟩) (rfl) dX4_of_25
  · skip
    refine v_iconst (v := -1) C dX4_of_11 rfl ic_m1 ?_
    exact hend (⟨by rw [if_pos h8t], cc9_rf σ⟩) (rfl) dX4_of_12
theorem q_iw_bad {r : Nat → Int32} {f w : Nat} {x : Int32} (h : p_in x 0 3 = 0) : q_iw r f w x = -2 := by
  have h' := p_in_no (n := 3) (by decide) h
  unfold q_iw
  rw [if_neg (show ¬ x = 0 from h' 0 (by decide)), if_neg (show ¬ x = 1 from h' 1 (by decide)), if_neg (show ¬ x = 2 from h' 2 (by decide)), if_neg (show ¬ x = 3 from h' 3 (by decide))]
set_option maxHeartbeats 4000000 in
set_option maxRecDepth 100000 in
theorem c_X4_inWeek (l : Launch) (D : va_G) (ad : Nat → Nat) (cI cC cZ cQ : ClassId) (σ : S9) (n : Nat) (hw : wfH (σ 0) n) (x wk what : Int32) : CMi l (cW ad cI cC cZ cQ) D (cTy cI cC cZ cQ) yX4_inWeek wsX4_inWeek ({ frames := 4, cells := 0, slots := 0, locals := 99 } : Room) [.ref (ad 0), .int x, .int wk, .int what] σ (fun r u => r = (if p_in x 0 (σ 0 5 - 1) = 0 then -1 else if p_in wk 0 4 = 0 then -2 else q_iw (σ 0) x.toNatClampNeg wk.toNatClampNeg what) ∧ cc9 σ u) := by
  refine v_starti (own := RX4) (cc := cX4_inWeek) (nL := 4) rfl (by decide) rfl (Nat.le_of_ble_eq_true rfl) ?_
  intro p e s m args below meth c A Q C K hend
  refine v_lv (lv' := [(0, .ref (ad 0)), (1, .int x), (2, .int wk), (3, .int what)]) [0, 1, 2, 3] rfl ?_
  refine v_aload_n C dX4_inWeek_0 rfl 0 0 rfl rfl ?_
  refine v_get C K in_X4_inWeek_X4 0 rfl rfl 0 (by decide) fl_X4_inWeek_X4_0 rfl dX4_inWeek_1 rfl ?_
  refine v_iload_n C dX4_inWeek_4 rfl 1 1 rfl rfl ?_
  refine v_callVid C K (c_X1_hasFilm l D ad cI cC cZ cQ _ _) gX4_inWeek_X1_hasFilm rfl hd_X1_hasFilm ⟨rfl, rfl⟩ ⟨Nat.le_of_ble_eq_true rfl, Nat.le_of_ble_eq_true rfl⟩ 1 rfl rfl rfl rfl rfl (Nat.le_of_ble_eq_true rfl) ⟨Nat.le_refl _, Nat.le_refl _⟩ dX4_inWeek_5 rfl ?_
  refine v_top (p_in x 0 (σ 0 5 - 1)) (has_in hw.1 x) ?_
  refine v_if_ne C 13 dX4_inWeek_8 (by decide) rfl (fun h8 => ?_) (fun h8t => ?_)
  · skip
    obtain ⟨f, hf, rfl⟩ := p_film_ne hw.1.1 hw.1.2.1 h8
    have hf8 : f < 8 := Nat.lt_of_lt_of_le hf hw.1.2.1
    have ecf : (nI f).toNatClampNeg = f := nI_cl (by omega)
    refine v_iload_n C dX4_inWeek_13 rfl 2 2 rfl rfl ?_
    refine v_callSpd C (c_X4_isWeek l _) gX4_inWeek_X4_isWeek rfl hd_X4_isWeek.2 ⟨rfl, rfl⟩ ⟨Nat.le_of_ble_eq_true rfl, Nat.le_of_ble_eq_true rfl⟩ rfl rfl (Nat.le_of_ble_eq_true rfl) ⟨Nat.le_refl _, Nat.le_refl _⟩ dX4_inWeek_14 rfl ?_
    refine v_if_eq C 29 dX4_inWeek_17 (by decide) rfl (fun h17t => ?_) (fun h17 => ?_)
    · skip
      refine v_bipush (v := -2) C dX4_inWeek_29 rfl bp_m2 ?_
      exact hend (⟨by rw [if_neg h8, if_pos h17t], cc9_rf σ⟩) (rfl) dX4_inWeek_31
    · skip
      refine v_iload_n C dX4_inWeek_20 rfl 3 3 rfl rfl ?_
      refine v_iconst (v := 0) C dX4_inWeek_21 rfl ic_0 ?_
      refine v_iconst (v := 3) C dX4_inWeek_22 rfl ic_3 ?_
      refine v_callSpd C (c_X4_isWithin l _ _ _) gX4_inWeek_X4_isWithin rfl hd_X4_isWithin.2 ⟨rfl, rfl⟩ ⟨Nat.le_of_ble_eq_true rfl, Nat.le_of_ble_eq_true rfl⟩ rfl rfl (Nat.le_of_ble_eq_true rfl) ⟨Nat.le_refl _, Nat.le_refl _⟩ dX4_inWeek_23 rfl ?_
      refine v_if_ne C 32 dX4_inWeek_26 (by decide) rfl (fun h26 => ?_) (fun h26t => ?_)
      · skip
        obtain ⟨w9, hw5, rfl⟩ := w5 h17
        have ecw : (nI w9).toNatClampNeg = w9 := nI_cl (by omega)
        refine v_aload_n C dX4_inWeek_32 rfl 0 0 rfl rfl ?_
        refine v_get C K in_X4_inWeek_X4 0 rfl rfl 1 (by decide) fl_X4_inWeek_X4_1 rfl dX4_inWeek_33 rfl ?_
        refine v_aload_n C dX4_inWeek_36 rfl 0 0 rfl rfl ?_
        refine v_get C K in_X4_inWeek_X4 0 rfl rfl 0 (by decide) fl_X4_inWeek_X4_0 rfl dX4_inWeek_37 rfl ?_
        refine v_iload_n C dX4_inWeek_40 rfl 1 1 rfl rfl ?_
        refine v_callVv C K (c_X0_follow l D ad cI cC cZ cQ _ n hw f hf) gX4_inWeek_X0_follow rfl hd_X0_follow ⟨rfl, rfl⟩ ⟨Nat.le_of_ble_eq_true rfl, Nat.le_of_ble_eq_true rfl⟩ 3 rfl rfl rfl rfl rfl (Nat.le_of_ble_eq_true rfl) ⟨Nat.le_refl _, Nat.le_refl _⟩ dX4_inWeek_41 rfl (fun u41 hc41 => ?_)
        have hE := hc41
        have hs : cc9 σ u41 := hE.1
        clear hc41
        refine v_iload_n C dX4_inWeek_44 rfl 3 3 rfl rfl ?_
        by_cases h45_0 : what = 0
        · refine v_tableIn C 72 dX4_inWeek_45 (by rw [h45_0]; decide) (by rw [h45_0]; decide) (off := 27) (by rw [h45_0]; rfl) (by decide) ?_
          obtain ⟨f0, f1, f2, f3, f4, f5⟩ := hE.2.2.1 w9 hw5
          refine v_aload_n C dX4_inWeek_72 rfl 0 0 rfl rfl ?_
          refine v_get C K in_X4_inWeek_X4 0 rfl rfl 1 (by decide) fl_X4_inWeek_X4_1 rfl dX4_inWeek_73 rfl ?_
          refine v_iload_n C dX4_inWeek_76 rfl 2 2 rfl rfl ?_
          refine v_iconst (v := 2) C dX4_inWeek_77 rfl ic_2 ?_
          refine v_callVid C K (c_X0_sumOfWeek l D ad cI cC cZ cQ _ w9 2 hw5 (by decide)) gX4_inWeek_X0_sumOfWeek rfl hd_X0_sumOfWeek ⟨rfl, rfl⟩ ⟨Nat.le_of_ble_eq_true rfl, Nat.le_of_ble_eq_true rfl⟩ 3 rfl rfl rfl rfl rfl (Nat.le_of_ble_eq_true rfl) ⟨Nat.le_refl _, Nat.le_refl _⟩ dX4_inWeek_78 rfl ?_
          exact hend (⟨by rw [if_neg h8, if_neg h17, ecf, ecw, f2]; simp [q_iw, h45_0], hs⟩) (rfl) dX4_inWeek_81
        by_cases h45_1 : what = 1
        · refine v_tableIn C 82 dX4_inWeek_45 (by rw [h45_1]; decide) (by rw [h45_1]; decide) (off := 37) (by rw [h45_1]; rfl) (by decide) ?_
          obtain ⟨f0, f1, f2, f3, f4, f5⟩ := hE.2.2.1 w9 hw5
          refine v_aload_n C dX4_inWeek_82 rfl 0 0 rfl rfl ?_
          refine v_get C K in_X4_inWeek_X4 0 rfl rfl 1 (by decide) fl_X4_inWeek_X4_1 rfl dX4_inWeek_83 rfl ?_
          refine v_iload_n C dX4_inWeek_86 rfl 2 2 rfl rfl ?_
          refine v_callVid C K (c_X0_shareIn l D ad cI cC cZ cQ _ w9 hw5) gX4_inWeek_X0_shareIn rfl hd_X0_shareIn ⟨rfl, rfl⟩ ⟨Nat.le_of_ble_eq_true rfl, Nat.le_of_ble_eq_true rfl⟩ 3 rfl rfl rfl rfl rfl (Nat.le_of_ble_eq_true rfl) ⟨Nat.le_refl _, Nat.le_refl _⟩ dX4_inWeek_87 rfl ?_
          exact hend (⟨by rw [if_neg h8, if_neg h17, ecf, ecw, f5]; simp [q_iw, h45_1], hs⟩) (rfl) dX4_inWeek_90
        by_cases h45_2 : what = 2
        · refine v_tableIn C 91 dX4_inWeek_45 (by rw [h45_2]; decide) (by rw [h45_2]; decide) (off := 46) (by rw [h45_2]; rfl) (by decide) ?_
          obtain ⟨f0, f1, f2, f3, f4, f5⟩ := hE.2.2.1 w9 hw5
          refine v_aload_n C dX4_inWeek_91 rfl 0 0 rfl rfl ?_
          refine v_get C K in_X4_inWeek_X4 0 rfl rfl 1 (by decide) fl_X4_inWeek_X4_1 rfl dX4_inWeek_92 rfl ?_
          refine v_iload_n C dX4_inWeek_95 rfl 2 2 rfl rfl ?_
          refine v_iconst (v := 3) C dX4_inWeek_96 rfl ic_3 ?_
          refine v_callVid C K (c_X0_sumOfWeek l D ad cI cC cZ cQ _ w9 3 hw5 (by decide)) gX4_inWeek_X0_sumOfWeek rfl hd_X0_sumOfWeek ⟨rfl, rfl⟩ ⟨Nat.le_of_ble_eq_true rfl, Nat.le_of_ble_eq_true rfl⟩ 3 rfl rfl rfl rfl rfl (Nat.le_of_ble_eq_true rfl) ⟨Nat.le_refl _, Nat.le_refl _⟩ dX4_inWeek_97 rfl ?_
          exact hend (⟨by rw [if_neg h8, if_neg h17, ecf, ecw, f3]; simp [q_iw, h45_2], hs⟩) (rfl) dX4_inWeek_100
        refine v_tableOut C 101 dX4_inWeek_45 (sw9 (x := what) (n := 2) (by decide) (fun j hj => by rcases (show j = 0 ∨ j = 1 ∨ j = 2 by omega) with rfl | rfl | rfl <;> first | exact h45_0 | exact h45_1 | exact h45_2)) (by decide) ?_
        obtain ⟨f0, f1, f2, f3, f4, f5⟩ := hE.2.2.1 w9 hw5
        have e3 := what3 h26 h45_0 h45_1 h45_2
        refine v_aload_n C dX4_inWeek_101 rfl 0 0 rfl rfl ?_
        refine v_get C K in_X4_inWeek_X4 0 rfl rfl 1 (by decide) fl_X4_inWeek_X4_1 rfl dX4_inWeek_102 rfl ?_
        refine v_iload_n C dX4_inWeek_105 rfl 2 2 rfl rfl ?_
        refine v_callVid C K (c_X0_dueAboveShare l D ad cI cC cZ cQ _ w9 hw5) gX4_inWeek_X0_dueAboveShare rfl hd_X0_dueAboveShare ⟨rfl, rfl⟩ ⟨Nat.le_of_ble_eq_true rfl, Nat.le_of_ble_eq_true rfl⟩ 3 rfl rfl rfl rfl rfl (Nat.le_of_ble_eq_true rfl) ⟨Nat.le_refl _, Nat.le_refl _⟩ dX4_inWeek_106 rfl ?_
        exact hend (⟨by rw [if_neg h8, if_neg h17, ecf, ecw, f3, c_sot, f5, f2, e3]; simp [q_iw, q_so], hs⟩) (rfl) dX4_inWeek_109
      · skip
        refine v_bipush (v := -2) C dX4_inWeek_29 rfl bp_m2 ?_
        exact hend (⟨by rw [if_neg h8, if_neg h17, q_iw_bad h26t], cc9_rf σ⟩) (rfl) dX4_inWeek_31
  · skip
    refine v_iconst (v := -1) C dX4_inWeek_11 rfl ic_m1 ?_
    exact hend (⟨by rw [if_pos h8t], cc9_rf σ⟩) (rfl) dX4_inWeek_12
theorem q_wk_bad {r : Nat → Int32} {wk x : Int32} (h : p_in x 0 4 = 0) : q_wk r wk x = -2 := by
  have h' := p_in_no (n := 4) (by decide) h
  unfold q_wk
  rw [if_neg (show ¬ x = 0 from h' 0 (by decide)), if_neg (show ¬ x = 1 from h' 1 (by decide)), if_neg (show ¬ x = 2 from h' 2 (by decide)), if_neg (show ¬ x = 3 from h' 3 (by decide)), if_neg (show ¬ x = 4 from h' 4 (by decide))]
theorem q_wk_sum {r : Nat → Int32} {n w j : Nat} (hw : wfS r n) (hw5 : w < 5) (hj : j < 4) : q_wk r (nI w) (nI j) = sm9 (fun f => c_X r j f w) n := by
  rcases (show j = 0 ∨ j = 1 ∨ j = 2 ∨ j = 3 by omega) with rfl | rfl | rfl | rfl
  · exact (q_W_week hw.2.1 hw5 (fun f a b w => q_S_0 hw a b w)).trans (sm9_congr (fun f _ => rfl))
  · exact (ppl_week hw hw5).trans (sm9_congr (fun f _ => rfl))
  · exact (q_W_week hw.2.1 hw5 (fun f a b w => q_T_0 hw a b w)).trans (sm9_congr (fun f _ => rfl))
  · exact (q_W_week hw.2.1 hw5 (fun f a b w => q_D_0 hw a b w)).trans (sm9_congr (fun f _ => rfl))
set_option maxHeartbeats 4000000 in
set_option maxRecDepth 100000 in
theorem c_X4_week (l : Launch) (D : va_G) (ad : Nat → Nat) (cI cC cZ cQ : ClassId) (σ : S9) (n : Nat) (hw : wfH (σ 0) n) (wk what : Int32) : CMi l (cW ad cI cC cZ cQ) D (cTy cI cC cZ cQ) yX4_week wsX4_week ({ frames := 5, cells := 0, slots := 0, locals := 123 } : Room) [.ref (ad 0), .int wk, .int what] σ (fun r u => r = (if p_in wk 0 4 = 0 then -2 else q_wk (σ 0) wk what) ∧ cc9 σ u) := by
  refine v_starti (own := RX4) (cc := cX4_week) (nL := 5) rfl (by decide) rfl (Nat.le_of_ble_eq_true rfl) ?_
  intro p e s m args below meth c A Q C K hend
  refine v_lv (lv' := [(0, .ref (ad 0)), (1, .int wk), (2, .int what)]) [0, 1, 2] rfl ?_
  refine v_iload_n C dX4_week_0 rfl 1 1 rfl rfl ?_
  refine v_callSpd C (c_X4_isWeek l _) gX4_week_X4_isWeek rfl hd_X4_isWeek.2 ⟨rfl, rfl⟩ ⟨Nat.le_of_ble_eq_true rfl, Nat.le_of_ble_eq_true rfl⟩ rfl rfl (Nat.le_of_ble_eq_true rfl) ⟨Nat.le_refl _, Nat.le_refl _⟩ dX4_week_1 rfl ?_
  refine v_if_eq C 16 dX4_week_4 (by decide) rfl (fun h4t => ?_) (fun h4 => ?_)
  · skip
    refine v_bipush (v := -2) C dX4_week_16 rfl bp_m2 ?_
    exact hend (⟨by rw [if_pos h4t], cc9_rf σ⟩) (rfl) dX4_week_18
  · skip
    refine v_iload_n C dX4_week_7 rfl 2 2 rfl rfl ?_
    refine v_iconst (v := 0) C dX4_week_8 rfl ic_0 ?_
    refine v_iconst (v := 4) C dX4_week_9 rfl ic_4 ?_
    refine v_callSpd C (c_X4_isWithin l _ _ _) gX4_week_X4_isWithin rfl hd_X4_isWithin.2 ⟨rfl, rfl⟩ ⟨Nat.le_of_ble_eq_true rfl, Nat.le_of_ble_eq_true rfl⟩ rfl rfl (Nat.le_of_ble_eq_true rfl) ⟨Nat.le_refl _, Nat.le_refl _⟩ dX4_week_10 rfl ?_
    refine v_if_ne C 19 dX4_week_13 (by decide) rfl (fun h13 => ?_) (fun h13t => ?_)
    · skip
      obtain ⟨w9, hw5, rfl⟩ := w5 h4
      obtain ⟨j, hj, rfl⟩ := w5 h13
      refine v_aload_n C dX4_week_19 rfl 0 0 rfl rfl ?_
      refine v_iload_n C dX4_week_20 rfl 1 1 rfl rfl ?_
      refine v_iload_n C dX4_week_21 rfl 2 2 rfl rfl ?_
      refine v_callVi C K (c_X4_sumOfFilmsInWeek l D ad cI cC cZ cQ _ n hw w9 hw5 j hj) gX4_week_X4_sumOfFilmsInWeek rfl hd_X4_sumOfFilmsInWeek ⟨rfl, rfl⟩ ⟨Nat.le_of_ble_eq_true rfl, Nat.le_of_ble_eq_true rfl⟩ 0 rfl rfl rfl rfl rfl (Nat.le_of_ble_eq_true rfl) ⟨Nat.le_refl _, Nat.le_refl _⟩ dX4_week_22 rfl (fun r22 u22 hc22 => ?_)
      obtain ⟨rfl, hs⟩ := hc22
      refine v_istore_n (lv' := [(3, _), (0, _), (1, _), (2, _)]) C dX4_week_25 rfl 3 rfl (by decide) rfl ?_
      refine v_iload_n C dX4_week_26 rfl 2 3 rfl rfl ?_
      refine v_iconst (v := 4) C dX4_week_27 rfl ic_4 ?_
      refine v_icmp_eq C 33 dX4_week_28 (by decide) rfl (fun h28 => ?_) (fun h28f => ?_)
      · skip
        have e4 : j = 4 := nI_inj (b := 4) (by omega) (by decide) h28
        subst e4
        refine v_iload_n C dX4_week_33 rfl 1 2 rfl rfl ?_
        refine v_bipush (v := 7) C dX4_week_34 rfl bp_7 ?_
        refine v_imul C dX4_week_36 rfl ?_
        refine v_top (nI (7 * w9)) (by simp only [lit9, pk_mul, nI_add]; congr 1; omega) ?_
        refine v_istore (lv' := [(4, _), (3, _), (0, _), (1, _), (2, _)]) C dX4_week_37 rfl (by decide) rfl ?_
        refine v_iload_n C dX4_week_39 rfl 3 1 rfl rfl ?_
        refine v_aload_n C dX4_week_40 rfl 0 2 rfl rfl ?_
        refine v_get C K in_X4_week_X4 0 rfl rfl 0 (by decide) fl_X4_week_X4_0 rfl dX4_week_41 rfl ?_
        refine v_iload C dX4_week_44 rfl 0 rfl ?_
        refine v_iload C dX4_week_46 rfl 0 rfl ?_
        refine v_bipush (v := 7) C dX4_week_48 rfl bp_7 ?_
        refine v_iadd C dX4_week_50 rfl ?_
        refine v_top (nI (7 * w9 + 7)) (by simp only [lit9, pk_mul, nI_add]) ?_
        refine v_callVid C K (c_X1_rentsOf l D ad cI cC cZ cQ _ (7 * w9) (7 * w9 + 7) (by omega) (by omega)) gX4_week_X1_rentsOf rfl hd_X1_rentsOf ⟨rfl, rfl⟩ ⟨Nat.le_of_ble_eq_true rfl, Nat.le_of_ble_eq_true rfl⟩ 1 rfl rfl rfl rfl rfl (Nat.le_of_ble_eq_true rfl) ⟨Nat.le_refl _, Nat.le_refl _⟩ dX4_week_51 rfl ?_
        refine v_iadd C dX4_week_54 rfl ?_
        refine v_ldc C dX4_week_55 rfl ct_X4_week_101 ?_
        refine v_iadd C dX4_week_57 rfl ?_
        exact hend (⟨by rw [if_neg h4, cc9_0 hs]; exact (congrArg (fun z => z + 1000000) (q_left_week hw.1 hw5)).symm, hs⟩) (rfl) dX4_week_58
      · skip
        have e4 : ¬ j = 4 := fun e => h28f (by rw [e]; rfl)
        refine v_iload_n C dX4_week_31 rfl 3 0 rfl rfl ?_
        exact hend (⟨by rw [if_neg h4, q_wk_sum hw.1 hw5 (by omega)], hs⟩) (rfl) dX4_week_32
    · skip
      refine v_bipush (v := -2) C dX4_week_16 rfl bp_m2 ?_
      exact hend (⟨by rw [if_neg h4, q_wk_bad h13t], cc9_rf σ⟩) (rfl) dX4_week_18
set_option maxHeartbeats 4000000 in
set_option maxRecDepth 100000 in
theorem c_X4_rent (l : Launch) (D : va_G) (ad : Nat → Nat) (cI cC cZ cQ : ClassId) (σ : S9) (d : Int32) : CMi l (cW ad cI cC cZ cQ) D (cTy cI cC cZ cQ) yX4_rent wsX4_rent ({ frames := 2, cells := 0, slots := 0, locals := 42 } : Room) [.ref (ad 0), .int d] σ (fun r u => r = (if p_in d 0 34 = 0 then -2 else σ 0 (116 + d.toNatClampNeg)) ∧ u = σ) := by
  refine v_starti (own := RX4) (cc := cX4_rent) (nL := 2) rfl (by decide) rfl (Nat.le_of_ble_eq_true rfl) ?_
  intro p e s m args below meth c A Q C K hend
  refine v_lv (lv' := [(0, .ref (ad 0)), (1, .int d)]) [0, 1] rfl ?_
  refine v_iload_n C dX4_rent_0 rfl 1 1 rfl rfl ?_
  refine v_callSpd C (c_X4_isDay l _) gX4_rent_X4_isDay rfl hd_X4_isDay.2 ⟨rfl, rfl⟩ ⟨Nat.le_of_ble_eq_true rfl, Nat.le_of_ble_eq_true rfl⟩ rfl rfl (Nat.le_of_ble_eq_true rfl) ⟨Nat.le_refl _, Nat.le_refl _⟩ dX4_rent_1 rfl ?_
  refine v_if_eq C 18 dX4_rent_4 (by decide) rfl (fun h4t => ?_) (fun h4 => ?_)
  · skip
    refine v_bipush (v := -2) C dX4_rent_18 rfl bp_m2 ?_
    exact hend (⟨by simp [h4t], rfl⟩) (rfl) dX4_rent_20
  · skip
    obtain ⟨d, hd, rfl⟩ := p_in_nI (n := 34) (by decide) h4
    have ecd : (nI d).toNatClampNeg = d := nI_cl (by omega)
    refine v_aload_n C dX4_rent_7 rfl 0 0 rfl rfl ?_
    refine v_get C K in_X4_rent_X4 0 rfl rfl 0 (by decide) fl_X4_rent_X4_0 rfl dX4_rent_8 rfl ?_
    refine v_iload_n C dX4_rent_11 rfl 1 1 rfl rfl ?_
    refine v_callVid C K (c_X1_rentOf l D ad cI cC cZ cQ _ d (by omega)) gX4_rent_X1_rentOf rfl hd_X1_rentOf ⟨rfl, rfl⟩ ⟨Nat.le_of_ble_eq_true rfl, Nat.le_of_ble_eq_true rfl⟩ 1 rfl rfl rfl rfl rfl (Nat.le_of_ble_eq_true rfl) ⟨Nat.le_refl _, Nat.le_refl _⟩ dX4_rent_12 rfl ?_
    refine v_goto C 20 dX4_rent_15 (by decide) ?_
    exact hend (⟨by simp [h4, ecd], rfl⟩) (rfl) dX4_rent_20
theorem q_cnt_bad {r : Nat → Int32} {a b x : Int32} (h : p_in x 0 14 = 0) : q_cnt r a b x = -2 := by
  have h' := p_in_no (n := 14) (by decide) h
  unfold q_cnt
  rw [if_neg (show ¬ x = 0 from h' 0 (by decide)), if_neg (show ¬ x = 1 from h' 1 (by decide)), if_neg (show ¬ x = 2 from h' 2 (by decide)), if_neg (show ¬ x = 3 from h' 3 (by decide)), if_neg (show ¬ x = 4 from h' 4 (by decide)), if_neg (show ¬ x = 5 from h' 5 (by decide)), if_neg (show ¬ x = 6 from h' 6 (by decide)), if_neg (show ¬ x = 7 from h' 7 (by decide)), if_neg (show ¬ x = 8 from h' 8 (by decide)), if_neg (show ¬ x = 9 from h' 9 (by decide)), if_neg (show ¬ x = 10 from h' 10 (by decide)), if_neg (show ¬ x = 11 from h' 11 (by decide)), if_neg (show ¬ x = 12 from h' 12 (by decide)), if_neg (show ¬ x = 13 from h' 13 (by decide)), if_neg (show ¬ x = 14 from h' 14 (by decide))]
theorem q_cnt_set (r : Nat → Int32) (a b : Int32) {j : Nat} (h8 : 8 ≤ j) (h12 : j ≤ 12) : q_cnt r a b (nI j) = r (j - 8) := by
  rcases (show j = 8 ∨ j = 9 ∨ j = 10 ∨ j = 11 ∨ j = 12 by omega) with rfl | rfl | rfl | rfl | rfl <;> rfl
theorem q_cnt_sum {r : Nat → Int32} {n j : Nat} (hw : wfS r n) (a b : Int32) (h1 : 1 ≤ j) (h4 : j ≤ 4) : q_cnt r a b (nI j) = sm9 (c_sum r (j - 1)) n := by
  rcases (show j = 1 ∨ j = 2 ∨ j = 3 ∨ j = 4 by omega) with rfl | rfl | rfl | rfl
  · exact (q_W_all hw.2.1 (fun f a b w => q_S_0 hw a b w)).trans (sm9_congr (fun f _ => sm9_congr (fun w _ => rfl)))
  · exact (ppl_all hw).trans (sm9_congr (fun f _ => sm9_congr (fun w _ => rfl)))
  · exact (q_W_all hw.2.1 (fun f a b w => q_T_0 hw a b w)).trans (sm9_congr (fun f _ => sm9_congr (fun w _ => rfl)))
  · exact (q_W_all hw.2.1 (fun f a b w => q_D_0 hw a b w)).trans (sm9_congr (fun f _ => sm9_congr (fun w _ => rfl)))
theorem rnT_all (r : Nat → Int32) : sm9 (fun j => r (116 + (0 + j))) (35 - 0) = sm9 (rnT r (-1)) 35 := sm9_congr (fun j _ => by rw [Nat.zero_add]; exact (if_pos (Or.inl (by decide))).symm)
theorem p_in_nI2 {x : Int32} {a b : Nat} (hb : b < 2 ^ 31) (h : ¬ p_in x (nI a) (nI b) = 0) (j : Nat) (hj : j < 2 ^ 31) (e : x = nI j) (ha : a < 2 ^ 31) : a ≤ j ∧ j ≤ b := by
  obtain ⟨h1, h2⟩ := p_in_ne h
  rw [e] at h1 h2
  exact ⟨(nI_leI ha hj).mp h1, (nI_leI hj hb).mp h2⟩
set_option maxHeartbeats 4000000 in
set_option maxRecDepth 100000 in
theorem c_X4_count (l : Launch) (D : va_G) (ad : Nat → Nat) (cI cC cZ cQ : ClassId) (σ : S9) (n : Nat) (hw : wfH (σ 0) n) (what : Int32) : CMi l (cW ad cI cC cZ cQ) D (cTy cI cC cZ cQ) yX4_count wsX4_count ({ frames := 6, cells := 0, slots := 0, locals := 144 } : Room) [.ref (ad 0), .int what] σ (fun r u => r = q_cnt (σ 0) (σ 7 0) (σ 8 1) what ∧ cc9 σ u) := by
  refine v_starti (own := RX4) (cc := cX4_count) (nL := 2) rfl (by decide) rfl (Nat.le_of_ble_eq_true rfl) ?_
  intro p e s m args below meth c A Q C K hend
  refine v_lv (lv' := [(0, .ref (ad 0)), (1, .int what)]) [0, 1] rfl ?_
  refine v_iload_n C dX4_count_0 rfl 1 1 rfl rfl ?_
  refine v_iconst (v := 0) C dX4_count_1 rfl ic_0 ?_
  refine v_bipush (v := 14) C dX4_count_2 rfl bp_14 ?_
  refine v_callSpd C (c_X4_isWithin l _ _ _) gX4_count_X4_isWithin rfl hd_X4_isWithin.2 ⟨rfl, rfl⟩ ⟨Nat.le_of_ble_eq_true rfl, Nat.le_of_ble_eq_true rfl⟩ rfl rfl (Nat.le_of_ble_eq_true rfl) ⟨Nat.le_refl _, Nat.le_refl _⟩ dX4_count_4 rfl ?_
  refine v_if_ne C 13 dX4_count_7 (by decide) rfl (fun h7 => ?_) (fun h7t => ?_)
  · skip
    obtain ⟨j, hj, rfl⟩ := p_in_nI (n := 14) (by decide) h7
    refine v_iload_n C dX4_count_13 rfl 1 1 rfl rfl ?_
    refine v_bipush (v := 8) C dX4_count_14 rfl bp_8 ?_
    refine v_bipush (v := 12) C dX4_count_16 rfl bp_12 ?_
    refine v_callSpd C (c_X4_isWithin l _ _ _) gX4_count_X4_isWithin rfl hd_X4_isWithin.2 ⟨rfl, rfl⟩ ⟨Nat.le_of_ble_eq_true rfl, Nat.le_of_ble_eq_true rfl⟩ rfl rfl (Nat.le_of_ble_eq_true rfl) ⟨Nat.le_refl _, Nat.le_refl _⟩ dX4_count_18 rfl ?_
    refine v_if_eq C 36 dX4_count_21 (by decide) rfl (fun h21t => ?_) (fun h21 => ?_)
    · skip
      refine v_iload_n C dX4_count_36 rfl 1 1 rfl rfl ?_
      by_cases h37_0 : nI j = 0
      · refine v_tableIn C 112 dX4_count_37 (by rw [h37_0]; decide) (by rw [h37_0]; decide) (off := 75) (by rw [h37_0]; rfl) (by decide) ?_
        refine v_aload_n C dX4_count_112 rfl 0 0 rfl rfl ?_
        refine v_get C K in_X4_count_X4 0 rfl rfl 0 (by decide) fl_X4_count_X4_0 rfl dX4_count_113 rfl ?_
        refine v_callVid C K (c_X1_films l D ad cI cC cZ cQ _) gX4_count_X1_films rfl hd_X1_films ⟨rfl, rfl⟩ ⟨Nat.le_of_ble_eq_true rfl, Nat.le_of_ble_eq_true rfl⟩ 1 rfl rfl rfl rfl rfl (Nat.le_of_ble_eq_true rfl) ⟨Nat.le_refl _, Nat.le_refl _⟩ dX4_count_116 rfl ?_
        exact hend (⟨by rw [h37_0]; rfl, cc9_rf σ⟩) (rfl) dX4_count_119
      by_cases h37_1 : nI j = 1
      · refine v_tableIn C 172 dX4_count_37 (by rw [h37_1]; decide) (by rw [h37_1]; decide) (off := 135) (by rw [h37_1]; rfl) (by decide) ?_
        have ej : j = 1 := nI_inj (b := 1) (by omega) (by decide) h37_1
        have hj4 : 1 ≤ j ∧ j ≤ 4 := by omega
        refine v_aload_n C dX4_count_172 rfl 0 0 rfl rfl ?_
        refine v_iload_n C dX4_count_173 rfl 1 1 rfl rfl ?_
        refine v_iconst (v := 1) C dX4_count_174 rfl ic_1 ?_
        refine v_isub C dX4_count_175 rfl ?_
        refine v_top (nI (j - 1)) (pk_sub (a := j) (b := 1) hj4.1) ?_
        refine v_callVi C K (c_X4_sumOfFilms l D ad cI cC cZ cQ _ n hw (j - 1) (by omega)) gX4_count_X4_sumOfFilms rfl hd_X4_sumOfFilms ⟨rfl, rfl⟩ ⟨Nat.le_of_ble_eq_true rfl, Nat.le_of_ble_eq_true rfl⟩ 0 rfl rfl rfl rfl rfl (Nat.le_of_ble_eq_true rfl) ⟨Nat.le_refl _, Nat.le_refl _⟩ dX4_count_176 rfl (fun r176 u176 hc176 => ?_)
        obtain ⟨rfl, hs⟩ := hc176
        exact hend (⟨by rw [q_cnt_sum hw.1 _ _ hj4.1 hj4.2], hs⟩) (rfl) dX4_count_179
      by_cases h37_2 : nI j = 2
      · refine v_tableIn C 172 dX4_count_37 (by rw [h37_2]; decide) (by rw [h37_2]; decide) (off := 135) (by rw [h37_2]; rfl) (by decide) ?_
        have ej : j = 2 := nI_inj (b := 2) (by omega) (by decide) h37_2
        have hj4 : 1 ≤ j ∧ j ≤ 4 := by omega
        refine v_aload_n C dX4_count_172 rfl 0 0 rfl rfl ?_
        refine v_iload_n C dX4_count_173 rfl 1 1 rfl rfl ?_
        refine v_iconst (v := 1) C dX4_count_174 rfl ic_1 ?_
        refine v_isub C dX4_count_175 rfl ?_
        refine v_top (nI (j - 1)) (pk_sub (a := j) (b := 1) hj4.1) ?_
        refine v_callVi C K (c_X4_sumOfFilms l D ad cI cC cZ cQ _ n hw (j - 1) (by omega)) gX4_count_X4_sumOfFilms rfl hd_X4_sumOfFilms ⟨rfl, rfl⟩ ⟨Nat.le_of_ble_eq_true rfl, Nat.le_of_ble_eq_true rfl⟩ 0 rfl rfl rfl rfl rfl (Nat.le_of_ble_eq_true rfl) ⟨Nat.le_refl _, Nat.le_refl _⟩ dX4_count_176 rfl (fun r176 u176 hc176 => ?_)
        obtain ⟨rfl, hs⟩ := hc176
        exact hend (⟨by rw [q_cnt_sum hw.1 _ _ hj4.1 hj4.2], hs⟩) (rfl) dX4_count_179
      by_cases h37_3 : nI j = 3
      · refine v_tableIn C 172 dX4_count_37 (by rw [h37_3]; decide) (by rw [h37_3]; decide) (off := 135) (by rw [h37_3]; rfl) (by decide) ?_
        have ej : j = 3 := nI_inj (b := 3) (by omega) (by decide) h37_3
        have hj4 : 1 ≤ j ∧ j ≤ 4 := by omega
        refine v_aload_n C dX4_count_172 rfl 0 0 rfl rfl ?_
        refine v_iload_n C dX4_count_173 rfl 1 1 rfl rfl ?_
        refine v_iconst (v := 1) C dX4_count_174 rfl ic_1 ?_
        refine v_isub C dX4_count_175 rfl ?_
        refine v_top (nI (j - 1)) (pk_sub (a := j) (b := 1) hj4.1) ?_
        refine v_callVi C K (c_X4_sumOfFilms l D ad cI cC cZ cQ _ n hw (j - 1) (by omega)) gX4_count_X4_sumOfFilms rfl hd_X4_sumOfFilms ⟨rfl, rfl⟩ ⟨Nat.le_of_ble_eq_true rfl, Nat.le_of_ble_eq_true rfl⟩ 0 rfl rfl rfl rfl rfl (Nat.le_of_ble_eq_true rfl) ⟨Nat.le_refl _, Nat.le_refl _⟩ dX4_count_176 rfl (fun r176 u176 hc176 => ?_)
        obtain ⟨rfl, hs⟩ := hc176
        exact hend (⟨by rw [q_cnt_sum hw.1 _ _ hj4.1 hj4.2], hs⟩) (rfl) dX4_count_179
      by_cases h37_4 : nI j = 4
      · refine v_tableIn C 172 dX4_count_37 (by rw [h37_4]; decide) (by rw [h37_4]; decide) (off := 135) (by rw [h37_4]; rfl) (by decide) ?_
        have ej : j = 4 := nI_inj (b := 4) (by omega) (by decide) h37_4
        have hj4 : 1 ≤ j ∧ j ≤ 4 := by omega
        refine v_aload_n C dX4_count_172 rfl 0 0 rfl rfl ?_
        refine v_iload_n C dX4_count_173 rfl 1 1 rfl rfl ?_
        refine v_iconst (v := 1) C dX4_count_174 rfl ic_1 ?_
        refine v_isub C dX4_count_175 rfl ?_
        refine v_top (nI (j - 1)) (pk_sub (a := j) (b := 1) hj4.1) ?_
        refine v_callVi C K (c_X4_sumOfFilms l D ad cI cC cZ cQ _ n hw (j - 1) (by omega)) gX4_count_X4_sumOfFilms rfl hd_X4_sumOfFilms ⟨rfl, rfl⟩ ⟨Nat.le_of_ble_eq_true rfl, Nat.le_of_ble_eq_true rfl⟩ 0 rfl rfl rfl rfl rfl (Nat.le_of_ble_eq_true rfl) ⟨Nat.le_refl _, Nat.le_refl _⟩ dX4_count_176 rfl (fun r176 u176 hc176 => ?_)
        obtain ⟨rfl, hs⟩ := hc176
        exact hend (⟨by rw [q_cnt_sum hw.1 _ _ hj4.1 hj4.2], hs⟩) (rfl) dX4_count_179
      by_cases h37_5 : nI j = 5
      · refine v_tableIn C 120 dX4_count_37 (by rw [h37_5]; decide) (by rw [h37_5]; decide) (off := 83) (by rw [h37_5]; rfl) (by decide) ?_
        refine v_aload_n C dX4_count_120 rfl 0 0 rfl rfl ?_
        refine v_iconst (v := 4) C dX4_count_121 rfl ic_4 ?_
        refine v_callVi C K (c_X4_sumOfFilms l D ad cI cC cZ cQ _ n hw 4 (by decide)) gX4_count_X4_sumOfFilms rfl hd_X4_sumOfFilms ⟨rfl, rfl⟩ ⟨Nat.le_of_ble_eq_true rfl, Nat.le_of_ble_eq_true rfl⟩ 0 rfl rfl rfl rfl rfl (Nat.le_of_ble_eq_true rfl) ⟨Nat.le_refl _, Nat.le_refl _⟩ dX4_count_122 rfl (fun r122 u122 hc122 => ?_)
        obtain ⟨rfl, hs⟩ := hc122
        refine v_aload_n C dX4_count_125 rfl 0 0 rfl rfl ?_
        refine v_get C K in_X4_count_X4 0 rfl rfl 0 (by decide) fl_X4_count_X4_0 rfl dX4_count_126 rfl ?_
        refine v_iconst (v := 0) C dX4_count_129 rfl ic_0 ?_
        refine v_bipush (v := 35) C dX4_count_130 rfl bp_35 ?_
        refine v_callVid C K (c_X1_rentsOf l D ad cI cC cZ cQ _ 0 35 (by decide) (by decide)) gX4_count_X1_rentsOf rfl hd_X1_rentsOf ⟨rfl, rfl⟩ ⟨Nat.le_of_ble_eq_true rfl, Nat.le_of_ble_eq_true rfl⟩ 1 rfl rfl rfl rfl rfl (Nat.le_of_ble_eq_true rfl) ⟨Nat.le_refl _, Nat.le_refl _⟩ dX4_count_132 rfl ?_
        refine v_iadd C dX4_count_135 rfl ?_
        refine v_ldc C dX4_count_136 rfl ct_X4_count_101 ?_
        refine v_iadd C dX4_count_138 rfl ?_
        exact hend (⟨by rw [h37_5, cc9_0 hs]; exact (congrArg (fun z => z + 1000000) (q_left_all hw.1)).symm, hs⟩) (rfl) dX4_count_139
      by_cases h37_6 : nI j = 6
      · refine v_tableIn C 140 dX4_count_37 (by rw [h37_6]; decide) (by rw [h37_6]; decide) (off := 103) (by rw [h37_6]; rfl) (by decide) ?_
        refine v_aload_n C dX4_count_140 rfl 0 0 rfl rfl ?_
        refine v_get C K in_X4_count_X4 0 rfl rfl 0 (by decide) fl_X4_count_X4_0 rfl dX4_count_141 rfl ?_
        refine v_iconst (v := 0) C dX4_count_144 rfl ic_0 ?_
        refine v_bipush (v := 35) C dX4_count_145 rfl bp_35 ?_
        refine v_callVid C K (c_X1_rentsOf l D ad cI cC cZ cQ _ 0 35 (by decide) (by decide)) gX4_count_X1_rentsOf rfl hd_X1_rentsOf ⟨rfl, rfl⟩ ⟨Nat.le_of_ble_eq_true rfl, Nat.le_of_ble_eq_true rfl⟩ 1 rfl rfl rfl rfl rfl (Nat.le_of_ble_eq_true rfl) ⟨Nat.le_refl _, Nat.le_refl _⟩ dX4_count_147 rfl ?_
        exact hend (⟨by rw [h37_6]; exact rnT_all _, cc9_rf σ⟩) (rfl) dX4_count_150
      by_cases h37_7 : nI j = 7
      · refine v_tableIn C 151 dX4_count_37 (by rw [h37_7]; decide) (by rw [h37_7]; decide) (off := 114) (by rw [h37_7]; rfl) (by decide) ?_
        refine v_aload_n C dX4_count_151 rfl 0 0 rfl rfl ?_
        refine v_callVi C K (c_X4_fullShows l D ad cI cC cZ cQ _ n hw) gX4_count_X4_fullShows rfl hd_X4_fullShows ⟨rfl, rfl⟩ ⟨Nat.le_of_ble_eq_true rfl, Nat.le_of_ble_eq_true rfl⟩ 0 rfl rfl rfl rfl rfl (Nat.le_of_ble_eq_true rfl) ⟨Nat.le_refl _, Nat.le_refl _⟩ dX4_count_152 rfl (fun r152 u152 hc152 => ?_)
        obtain ⟨rfl, hs⟩ := hc152
        exact hend (⟨by rw [h37_7]; exact (full_all hw.1).symm, hs⟩) (rfl) dX4_count_155
      by_cases h37_8 : nI j = 8
      · refine v_tableIn C 172 dX4_count_37 (by rw [h37_8]; decide) (by rw [h37_8]; decide) (off := 135) (by rw [h37_8]; rfl) (by decide) ?_
        have ej : j = 8 := nI_inj (b := 8) (by omega) (by decide) h37_8
        subst ej
        exact absurd h21t (by decide)
      by_cases h37_9 : nI j = 9
      · refine v_tableIn C 172 dX4_count_37 (by rw [h37_9]; decide) (by rw [h37_9]; decide) (off := 135) (by rw [h37_9]; rfl) (by decide) ?_
        have ej : j = 9 := nI_inj (b := 9) (by omega) (by decide) h37_9
        subst ej
        exact absurd h21t (by decide)
      by_cases h37_10 : nI j = 10
      · refine v_tableIn C 172 dX4_count_37 (by rw [h37_10]; decide) (by rw [h37_10]; decide) (off := 135) (by rw [h37_10]; rfl) (by decide) ?_
        have ej : j = 10 := nI_inj (b := 10) (by omega) (by decide) h37_10
        subst ej
        exact absurd h21t (by decide)
      by_cases h37_11 : nI j = 11
      · refine v_tableIn C 172 dX4_count_37 (by rw [h37_11]; decide) (by rw [h37_11]; decide) (off := 135) (by rw [h37_11]; rfl) (by decide) ?_
        have ej : j = 11 := nI_inj (b := 11) (by omega) (by decide) h37_11
        subst ej
        exact absurd h21t (by decide)
      by_cases h37_12 : nI j = 12
      · refine v_tableIn C 172 dX4_count_37 (by rw [h37_12]; decide) (by rw [h37_12]; decide) (off := 135) (by rw [h37_12]; rfl) (by decide) ?_
        have ej : j = 12 := nI_inj (b := 12) (by omega) (by decide) h37_12
        subst ej
        exact absurd h21t (by decide)
      by_cases h37_13 : nI j = 13
      · refine v_tableIn C 156 dX4_count_37 (by rw [h37_13]; decide) (by rw [h37_13]; decide) (off := 119) (by rw [h37_13]; rfl) (by decide) ?_
        refine v_aload_n C dX4_count_156 rfl 0 0 rfl rfl ?_
        refine v_get C K in_X4_count_X4 0 rfl rfl 2 (by decide) fl_X4_count_X4_2 rfl dX4_count_157 rfl ?_
        refine v_callVid C K (c_X3_length l D ad cI cC cZ cQ _) gX4_count_X3_length rfl hd_X3_length ⟨rfl, rfl⟩ ⟨Nat.le_of_ble_eq_true rfl, Nat.le_of_ble_eq_true rfl⟩ 8 rfl rfl rfl rfl rfl (Nat.le_of_ble_eq_true rfl) ⟨Nat.le_refl _, Nat.le_refl _⟩ dX4_count_160 rfl ?_
        exact hend (⟨by rw [h37_13]; rfl, cc9_rf σ⟩) (rfl) dX4_count_163
      by_cases h37_14 : nI j = 14
      · refine v_tableIn C 164 dX4_count_37 (by rw [h37_14]; decide) (by rw [h37_14]; decide) (off := 127) (by rw [h37_14]; rfl) (by decide) ?_
        refine v_aload_n C dX4_count_164 rfl 0 0 rfl rfl ?_
        refine v_get C K in_X4_count_X4 0 rfl rfl 3 (by decide) fl_X4_count_X4_3 rfl dX4_count_165 rfl ?_
        refine v_callVid C K (c_X2_size l D ad cI cC cZ cQ _) gX4_count_X2_size rfl hd_X2_size ⟨rfl, rfl⟩ ⟨Nat.le_of_ble_eq_true rfl, Nat.le_of_ble_eq_true rfl⟩ 10 rfl rfl rfl rfl rfl (Nat.le_of_ble_eq_true rfl) ⟨Nat.le_refl _, Nat.le_refl _⟩ dX4_count_168 rfl ?_
        exact hend (⟨by rw [h37_14]; rfl, cc9_rf σ⟩) (rfl) dX4_count_171
      refine v_tableOut C 172 dX4_count_37 (sw9 (x := nI j) (n := 14) (by decide) (fun j hj => by rcases (show j = 0 ∨ j = 1 ∨ j = 2 ∨ j = 3 ∨ j = 4 ∨ j = 5 ∨ j = 6 ∨ j = 7 ∨ j = 8 ∨ j = 9 ∨ j = 10 ∨ j = 11 ∨ j = 12 ∨ j = 13 ∨ j = 14 by omega) with rfl | rfl | rfl | rfl | rfl | rfl | rfl | rfl | rfl | rfl | rfl | rfl | rfl | rfl | rfl <;> first | exact h37_0 | exact h37_1 | exact h37_2 | exact h37_3 | exact h37_4 | exact h37_5 | exact h37_6 | exact h37_7 | exact h37_8 | exact h37_9 | exact h37_10 | exact h37_11 | exact h37_12 | exact h37_13 | exact h37_14)) (by decide) ?_
      exfalso
      rcases (show j = 0 ∨ j = 1 ∨ j = 2 ∨ j = 3 ∨ j = 4 ∨ j = 5 ∨ j = 6 ∨ j = 7 ∨ j = 8 ∨ j = 9 ∨ j = 10 ∨ j = 11 ∨ j = 12 ∨ j = 13 ∨ j = 14 by omega) with rfl | rfl | rfl | rfl | rfl | rfl | rfl | rfl | rfl | rfl | rfl | rfl | rfl | rfl | rfl
      · exact h37_0 rfl
      · exact h37_1 rfl
      · exact h37_2 rfl
      · exact h37_3 rfl
      · exact h37_4 rfl
      · exact h37_5 rfl
      · exact h37_6 rfl
      · exact h37_7 rfl
      · exact h37_8 rfl
      · exact h37_9 rfl
      · exact h37_10 rfl
      · exact h37_11 rfl
      · exact h37_12 rfl
      · exact h37_13 rfl
      · exact h37_14 rfl
    · skip
      obtain ⟨hj8, hj12⟩ := p_in_nI2 (a := 8) (b := 12) (by decide) h21 j (by omega) rfl (by decide)
      refine v_aload_n C dX4_count_24 rfl 0 0 rfl rfl ?_
      refine v_get C K in_X4_count_X4 0 rfl rfl 0 (by decide) fl_X4_count_X4_0 rfl dX4_count_25 rfl ?_
      refine v_iload_n C dX4_count_28 rfl 1 1 rfl rfl ?_
      refine v_bipush (v := 8) C dX4_count_29 rfl bp_8 ?_
      refine v_isub C dX4_count_31 rfl ?_
      refine v_top (nI (j - 8)) (pk_sub (a := j) (b := 8) hj8) ?_
      refine v_callVid C K (c_X1_setting l D ad cI cC cZ cQ _ (j - 8) (by omega)) gX4_count_X1_setting rfl hd_X1_setting ⟨rfl, rfl⟩ ⟨Nat.le_of_ble_eq_true rfl, Nat.le_of_ble_eq_true rfl⟩ 1 rfl rfl rfl rfl rfl (Nat.le_of_ble_eq_true rfl) ⟨Nat.le_refl _, Nat.le_refl _⟩ dX4_count_32 rfl ?_
      exact hend (⟨by rw [q_cnt_set _ _ _ hj8 hj12], cc9_rf σ⟩) (rfl) dX4_count_35
  · skip
    refine v_bipush (v := -2) C dX4_count_10 rfl bp_m2 ?_
    exact hend (⟨by rw [q_cnt_bad h7t], cc9_rf σ⟩) (rfl) dX4_count_12
end
section
theorem hsM_i (σ : S9) (o h i : Nat) (h8 : i ≠ 8) (hi : i < 10) : hsM σ o h i = σ i := by rw [hsM, st9_n _ _ h8, st9_n _ _ (by omega)]
theorem hsM_0 (σ : S9) (o h : Nat) : hsM σ o h 0 = σ 0 := hsM_i σ o h 0 (by decide) (by decide)
theorem p_why_or {r : Nat → Int32} {f d q : Int32} (h : ¬ p_why r f d q = 0) : ¬ 0 ≤ p_why r f d q := by
  unfold p_why at h ⊢
  by_cases h1 : p_in f 0 (r 5 - 1) = 0
  · rw [if_pos h1]
    decide
  · rw [if_neg h1] at h ⊢
    by_cases h2 : p_part d q = 0
    · rw [if_pos h2]
      decide
    · rw [if_neg h2] at h ⊢
      by_cases h3 : p_canShow r f.toNatClampNeg d.toNatClampNeg = 0
      · rw [if_pos h3]
        decide
      · rw [if_neg h3] at h
        exact absurd rfl h
set_option maxHeartbeats 4000000 in
set_option maxRecDepth 100000 in
theorem c_X4_ifShown (l : Launch) (D : va_G) (ad : Nat → Nat) (cI cC cZ cQ : ClassId) (σ : S9) (n : Nat) (hw : wfH (σ 0) n) (f d q : Int32) : CMi l (cW ad cI cC cZ cQ) D (cTy cI cC cZ cQ) yX4_ifShown wsX4_ifShown ({ frames := 6, cells := 0, slots := 0, locals := 145 } : Room) [.ref (ad 0), .int f, .int d, .int q] σ (fun r u => r = (if 0 ≤ p_why (σ 0) f d q then q_more (σ 0) (q_k d q) f + 1000000 else p_why (σ 0) f d q) ∧ cc9 σ u) := by
  refine v_starti (own := RX4) (cc := cX4_ifShown) (nL := 5) rfl (by decide) rfl (Nat.le_of_ble_eq_true rfl) ?_
  intro p e s m args below meth c A Q C K hend
  refine v_lv (lv' := [(0, .ref (ad 0)), (1, .int f), (2, .int d), (3, .int q)]) [0, 1, 2, 3] rfl ?_
  refine v_aload_n C dX4_ifShown_0 rfl 0 0 rfl rfl ?_
  refine v_iload_n C dX4_ifShown_1 rfl 1 1 rfl rfl ?_
  refine v_iload_n C dX4_ifShown_2 rfl 2 2 rfl rfl ?_
  refine v_iload_n C dX4_ifShown_3 rfl 3 3 rfl rfl ?_
  refine v_callVid C K (c_X4_errorOfShow l D ad cI cC cZ cQ _ n hw _ _ _) gX4_ifShown_X4_errorOfShow rfl hd_X4_errorOfShow ⟨rfl, rfl⟩ ⟨Nat.le_of_ble_eq_true rfl, Nat.le_of_ble_eq_true rfl⟩ 0 rfl rfl rfl rfl rfl (Nat.le_of_ble_eq_true rfl) ⟨Nat.le_refl _, Nat.le_refl _⟩ dX4_ifShown_4 rfl ?_
  refine v_istore (lv' := [(4, _), (0, _), (1, _), (2, _), (3, _)]) C dX4_ifShown_7 rfl (by decide) rfl ?_
  refine v_iload C dX4_ifShown_9 rfl 0 rfl ?_
  refine v_if_eq C 17 dX4_ifShown_11 (by decide) rfl (fun h11 => ?_) (fun h11n => ?_)
  · skip
    have hge : 0 ≤ p_why (σ 0) f d q := by rw [h11]; decide
    obtain ⟨hz, f, d, q, hf, hd, hq, rfl, rfl, rfl, hcs⟩ := p_why_ge hw.1.1 hw.1.2.1 hge
    have ecd : (nI d).toNatClampNeg = d := nI_cl (by omega)
    have ecq : (nI q).toNatClampNeg = q := nI_cl (by omega)
    have ek : q_k (nI d) (nI q) = 2 * d + q := by rw [q_k, ecd, ecq]
    refine v_aload_n C dX4_ifShown_17 rfl 0 1 rfl rfl ?_
    refine v_iload_n C dX4_ifShown_18 rfl 2 3 rfl rfl ?_
    refine v_iload_n C dX4_ifShown_19 rfl 3 4 rfl rfl ?_
    refine v_callSpd C (c_X4_placeOf l _ _) gX4_ifShown_X4_placeOf rfl hd_X4_placeOf.2 ⟨rfl, rfl⟩ ⟨Nat.le_of_ble_eq_true rfl, Nat.le_of_ble_eq_true rfl⟩ rfl rfl (Nat.le_of_ble_eq_true rfl) ⟨Nat.le_refl _, Nat.le_refl _⟩ dX4_ifShown_20 rfl ?_
    refine v_iload_n C dX4_ifShown_23 rfl 1 2 rfl rfl ?_
    refine v_callVi C K (c_X4_gainWith l D ad cI cC cZ cQ _ n hw (2 * d + q) (by omega) _ (Or.inr ⟨f, hf, rfl⟩)) gX4_ifShown_X4_gainWith rfl hd_X4_gainWith ⟨rfl, rfl⟩ ⟨Nat.le_of_ble_eq_true rfl, Nat.le_of_ble_eq_true rfl⟩ 0 rfl rfl rfl rfl rfl (Nat.le_of_ble_eq_true rfl) ⟨Nat.le_refl _, Nat.le_refl _⟩ dX4_ifShown_24 rfl (fun r24 u24 hc24 => ?_)
    obtain ⟨rfl, hs⟩ := hc24
    refine v_ldc C dX4_ifShown_27 rfl ct_X4_ifShown_101 ?_
    refine v_iadd C dX4_ifShown_29 rfl ?_
    exact hend (⟨by rw [if_pos hge, ek], hs⟩) (rfl) dX4_ifShown_30
  · skip
    refine v_iload C dX4_ifShown_14 rfl 0 rfl ?_
    exact hend (⟨by rw [if_neg (p_why_or h11n)], cc9_rf σ⟩) (rfl) dX4_ifShown_16
set_option maxHeartbeats 4000000 in
set_option maxRecDepth 100000 in
theorem c_X4_film (l : Launch) (D : va_G) (ad : Nat → Nat) (cI cC cZ cQ : ClassId) (σ : S9) (n : Nat) (hw : wfH (σ 0) n) (o : Nat) (ho : σ 8 0 = nI o) (ho6 : o < 6) (h : Nat) (hh : σ 8 1 = nI h) (hle : h ≤ 6) (xd xc xm xs xf : Int32) : CMi l (cW ad cI cC cZ cQ) D (cTy cI cC cZ cQ) yX4_film wsX4_film ({ frames := 3, cells := 0, slots := 0, locals := 68 } : Room) [.ref (ad 0), .int xd, .int xc, .int xm, .int xs, .int xf] σ (fun r u => (q_filmE (σ 0) xd xc xm xs xf = 0 → n < 8 ∧ r = nI n ∧ u = st9 (hsM σ o h) 0 (film9 (σ 0) n xd xc xm xs xf)) ∧ (¬ q_filmE (σ 0) xd xc xm xs xf = 0 → r = q_filmE (σ 0) xd xc xm xs xf ∧ u = σ)) := by
  refine v_starti (own := RX4) (cc := cX4_film) (nL := 6) rfl (by decide) rfl (Nat.le_of_ble_eq_true rfl) ?_
  intro p e s m args below meth c A Q C K hend
  refine v_lv (lv' := [(0, .ref (ad 0)), (1, .int xd), (2, .int xc), (3, .int xm), (4, .int xs), (5, .int xf)]) [0, 1, 2, 3, 4, 5] rfl ?_
  refine v_iload_n C dX4_film_0 rfl 1 1 rfl rfl ?_
  refine v_iconst (v := 0) C dX4_film_1 rfl ic_0 ?_
  refine v_iconst (v := 3) C dX4_film_2 rfl ic_3 ?_
  refine v_callSpd C (c_X4_isWithin l _ _ _) gX4_film_X4_isWithin rfl hd_X4_isWithin.2 ⟨rfl, rfl⟩ ⟨Nat.le_of_ble_eq_true rfl, Nat.le_of_ble_eq_true rfl⟩ rfl rfl (Nat.le_of_ble_eq_true rfl) ⟨Nat.le_refl _, Nat.le_refl _⟩ dX4_film_3 rfl ?_
  refine v_if_eq C 20 dX4_film_6 (by decide) rfl (fun h6 => ?_) (fun h6 => ?_)
  · skip
    refine v_bipush (v := -2) C dX4_film_20 rfl bp_m2 ?_
    exact hend (⟨fun q => absurd q (by simp [q_filmE, h6]), fun _ => ⟨by simp [q_filmE, h6], rfl⟩⟩) (rfl) dX4_film_22
  · skip
    refine v_iload_n C dX4_film_9 rfl 2 2 rfl rfl ?_
    refine v_iconst (v := 1) C dX4_film_10 rfl ic_1 ?_
    refine v_sipush (v := 999) C dX4_film_11 rfl sp_999 ?_
    refine v_callSpd C (c_X4_isWithin l _ _ _) gX4_film_X4_isWithin rfl hd_X4_isWithin.2 ⟨rfl, rfl⟩ ⟨Nat.le_of_ble_eq_true rfl, Nat.le_of_ble_eq_true rfl⟩ rfl rfl (Nat.le_of_ble_eq_true rfl) ⟨Nat.le_refl _, Nat.le_refl _⟩ dX4_film_14 rfl ?_
    refine v_if_ne C 23 dX4_film_17 (by decide) rfl (fun h17 => ?_) (fun h17 => ?_)
    · skip
      refine v_iload_n C dX4_film_23 rfl 3 3 rfl rfl ?_
      refine v_iconst (v := 0) C dX4_film_24 rfl ic_0 ?_
      refine v_sipush (v := 500) C dX4_film_25 rfl sp_500 ?_
      refine v_callSpd C (c_X4_isWithin l _ _ _) gX4_film_X4_isWithin rfl hd_X4_isWithin.2 ⟨rfl, rfl⟩ ⟨Nat.le_of_ble_eq_true rfl, Nat.le_of_ble_eq_true rfl⟩ rfl rfl (Nat.le_of_ble_eq_true rfl) ⟨Nat.le_refl _, Nat.le_refl _⟩ dX4_film_28 rfl ?_
      refine v_if_eq C 54 dX4_film_31 (by decide) rfl (fun h31 => ?_) (fun h31 => ?_)
      · skip
        refine v_bipush (v := -2) C dX4_film_54 rfl bp_m2 ?_
        exact hend (⟨fun q => absurd q (by simp [q_filmE, h6, h17, h31]), fun _ => ⟨by simp [q_filmE, h6, h17, h31], rfl⟩⟩) (rfl) dX4_film_56
      · skip
        refine v_iload C dX4_film_34 rfl 4 rfl ?_
        refine v_bipush (v := 20) C dX4_film_36 rfl bp_20 ?_
        refine v_bipush (v := 90) C dX4_film_38 rfl bp_90 ?_
        refine v_callSpd C (c_X4_isWithin l _ _ _) gX4_film_X4_isWithin rfl hd_X4_isWithin.2 ⟨rfl, rfl⟩ ⟨Nat.le_of_ble_eq_true rfl, Nat.le_of_ble_eq_true rfl⟩ rfl rfl (Nat.le_of_ble_eq_true rfl) ⟨Nat.le_refl _, Nat.le_refl _⟩ dX4_film_40 rfl ?_
        refine v_if_eq C 54 dX4_film_43 (by decide) rfl (fun h43 => ?_) (fun h43 => ?_)
        · skip
          refine v_bipush (v := -2) C dX4_film_54 rfl bp_m2 ?_
          exact hend (⟨fun q => absurd q (by simp [q_filmE, h6, h17, h31, h43]), fun _ => ⟨by simp [q_filmE, h6, h17, h31, h43], rfl⟩⟩) (rfl) dX4_film_56
        · skip
          refine v_iload C dX4_film_46 rfl 5 rfl ?_
          refine v_callSpd C (c_X4_isDay l _) gX4_film_X4_isDay rfl hd_X4_isDay.2 ⟨rfl, rfl⟩ ⟨Nat.le_of_ble_eq_true rfl, Nat.le_of_ble_eq_true rfl⟩ rfl rfl (Nat.le_of_ble_eq_true rfl) ⟨Nat.le_refl _, Nat.le_refl _⟩ dX4_film_48 rfl ?_
          refine v_if_ne C 57 dX4_film_51 (by decide) rfl (fun h51 => ?_) (fun h51 => ?_)
          · skip
            refine v_aload_n C dX4_film_57 rfl 0 0 rfl rfl ?_
            refine v_get C K in_X4_film_X4 0 rfl rfl 0 (by decide) fl_X4_film_X4_0 rfl dX4_film_58 rfl ?_
            refine v_callVid C K (c_X1_films l D ad cI cC cZ cQ _) gX4_film_X1_films rfl hd_X1_films ⟨rfl, rfl⟩ ⟨Nat.le_of_ble_eq_true rfl, Nat.le_of_ble_eq_true rfl⟩ 1 rfl rfl rfl rfl rfl (Nat.le_of_ble_eq_true rfl) ⟨Nat.le_refl _, Nat.le_refl _⟩ dX4_film_61 rfl ?_
            refine v_bipush (v := 8) C dX4_film_64 rfl bp_8 ?_
            refine v_icmp_lt C 72 dX4_film_66 (by decide) rfl (fun h66 => ?_) (fun h66t => ?_)
            · skip
              have hn8 : n < 8 := by
                rw [hw.1.1] at h66
                exact (nI_ltI (b := 8) (by have := hw.1.2.1; omega) (by decide)).mp h66
              have hne : ¬ σ 0 5 = 8 := by
                rw [hw.1.1]
                exact fun e => absurd (nI_inj (b := 8) (by omega) (by decide) e) (by omega)
              refine v_aload_n C dX4_film_72 rfl 0 0 rfl rfl ?_
              refine v_get C K in_X4_film_X4 0 rfl rfl 3 (by decide) fl_X4_film_X4_3 rfl dX4_film_73 rfl ?_
              refine v_aload_n C dX4_film_76 rfl 0 0 rfl rfl ?_
              refine v_get C K in_X4_film_X4 0 rfl rfl 0 (by decide) fl_X4_film_X4_0 rfl dX4_film_77 rfl ?_
              refine v_callVvd C K (c_X2_record l D ad cI cC cZ cQ _ o ho ho6 h hh hle) gX4_film_X2_record rfl hd_X2_record ⟨rfl, rfl⟩ ⟨Nat.le_of_ble_eq_true rfl, Nat.le_of_ble_eq_true rfl⟩ 10 rfl rfl rfl rfl rfl (Nat.le_of_ble_eq_true rfl) ⟨Nat.le_refl _, Nat.le_refl _⟩ dX4_film_80 rfl ?_
              refine v_aload_n C dX4_film_83 rfl 0 0 rfl rfl ?_
              refine v_get C K in_X4_film_X4 0 rfl rfl 0 (by decide) fl_X4_film_X4_0 rfl dX4_film_84 rfl ?_
              refine v_iload_n C dX4_film_87 rfl 1 1 rfl rfl ?_
              refine v_iload_n C dX4_film_88 rfl 2 2 rfl rfl ?_
              refine v_iload_n C dX4_film_89 rfl 3 3 rfl rfl ?_
              refine v_iload C dX4_film_90 rfl 4 rfl ?_
              refine v_iload C dX4_film_92 rfl 5 rfl ?_
              refine v_callVid C K (c_X1_addFilm l D ad cI cC cZ cQ _ n (by rw [hsM_0]; exact hw.1.1) hn8 _ _ _ _ _) gX4_film_X1_addFilm rfl hd_X1_addFilm ⟨rfl, rfl⟩ ⟨Nat.le_of_ble_eq_true rfl, Nat.le_of_ble_eq_true rfl⟩ 1 rfl rfl rfl rfl rfl (Nat.le_of_ble_eq_true rfl) ⟨Nat.le_refl _, Nat.le_refl _⟩ dX4_film_94 rfl ?_
              exact hend (⟨fun _ => ⟨hn8, rfl, by rw [hsM_0]⟩, fun q => absurd (by simp [q_filmE, h6, h17, h31, h43, h51, hne]) q⟩) (rfl) dX4_film_97
            · skip
              have he : σ 0 5 = 8 := by
                have hn8 := hw.1.2.1
                rw [hw.1.1] at h66t ⊢
                rcases Nat.lt_or_ge n 8 with q | q
                · exact absurd (nI_lt (b := 8) q (by decide)) h66t
                · rw [show n = 8 by omega]; rfl
              refine v_bipush (v := -4) C dX4_film_69 rfl bp_m4 ?_
              exact hend (⟨fun q => absurd q (by simp [q_filmE, h6, h17, h31, h43, h51, he]), fun _ => ⟨by simp [q_filmE, h6, h17, h31, h43, h51, he], rfl⟩⟩) (rfl) dX4_film_71
          · skip
            refine v_bipush (v := -2) C dX4_film_54 rfl bp_m2 ?_
            exact hend (⟨fun q => absurd q (by simp [q_filmE, h6, h17, h31, h43, h51]), fun _ => ⟨by simp [q_filmE, h6, h17, h31, h43, h51], rfl⟩⟩) (rfl) dX4_film_56
    · skip
      refine v_bipush (v := -2) C dX4_film_20 rfl bp_m2 ?_
      exact hend (⟨fun q => absurd q (by simp [q_filmE, h6, h17]), fun _ => ⟨by simp [q_filmE, h6, h17], rfl⟩⟩) (rfl) dX4_film_22
set_option maxHeartbeats 4000000 in
set_option maxRecDepth 100000 in
theorem c_X4_show (l : Launch) (D : va_G) (ad : Nat → Nat) (cI cC cZ cQ : ClassId) (σ : S9) (n : Nat) (hw : wfH (σ 0) n) (o : Nat) (ho : σ 8 0 = nI o) (ho6 : o < 6) (h : Nat) (hh : σ 8 1 = nI h) (hle : h ≤ 6) (f d q : Int32) : CMi l (cW ad cI cC cZ cQ) D (cTy cI cC cZ cQ) yX4_show wsX4_show ({ frames := 4, cells := 0, slots := 0, locals := 86 } : Room) [.ref (ad 0), .int f, .int d, .int q] σ (fun r u => (p_why (σ 0) f d q = 0 → r = σ 0 (46 + q_k d q) ∧ u = st9 (hsM σ o h) 0 (upd (σ 0) (46 + q_k d q) f)) ∧ (¬ p_why (σ 0) f d q = 0 → r = p_why (σ 0) f d q ∧ u = σ)) := by
  refine v_starti (own := RX4) (cc := cX4_show) (nL := 5) rfl (by decide) rfl (Nat.le_of_ble_eq_true rfl) ?_
  intro p e s m args below meth c A Q C K hend
  refine v_lv (lv' := [(0, .ref (ad 0)), (1, .int f), (2, .int d), (3, .int q)]) [0, 1, 2, 3] rfl ?_
  refine v_aload_n C dX4_show_0 rfl 0 0 rfl rfl ?_
  refine v_iload_n C dX4_show_1 rfl 1 1 rfl rfl ?_
  refine v_iload_n C dX4_show_2 rfl 2 2 rfl rfl ?_
  refine v_iload_n C dX4_show_3 rfl 3 3 rfl rfl ?_
  refine v_callVid C K (c_X4_errorOfShow l D ad cI cC cZ cQ _ n hw _ _ _) gX4_show_X4_errorOfShow rfl hd_X4_errorOfShow ⟨rfl, rfl⟩ ⟨Nat.le_of_ble_eq_true rfl, Nat.le_of_ble_eq_true rfl⟩ 0 rfl rfl rfl rfl rfl (Nat.le_of_ble_eq_true rfl) ⟨Nat.le_refl _, Nat.le_refl _⟩ dX4_show_4 rfl ?_
  refine v_istore (lv' := [(4, _), (0, _), (1, _), (2, _), (3, _)]) C dX4_show_7 rfl (by decide) rfl ?_
  refine v_iload C dX4_show_9 rfl 0 rfl ?_
  refine v_if_eq C 17 dX4_show_11 (by decide) rfl (fun h11 => ?_) (fun h11n => ?_)
  · skip
    have hge : 0 ≤ p_why (σ 0) f d q := by rw [h11]; decide
    obtain ⟨hz, f, d, q, hf, hd, hq, rfl, rfl, rfl, hcs⟩ := p_why_ge hw.1.1 hw.1.2.1 hge
    have ecd : (nI d).toNatClampNeg = d := nI_cl (by omega)
    have ecq : (nI q).toNatClampNeg = q := nI_cl (by omega)
    have ek : q_k (nI d) (nI q) = 2 * d + q := by rw [q_k, ecd, ecq]
    refine v_aload_n C dX4_show_17 rfl 0 1 rfl rfl ?_
    refine v_get C K in_X4_show_X4 0 rfl rfl 3 (by decide) fl_X4_show_X4_3 rfl dX4_show_18 rfl ?_
    refine v_aload_n C dX4_show_21 rfl 0 1 rfl rfl ?_
    refine v_get C K in_X4_show_X4 0 rfl rfl 0 (by decide) fl_X4_show_X4_0 rfl dX4_show_22 rfl ?_
    refine v_callVvd C K (c_X2_record l D ad cI cC cZ cQ _ o ho ho6 h hh hle) gX4_show_X2_record rfl hd_X2_record ⟨rfl, rfl⟩ ⟨Nat.le_of_ble_eq_true rfl, Nat.le_of_ble_eq_true rfl⟩ 10 rfl rfl rfl rfl rfl (Nat.le_of_ble_eq_true rfl) ⟨Nat.le_refl _, Nat.le_refl _⟩ dX4_show_25 rfl ?_
    refine v_aload_n C dX4_show_28 rfl 0 1 rfl rfl ?_
    refine v_get C K in_X4_show_X4 0 rfl rfl 0 (by decide) fl_X4_show_X4_0 rfl dX4_show_29 rfl ?_
    refine v_iload_n C dX4_show_32 rfl 2 3 rfl rfl ?_
    refine v_iload_n C dX4_show_33 rfl 3 4 rfl rfl ?_
    refine v_callSpd C (c_X4_placeOf l _ _) gX4_show_X4_placeOf rfl hd_X4_placeOf.2 ⟨rfl, rfl⟩ ⟨Nat.le_of_ble_eq_true rfl, Nat.le_of_ble_eq_true rfl⟩ rfl rfl (Nat.le_of_ble_eq_true rfl) ⟨Nat.le_refl _, Nat.le_refl _⟩ dX4_show_34 rfl ?_
    refine v_iload_n C dX4_show_37 rfl 1 2 rfl rfl ?_
    refine v_callVid C K (c_X1_replaceShow l D ad cI cC cZ cQ _ (2 * d + q) (by omega) _) gX4_show_X1_replaceShow rfl hd_X1_replaceShow ⟨rfl, rfl⟩ ⟨Nat.le_of_ble_eq_true rfl, Nat.le_of_ble_eq_true rfl⟩ 1 rfl rfl rfl rfl rfl (Nat.le_of_ble_eq_true rfl) ⟨Nat.le_refl _, Nat.le_refl _⟩ dX4_show_38 rfl ?_
    exact hend (⟨fun _ => ⟨by rw [ek, hsM_0], by rw [ek, hsM_0]⟩, fun q => absurd hz q⟩) (rfl) dX4_show_41
  · skip
    refine v_iload C dX4_show_14 rfl 0 rfl ?_
    exact hend (⟨fun q => absurd q h11n, fun _ => ⟨rfl, rfl⟩⟩) (rfl) dX4_show_16
set_option maxHeartbeats 4000000 in
set_option maxRecDepth 100000 in
theorem c_X4_drop (l : Launch) (D : va_G) (ad : Nat → Nat) (cI cC cZ cQ : ClassId) (σ : S9) (o : Nat) (ho : σ 8 0 = nI o) (ho6 : o < 6) (h : Nat) (hh : σ 8 1 = nI h) (hle : h ≤ 6) (d q : Int32) : CMi l (cW ad cI cC cZ cQ) D (cTy cI cC cZ cQ) yX4_drop wsX4_drop ({ frames := 3, cells := 0, slots := 0, locals := 68 } : Room) [.ref (ad 0), .int d, .int q] σ (fun r u => (q_dropE (σ 0) d q = 0 → r = σ 0 (46 + q_k d q) ∧ ¬ p_part d q = 0 ∧ u = st9 (hsM σ o h) 0 (upd (σ 0) (46 + q_k d q) (-6))) ∧ (¬ q_dropE (σ 0) d q = 0 → r = q_dropE (σ 0) d q ∧ u = σ)) := by
  refine v_starti (own := RX4) (cc := cX4_drop) (nL := 4) rfl (by decide) rfl (Nat.le_of_ble_eq_true rfl) ?_
  intro p e s m args below meth c A Q C K hend
  refine v_lv (lv' := [(0, .ref (ad 0)), (1, .int d), (2, .int q)]) [0, 1, 2] rfl ?_
  refine v_iload_n C dX4_drop_0 rfl 1 1 rfl rfl ?_
  refine v_iload_n C dX4_drop_1 rfl 2 2 rfl rfl ?_
  refine v_callSpd C (c_X4_isPlace l _ _) gX4_drop_X4_isPlace rfl hd_X4_isPlace.2 ⟨rfl, rfl⟩ ⟨Nat.le_of_ble_eq_true rfl, Nat.le_of_ble_eq_true rfl⟩ rfl rfl (Nat.le_of_ble_eq_true rfl) ⟨Nat.le_refl _, Nat.le_refl _⟩ dX4_drop_2 rfl ?_
  refine v_if_ne C 11 dX4_drop_5 (by decide) rfl (fun h5 => ?_) (fun h5 => ?_)
  · skip
    obtain ⟨d, q, hd, hq, rfl, rfl⟩ := p_part_ne h5
    have ecd : (nI d).toNatClampNeg = d := nI_cl (by omega)
    have ecq : (nI q).toNatClampNeg = q := nI_cl (by omega)
    have ek : q_k (nI d) (nI q) = 2 * d + q := by rw [q_k, ecd, ecq]
    refine v_iload_n C dX4_drop_11 rfl 1 1 rfl rfl ?_
    refine v_iload_n C dX4_drop_12 rfl 2 2 rfl rfl ?_
    refine v_callSpd C (c_X4_placeOf l _ _) gX4_drop_X4_placeOf rfl hd_X4_placeOf.2 ⟨rfl, rfl⟩ ⟨Nat.le_of_ble_eq_true rfl, Nat.le_of_ble_eq_true rfl⟩ rfl rfl (Nat.le_of_ble_eq_true rfl) ⟨Nat.le_refl _, Nat.le_refl _⟩ dX4_drop_13 rfl ?_
    refine v_istore_n (lv' := [(3, _), (0, _), (1, _), (2, _)]) C dX4_drop_16 rfl 3 rfl (by decide) rfl ?_
    refine v_aload_n C dX4_drop_17 rfl 0 1 rfl rfl ?_
    refine v_get C K in_X4_drop_X4 0 rfl rfl 0 (by decide) fl_X4_drop_X4_0 rfl dX4_drop_18 rfl ?_
    refine v_iload_n C dX4_drop_21 rfl 3 0 rfl rfl ?_
    refine v_callVid C K (c_X1_showAt l D ad cI cC cZ cQ _ (2 * d + q) (by omega)) gX4_drop_X1_showAt rfl hd_X1_showAt ⟨rfl, rfl⟩ ⟨Nat.le_of_ble_eq_true rfl, Nat.le_of_ble_eq_true rfl⟩ 1 rfl rfl rfl rfl rfl (Nat.le_of_ble_eq_true rfl) ⟨Nat.le_refl _, Nat.le_refl _⟩ dX4_drop_22 rfl ?_
    refine v_bipush (v := -6) C dX4_drop_25 rfl bp_m6 ?_
    refine v_icmp_ne C 33 dX4_drop_27 (by decide) rfl (fun h27 => ?_) (fun h27 => ?_)
    · skip
      refine v_aload_n C dX4_drop_33 rfl 0 1 rfl rfl ?_
      refine v_get C K in_X4_drop_X4 0 rfl rfl 3 (by decide) fl_X4_drop_X4_3 rfl dX4_drop_34 rfl ?_
      refine v_aload_n C dX4_drop_37 rfl 0 1 rfl rfl ?_
      refine v_get C K in_X4_drop_X4 0 rfl rfl 0 (by decide) fl_X4_drop_X4_0 rfl dX4_drop_38 rfl ?_
      refine v_callVvd C K (c_X2_record l D ad cI cC cZ cQ _ o ho ho6 h hh hle) gX4_drop_X2_record rfl hd_X2_record ⟨rfl, rfl⟩ ⟨Nat.le_of_ble_eq_true rfl, Nat.le_of_ble_eq_true rfl⟩ 10 rfl rfl rfl rfl rfl (Nat.le_of_ble_eq_true rfl) ⟨Nat.le_refl _, Nat.le_refl _⟩ dX4_drop_41 rfl ?_
      refine v_aload_n C dX4_drop_44 rfl 0 1 rfl rfl ?_
      refine v_get C K in_X4_drop_X4 0 rfl rfl 0 (by decide) fl_X4_drop_X4_0 rfl dX4_drop_45 rfl ?_
      refine v_iload_n C dX4_drop_48 rfl 3 0 rfl rfl ?_
      refine v_bipush (v := -6) C dX4_drop_49 rfl bp_m6 ?_
      refine v_callVid C K (c_X1_replaceShow l D ad cI cC cZ cQ _ (2 * d + q) (by omega) _) gX4_drop_X1_replaceShow rfl hd_X1_replaceShow ⟨rfl, rfl⟩ ⟨Nat.le_of_ble_eq_true rfl, Nat.le_of_ble_eq_true rfl⟩ 1 rfl rfl rfl rfl rfl (Nat.le_of_ble_eq_true rfl) ⟨Nat.le_refl _, Nat.le_refl _⟩ dX4_drop_51 rfl ?_
      exact hend (⟨fun _ => ⟨by rw [ek, hsM_0], h5, by rw [ek, hsM_0]⟩, fun q => absurd (by simp [q_dropE, h5, ek, h27]) q⟩) (rfl) dX4_drop_54
    · skip
      refine v_bipush (v := -5) C dX4_drop_30 rfl bp_m5 ?_
      exact hend (⟨fun q => absurd q (by simp [q_dropE, h5, ek, h27]), fun _ => ⟨by simp [q_dropE, h5, ek, h27], rfl⟩⟩) (rfl) dX4_drop_32
  · skip
    refine v_bipush (v := -2) C dX4_drop_8 rfl bp_m2 ?_
    exact hend (⟨fun q => absurd q (by simp [q_dropE, h5]), fun _ => ⟨by simp [q_dropE, h5], rfl⟩⟩) (rfl) dX4_drop_10
theorem wfH_ex {r : Nat → Int32} {n k k2 : Nat} (hw : wfH r n) (hk : k < 70) (hk2 : k2 < 70) : wfH (q_exR r k k2) n := wfH_upd (wfH_upd hw hk (hw.1.2.2 k2 hk2)) hk2 (hw.1.2.2 k hk)
theorem ex_rents (r : Nat → Int32) (k k2 : Nat) (hk : k < 70) (hk2 : k2 < 70) : sm9 (fun j => q_exR r k k2 (116 + (0 + j))) (35 - 0) = sm9 (fun j => r (116 + (0 + j))) (35 - 0) := sm9_congr (fun j _ => by rw [q_exR, upd_n _ _ (by omega), upd_n _ _ (by omega)])
theorem ex_gain {r : Nat → Int32} {n k k2 : Nat} (hw : wfH r n) (hk : k < 70) (hk2 : k2 < 70) : sm9 (c_sum (q_exR r k k2) 4) n - sm9 (c_sum r 4) n + 1000000 = q_left (q_exR r k k2) (-1) - q_left r (-1) + 1000000 := by
  rw [q_left_all hw.1, q_left_all (wfH_ex hw hk hk2).1, ex_rents r k k2 hk hk2]
  show sm9 (LF (q_exR r k k2)) n - sm9 (LF r) n + 1000000 = _
  grind
theorem hsM_cc {σ u : S9} (hs : cc9 σ u) (o h : Nat) : cc9 (hsM σ o h) (hsM u o h) := fun i hi => by
  rw [hsM, hsM, hs 8 (Or.inr (by decide)), hs 0 (Or.inl rfl), hs (10 + (o + h) % 6) (Or.inr (by omega))]
  by_cases e8 : i = 8
  · subst e8
    rw [st9_s, st9_s]
  · rw [st9_n _ _ e8, st9_n _ _ e8]
    by_cases e : i = 10 + (o + h) % 6
    · subst e
      rw [st9_s, st9_s]
    · rw [st9_n _ _ e, st9_n _ _ e]
      exact hs i hi
set_option maxHeartbeats 4000000 in
set_option maxRecDepth 100000 in
theorem c_X4_exchange (l : Launch) (D : va_G) (ad : Nat → Nat) (cI cC cZ cQ : ClassId) (σ : S9) (n : Nat) (hw : wfH (σ 0) n) (o : Nat) (ho : σ 8 0 = nI o) (ho6 : o < 6) (h : Nat) (hh : σ 8 1 = nI h) (hle : h ≤ 6) (d q d2 q2 : Int32) : CMi l (cW ad cI cC cZ cQ) D (cTy cI cC cZ cQ) yX4_exchange wsX4_exchange ({ frames := 6, cells := 0, slots := 0, locals := 144 } : Room) [.ref (ad 0), .int d, .int q, .int d2, .int q2] σ (fun r u => (q_exE (σ 0) d q d2 q2 = 0 → ¬ p_part d q = 0 ∧ ¬ p_part d2 q2 = 0 ∧ r = q_left (q_exR (σ 0) (q_k d q) (q_k d2 q2)) (-1) - q_left (σ 0) (-1) + 1000000 ∧ cc9 (st9 (hsM σ o h) 0 (q_exR (σ 0) (q_k d q) (q_k d2 q2))) u) ∧ (¬ q_exE (σ 0) d q d2 q2 = 0 → r = q_exE (σ 0) d q d2 q2 ∧ u = σ)) := by
  refine v_starti (own := RX4) (cc := cX4_exchange) (nL := 9) rfl (by decide) rfl (Nat.le_of_ble_eq_true rfl) ?_
  intro p e s m args below meth c A Q C K hend
  refine v_lv (lv' := [(0, .ref (ad 0)), (1, .int d), (2, .int q), (3, .int d2), (4, .int q2)]) [0, 1, 2, 3, 4] rfl ?_
  refine v_iload_n C dX4_exchange_0 rfl 1 1 rfl rfl ?_
  refine v_iload_n C dX4_exchange_1 rfl 2 2 rfl rfl ?_
  refine v_callSpd C (c_X4_isPlace l _ _) gX4_exchange_X4_isPlace rfl hd_X4_isPlace.2 ⟨rfl, rfl⟩ ⟨Nat.le_of_ble_eq_true rfl, Nat.le_of_ble_eq_true rfl⟩ rfl rfl (Nat.le_of_ble_eq_true rfl) ⟨Nat.le_refl _, Nat.le_refl _⟩ dX4_exchange_2 rfl ?_
  refine v_if_eq C 17 dX4_exchange_5 (by decide) rfl (fun h5 => ?_) (fun h5 => ?_)
  · skip
    refine v_bipush (v := -2) C dX4_exchange_17 rfl bp_m2 ?_
    exact hend (⟨fun q => absurd q (by simp [q_exE, h5]), fun _ => ⟨by simp [q_exE, h5], rfl⟩⟩) (rfl) dX4_exchange_19
  · skip
    refine v_iload_n C dX4_exchange_8 rfl 3 3 rfl rfl ?_
    refine v_iload C dX4_exchange_9 rfl 4 rfl ?_
    refine v_callSpd C (c_X4_isPlace l _ _) gX4_exchange_X4_isPlace rfl hd_X4_isPlace.2 ⟨rfl, rfl⟩ ⟨Nat.le_of_ble_eq_true rfl, Nat.le_of_ble_eq_true rfl⟩ rfl rfl (Nat.le_of_ble_eq_true rfl) ⟨Nat.le_refl _, Nat.le_refl _⟩ dX4_exchange_11 rfl ?_
    refine v_if_ne C 20 dX4_exchange_14 (by decide) rfl (fun h14 => ?_) (fun h14 => ?_)
    · skip
      obtain ⟨d, q, hd, hq, rfl, rfl⟩ := p_part_ne h5
      have ecd : (nI d).toNatClampNeg = d := nI_cl (by omega)
      have ecq : (nI q).toNatClampNeg = q := nI_cl (by omega)
      have ek : q_k (nI d) (nI q) = 2 * d + q := by rw [q_k, ecd, ecq]
      obtain ⟨d2, q2, hd2, hq2, rfl, rfl⟩ := p_part_ne h14
      have ecd2 : (nI d2).toNatClampNeg = d2 := nI_cl (by omega)
      have ecq2 : (nI q2).toNatClampNeg = q2 := nI_cl (by omega)
      have ek3 : q_k (nI d2) (nI q2) = 2 * d2 + q2 := by rw [q_k, ecd2, ecq2]
      refine v_iload_n C dX4_exchange_20 rfl 1 1 rfl rfl ?_
      refine v_iload_n C dX4_exchange_21 rfl 2 2 rfl rfl ?_
      refine v_callSpd C (c_X4_placeOf l _ _) gX4_exchange_X4_placeOf rfl hd_X4_placeOf.2 ⟨rfl, rfl⟩ ⟨Nat.le_of_ble_eq_true rfl, Nat.le_of_ble_eq_true rfl⟩ rfl rfl (Nat.le_of_ble_eq_true rfl) ⟨Nat.le_refl _, Nat.le_refl _⟩ dX4_exchange_22 rfl ?_
      refine v_istore (lv' := [(5, _), (0, _), (1, _), (2, _), (3, _), (4, _)]) C dX4_exchange_25 rfl (by decide) rfl ?_
      refine v_iload_n C dX4_exchange_27 rfl 3 4 rfl rfl ?_
      refine v_iload C dX4_exchange_28 rfl 5 rfl ?_
      refine v_callSpd C (c_X4_placeOf l _ _) gX4_exchange_X4_placeOf rfl hd_X4_placeOf.2 ⟨rfl, rfl⟩ ⟨Nat.le_of_ble_eq_true rfl, Nat.le_of_ble_eq_true rfl⟩ rfl rfl (Nat.le_of_ble_eq_true rfl) ⟨Nat.le_refl _, Nat.le_refl _⟩ dX4_exchange_30 rfl ?_
      refine v_istore (lv' := [(6, _), (5, _), (0, _), (1, _), (2, _), (3, _), (4, _)]) C dX4_exchange_33 rfl (by decide) rfl ?_
      refine v_aload_n C dX4_exchange_35 rfl 0 2 rfl rfl ?_
      refine v_get C K in_X4_exchange_X4 0 rfl rfl 0 (by decide) fl_X4_exchange_X4_0 rfl dX4_exchange_36 rfl ?_
      refine v_iload_n C dX4_exchange_39 rfl 3 5 rfl rfl ?_
      refine v_aload_n C dX4_exchange_40 rfl 0 2 rfl rfl ?_
      refine v_get C K in_X4_exchange_X4 0 rfl rfl 0 (by decide) fl_X4_exchange_X4_0 rfl dX4_exchange_41 rfl ?_
      refine v_iload C dX4_exchange_44 rfl 1 rfl ?_
      refine v_callVid C K (c_X1_showAt l D ad cI cC cZ cQ _ (2 * d + q) (by omega)) gX4_exchange_X1_showAt rfl hd_X1_showAt ⟨rfl, rfl⟩ ⟨Nat.le_of_ble_eq_true rfl, Nat.le_of_ble_eq_true rfl⟩ 1 rfl rfl rfl rfl rfl (Nat.le_of_ble_eq_true rfl) ⟨Nat.le_refl _, Nat.le_refl _⟩ dX4_exchange_46 rfl ?_
      refine v_callVid C K (c_X1_canHold l D ad cI cC cZ cQ _ n hw.1 d2 hd2 _) gX4_exchange_X1_canHold rfl hd_X1_canHold ⟨rfl, rfl⟩ ⟨Nat.le_of_ble_eq_true rfl, Nat.le_of_ble_eq_true rfl⟩ 1 rfl rfl rfl rfl rfl (Nat.le_of_ble_eq_true rfl) ⟨Nat.le_refl _, Nat.le_refl _⟩ dX4_exchange_49 rfl ?_
      refine v_top (p_canBe (σ 0) (σ 0 (46 + (2 * d + q))) d2) (can_be hw hd2 (hw.1.2.2 _ (by omega))) ?_
      refine v_if_eq C 75 dX4_exchange_52 (by decide) rfl (fun h52 => ?_) (fun h52 => ?_)
      · skip
        refine v_bipush (v := -5) C dX4_exchange_75 rfl bp_m5 ?_
        exact hend (⟨fun q => absurd q (by simp [q_exE, ek, ek3, ecd, ecd2, h5, h14, h52]), fun _ => ⟨by simp [q_exE, ek, ek3, ecd, ecd2, h5, h14, h52], rfl⟩⟩) (rfl) dX4_exchange_77
      · skip
        refine v_aload_n C dX4_exchange_55 rfl 0 2 rfl rfl ?_
        refine v_get C K in_X4_exchange_X4 0 rfl rfl 0 (by decide) fl_X4_exchange_X4_0 rfl dX4_exchange_56 rfl ?_
        refine v_iload_n C dX4_exchange_59 rfl 1 3 rfl rfl ?_
        refine v_aload_n C dX4_exchange_60 rfl 0 2 rfl rfl ?_
        refine v_get C K in_X4_exchange_X4 0 rfl rfl 0 (by decide) fl_X4_exchange_X4_0 rfl dX4_exchange_61 rfl ?_
        refine v_iload C dX4_exchange_64 rfl 0 rfl ?_
        refine v_callVid C K (c_X1_showAt l D ad cI cC cZ cQ _ (2 * d2 + q2) (by omega)) gX4_exchange_X1_showAt rfl hd_X1_showAt ⟨rfl, rfl⟩ ⟨Nat.le_of_ble_eq_true rfl, Nat.le_of_ble_eq_true rfl⟩ 1 rfl rfl rfl rfl rfl (Nat.le_of_ble_eq_true rfl) ⟨Nat.le_refl _, Nat.le_refl _⟩ dX4_exchange_66 rfl ?_
        refine v_callVid C K (c_X1_canHold l D ad cI cC cZ cQ _ n hw.1 d hd _) gX4_exchange_X1_canHold rfl hd_X1_canHold ⟨rfl, rfl⟩ ⟨Nat.le_of_ble_eq_true rfl, Nat.le_of_ble_eq_true rfl⟩ 1 rfl rfl rfl rfl rfl (Nat.le_of_ble_eq_true rfl) ⟨Nat.le_refl _, Nat.le_refl _⟩ dX4_exchange_69 rfl ?_
        refine v_top (p_canBe (σ 0) (σ 0 (46 + (2 * d2 + q2))) d) (can_be hw hd (hw.1.2.2 _ (by omega))) ?_
        refine v_if_ne C 78 dX4_exchange_72 (by decide) rfl (fun h72 => ?_) (fun h72 => ?_)
        · skip
          refine v_aload_n C dX4_exchange_78 rfl 0 2 rfl rfl ?_
          refine v_iconst (v := 4) C dX4_exchange_79 rfl ic_4 ?_
          refine v_callVi C K (c_X4_sumOfFilms l D ad cI cC cZ cQ _ n hw 4 (by decide)) gX4_exchange_X4_sumOfFilms rfl hd_X4_sumOfFilms ⟨rfl, rfl⟩ ⟨Nat.le_of_ble_eq_true rfl, Nat.le_of_ble_eq_true rfl⟩ 0 rfl rfl rfl rfl rfl (Nat.le_of_ble_eq_true rfl) ⟨Nat.le_refl _, Nat.le_refl _⟩ dX4_exchange_80 rfl (fun r80 u80 hc80 => ?_)
          obtain ⟨rfl, hs⟩ := hc80
          refine v_istore (lv' := [(7, _), (6, _), (5, _), (0, _), (1, _), (2, _), (3, _), (4, _)]) C dX4_exchange_83 rfl (by decide) rfl ?_
          refine v_aload_n C dX4_exchange_85 rfl 0 3 rfl rfl ?_
          refine v_get C K in_X4_exchange_X4 0 rfl rfl 3 (by decide) fl_X4_exchange_X4_3 rfl dX4_exchange_86 rfl ?_
          refine v_aload_n C dX4_exchange_89 rfl 0 3 rfl rfl ?_
          refine v_get C K in_X4_exchange_X4 0 rfl rfl 0 (by decide) fl_X4_exchange_X4_0 rfl dX4_exchange_90 rfl ?_
          refine v_callVvd C K (c_X2_record l D ad cI cC cZ cQ _ o (by rw [hs 8 (Or.inr (by decide))]; exact ho) ho6 h (by rw [hs 8 (Or.inr (by decide))]; exact hh) hle) gX4_exchange_X2_record rfl hd_X2_record ⟨rfl, rfl⟩ ⟨Nat.le_of_ble_eq_true rfl, Nat.le_of_ble_eq_true rfl⟩ 10 rfl rfl rfl rfl rfl (Nat.le_of_ble_eq_true rfl) ⟨Nat.le_refl _, Nat.le_refl _⟩ dX4_exchange_93 rfl ?_
          refine v_aload_n C dX4_exchange_96 rfl 0 3 rfl rfl ?_
          refine v_get C K in_X4_exchange_X4 0 rfl rfl 0 (by decide) fl_X4_exchange_X4_0 rfl dX4_exchange_97 rfl ?_
          refine v_iload C dX4_exchange_100 rfl 2 rfl ?_
          refine v_aload_n C dX4_exchange_102 rfl 0 3 rfl rfl ?_
          refine v_get C K in_X4_exchange_X4 0 rfl rfl 0 (by decide) fl_X4_exchange_X4_0 rfl dX4_exchange_103 rfl ?_
          refine v_iload C dX4_exchange_106 rfl 1 rfl ?_
          refine v_callVid C K (c_X1_showAt l D ad cI cC cZ cQ _ (2 * d2 + q2) (by omega)) gX4_exchange_X1_showAt rfl hd_X1_showAt ⟨rfl, rfl⟩ ⟨Nat.le_of_ble_eq_true rfl, Nat.le_of_ble_eq_true rfl⟩ 1 rfl rfl rfl rfl rfl (Nat.le_of_ble_eq_true rfl) ⟨Nat.le_refl _, Nat.le_refl _⟩ dX4_exchange_108 rfl ?_
          refine v_callVid C K (c_X1_replaceShow l D ad cI cC cZ cQ _ (2 * d + q) (by omega) _) gX4_exchange_X1_replaceShow rfl hd_X1_replaceShow ⟨rfl, rfl⟩ ⟨Nat.le_of_ble_eq_true rfl, Nat.le_of_ble_eq_true rfl⟩ 1 rfl rfl rfl rfl rfl (Nat.le_of_ble_eq_true rfl) ⟨Nat.le_refl _, Nat.le_refl _⟩ dX4_exchange_111 rfl ?_
          refine v_istore (lv' := [(8, _), (7, _), (6, _), (5, _), (0, _), (1, _), (2, _), (3, _), (4, _)]) C dX4_exchange_114 rfl (by decide) rfl ?_
          refine v_aload_n C dX4_exchange_116 rfl 0 4 rfl rfl ?_
          refine v_get C K in_X4_exchange_X4 0 rfl rfl 0 (by decide) fl_X4_exchange_X4_0 rfl dX4_exchange_117 rfl ?_
          refine v_iload C dX4_exchange_120 rfl 2 rfl ?_
          refine v_iload C dX4_exchange_122 rfl 0 rfl ?_
          refine v_callVid C K (c_X1_replaceShow l D ad cI cC cZ cQ _ (2 * d2 + q2) (by omega) _) gX4_exchange_X1_replaceShow rfl hd_X1_replaceShow ⟨rfl, rfl⟩ ⟨Nat.le_of_ble_eq_true rfl, Nat.le_of_ble_eq_true rfl⟩ 1 rfl rfl rfl rfl rfl (Nat.le_of_ble_eq_true rfl) ⟨Nat.le_refl _, Nat.le_refl _⟩ dX4_exchange_124 rfl ?_
          have hX : st9 (st9 (hsM u80 o h) 0 (upd (hsM u80 o h 0) (46 + (2 * d + q)) (hsM u80 o h 0 (46 + (2 * d2 + q2))))) 0 (upd (st9 (hsM u80 o h) 0 (upd (hsM u80 o h 0) (46 + (2 * d + q)) (hsM u80 o h 0 (46 + (2 * d2 + q2)))) 0) (46 + (2 * d2 + q2)) (hsM u80 o h 0 (46 + (2 * d + q)))) 0 = q_exR (σ 0) (2 * d + q) (2 * d2 + q2) := by
            rw [st9_s, st9_s, hsM_0, cc9_0 hs]
            rfl
          refine v_pop C dX4_exchange_127 rfl rfl ?_
          refine v_aload_n C dX4_exchange_128 rfl 0 4 rfl rfl ?_
          refine v_iconst (v := 4) C dX4_exchange_129 rfl ic_4 ?_
          refine v_callVi C K (c_X4_sumOfFilms l D ad cI cC cZ cQ _ n (by rw [hX]; exact wfH_ex hw (by omega) (by omega)) 4 (by decide)) gX4_exchange_X4_sumOfFilms rfl hd_X4_sumOfFilms ⟨rfl, rfl⟩ ⟨Nat.le_of_ble_eq_true rfl, Nat.le_of_ble_eq_true rfl⟩ 0 rfl rfl rfl rfl rfl (Nat.le_of_ble_eq_true rfl) ⟨Nat.le_refl _, Nat.le_refl _⟩ dX4_exchange_130 rfl (fun r130 u130 hc130 => ?_)
          obtain ⟨rfl, hs2⟩ := hc130
          rw [hX]
          refine v_iload C dX4_exchange_133 rfl 1 rfl ?_
          refine v_isub C dX4_exchange_135 rfl ?_
          refine v_ldc C dX4_exchange_136 rfl ct_X4_exchange_101 ?_
          refine v_iadd C dX4_exchange_138 rfl ?_
          exact hend (⟨fun _ => ⟨h5, h14, by rw [ek, ek3]; exact ex_gain hw (by omega) (by omega), by
      rw [ek, ek3]
      intro i hi
      rw [hs2 i hi]
      by_cases e : i = 0
      · subst e
        rw [hX, st9_s]
      · rw [st9_n _ _ e, st9_n _ _ e, st9_n _ _ e]
        exact hsM_cc hs o h i hi⟩, fun q => absurd (by simp [q_exE, ek, ek3, ecd, ecd2, h5, h14, h52, h72]) q⟩) (rfl) dX4_exchange_139
        · skip
          refine v_bipush (v := -5) C dX4_exchange_75 rfl bp_m5 ?_
          exact hend (⟨fun q => absurd q (by simp [q_exE, ek, ek3, ecd, ecd2, h5, h14, h52, h72]), fun _ => ⟨by simp [q_exE, ek, ek3, ecd, ecd2, h5, h14, h52, h72], rfl⟩⟩) (rfl) dX4_exchange_77
    · skip
      refine v_bipush (v := -2) C dX4_exchange_17 rfl bp_m2 ?_
      exact hend (⟨fun q => absurd q (by simp [q_exE, h5, h14]), fun _ => ⟨by simp [q_exE, h5, h14], rfl⟩⟩) (rfl) dX4_exchange_19
set_option maxHeartbeats 4000000 in
set_option maxRecDepth 100000 in
theorem c_X4_dropShowsOfDay (l : Launch) (D : va_G) (ad : Nat → Nat) (cI cC cZ cQ : ClassId) (σ : S9) (d : Nat) (hd : d < 35) : CMi l (cW ad cI cC cZ cQ) D (cTy cI cC cZ cQ) yX4_dropShowsOfDay wsX4_dropShowsOfDay ({ frames := 1, cells := 0, slots := 0, locals := 23 } : Room) [.ref (ad 0), .int (nI d)] σ (fun r u => r = sm9 (q_lt (σ 0) d) 2 ∧ u = st9 σ 0 (ltF (σ 0) d 2)) := by
  refine v_starti (own := RX4) (cc := cX4_dropShowsOfDay) (nL := 4) rfl (by decide) rfl (Nat.le_of_ble_eq_true rfl) ?_
  intro p e s m args below meth c A Q C K hend
  refine v_lv (lv' := [(0, .ref (ad 0)), (1, .int (nI d))]) [0, 1] rfl ?_
  refine v_iconst (v := 0) C dX4_dropShowsOfDay_0 rfl ic_0 ?_
  refine v_istore_n (lv' := [(2, _), (0, _), (1, _)]) C dX4_dropShowsOfDay_1 rfl 2 rfl (by decide) rfl ?_
  refine v_iconst (v := 0) C dX4_dropShowsOfDay_2 rfl ic_0 ?_
  refine v_istore_n (lv' := [(3, _), (2, _), (0, _), (1, _)]) C dX4_dropShowsOfDay_3 rfl 3 rfl (by decide) rfl ?_
  have LP4 : ∀ j, j ≤ 2 → VV p l e ({ frames := 1, cells := 0, slots := 0, locals := 23 } : Room) s m args below meth c 0 0 Q (cW ad cI cC cZ cQ) D A s.heap 4 (st9 σ 0 (ltF (σ 0) d j)) 4 [(0, .ref (ad 0)), (1, .int (nI d)), (2, .int (sm9 (q_lt (σ 0) d) j)), (3, .int (nI j))] [] := by
    refine lpB9 (fun j => VV p l e ({ frames := 1, cells := 0, slots := 0, locals := 23 } : Room) s m args below meth c 0 0 Q (cW ad cI cC cZ cQ) D A s.heap 4 (st9 σ 0 (ltF (σ 0) d j)) 4 [(0, .ref (ad 0)), (1, .int (nI d)), (2, .int (sm9 (q_lt (σ 0) d) j)), (3, .int (nI j))] []) 2 (fun j hj ih => ?_) ?_
    · skip
      refine v_iload_n C dX4_dropShowsOfDay_4 rfl 3 3 rfl rfl ?_
      refine v_iconst (v := 2) C dX4_dropShowsOfDay_5 rfl ic_2 ?_
      refine v_icmp_ge C 37 dX4_dropShowsOfDay_6 (by decide) rfl (fun h9 => absurd h9 (nI_ge hj (by decide))) (fun _ => ?_)
      refine v_aload_n C dX4_dropShowsOfDay_9 rfl 0 0 rfl rfl ?_
      refine v_get C K in_X4_dropShowsOfDay_X4 0 rfl rfl 0 (by decide) fl_X4_dropShowsOfDay_X4_0 rfl dX4_dropShowsOfDay_10 rfl ?_
      refine v_iload_n C dX4_dropShowsOfDay_13 rfl 1 1 rfl rfl ?_
      refine v_iload_n C dX4_dropShowsOfDay_14 rfl 3 3 rfl rfl ?_
      refine v_callSpd C (c_X4_placeOf l _ _) gX4_dropShowsOfDay_X4_placeOf rfl hd_X4_placeOf.2 ⟨rfl, rfl⟩ ⟨Nat.le_of_ble_eq_true rfl, Nat.le_of_ble_eq_true rfl⟩ rfl rfl (Nat.le_of_ble_eq_true rfl) ⟨Nat.le_refl _, Nat.le_refl _⟩ dX4_dropShowsOfDay_15 rfl ?_
      refine v_bipush (v := -6) C dX4_dropShowsOfDay_18 rfl bp_m6 ?_
      refine v_callVid C K (c_X1_replaceShow l D ad cI cC cZ cQ _ (2 * d + j) (by omega) _) gX4_dropShowsOfDay_X1_replaceShow rfl hd_X1_replaceShow ⟨rfl, rfl⟩ ⟨Nat.le_of_ble_eq_true rfl, Nat.le_of_ble_eq_true rfl⟩ 1 rfl rfl rfl rfl rfl (Nat.le_of_ble_eq_true rfl) ⟨Nat.le_refl _, Nat.le_refl _⟩ dX4_dropShowsOfDay_20 rfl ?_
      refine v_top (σ 0 (46 + 2 * d + j)) (by rw [st9_s, ← Nat.add_assoc, ltF_n _ _ _ _ (Nat.le_refl _)]) ?_
      refine v_bipush (v := -6) C dX4_dropShowsOfDay_23 rfl bp_m6 ?_
      refine v_icmp_eq C 31 dX4_dropShowsOfDay_25 (by decide) rfl (fun h25 => ?_) (fun h25 => ?_)
      · skip
        refine v_iinc (lv' := [(3, _), (0, _), (1, _), (2, _)]) C dX4_dropShowsOfDay_31 rfl 3 rfl (inc9 _) (by decide) rfl ?_
        refine v_goto C 4 dX4_dropShowsOfDay_34 (by decide) ?_
        refine v_lv (lv' := [(0, _), (1, _), (2, _), (3, _)]) [1, 2, 3, 0] rfl ?_
        exact v9cast ih (by rw [st9_tw, st9_s, ltF, Nat.add_assoc]) (by simp [sm9, q_lt, h25]) rfl
      · skip
        refine v_iinc (lv' := [(2, _), (0, _), (1, _), (3, _)]) C dX4_dropShowsOfDay_28 rfl 2 rfl (show _ = sm9 (q_lt (σ 0) d) j + 1 from rfl) (by decide) rfl ?_
        refine v_iinc (lv' := [(3, _), (2, _), (0, _), (1, _)]) C dX4_dropShowsOfDay_31 rfl 3 rfl (inc9 _) (by decide) rfl ?_
        refine v_goto C 4 dX4_dropShowsOfDay_34 (by decide) ?_
        refine v_lv (lv' := [(0, _), (1, _), (2, _), (3, _)]) [2, 3, 1, 0] rfl ?_
        exact v9cast ih (by rw [st9_tw, st9_s, ltF, Nat.add_assoc]) (by simp [sm9, q_lt, h25]) rfl
    · skip
      refine v_iload_n C dX4_dropShowsOfDay_4 rfl 3 3 rfl rfl ?_
      refine v_iconst (v := 2) C dX4_dropShowsOfDay_5 rfl ic_2 ?_
      refine v_icmp_ge C 37 dX4_dropShowsOfDay_6 (by decide) rfl (fun _ => ?_) (fun h9 => absurd (nI_le (Nat.le_refl _) (by decide)) h9)
      refine v_iload_n C dX4_dropShowsOfDay_37 rfl 2 2 rfl rfl ?_
      exact hend (⟨rfl, rfl⟩) (rfl) dX4_dropShowsOfDay_38
  refine v_lv (lv' := [(0, _), (1, _), (2, _), (3, _)]) [2, 3, 1, 0] rfl ?_
  exact v9cast (LP4 0 (by omega)) (st9_id σ 0).symm rfl rfl
theorem let_comm (r : Nat → Int32) {d : Nat} (hd : d < 35) (v : Int32) : ltF (upd r (116 + d) v) d 2 = upd (ltF r d 2) (116 + d) v := by
  funext i
  show upd (upd (upd r (116 + d) v) (46 + 2 * d + 0) (-6)) (46 + 2 * d + 1) (-6) i = upd (upd (upd r (46 + 2 * d + 0) (-6)) (46 + 2 * d + 1) (-6)) (116 + d) v i
  by_cases e3 : i = 116 + d
  · subst e3
    rw [upd_s, upd_n _ _ (by omega), upd_n _ _ (by omega), upd_s]
  · rw [upd_n _ _ e3]
    by_cases e1 : i = 46 + 2 * d + 1
    · subst e1
      rw [upd_s, upd_s]
    · rw [upd_n _ _ e1, upd_n _ _ e1]
      by_cases e2 : i = 46 + 2 * d + 0
      · subst e2
        rw [upd_s, upd_s]
      · rw [upd_n _ _ e2, upd_n _ _ e2, upd_n _ _ e3]
theorem lt_same (r : Nat → Int32) {d : Nat} (hd : d < 35) (v : Int32) : sm9 (q_lt (upd r (116 + d) v) d) 2 = sm9 (q_lt r d) 2 := sm9_congr (fun j hj => by
  unfold q_lt
  rw [upd_n _ _ (by omega)])
set_option maxHeartbeats 4000000 in
set_option maxRecDepth 100000 in
theorem c_X4_let (l : Launch) (D : va_G) (ad : Nat → Nat) (cI cC cZ cQ : ClassId) (σ : S9) (o : Nat) (ho : σ 8 0 = nI o) (ho6 : o < 6) (h : Nat) (hh : σ 8 1 = nI h) (hle : h ≤ 6) (d v : Int32) : CMi l (cW ad cI cC cZ cQ) D (cTy cI cC cZ cQ) yX4_let wsX4_let ({ frames := 3, cells := 0, slots := 0, locals := 68 } : Room) [.ref (ad 0), .int d, .int v] σ (fun r u => (q_letE d v = 0 → ¬ p_in d 0 34 = 0 ∧ ¬ p_in v 0 999 = 0 ∧ r = (if v ≤ 0 then 0 else sm9 (q_lt (σ 0) d.toNatClampNeg) 2) ∧ u = st9 (hsM σ o h) 0 (q_letR (σ 0) d.toNatClampNeg v)) ∧ (¬ q_letE d v = 0 → r = q_letE d v ∧ u = σ)) := by
  refine v_starti (own := RX4) (cc := cX4_let) (nL := 3) rfl (by decide) rfl (Nat.le_of_ble_eq_true rfl) ?_
  intro p e s m args below meth c A Q C K hend
  refine v_lv (lv' := [(0, .ref (ad 0)), (1, .int d), (2, .int v)]) [0, 1, 2] rfl ?_
  refine v_iload_n C dX4_let_0 rfl 1 1 rfl rfl ?_
  refine v_callSpd C (c_X4_isDay l _) gX4_let_X4_isDay rfl hd_X4_isDay.2 ⟨rfl, rfl⟩ ⟨Nat.le_of_ble_eq_true rfl, Nat.le_of_ble_eq_true rfl⟩ rfl rfl (Nat.le_of_ble_eq_true rfl) ⟨Nat.le_refl _, Nat.le_refl _⟩ dX4_let_1 rfl ?_
  refine v_if_eq C 18 dX4_let_4 (by decide) rfl (fun h4 => ?_) (fun h4 => ?_)
  · skip
    refine v_bipush (v := -2) C dX4_let_18 rfl bp_m2 ?_
    exact hend (⟨fun q => absurd q (by simp [q_letE, h4]), fun _ => ⟨by simp [q_letE, h4], rfl⟩⟩) (rfl) dX4_let_20
  · skip
    refine v_iload_n C dX4_let_7 rfl 2 2 rfl rfl ?_
    refine v_iconst (v := 0) C dX4_let_8 rfl ic_0 ?_
    refine v_sipush (v := 999) C dX4_let_9 rfl sp_999 ?_
    refine v_callSpd C (c_X4_isWithin l _ _ _) gX4_let_X4_isWithin rfl hd_X4_isWithin.2 ⟨rfl, rfl⟩ ⟨Nat.le_of_ble_eq_true rfl, Nat.le_of_ble_eq_true rfl⟩ rfl rfl (Nat.le_of_ble_eq_true rfl) ⟨Nat.le_refl _, Nat.le_refl _⟩ dX4_let_12 rfl ?_
    refine v_if_ne C 21 dX4_let_15 (by decide) rfl (fun h15 => ?_) (fun h15 => ?_)
    · skip
      obtain ⟨d, hd, rfl⟩ := p_in_nI (n := 34) (by decide) h4
      replace hd : d < 35 := by omega
      have ecd : (nI d).toNatClampNeg = d := nI_cl (by omega)
      refine v_aload_n C dX4_let_21 rfl 0 0 rfl rfl ?_
      refine v_get C K in_X4_let_X4 0 rfl rfl 3 (by decide) fl_X4_let_X4_3 rfl dX4_let_22 rfl ?_
      refine v_aload_n C dX4_let_25 rfl 0 0 rfl rfl ?_
      refine v_get C K in_X4_let_X4 0 rfl rfl 0 (by decide) fl_X4_let_X4_0 rfl dX4_let_26 rfl ?_
      refine v_callVvd C K (c_X2_record l D ad cI cC cZ cQ _ o ho ho6 h hh hle) gX4_let_X2_record rfl hd_X2_record ⟨rfl, rfl⟩ ⟨Nat.le_of_ble_eq_true rfl, Nat.le_of_ble_eq_true rfl⟩ 10 rfl rfl rfl rfl rfl (Nat.le_of_ble_eq_true rfl) ⟨Nat.le_refl _, Nat.le_refl _⟩ dX4_let_29 rfl ?_
      refine v_aload_n C dX4_let_32 rfl 0 0 rfl rfl ?_
      refine v_get C K in_X4_let_X4 0 rfl rfl 0 (by decide) fl_X4_let_X4_0 rfl dX4_let_33 rfl ?_
      refine v_iload_n C dX4_let_36 rfl 1 1 rfl rfl ?_
      refine v_iload_n C dX4_let_37 rfl 2 2 rfl rfl ?_
      refine v_callVvd C K (c_X1_changeRent l D ad cI cC cZ cQ _ d hd _) gX4_let_X1_changeRent rfl hd_X1_changeRent ⟨rfl, rfl⟩ ⟨Nat.le_of_ble_eq_true rfl, Nat.le_of_ble_eq_true rfl⟩ 1 rfl rfl rfl rfl rfl (Nat.le_of_ble_eq_true rfl) ⟨Nat.le_refl _, Nat.le_refl _⟩ dX4_let_38 rfl ?_
      refine v_iload_n C dX4_let_41 rfl 2 2 rfl rfl ?_
      refine v_if_ne C 49 dX4_let_42 (by decide) rfl (fun h42t => ?_) (fun h42 => ?_)
      · skip
        have hv : ¬ v ≤ 0 := fun e => h42t (Int32.le_antisymm e (p_in_ne h15).1)
        refine v_aload_n C dX4_let_49 rfl 0 0 rfl rfl ?_
        refine v_iload_n C dX4_let_50 rfl 1 1 rfl rfl ?_
        refine v_callVid C K (c_X4_dropShowsOfDay l D ad cI cC cZ cQ _ d hd) gX4_let_X4_dropShowsOfDay rfl hd_X4_dropShowsOfDay ⟨rfl, rfl⟩ ⟨Nat.le_of_ble_eq_true rfl, Nat.le_of_ble_eq_true rfl⟩ 0 rfl rfl rfl rfl rfl (Nat.le_of_ble_eq_true rfl) ⟨Nat.le_refl _, Nat.le_refl _⟩ dX4_let_51 rfl ?_
        exact hend (⟨fun _ => ⟨h4, h15, by rw [if_neg hv, ecd, st9_s, hsM_0, lt_same _ hd], by rw [ecd, q_letR, if_neg hv, st9_tw, st9_s, hsM_0, let_comm _ hd]⟩, fun q => absurd (by simp [q_letE, h4, h15]) q⟩) (rfl) dX4_let_54
      · skip
        have hv : v ≤ 0 := by rw [h42]; decide
        refine v_iconst (v := 0) C dX4_let_45 rfl ic_0 ?_
        refine v_goto C 54 dX4_let_46 (by decide) ?_
        exact hend (⟨fun _ => ⟨h4, h15, by rw [if_pos hv], by rw [ecd, q_letR, if_pos hv, hsM_0]⟩, fun q => absurd (by simp [q_letE, h4, h15]) q⟩) (rfl) dX4_let_54
    · skip
      refine v_bipush (v := -2) C dX4_let_18 rfl bp_m2 ?_
      exact hend (⟨fun q => absurd q (by simp [q_letE, h4, h15]), fun _ => ⟨by simp [q_letE, h4, h15], rfl⟩⟩) (rfl) dX4_let_20
def c_savS (σ : S9) (s : Nat) : S9 := st9 (st9 σ (10 + (6 + s)) (va_cpy (σ 0) (σ (10 + (6 + s))) 0 0 151)) 9 (upd (σ 9) s 1)
def c_resE (σ : S9) (s : Int32) : Int32 := if p_in s 0 1 = 0 then -2 else if σ 9 s.toNatClampNeg = 0 then -5 else 0
end
section
/-! ===== static rows: the class's own tables of least, most and first settings ===== -/
/-- a static array of ints that nobody writes: the static, the row behind it, its length -/
def z9 (C n d : String) (t N : Nat) (f : Nat → Int32) (A : Nat → Prop) (U : State) (H : Heap) : Prop := va_Z C n d (.ref t) A U H ∧ va_T .int t N (fun j => .int (f j)) A U H ∧ va_X t N f U H
theorem z9.moved {C n d : String} {t N : Nat} {f : Nat → Int32} {A : Nat → Prop} {u U : State} {H : Heap} (hvm : u.vm.Alike U.vm) (h : z9 C n d t N f A u H) : z9 C n d t N f A U H := ⟨va_Z.moved hvm h.1, va_T.moved hvm h.2.1, va_X.moved hvm h.2.2⟩
theorem z9.kept {C n d : String} {t N : Nat} {f : Nat → Int32} {A : Nat → Prop} {U : State} {H H1 : Heap} (h : z9 C n d t N f A U H) (hq : ∀ a : Nat, a < H.size → ¬ A a → H1[a]? = H[a]?) : z9 C n d t N f A U H1 := by
  refine ⟨h.1.kept hq, h.2.1.kept hq, h.2.2.kept ?_⟩
  obtain ⟨cell, h1, h2, h3, h4, h5, h6, h7⟩ := h.2.1
  exact hq t (Array.getElem?_eq_some_iff.mp h1).1 h7
theorem z9.narrow {C n d : String} {t N : Nat} {f : Nat → Int32} {A B : Nat → Prop} {U : State} {H : Heap} (h : z9 C n d t N f A U H) (hAB : ∀ q, B q → A q) : z9 C n d t N f B U H := ⟨h.1.narrow hAB, h.2.1.narrow hAB, h.2.2⟩
def lsF : Nat → Int32 := fun j => ([10, 1, 0, 1, 1] : List Int32).getD j 0
def msF : Nat → Int32 := fun j => ([300, 20, 200, 100, 100] : List Int32).getD j 0
def fsF : Nat → Int32 := fun j => ([80, 6, 30, 40, 20] : List Int32).getD j 0
def zS (tl tm tf : Nat) (A : Nat → Prop) (U : State) (H : Heap) : Prop := z9 "VillageCinema" "LEAST_SETTING" "[I" tl 5 lsF A U H ∧ z9 "VillageCinema" "MOST_SETTING" "[I" tm 5 msF A U H ∧ z9 "VillageCinema" "FIRST_SETTING" "[I" tf 5 fsF A U H
theorem zS.moved {tl tm tf : Nat} {A : Nat → Prop} {u U : State} {H : Heap} (hvm : u.vm.Alike U.vm) (h : zS tl tm tf A u H) : zS tl tm tf A U H := ⟨h.1.moved hvm, h.2.1.moved hvm, h.2.2.moved hvm⟩
theorem zS.kept {tl tm tf : Nat} {A : Nat → Prop} {U : State} {H H1 : Heap} (h : zS tl tm tf A U H) (hq : ∀ a : Nat, a < H.size → ¬ A a → H1[a]? = H[a]?) : zS tl tm tf A U H1 := ⟨h.1.kept hq, h.2.1.kept hq, h.2.2.kept hq⟩
theorem zS.narrow {tl tm tf : Nat} {A B : Nat → Prop} {U : State} {H : Heap} (h : zS tl tm tf A U H) (hAB : ∀ q, B q → A q) : zS tl tm tf B U H := ⟨h.1.narrow hAB, h.2.1.narrow hAB, h.2.2.narrow hAB⟩
def zE (tl tm tf : Nat) (A : Nat → Prop) (U : State) : Prop := zS tl tm tf A U U.heap
def CMiE {τ : Type} (l : Launch) (w : τ → va_W) (D : va_G) (tys : List (ClassId × FieldType)) (y : MethodName) (ws : List Cond) (rm : Room) (As : List Value) (σ : τ) (tl tm tf : Nat) (post : Int32 → τ → Prop) : Prop :=
  ∀ sz : Nat, Met l y ws rm (va_Pc As (fun U => U.heap.size = sz ∧ v9_world D w tys (fun _ => True) σ U ∧ zE tl tm tf (va_A (w σ) sz) U)) (va_Qi post (v9_world D w tys (va_A (w σ) sz)) (va_A (w σ) sz)) 0 0 (va_A (w σ) sz)
theorem v9_blindE {τ : Type} {D : va_G} {w : τ → va_W} {tys : List (ClassId × FieldType)} {As : List Value} {σ : τ} {sz tl tm tf : Nat} {A : Nat → Prop} : FrameBlind (va_Pc As (fun U => U.heap.size = sz ∧ v9_world D w tys (fun _ => True) σ U ∧ zE tl tm tf A U)) := fun a U g mk q => by
  obtain ⟨q0, q1, ⟨qP, qK, qD⟩, qE⟩ := q
  exact ⟨q0, q1, ⟨qP, va_K.moved (u := U) (U := U.calling g mk a) (Vm.Alike.refl U.vm) qK, qD⟩, zS.moved (u := U) (U := U.calling g mk a) (Vm.Alike.refl U.vm) qE⟩
section V9E
variable {p : Program} {l : Launch} {e : Env} {R : Room} {s : State} {m : MethodId} {args : Array Value} {below : List Frame} {meth : Method} {c : Code} {cells slots : Nat} {Q : State → Prop}
variable {τ : Type} {w : τ → va_W} {D : va_G} {A : Nat → Prop} {H0 : Heap} {nL : Nat} {cc : ByteArray} {Ts : List Cond} {own : String} {tys : List (ClassId × FieldType)} {σ : τ} {pc pc' : Nat} {lv lv' : List (Nat × Value)} {st rest : List Value}
theorem v_gets (C : CX p m c cc nL s args Ts own A s.heap) {Cn n d : String} {v : Value} {index : Nat} (hZ : va_Z Cn n d v A s s.heap) (hm : Cond.fieldLink own index Cn n d ∈ Ts) (hdg : decode cc pc = .ok (.getstatic index, 3)) (hp : pc + 3 = pc') (kk : VV p l e R s m args below meth c cells slots Q w D A s.heap nL σ pc' lv (v :: st)) : VV p l e R s m args below meth c cells slots Q w D A s.heap nL σ pc lv st := by
  subst hp
  exact fun H locs ls hP hD hS h => va_gets C.1.1 C.1.2.1 hZ hS C.1.2.2.2.1 (C.1.2.2.2.2 _ hm) (fun x h9 => h9) hdg (kk H locs ls hP hD hS h)
theorem v_ti (C : CX p m c cc nL s args Ts own A s.heap) {t N : Nat} {f : Nat → Int32} (hT : va_T .int t N (fun j => .int (f j)) A s s.heap) (j : Nat) {i : Int32} (hi : i = nI j) (hj : j < N) (hN : N ≤ 100000) (hdg : decode cc pc = .ok (.iaload, 1)) (hp : pc + 1 = pc') (kk : VV p l e R s m args below meth c cells slots Q w D A s.heap nL σ pc' lv (.int (f j) :: st)) : VV p l e R s m args below meth c cells slots Q w D A s.heap nL σ pc lv (.int i :: .ref t :: st) := by
  subst hp
  obtain ⟨h1, h2⟩ := i9_in hi hj hN
  exact fun H locs ls hP hD hS h => va_ti C.1.1 C.1.2.1 hT hS h1 (by rw [h2]) hdg (kk H locs ls hP hD hS h)
theorem v_startiE {y : MethodName} {ws ws' : List Cond} {rm : Room} {ty : FieldType} {As : List Value} {tl tm tf : Nat} {post : Int32 → τ → Prop} (ho : y.cls = own) (hy : plainName y.cls = true) (hw : ws = Cond.code y cc nL (some ty) :: ws') (hlg : (lg_sl As).length ≤ nL)
    (body : ∀ (p : Program) (e : Env) (s : State) (m : MethodId) (args : Array Value) (below : List Frame) (meth : Method) (c : Code) (A : Nat → Prop) (Q : State → Prop), CX p m c cc nL s args ws own A s.heap → va_K D vwCl tys s → zS tl tm tf A s s.heap → (∀ {σ1 : τ} {pc1 : Nat} {lv1 : List (Nat × Value)} {r : Int32}, post r σ1 → narrow ty (.int r) = .int r → decode cc pc1 = .ok (.ireturn, 1) → VV p l e rm s m args below meth c 0 0 Q w D A s.heap nL σ1 pc1 lv1 [.int r]) → VV p l e rm s m args below meth c 0 0 Q w D A s.heap nL σ 0 (lv_args 0 As) []) : CMiE l w D tys y ws rm As σ tl tm tf post := by
  subst ho
  intro sz
  refine Met.ofW (cc := cc) (maxL := nL) (ret := some ty) hy hw ?_
  intro p e s m args below meth c s₁ B hml hv
  obtain ⟨rfl, hsz, ⟨hP, K, hD0⟩, hE⟩ := hv
  subst hsz
  have hl := lv_entry As (n := nL) hlg
  rw [lg_entry_eq]
  have C : CX p m c cc nL s As.toArray ws y.cls (va_A (w σ) s.heap.size) s.heap := ⟨⟨B.exec, B.bytes, hml, findClass_of_methodNamed B.named, atoms_spec (ws := ws) B.pre⟩, fun q h => Or.inr h⟩
  exact body p e s m As.toArray below meth c (va_A (w σ) s.heap.size) _ C K hE (fun h1 h2 h3 => v_iret C K B.returns B.notSynchronized h2 h1 h3) s.heap [] _ hP hD0.self va_S.rf hl
end V9E
set_option maxRecDepth 20000 in
theorem gs_X4_set_50 : Cond.fieldLink RX4 50 "VillageCinema" "LEAST_SETTING" "[I" ∈ wsX4_set := by decide +kernel
set_option maxRecDepth 20000 in
theorem gs_X4_set_54 : Cond.fieldLink RX4 54 "VillageCinema" "MOST_SETTING" "[I" ∈ wsX4_set := by decide +kernel
theorem val_tab (v : Int32) {i : Nat} (hi : i < 5) : p_in v (lsF i) (msF i) = p_val (nI i) v := by
  rcases (show i = 0 ∨ i = 1 ∨ i = 2 ∨ i = 3 ∨ i = 4 by omega) with rfl | rfl | rfl | rfl | rfl <;> rfl
theorem val_no {x : Int32} (v : Int32) (h : p_in x 0 4 = 0) : p_val x v = 0 := by
  have h' := p_in_no (n := 4) (by decide) h
  unfold p_val
  rw [if_neg (show ¬ x = 0 from h' 0 (by decide)), if_neg (show ¬ x = 1 from h' 1 (by decide)), if_neg (show ¬ x = 2 from h' 2 (by decide)), if_neg (show ¬ x = 3 from h' 3 (by decide)), if_neg (show ¬ x = 4 from h' 4 (by decide))]
theorem pf_s {x t : Int32} {j : Nat} (hj : j < 20) (h : x * nI (1 + j) < t) : q_pf x t (20 - j) = q_pf x t (20 - (j + 1)) := by
  rw [show 20 - j = (20 - (j + 1)) + 1 by omega, q_pf, show 20 - (20 - (j + 1)) = 1 + j by omega, if_pos h]
theorem pf_e {x t : Int32} {j : Nat} (hj : j < 20) (h : ¬ x * nI (1 + j) < t) : q_pf x t (20 - j) = nI (1 + j) := by
  rw [show 20 - j = (20 - (j + 1)) + 1 by omega, q_pf, show 20 - (20 - (j + 1)) = 1 + j by omega, if_neg h]
set_option maxHeartbeats 4000000 in
set_option maxRecDepth 100000 in
theorem c_X4_set (l : Launch) (D : va_G) (ad : Nat → Nat) (cI cC cZ cQ : ClassId) (σ : S9) (o : Nat) (ho : σ 8 0 = nI o) (ho6 : o < 6) (h : Nat) (hh : σ 8 1 = nI h) (hle : h ≤ 6) (tl tm tf : Nat) (x v : Int32) : CMiE l (cW ad cI cC cZ cQ) D (cTy cI cC cZ cQ) yX4_set wsX4_set ({ frames := 3, cells := 0, slots := 0, locals := 68 } : Room) [.ref (ad 0), .int x, .int v] σ tl tm tf (fun r u => (q_setE x v = 0 → r = σ 0 x.toNatClampNeg ∧ u = st9 (hsM σ o h) 0 (upd (σ 0) x.toNatClampNeg v)) ∧ (¬ q_setE x v = 0 → r = q_setE x v ∧ u = σ)) := by
  refine v_startiE (own := RX4) (cc := cX4_set) (nL := 3) rfl (by decide) rfl (Nat.le_of_ble_eq_true rfl) ?_
  intro p e s m args below meth c A Q C K hE9 hend
  refine v_lv (lv' := [(0, .ref (ad 0)), (1, .int x), (2, .int v)]) [0, 1, 2] rfl ?_
  refine v_iload_n C dX4_set_0 rfl 1 1 rfl rfl ?_
  refine v_iconst (v := 0) C dX4_set_1 rfl ic_0 ?_
  refine v_iconst (v := 4) C dX4_set_2 rfl ic_4 ?_
  refine v_callSpd C (c_X4_isWithin l _ _ _) gX4_set_X4_isWithin rfl hd_X4_isWithin.2 ⟨rfl, rfl⟩ ⟨Nat.le_of_ble_eq_true rfl, Nat.le_of_ble_eq_true rfl⟩ rfl rfl (Nat.le_of_ble_eq_true rfl) ⟨Nat.le_refl _, Nat.le_refl _⟩ dX4_set_3 rfl ?_
  refine v_if_ne C 12 dX4_set_6 (by decide) rfl (fun h6 => ?_) (fun h6t => ?_)
  · skip
    obtain ⟨i, hi, rfl⟩ := p_in_nI (n := 4) (by decide) h6
    replace hi : i < 5 := by omega
    have eci : (nI i).toNatClampNeg = i := nI_cl (by omega)
    refine v_iload_n C dX4_set_12 rfl 2 2 rfl rfl ?_
    refine v_gets C (hE9.1).1 gs_X4_set_50 dX4_set_13 rfl ?_
    refine v_iload_n C dX4_set_16 rfl 1 1 rfl rfl ?_
    refine v_ti C (hE9.1).2.1 (i) (rfl) (by omega) (by decide) dX4_set_17 rfl ?_
    refine v_gets C (hE9.2.1).1 gs_X4_set_54 dX4_set_18 rfl ?_
    refine v_iload_n C dX4_set_21 rfl 1 1 rfl rfl ?_
    refine v_ti C (hE9.2.1).2.1 (i) (rfl) (by omega) (by decide) dX4_set_22 rfl ?_
    refine v_callSpd C (c_X4_isWithin l _ _ _) gX4_set_X4_isWithin rfl hd_X4_isWithin.2 ⟨rfl, rfl⟩ ⟨Nat.le_of_ble_eq_true rfl, Nat.le_of_ble_eq_true rfl⟩ rfl rfl (Nat.le_of_ble_eq_true rfl) ⟨Nat.le_refl _, Nat.le_refl _⟩ dX4_set_23 rfl ?_
    refine v_top (p_val (nI i) v) (val_tab v hi) ?_
    refine v_if_ne C 32 dX4_set_26 (by decide) rfl (fun h26 => ?_) (fun h26t => ?_)
    · skip
      refine v_aload_n C dX4_set_32 rfl 0 0 rfl rfl ?_
      refine v_get C K in_X4_set_X4 0 rfl rfl 3 (by decide) fl_X4_set_X4_3 rfl dX4_set_33 rfl ?_
      refine v_aload_n C dX4_set_36 rfl 0 0 rfl rfl ?_
      refine v_get C K in_X4_set_X4 0 rfl rfl 0 (by decide) fl_X4_set_X4_0 rfl dX4_set_37 rfl ?_
      refine v_callVvd C K (c_X2_record l D ad cI cC cZ cQ _ o ho ho6 h hh hle) gX4_set_X2_record rfl hd_X2_record ⟨rfl, rfl⟩ ⟨Nat.le_of_ble_eq_true rfl, Nat.le_of_ble_eq_true rfl⟩ 10 rfl rfl rfl rfl rfl (Nat.le_of_ble_eq_true rfl) ⟨Nat.le_refl _, Nat.le_refl _⟩ dX4_set_40 rfl ?_
      refine v_aload_n C dX4_set_43 rfl 0 0 rfl rfl ?_
      refine v_get C K in_X4_set_X4 0 rfl rfl 0 (by decide) fl_X4_set_X4_0 rfl dX4_set_44 rfl ?_
      refine v_iload_n C dX4_set_47 rfl 1 1 rfl rfl ?_
      refine v_iload_n C dX4_set_48 rfl 2 2 rfl rfl ?_
      refine v_callVid C K (c_X1_changeSetting l D ad cI cC cZ cQ _ i hi _) gX4_set_X1_changeSetting rfl hd_X1_changeSetting ⟨rfl, rfl⟩ ⟨Nat.le_of_ble_eq_true rfl, Nat.le_of_ble_eq_true rfl⟩ 1 rfl rfl rfl rfl rfl (Nat.le_of_ble_eq_true rfl) ⟨Nat.le_refl _, Nat.le_refl _⟩ dX4_set_49 rfl ?_
      exact hend (⟨fun _ => ⟨by rw [eci, hsM_0], by rw [eci, hsM_0]⟩, fun q => absurd (by simp [q_setE, h26]) q⟩) (rfl) dX4_set_52
    · skip
      refine v_bipush (v := -2) C dX4_set_29 rfl bp_m2 ?_
      exact hend (⟨fun q => absurd q (by simp [q_setE, h26t]), fun _ => ⟨by simp [q_setE, h26t], rfl⟩⟩) (rfl) dX4_set_31
  · skip
    refine v_bipush (v := -2) C dX4_set_9 rfl bp_m2 ?_
    exact hend (⟨fun q => absurd q (by rw [q_setE, val_no v h6t]; decide), fun _ => ⟨by rw [q_setE, val_no v h6t]; rfl, rfl⟩⟩) (rfl) dX4_set_11
end
section
theorem vr_outer (c : ClassId) (N h0 : Nat) : ∀ i : Nat, Jvm.Free.Multi.outerC c N h0 i = arrV c N (fun j => va_rf (if j < i then some (h0 + 1 + j) else none))
  | 0 => by
    show ({ cls := c, slots := Array.replicate N .null, vm := .none } : Cell) = _
    rw [arrV_new]
    refine congrArg (arrV c N) (funext fun j => ?_)
    simp [va_rf]
  | i + 1 => by
    show (Jvm.Free.Multi.outerC c N h0 i).setSlot i (.ref (h0 + 1 + i)) = _
    rw [vr_outer c N h0 i, arrV_store]
    refine congrArg (arrV c N) (funext fun j => ?_)
    by_cases e : j = i
    · subst e
      simp [updV, va_rf]
    · by_cases h : j < i
      · simp [updV, e, h, Nat.lt_succ_of_lt h]
      · simp [updV, e, h, show ¬ j < i + 1 by omega]
/-! ===== constructors: a world that grows ===== -/
def aoa9 (U : State) : Prop := (Cond.arrayOver (.array .int)).before #[] U = true
theorem aoa9.moved {u U : State} (hvm : u.vm.Alike U.vm) (h : aoa9 u) : aoa9 U := Jvm.Stand.arrayOver_alikeB hvm h
/-- words of a nest: they hold warm too -/
def nwS (U : State) : Prop := va_Nw (.fieldLinkNest RX1 15 "VillageCinema" "FIRST_SETTING" "[I" "VillageCinema") U ∧ va_Nw (.methodLinkNest RX4 18 yX0_init RX4) U ∧ va_Nw (.methodLinkNest RX4 25 yX3_init RX4) U ∧ va_Nw (.methodLinkNest RX4 32 yX2_init RX4) U
theorem nwS.warm {s U : State} (hW : s.WarmedH U.vm) (h : nwS s) : nwS U := ⟨va_Nw.warmF hW h.1, va_Nw.warmM hW h.2.1, va_Nw.warmM hW h.2.2.1, va_Nw.warmM hW h.2.2.2⟩
theorem nwS.same {u U : State} (hvm : u.vm = U.vm) (h : nwS u) : nwS U := ⟨va_Nw.same rfl hvm h.1, va_Nw.same rfl hvm h.2.1, va_Nw.same rfl hvm h.2.2.1, va_Nw.same rfl hvm h.2.2.2⟩
def iE (tl tm tf : Nat) (A : Nat → Prop) (U : State) : Prop := zS tl tm tf A U U.heap ∧ aoa9 U ∧ nwS U
def CN (l : Launch) (D : va_G) (tys : List (ClassId × FieldType)) (y : MethodName) (ws : List Cond) (rm : Room) (As : List Value) (σ : va_W) (tl tm tf mc ms : Nat) (post : va_W → Prop) : Prop :=
  ∀ sz : Nat, Met l y ws rm (va_Pc As (fun U => U.heap.size = sz ∧ v9_world D (fun u : va_W => u) tys (fun _ => True) σ U ∧ iE tl tm tf (va_A σ sz) U)) (va_Qv post (v9_world D (fun u : va_W => u) tys (va_A σ sz)) (va_A σ sz)) mc ms (va_A σ sz)
theorem v9_blindN {D : va_G} {tys : List (ClassId × FieldType)} {As : List Value} {σ : va_W} {sz tl tm tf : Nat} {A : Nat → Prop} : FrameBlind (va_Pc As (fun U => U.heap.size = sz ∧ v9_world D (fun u : va_W => u) tys (fun _ => True) σ U ∧ iE tl tm tf A U)) := fun a U g mk q => by
  obtain ⟨q0, q1, ⟨qP, qK, qD⟩, qE, qo, qn⟩ := q
  exact ⟨q0, q1, ⟨qP, va_K.moved (u := U) (U := U.calling g mk a) (Vm.Alike.refl U.vm) qK, qD⟩, zS.moved (u := U) (U := U.calling g mk a) (Vm.Alike.refl U.vm) qE, aoa9.moved (u := U) (U := U.calling g mk a) (Vm.Alike.refl U.vm) qo, nwS.same (u := U) (U := U.calling g mk a) rfl qn⟩
theorem ra_int (s : State) : ∀ x y, va_RA s x .int → va_RA s y .int → x = y := fun _ _ h1 h2 => Option.some.inj (Eq.trans (Eq.symm h1) h2)
theorem ra_char (s : State) : ∀ x y, va_RA s x .char → va_RA s y .char → x = y := fun _ _ h1 h2 => Option.some.inj (Eq.trans (Eq.symm h1) h2)
theorem ra_bool (s : State) : ∀ x y, va_RA s x .boolean → va_RA s y .boolean → x = y := fun _ _ h1 h2 => Option.some.inj (Eq.trans (Eq.symm h1) h2)
section V9N
variable {p : Program} {l : Launch} {e : Env} {R : Room} {s : State} {m : MethodId} {args : Array Value} {below : List Frame} {meth : Method} {c : Code} {cells slots : Nat} {Q : State → Prop}
variable {D : va_G} {A : Nat → Prop} {H0 : Heap} {nL : Nat} {cc : ByteArray} {Ts : List Cond} {own : String} {tys : List (ClassId × FieldType)} {σ : va_W} {pc pc' : Nat} {lv lv' : List (Nat × Value)} {st rest : List Value}
theorem v_wid {τ : Type} {w : τ → va_W} {τσ : τ} {k n : Nat} (h1 : cells ≤ k) (h2 : slots ≤ n) (kk : VV p l e R s m args below meth c k n Q w D A H0 nL τσ pc lv st) : VV p l e R s m args below meth c cells slots Q w D A H0 nL τσ pc lv st := fun H locs ls hP hD hS h => W.widen h1 h2 (kk H locs ls hP hD hS h)
theorem v_objinit {τ : Type} {w : τ → va_W} {τσ : τ} (C : CX p m c cc nL s args Ts own A H0) {idx a : Nat} (h1 : Cond.methodLink own idx objectInit ∈ Ts) (h2 : Cond.instanceMethod objectInit ∈ Ts) (h3 : Cond.code objectInit ⟨#[0xb1]⟩ 1 none ∈ Ts) (hdg : decode cc pc = .ok (.invokespecial idx, 3)) (hp : pc + 3 = pc') (hframes : 1 ≤ R.frames) (hlocals : (rest.map fun v => v.category).sum + 12 ≤ R.locals) (kk : VV p l e R s m args below meth c cells slots Q w D A H0 nL τσ pc' lv rest) : VV p l e R s m args below meth c cells slots Q w D A H0 nL τσ pc lv (.ref a :: rest) := by
  subst hp
  intro H locs ls hP hD hS h
  refine W.objInit C.1.1 C.1.2.1 C.1.2.2.2.1 (C.1.2.2.2.2 _ h1) (C.1.2.2.2.2 _ h2) (C.1.2.2.2.2 _ h3) rfl (h.1.trans C.1.2.2.1.symm) rfl hdg hframes (by show 2 * 0 + _ + 12 ≤ _; omega) ?_
  exact W.eq (g2 := F0 m (pc + 3) ls rest) rfl (kk H locs ls hP hD hS h)
theorem v_newa (C : CX p m c cc nL s args Ts own A H0) (K : va_K D vwCl tys s) {atype : ArrayType} {ty : FieldType} {cA : ClassId} (hu : ∀ x y, va_RA s x ty → va_RA s y ty → x = y) (hty : newarray.typeOf atype = ty) (hm : Cond.arrayClass (newarray.typeOf atype) ∈ Ts) (t : Nat) (ht : tys[t]? = some (cA, ty)) {n : Int32} {N' : Nat} {a0 : vp_A} (ha : ∀ cA : ClassId, vp_cell cA a0 = arrV cA N' (fun _ => defaultValue ty)) (hn : n = nI N') (hN : N' ≤ 100000) (hbytes : N' * componentBytes ty ≤ 536870912) (hcells : cells + 1 ≤ R.cells) (hslots : slots + N' ≤ R.slots) (hdg : decode cc pc = .ok (.newarray atype, 2)) (hp : pc + 2 = pc')
    (kk : ∀ q : Nat, VV p l e R s m args below meth c (cells + 1) (slots + N') Q (fun u : va_W => u) D A H0 nL (σ ++ [(q, .inl (cA, a0))]) pc' lv (.ref q :: st)) : VV p l e R s m args below meth c cells slots Q (fun u : va_W => u) D A H0 nL σ pc lv (.int n :: st) := by
  subst hp
  subst hn
  intro H locs ls hP hD hS h
  refine va_newa C.1.1 C.1.2.1 (C.1.2.2.2.2 _ hm) hty K hP hD hS C.2 ha (nI_pos (by omega)) (nI_clamp (by omega)) hbytes hcells hslots hdg (fun q cA' H1 K1 hP1 hD1 hS1 => ?_)
  have e : cA' = cA := hu _ _ (K1.2 tys.length (cA', ty) (by simp)).2 (K.2 t _ ht).2
  subst e
  exact kk q H1 locs ls hP1 hD1 hS1 h
theorem v_newo (C : CX p m c cc nL s args Ts own A H0) (K : va_K D vwCl tys s) {C' : String} {T : u_T} {N ci index : Nat} (hin : ∀ w ∈ u_ws C' T N, w ∈ Ts) (ty : Nat → FieldType) (hty : ∀ k, k < N → parseFieldDescriptor (T k).2.2.1 = some (ty k)) (h1 : Cond.classLink own index C' ∈ Ts) (h2 : Cond.instantiable C' N ∈ Ts) (h3 : Cond.initialized C' ∈ Ts) (hc : vwCl[ci]? = some (C', T, N)) {fs : List Value} (hfs : ∀ j, j < N → defaultValue (ty j) = vp_V fs j) (hcells : cells + 1 ≤ R.cells) (hslots : slots + N ≤ R.slots) (hdg : decode cc pc = .ok (.new index, 3)) (hp : pc + 3 = pc')
    (kk : ∀ q : Nat, VV p l e R s m args below meth c (cells + 1) (slots + N) Q (fun u : va_W => u) D A H0 nL (σ ++ [(q, .inr (ci, fs))]) pc' lv (.ref q :: st)) : VV p l e R s m args below meth c cells slots Q (fun u : va_W => u) D A H0 nL σ pc lv st := by
  subst hp
  intro H locs ls hP hD hS h
  exact va_new C.1.1 C.1.2.1 C.1.2.2.2.2 hin ty hty C.1.2.2.2.1 (C.1.2.2.2.2 _ h1) (C.1.2.2.2.2 _ h2) (C.1.2.2.2.2 _ h3) K hP hD hS C.2 hc hfs hcells hslots hdg (fun q H1 hP1 hD1 hS1 => kk q H1 locs ls hP1 hD1 hS1 h)
theorem v_putF (C : CX p m c cc nL s args Ts own A H0) (K : va_K D vwCl tys s) (hin9 : meth.name = "<init>") {Cn : String} {T : u_T} {N ci index a : Nat} {fs : List Value} {v : Value} {ty : FieldType} {ty0 : Nat → FieldType} (σ2 : va_W) (hin : ∀ x ∈ u_ws Cn T N, x ∈ Ts) (hty : ∀ k, k < N → parseFieldDescriptor (T k).2.2.1 = some (ty0 k)) (hnm : ∀ a, a < N → ∀ b, b < N → a ≠ b → (T a).2.1 ≠ (T b).2.1) (q0 : Nat) (he : σ[q0]? = some (a, .inr (ci, fs))) (hc : vwCl[ci]? = some (Cn, T, N)) (k : Nat) (hk : k < N) (hlink : Cond.fieldLink own index (T k).1 (T k).2.1 (T k).2.2.1 ∈ Ts) (hfin : (T k).2.2.2 = true) (hdecl : (T k).1 = own) (hd : parseFieldDescriptor (T k).2.2.1 = some ty) (hn : narrow ty v = v) (hfit : fits ty v = true) (hl : k < fs.length) (hw : σ.set q0 (a, .inr (ci, fs.set k v)) = σ2) (hdg : decode cc pc = .ok (.putfield index, 3)) (hp : pc + 3 = pc')
    (kk : VV p l e R s m args below meth c cells slots Q (fun u : va_W => u) D A H0 nL σ2 pc' lv st) : VV p l e R s m args below meth c cells slots Q (fun u : va_W => u) D A H0 nL σ pc lv (v :: .ref a :: st) := by
  subst hp
  subst hw
  intro H locs ls hP hD hS h
  exact va_putF C.1.1 C.1.2.1 C.1.2.2.2.2 hin ty0 hty hnm C.1.2.2.2.1 K hP hD hS q0 he hc k hk (C.1.2.2.2.2 _ hlink) (fun x h9 => h9) hfin hin9 hdecl hd hn hfit hl hdg (fun H1 locs1 hP1 hD1 hS1 => kk H1 locs1 ls hP1 hD1 hS1 h)
theorem v_getsN (C : CX p m c cc nL s args Ts own A s.heap) {τ : Type} {w : τ → va_W} {τσ : τ} {Cn n d host : String} {v : Value} {index : Nat} (hZ : va_Z Cn n d v A s s.heap) (hm : va_Nw (.fieldLinkNest own index Cn n d host) s) (hdg : decode cc pc = .ok (.getstatic index, 3)) (hp : pc + 3 = pc') (kk : VV p l e R s m args below meth c cells slots Q w D A s.heap nL τσ pc' lv (v :: st)) : VV p l e R s m args below meth c cells slots Q w D A s.heap nL τσ pc lv st := by
  subst hp
  exact fun H locs ls hP hD hS h => va_getsN C.1.1 C.1.2.1 hZ hS C.1.2.2.2.1 (va_Nw.use rfl hm) (fun x h9 => h9) hdg (kk H locs ls hP hD hS h)
theorem v_copyx (C : CX p m c cc nL s args Ts own A s.heap) (K : va_K D vwCl tys s) {index : Nat} (h1 : Cond.methodLink own index arraycopyName ∈ Ts) (h2 : Cond.native arraycopyName ∈ Ts) (h3 : Cond.static arraycopyName ∈ Ts) (h4 : Cond.initialized "java/lang/System" ∈ Ts) (σ2 : va_W) {b0 n0 : Nat} {f : Nat → Int32} {C' n' d' : String} (hz : z9 C' n' d' b0 n0 f A s s.heap) (q1 t1 : Nat) {a : Nat} {c1 : ClassId} {n1 : Nat} {g : Nat → Int32} (ha1 : σ[q1]? = some (a, .inl (c1, n1, .inl g))) (ht1 : tys[t1]? = some (c1, .int)) {sj dj nj : Nat} {sp dp n : Int32} (hs : sp = nI sj) (hd : dp = nI dj) (hn : n = nI nj) (hb : sj ≤ 100000 ∧ dj ≤ 100000 ∧ nj ≤ 100000) (h5 : sj + nj ≤ n0) (h6 : dj + nj ≤ n1) (hframes : 1 ≤ R.frames) (hlocals : (st.map fun v => v.category).sum + (nativeFrameWords "java/lang/System" "arraycopy" 5 + 11) ≤ R.locals) (hw : σ.set q1 (a, .inl (c1, n1, .inl (va_cpy f g sj dj nj))) = σ2) (hdg : decode cc pc = .ok (.invokestatic index, 3)) (hp : pc + 3 = pc')
    (kk : VV p l e R s m args below meth c cells slots Q (fun u : va_W => u) D A s.heap nL σ2 pc' lv st) : VV p l e R s m args below meth c cells slots Q (fun u : va_W => u) D A s.heap nL σ pc lv (.int n :: .int dp :: .ref a :: .int sp :: .ref b0 :: st) := by
  subst hp
  subst hs
  subst hd
  subst hn
  subst hw
  have e1 : (nI sj).toNatClampNeg = sj := nI_clamp (by omega)
  have e2 : (nI dj).toNatClampNeg = dj := nI_clamp (by omega)
  have e3 : (nI nj).toNatClampNeg = nj := nI_clamp (by omega)
  obtain ⟨cell, c1', -, -, -, -, -, c7⟩ := hz.2.1
  intro H locs ls hP hD hS h
  exact va_copyx C.1.1 C.1.2.1 (C.1.2.2.1.trans h.1.symm) C.1.2.2.2.1 (C.1.2.2.2.2 _ h1) (C.1.2.2.2.2 _ h2) (C.1.2.2.2.2 _ h3) (C.1.2.2.2.2 _ h4) K hP hD hS hz.2.2 (Array.getElem?_eq_some_iff.mp c1').1 c7 q1 t1 ha1 ht1 (nI_pos (by omega)) (nI_pos (by omega)) (nI_pos (by omega)) (by rw [e1, e3]; exact h5) (by rw [e2, e3]; exact h6) hframes hlocals hdg (fun H1 locs1 hP1 hD1 hS1 => kk H1 locs1 ls (by simpa only [e1, e2, e3] using hP1) (by simpa only [e1, e2, e3] using hD1) hS1 h)
theorem v_initcall (C : CX p m c cc nL s args Ts own A s.heap) (K : va_K D vwCl tys s) {tl tm tf : Nat} (hE : iE tl tm tf A s) {y : MethodName} {ws ws' : List Cond} {rm : Room} {bytes : ByteArray} {maxL index b mc ms : Nat} {σc σr : va_W} {post : va_W → Prop} (hM : CN l D tys y ws rm [.ref b] σc tl tm tf mc ms post) (hG : GoodIn Ts ws) (hw : ws = Cond.code y bytes maxL none :: ws') (h1 : Cond.initialized y.cls ∈ Ts) (h2 : Cond.methodLink own index y ∈ Ts) (h3 : Cond.instanceMethod y ∈ Ts) (hy : y.name = "<init>") (hd : y.cls ≠ "java/lang/invoke/MethodHandle" ∧ y.cls ≠ "java/lang/invoke/VarHandle" ∧ (parseMethodDescriptor y.desc).map (fun d => d.parameters.length) = some 0) (hrc : rm.cells = mc ∧ rm.slots = ms) (hR : rm.frames + 1 ≤ R.frames ∧ 8 + (maxL + 11) + rm.locals ≤ R.locals)
    (isC isR : List Nat) (hC : isC.map (fun i => σ[i]?) = σc.map some) (hCf : isC.filterMap (fun i => σ[i]?) = σc) (hn1 : va_nd isC = true) (hRr : isR.map (fun i => σ[i]?) = σr.map some) (hn : va_nd isR = true) (hdis : ∀ i ∈ isR, i ∉ isC) (hcat : (rest.map fun v => v.category).sum ≤ 8) (hcs : cells + mc ≤ R.cells ∧ slots + ms ≤ R.slots) (hdg : decode cc pc = .ok (.invokespecial index, 3)) (hp : pc + 3 = pc')
    (kk : ∀ u : va_W, post u → VV p l e R s m args below meth c (cells + mc) (slots + ms) Q (fun u : va_W => u) D A s.heap nL (σr ++ u) pc' lv rest) : VV p l e R s m args below meth c cells slots Q (fun u : va_W => u) D A s.heap nL σ pc lv (.ref b :: rest) := by
  subst hp
  intro H locs ls hP hD hS h
  have hPc : va_P D vwCl σc H := va_P.sub hP isC hCf
  have hDc : va_D A σc := va_D.sub hD isC hn1 hC
  have hFc := va_free hD hS C.2 isC hC
  refine va_callv (va_runI (As := []) (rest := rest) C.1 (hM H.size) (cwI 0 C.1.2.2.2.2 hG hw hrc.1 hrc.2 (C.1.2.2.2.2 _ h1) (C.1.2.2.2.2 _ h2) (C.1.2.2.2.2 _ h3) hy hd hR) ⟨v9_blindN, fun U hU hW => ⟨rfl, by rw [hU], ⟨by rw [hU]; exact hPc, va_K.moved hW.alike K, hDc.weaken (fun _ _ _ _ => trivial)⟩, ?_, aoa9.moved hW.alike hE.2.1, hE.2.2.warm hW⟩⟩ rfl rfl h.1 rfl (lv_room hcat) hdg hcs) hS (fun q _ h => hFc q h) hFc (fun u t H1 locs1 ht hvm hq2 hB hz hk hS1 => ?_)
  · rw [hU]
    exact ((hE.1.moved hW.alike).kept hS.2.1).narrow hFc
  · obtain ⟨hP1, hK1, hD1⟩ := hB
    rw [ht] at hP1
    obtain ⟨hP2, hD2⟩ := va_join (wr := σr) (w1 := u) hP hD isC isR hC hRr hn hdis hk hFc hP1 hD1
    exact kk u hq2 H1 locs1 ls hP2 hD2 hS1 h
theorem v_initcallN (C : CX p m c cc nL s args Ts own A s.heap) (K : va_K D vwCl tys s) {tl tm tf : Nat} (hE : iE tl tm tf A s) {y : MethodName} {ws ws' : List Cond} {rm : Room} {bytes : ByteArray} {maxL index b mc ms : Nat} {host : String} {σc σr : va_W} {post : va_W → Prop} (hM : CN l D tys y ws rm [.ref b] σc tl tm tf mc ms post) (hG : GoodIn Ts ws) (hw : ws = Cond.code y bytes maxL none :: ws') (h1 : Cond.initialized y.cls ∈ Ts) (h2 : va_Nw (.methodLinkNest own index y host) s) (h3 : Cond.instanceMethod y ∈ Ts) (hy : y.name = "<init>") (hd : y.cls ≠ "java/lang/invoke/MethodHandle" ∧ y.cls ≠ "java/lang/invoke/VarHandle" ∧ (parseMethodDescriptor y.desc).map (fun d => d.parameters.length) = some 0) (hrc : rm.cells = mc ∧ rm.slots = ms) (hR : rm.frames + 1 ≤ R.frames ∧ 8 + (maxL + 11) + rm.locals ≤ R.locals)
    (isC isR : List Nat) (hC : isC.map (fun i => σ[i]?) = σc.map some) (hCf : isC.filterMap (fun i => σ[i]?) = σc) (hn1 : va_nd isC = true) (hRr : isR.map (fun i => σ[i]?) = σr.map some) (hn : va_nd isR = true) (hdis : ∀ i ∈ isR, i ∉ isC) (hcat : (rest.map fun v => v.category).sum ≤ 8) (hcs : cells + mc ≤ R.cells ∧ slots + ms ≤ R.slots) (hdg : decode cc pc = .ok (.invokespecial index, 3)) (hp : pc + 3 = pc')
    (kk : ∀ u : va_W, post u → VV p l e R s m args below meth c (cells + mc) (slots + ms) Q (fun u : va_W => u) D A s.heap nL (σr ++ u) pc' lv rest) : VV p l e R s m args below meth c cells slots Q (fun u : va_W => u) D A s.heap nL σ pc lv (.ref b :: rest) := by
  subst hp
  intro H locs ls hP hD hS h
  have hPc : va_P D vwCl σc H := va_P.sub hP isC hCf
  have hDc : va_D A σc := va_D.sub hD isC hn1 hC
  have hFc := va_free hD hS C.2 isC hC
  refine va_callv (va_runIN (As := []) (rest := rest) C.1 (hM H.size) ⟨va_cnB 0 C.1.2.2.2.2 hG hw hrc.1 hrc.2 h2 (C.1.2.2.2.2 _ h1) hd hR, hy, C.1.2.2.2.2 _ h3⟩ ⟨v9_blindN, fun U hU hW => ⟨rfl, by rw [hU], ⟨by rw [hU]; exact hPc, va_K.moved hW.alike K, hDc.weaken (fun _ _ _ _ => trivial)⟩, ?_, aoa9.moved hW.alike hE.2.1, hE.2.2.warm hW⟩⟩ rfl rfl h.1 rfl (lv_room hcat) hdg hcs) hS (fun q _ h => hFc q h) hFc (fun u t H1 locs1 ht hvm hq2 hB hz hk hS1 => ?_)
  · rw [hU]
    exact ((hE.1.moved hW.alike).kept hS.2.1).narrow hFc
  · obtain ⟨hP1, hK1, hD1⟩ := hB
    rw [ht] at hP1
    obtain ⟨hP2, hD2⟩ := va_join (wr := σr) (w1 := u) hP hD isC isR hC hRr hn hdis hk hFc hP1 hD1
    exact kk u hq2 H1 locs1 ls hP2 hD2 hS1 h
theorem v_nret {tys : List (ClassId × FieldType)} (C : CX p m c cc nL s args Ts own A H0) (K : va_K D vwCl tys s) {post : va_W → Prop} (hr : meth.sig.returnType = none) (hlocks : meth.locks = false) (hpost : post σ) (hdg : decode cc pc = .ok (.return_, 1)) : VV p l e R s m args below meth c cells slots (MQ below (va_Qv post (v9_world D (fun u : va_W => u) tys A) A) args s cells slots A) (fun u : va_W => u) D A s.heap nL σ pc lv [] :=
  fun H locs ls hP hD hS h => W.vret C.1.1 C.1.2.1 hr (fun t ht hW => ⟨⟨σ, rfl, hpost, by rw [ht]; exact hP, va_K.moved hW.alike K, hD⟩, hS.F ht⟩) hS.2.2 hdg
theorem v_startN {y : MethodName} {ws ws' : List Cond} {rm : Room} {As : List Value} {tl tm tf mc ms : Nat} {post : va_W → Prop} (ho : y.cls = own) (hi : y.name = "<init>") (hy : plainName y.cls = true) (hw : ws = Cond.code y cc nL none :: ws') (hlg : (lg_sl As).length ≤ nL)
    (body : ∀ (p : Program) (e : Env) (s : State) (m : MethodId) (args : Array Value) (below : List Frame) (meth : Method) (c : Code) (A : Nat → Prop) (Q : State → Prop), CX p m c cc nL s args ws own A s.heap → va_K D vwCl tys s → iE tl tm tf A s → meth.name = "<init>" → (∀ {σ1 : va_W} {pc1 : Nat} {lv1 : List (Nat × Value)}, post σ1 → decode cc pc1 = .ok (.return_, 1) → VV p l e rm s m args below meth c mc ms Q (fun u : va_W => u) D A s.heap nL σ1 pc1 lv1 []) → VV p l e rm s m args below meth c 0 0 Q (fun u : va_W => u) D A s.heap nL σ 0 (lv_args 0 As) []) : CN l D tys y ws rm As σ tl tm tf mc ms post := by
  subst ho
  intro sz
  refine Met.ofW (cc := cc) (maxL := nL) (ret := none) hy hw ?_
  intro p e s m args below meth c s₁ B hml hv
  obtain ⟨rfl, hsz, ⟨hP, K, hD0⟩, hE⟩ := hv
  subst hsz
  have hl := lv_entry As (n := nL) hlg
  rw [lg_entry_eq]
  have C : CX p m c cc nL s As.toArray ws y.cls (va_A σ s.heap.size) s.heap := ⟨⟨B.exec, B.bytes, hml, findClass_of_methodNamed B.named, atoms_spec (ws := ws) B.pre⟩, fun q h => Or.inr h⟩
  exact body p e s m As.toArray below meth c (va_A σ s.heap.size) _ C K hE ((name_of_methodNamed B.named B.method).1.trans hi) (fun h1 h3 => v_nret C K B.returns B.notSynchronized h1 h3) s.heap [] _ hP hD0.self va_S.rf hl
/-- an array of N arrays of K' ints -/
theorem v_mna (C : CX p m c cc nL s args Ts own A H0) (K : va_K D vwCl tys s) (hao : aoa9 s) {index : Nat} (hcl : Cond.classLink own index "[[I" ∈ Ts) (harr : Cond.arrayClass .int ∈ Ts) {cI cQ : ClassId} (tI tQ : Nat) (hI : tys[tI]? = some (cI, .int)) (hQ : tys[tQ]? = some (cQ, .array .int)) {n k : Int32} {N' K' : Nat} (hn : n = nI N') (hk : k = nI K') (hN : N' ≤ 1000) (hK' : K' ≤ 1000) (hcells : cells + (1 + N') ≤ R.cells) (hslots : slots + (N' + N' * K') ≤ R.slots) (hdg : decode cc pc = .ok (.multianewarray index 2, 4)) (hp : pc + 4 = pc')
    (kk : ∀ q : Nat, VV p l e R s m args below meth c (cells + 1 + N') (slots + N' + N' * K') Q (fun u : va_W => u) D A H0 nL ((σ ++ [(q, .inl (cQ, N', .inr (.inr (.inr (.inr (fun i => if i < N' then some (q + 1 + i) else none))))))]) ++ (List.range N').map (fun i => (q + 1 + i, .inl (cI, K', .inl (fun _ => 0))))) pc' lv (.ref q :: st)) : VV p l e R s m args below meth c cells slots Q (fun u : va_W => u) D A H0 nL σ pc lv (.int k :: .int n :: st) := by
  subst hp
  subst hn
  subst hk
  intro H locs ls hP hD hS h
  intro T hT Xs
  have eN : (nI N').toNatClampNeg = N' := nI_clamp (by omega)
  have eK : (nI K').toNatClampNeg = K' := nI_clamp (by omega)
  obtain ⟨vm₁, cA, comp, -, fA, fC, -, -, X', step⟩ := Xs.multianewarray2F (ty := .int) C.1.1 C.1.2.2.2.1 (C.1.2.2.2.2 _ hcl) hao (C.1.2.2.2.2 _ harr) (g := F0 m pc ls (.int (nI K') :: .int (nI N') :: st)) rfl (by rw [C.1.2.1]; exact hdg) rfl (nI_pos (by omega)) (nI_pos (by omega)) (by rw [eN]; omega) (by rw [eK]; show K' * 4 ≤ _; omega) (by rw [eK]; omega) rfl rfl (by rw [eN]; exact hcells) (by rw [eN, eK]; exact hslots)
  have ecA : cA = cQ := Option.some.inj (Eq.trans (Eq.symm fA) (K.2 tQ _ hQ).2)
  have ecC : comp = cI := Option.some.inj (Eq.trans (Eq.symm fC) (K.2 tI _ hI).2)
  subst ecA
  subst ecC
  rw [eN, eK] at X' step
  generalize hF : Jvm.Free.Multi.fill (T.setVm vm₁) cA comp N' K' (defaultValue .int) N' = F at X' step
  have hTh : (T.setVm vm₁).heap = H := hT
  obtain ⟨f1, f2, -, -⟩ := Jvm.Free.Multi.fill_facts (T.setVm vm₁) cA comp N' K' (defaultValue .int) N'
  rw [hF, hTh] at f1 f2
  have hold : ∀ x : Nat, x < H.size → F.heap[x]? = H[x]? := fun x hx => by
    have := Jvm.Free.Multi.fill_old (T.setVm vm₁) cA comp N' K' (defaultValue .int) (a := x) (by rw [hTh]; exact hx) N'
    rw [hF, hTh] at this
    exact this
  have hz : Jvm.Free.Multi.innerC comp K' (defaultValue .int) = vp_cell comp (K', .inl (fun _ => 0)) := by
    show ({ cls := comp, slots := Array.replicate K' (.int 0), vm := .none } : Cell) = _
    rw [arrV_new]
    rfl
  have hrow : ∀ j : Nat, j < N' → F.heap[H.size + 1 + j]? = some (vp_cell comp (K', .inl (fun _ => 0))) := fun j hj => by
    have := Jvm.Free.Multi.fill_inner (T.setVm vm₁) cA comp N' K' (defaultValue .int) N' j hj
    rw [hF, hTh, hz] at this
    exact this
  have hout : Jvm.Free.Multi.outerC cA N' H.size N' = vp_cell cA (N', .inr (.inr (.inr (.inr (fun i => if i < N' then some (H.size + 1 + i) else none))))) := by
    rw [vp_cell_q]
    exact vr_outer cA N' H.size N'
  rw [hout] at f2
  have hP0 : va_P D vwCl σ F.heap := hP.kept (fun k9 x hx => hold x.1 ((hP k9 x hx).lt))
  have hP1 : va_P D vwCl (σ ++ [(H.size, .inl (cA, N', .inr (.inr (.inr (.inr (fun i => if i < N' then some (H.size + 1 + i) else none))))))]) F.heap := hP0.app (fun k9 x hx => by
    have h0 : k9 < 1 := (List.getElem?_eq_some_iff.mp hx).1
    rw [show k9 = 0 by omega] at hx
    cases hx
    exact f2)
  have hP2 : va_P D vwCl ((σ ++ [(H.size, .inl (cA, N', .inr (.inr (.inr (.inr (fun i => if i < N' then some (H.size + 1 + i) else none))))))]) ++ (List.range N').map (fun i => (H.size + 1 + i, .inl (comp, K', .inl (fun _ => 0))))) F.heap := hP1.app (fun k9 x hx => by
    obtain ⟨i, hi, rfl⟩ := List.mem_map.mp (List.mem_of_getElem? hx)
    exact hrow i (List.mem_range.mp hi))
  have hD1 : va_D A (σ ++ [(H.size, .inl (cA, N', .inr (.inr (.inr (.inr (fun i => if i < N' then some (H.size + 1 + i) else none))))))]) := hD.push hP rfl (C.2 _ hS.1)
  have hr : ∀ (k9 : Nat) (x : Nat × va_E), ((List.range N').map (fun i => ((H.size + 1 + i, .inl (comp, K', .inl (fun _ => 0))) : Nat × va_E)))[k9]? = some x → x.1 = H.size + 1 + k9 := fun k9 x hx => by
    rw [List.getElem?_map] at hx
    by_cases h9 : k9 < N'
    · rw [List.getElem?_range h9] at hx
      cases hx
      rfl
    · have hn0 : (List.range N')[k9]? = none := List.getElem?_eq_none (by rw [List.length_range]; omega)
      rw [hn0] at hx
      cases hx
  have hle : ∀ (k9 : Nat) (x : Nat × va_E), (σ ++ [((H.size, .inl (cA, N', .inr (.inr (.inr (.inr (fun i => if i < N' then some (H.size + 1 + i) else none)))))) : Nat × va_E)])[k9]? = some x → x.1 ≤ H.size := fun k9 x hx => by
    by_cases hl : k9 < σ.length
    · rw [List.getElem?_append_left hl] at hx
      exact Nat.le_of_lt ((hP k9 x hx).lt)
    · rw [List.getElem?_append_right (by omega)] at hx
      have h0 : k9 - σ.length < 1 := (List.getElem?_eq_some_iff.mp hx).1
      rw [show k9 - σ.length = 0 by omega] at hx
      cases hx
      exact Nat.le_refl _
  have hD2 : va_D A ((σ ++ [(H.size, .inl (cA, N', .inr (.inr (.inr (.inr (fun i => if i < N' then some (H.size + 1 + i) else none))))))]) ++ (List.range N').map (fun i => (H.size + 1 + i, .inl (comp, K', .inl (fun _ => 0))))) := by
    refine hD1.app ⟨fun i j x y hi hj hxy => ?_, fun k9 x hx => ?_⟩ (fun i j x y hi hj e => ?_)
    · have := hr _ _ hi
      have := hr _ _ hj
      omega
    · have := hr _ _ hx
      exact C.2 _ (by have := hS.1; omega)
    · have := hle _ _ hi
      have := hr _ _ hj
      omega
  obtain ⟨t, a1, b1⟩ := kk H.size F.heap locs ls hP2 hD2 ⟨by rw [f1]; have := hS.1; omega, fun x h1 h2 => (hold x (Nat.lt_of_lt_of_le h1 hS.1)).trans (hS.2.1 x h1 h2), hS.2.2⟩ h F rfl X'
  refine ⟨t, step t ?_, b1⟩
  have e : T.heap.size = H.size := by rw [hT]
  rw [e]
  exact a1
end V9N
end
section
def rF (f : Nat → Int32) (j : Nat) : Nat → Int32 := fun i => if 46 ≤ i ∧ i < 46 + j then -6 else f i
theorem rF_0 (f : Nat → Int32) : rF f 0 = f := by
  funext i
  exact if_neg (fun q => by omega)
theorem rF_s (f : Nat → Int32) (j : Nat) : upd (rF f j) (46 + j) (-6) = rF f (j + 1) := by
  funext i
  by_cases e : i = 46 + j
  · subst e
    rw [upd_s, rF, if_pos (by omega)]
  · rw [upd_n _ _ e]
    unfold rF
    by_cases h : 46 ≤ i ∧ i < 46 + j
    · rw [if_pos h, if_pos (by omega)]
    · rw [if_neg h, if_neg (by omega)]
/-- the hall's row at the beginning -/
def r0 : Nat → Int32 := rF fsF 70
theorem r0_c : rF (va_cpy fsF (fun _ => 0) 0 0 5) 70 = r0 := by
  have e : va_cpy fsF (fun _ => 0) 0 0 5 = fsF := by
    funext k
    by_cases h : k < 5
    · rw [pk_cpy_in (by omega) (by omega), show 0 + (k - 0) = k by omega]
    · rw [pk_cpy_out (by omega), ]
      obtain ⟨i, rfl⟩ : ∃ i, k = i + 5 := ⟨k - 5, by omega⟩
      rfl
  rw [e, r0]
theorem r0_m : rF (upd (upd (upd (upd (upd (fun _ => 0) 0 80) 1 6) 2 30) 3 40) 4 20) 70 = r0 := by
  have e : upd (upd (upd (upd (upd (fun _ => 0) 0 80) 1 6) 2 30) 3 40) 4 20 = fsF := by
    funext k
    by_cases h : k < 5
    · rcases (show k = 0 ∨ k = 1 ∨ k = 2 ∨ k = 3 ∨ k = 4 by omega) with rfl | rfl | rfl | rfl | rfl <;> rfl
    · rw [upd_n _ _ (by omega), upd_n _ _ (by omega), upd_n _ _ (by omega), upd_n _ _ (by omega), upd_n _ _ (by omega), ]
      obtain ⟨i, rfl⟩ : ∃ i, k = i + 5 := ⟨k - 5, by omega⟩
      rfl
  rw [e, r0]
theorem in_X0_init_X0c : ∀ x ∈ u_ws RX0 TX0 6, x ∈ wsX0_init := fun x h => List.mem_cons_of_mem _ (List.mem_append_right _ h)
theorem in_X1_init_X1c : ∀ x ∈ u_ws RX1 TX1 1, x ∈ wsX1_init := fun x h => List.mem_cons_of_mem _ (List.mem_append_right _ h)
theorem in_X2_init_X2c : ∀ x ∈ u_ws RX2 TX2 3, x ∈ wsX2_init := fun x h => List.mem_cons_of_mem _ (List.mem_append_right _ h)
theorem in_X3_init_X3c : ∀ x ∈ u_ws RX3 TX3 2, x ∈ wsX3_init := fun x h => List.mem_cons_of_mem _ (List.mem_append_right _ h)
theorem in_X4_init_X4c : ∀ x ∈ u_ws RX4 TX4 6, x ∈ wsX4_init := fun x h => List.mem_cons_of_mem _ (List.mem_append_left _ (List.mem_append_left _ (List.mem_append_left _ (List.mem_append_right _ h))))
theorem in_X4_init_X1c : ∀ x ∈ u_ws RX1 TX1 1, x ∈ wsX4_init := fun x h => List.mem_cons_of_mem _ (List.mem_append_left _ (List.mem_append_left _ (List.mem_append_left _ (List.mem_append_left _ (List.mem_append_right _ h)))))
theorem in_X4_init_X0c : ∀ x ∈ u_ws RX0 TX0 6, x ∈ wsX4_init := fun x h => List.mem_cons_of_mem _ (List.mem_append_left _ (List.mem_append_left _ (List.mem_append_right _ h)))
theorem in_X4_init_X3c : ∀ x ∈ u_ws RX3 TX3 2, x ∈ wsX4_init := fun x h => List.mem_cons_of_mem _ (List.mem_append_left _ (List.mem_append_right _ h))
theorem in_X4_init_X2c : ∀ x ∈ u_ws RX2 TX2 3, x ∈ wsX4_init := fun x h => List.mem_cons_of_mem _ (List.mem_append_right _ h)
set_option maxRecDepth 40000 in
theorem cm_X0_init_0 : Cond.methodLink RX0 3 objectInit ∈ wsX0_init := by decide +kernel
set_option maxRecDepth 40000 in
theorem cm_X0_init_1 : Cond.instanceMethod objectInit ∈ wsX0_init := by decide +kernel
set_option maxRecDepth 40000 in
theorem cm_X0_init_2 : Cond.code objectInit ⟨#[0xb1]⟩ 1 none ∈ wsX0_init := by decide +kernel
set_option maxRecDepth 40000 in
theorem cm_X0_init_3 : Cond.arrayClass .int ∈ wsX0_init := by decide +kernel
set_option maxRecDepth 40000 in
theorem cm_X0_init_4 : Cond.fieldLink RX0 9 (TX0 0).1 (TX0 0).2.1 (TX0 0).2.2.1 ∈ wsX0_init := by decide +kernel
set_option maxRecDepth 40000 in
theorem cm_X0_init_5 : Cond.fieldLink RX0 15 (TX0 1).1 (TX0 1).2.1 (TX0 1).2.2.1 ∈ wsX0_init := by decide +kernel
set_option maxRecDepth 40000 in
theorem cm_X0_init_6 : Cond.fieldLink RX0 18 (TX0 2).1 (TX0 2).2.1 (TX0 2).2.2.1 ∈ wsX0_init := by decide +kernel
set_option maxRecDepth 40000 in
theorem cm_X0_init_7 : Cond.fieldLink RX0 21 (TX0 3).1 (TX0 3).2.1 (TX0 3).2.2.1 ∈ wsX0_init := by decide +kernel
set_option maxRecDepth 40000 in
theorem cm_X3_init_0 : Cond.methodLink RX3 3 objectInit ∈ wsX3_init := by decide +kernel
set_option maxRecDepth 40000 in
theorem cm_X3_init_1 : Cond.instanceMethod objectInit ∈ wsX3_init := by decide +kernel
set_option maxRecDepth 40000 in
theorem cm_X3_init_2 : Cond.code objectInit ⟨#[0xb1]⟩ 1 none ∈ wsX3_init := by decide +kernel
set_option maxRecDepth 40000 in
theorem cm_X3_init_3 : Cond.arrayClass .char ∈ wsX3_init := by decide +kernel
set_option maxRecDepth 40000 in
theorem cm_X3_init_4 : Cond.fieldLink RX3 11 (TX3 0).1 (TX3 0).2.1 (TX3 0).2.2.1 ∈ wsX3_init := by decide +kernel
set_option maxRecDepth 40000 in
theorem cm_X2_init_0 : Cond.methodLink RX2 1 objectInit ∈ wsX2_init := by decide +kernel
set_option maxRecDepth 40000 in
theorem cm_X2_init_1 : Cond.instanceMethod objectInit ∈ wsX2_init := by decide +kernel
set_option maxRecDepth 40000 in
theorem cm_X2_init_2 : Cond.code objectInit ⟨#[0xb1]⟩ 1 none ∈ wsX2_init := by decide +kernel
set_option maxRecDepth 40000 in
theorem cm_X2_init_3 : Cond.classLink RX2 11 "[[I" ∈ wsX2_init := by decide +kernel
set_option maxRecDepth 40000 in
theorem cm_X2_init_4 : Cond.arrayClass .int ∈ wsX2_init := by decide +kernel
set_option maxRecDepth 40000 in
theorem cm_X2_init_5 : Cond.fieldLink RX2 13 (TX2 0).1 (TX2 0).2.1 (TX2 0).2.2.1 ∈ wsX2_init := by decide +kernel
set_option maxRecDepth 40000 in
theorem cm_X1_init_0 : Cond.methodLink RX1 5 objectInit ∈ wsX1_init := by decide +kernel
set_option maxRecDepth 40000 in
theorem cm_X1_init_1 : Cond.instanceMethod objectInit ∈ wsX1_init := by decide +kernel
set_option maxRecDepth 40000 in
theorem cm_X1_init_2 : Cond.code objectInit ⟨#[0xb1]⟩ 1 none ∈ wsX1_init := by decide +kernel
set_option maxRecDepth 40000 in
theorem cm_X1_init_3 : Cond.arrayClass .int ∈ wsX1_init := by decide +kernel
set_option maxRecDepth 40000 in
theorem cm_X1_init_4 : Cond.fieldLink RX1 11 (TX1 0).1 (TX1 0).2.1 (TX1 0).2.2.1 ∈ wsX1_init := by decide +kernel
set_option maxRecDepth 40000 in
theorem cm_X1_init_5 : Cond.methodLink RX1 18 arraycopyName ∈ wsX1_init := by decide +kernel
set_option maxRecDepth 40000 in
theorem cm_X1_init_6 : Cond.native arraycopyName ∈ wsX1_init := by decide +kernel
set_option maxRecDepth 40000 in
theorem cm_X1_init_7 : Cond.static arraycopyName ∈ wsX1_init := by decide +kernel
set_option maxRecDepth 40000 in
theorem cm_X1_init_8 : Cond.initialized "java/lang/System" ∈ wsX1_init := by decide +kernel
set_option maxRecDepth 40000 in
theorem cm_X4_init_0 : Cond.methodLink RX4 3 objectInit ∈ wsX4_init := by decide +kernel
set_option maxRecDepth 40000 in
theorem cm_X4_init_1 : Cond.instanceMethod objectInit ∈ wsX4_init := by decide +kernel
set_option maxRecDepth 40000 in
theorem cm_X4_init_2 : Cond.code objectInit ⟨#[0xb1]⟩ 1 none ∈ wsX4_init := by decide +kernel
set_option maxRecDepth 40000 in
theorem cm_X4_init_3 : Cond.classLink RX4 9 RX1 ∈ wsX4_init := by decide +kernel
set_option maxRecDepth 40000 in
theorem cm_X4_init_4 : Cond.instantiable RX1 1 ∈ wsX4_init := by decide +kernel
set_option maxRecDepth 40000 in
theorem cm_X4_init_5 : Cond.initialized RX1 ∈ wsX4_init := by decide +kernel
set_option maxRecDepth 40000 in
theorem cm_X4_init_6 : Cond.methodLink RX4 11 yX1_init ∈ wsX4_init := by decide +kernel
set_option maxRecDepth 40000 in
theorem cm_X4_init_7 : Cond.instanceMethod yX1_init ∈ wsX4_init := by decide +kernel
set_option maxRecDepth 40000 in
theorem cm_X4_init_8 : Cond.fieldLink RX4 12 (TX4 0).1 (TX4 0).2.1 (TX4 0).2.2.1 ∈ wsX4_init := by decide +kernel
set_option maxRecDepth 40000 in
theorem cm_X4_init_9 : Cond.classLink RX4 16 RX0 ∈ wsX4_init := by decide +kernel
set_option maxRecDepth 40000 in
theorem cm_X4_init_10 : Cond.instantiable RX0 6 ∈ wsX4_init := by decide +kernel
set_option maxRecDepth 40000 in
theorem cm_X4_init_11 : Cond.initialized RX0 ∈ wsX4_init := by decide +kernel
set_option maxRecDepth 40000 in
theorem cm_X4_init_12 : Cond.instanceMethod yX0_init ∈ wsX4_init := by decide +kernel
set_option maxRecDepth 40000 in
theorem cm_X4_init_13 : Cond.fieldLink RX4 19 (TX4 1).1 (TX4 1).2.1 (TX4 1).2.2.1 ∈ wsX4_init := by decide +kernel
set_option maxRecDepth 40000 in
theorem cm_X4_init_14 : Cond.classLink RX4 23 RX3 ∈ wsX4_init := by decide +kernel
set_option maxRecDepth 40000 in
theorem cm_X4_init_15 : Cond.instantiable RX3 2 ∈ wsX4_init := by decide +kernel
set_option maxRecDepth 40000 in
theorem cm_X4_init_16 : Cond.initialized RX3 ∈ wsX4_init := by decide +kernel
set_option maxRecDepth 40000 in
theorem cm_X4_init_17 : Cond.instanceMethod yX3_init ∈ wsX4_init := by decide +kernel
set_option maxRecDepth 40000 in
theorem cm_X4_init_18 : Cond.fieldLink RX4 26 (TX4 2).1 (TX4 2).2.1 (TX4 2).2.2.1 ∈ wsX4_init := by decide +kernel
set_option maxRecDepth 40000 in
theorem cm_X4_init_19 : Cond.classLink RX4 30 RX2 ∈ wsX4_init := by decide +kernel
set_option maxRecDepth 40000 in
theorem cm_X4_init_20 : Cond.instantiable RX2 3 ∈ wsX4_init := by decide +kernel
set_option maxRecDepth 40000 in
theorem cm_X4_init_21 : Cond.initialized RX2 ∈ wsX4_init := by decide +kernel
set_option maxRecDepth 40000 in
theorem cm_X4_init_22 : Cond.instanceMethod yX2_init ∈ wsX4_init := by decide +kernel
set_option maxRecDepth 40000 in
theorem cm_X4_init_23 : Cond.fieldLink RX4 33 (TX4 3).1 (TX4 3).2.1 (TX4 3).2.2.1 ∈ wsX4_init := by decide +kernel
set_option maxRecDepth 40000 in
theorem cm_X4_init_24 : Cond.classLink RX4 37 "[[I" ∈ wsX4_init := by decide +kernel
set_option maxRecDepth 40000 in
theorem cm_X4_init_25 : Cond.arrayClass .int ∈ wsX4_init := by decide +kernel
set_option maxRecDepth 40000 in
theorem cm_X4_init_26 : Cond.fieldLink RX4 39 (TX4 4).1 (TX4 4).2.1 (TX4 4).2.2.1 ∈ wsX4_init := by decide +kernel
set_option maxRecDepth 40000 in
theorem cm_X4_init_27 : Cond.arrayClass .boolean ∈ wsX4_init := by decide +kernel
set_option maxRecDepth 40000 in
theorem cm_X4_init_28 : Cond.fieldLink RX4 42 (TX4 5).1 (TX4 5).2.1 (TX4 5).2.2.1 ∈ wsX4_init := by decide +kernel
set_option maxHeartbeats 4000000 in
set_option maxRecDepth 100000 in
theorem c_X0_init (l : Launch) (D : va_G) (cI cC cZ cQ : ClassId) (tl tm tf : Nat) (b : Nat) : CN l D (cTy cI cC cZ cQ) yX0_init wsX0_init ({ frames := 1, cells := 4, slots := 170, locals := 30 } : Room) [.ref b] [(b, .inr (0, [.null, .null, .null, .null, .int 0, .int 0]))] tl tm tf 4 170 (fun u => ∃ q7 q15 q23 q30 : Nat, u = [(b, .inr (0, [.ref q7, .ref q15, .ref q23, .ref q30, .int 0, .int 0])), (q7, .inl (cI, 70, .inl (fun _ => 0))), (q15, .inl (cI, 70, .inl (fun _ => 0))), (q23, .inl (cI, 25, .inl (fun _ => 0))), (q30, .inl (cI, 5, .inl (fun _ => 0)))]) := by
  refine v_startN (own := RX0) (cc := cX0_init) (nL := 1) rfl rfl (by decide) rfl (Nat.le_of_ble_eq_true rfl) ?_
  intro p e s m args below meth c A Q C K hE9 hin9 hend
  refine v_lv (lv' := [(0, .ref b)]) [0] rfl ?_
  refine v_aload_n C dX0_init_0 rfl 0 0 rfl rfl ?_
  refine v_objinit C cm_X0_init_0 cm_X0_init_1 cm_X0_init_2 dX0_init_1 rfl (Nat.le_of_ble_eq_true rfl) (Nat.le_of_ble_eq_true rfl) ?_
  refine v_aload_n C dX0_init_4 rfl 0 0 rfl rfl ?_
  refine v_bipush (v := 70) C dX0_init_5 rfl bp_70 ?_
  refine v_newa (atype := .int) (ty := .int) C K (ra_int s) rfl cm_X0_init_3 0 rfl (N' := 70) (a0 := (70, .inl (fun _ => 0))) (fun _ => rfl) rfl (by decide) (Nat.le_of_ble_eq_true rfl) (Nat.le_of_ble_eq_true rfl) (Nat.le_of_ble_eq_true rfl) dX0_init_7 rfl (fun q7 => ?_)
  refine v_st [(b, .inr (0, [.null, .null, .null, .null, .int 0, .int 0])), (q7, .inl (cI, 70, .inl (fun _ => 0)))] rfl ?_
  refine v_putF (ty := (.array .int)) C K hin9 [(b, .inr (0, [.ref q7, .null, .null, .null, .int 0, .int 0])), (q7, .inl (cI, 70, .inl (fun _ => 0)))] in_X0_init_X0c tyX0_ok nmX0 0 rfl rfl 0 (by decide) cm_X0_init_4 rfl rfl (by decide +kernel) rfl rfl (Nat.le_of_ble_eq_true rfl) rfl dX0_init_9 rfl ?_
  refine v_aload_n C dX0_init_12 rfl 0 0 rfl rfl ?_
  refine v_bipush (v := 70) C dX0_init_13 rfl bp_70 ?_
  refine v_newa (atype := .int) (ty := .int) C K (ra_int s) rfl cm_X0_init_3 0 rfl (N' := 70) (a0 := (70, .inl (fun _ => 0))) (fun _ => rfl) rfl (by decide) (Nat.le_of_ble_eq_true rfl) (Nat.le_of_ble_eq_true rfl) (Nat.le_of_ble_eq_true rfl) dX0_init_15 rfl (fun q15 => ?_)
  refine v_st [(b, .inr (0, [.ref q7, .null, .null, .null, .int 0, .int 0])), (q7, .inl (cI, 70, .inl (fun _ => 0))), (q15, .inl (cI, 70, .inl (fun _ => 0)))] rfl ?_
  refine v_putF (ty := (.array .int)) C K hin9 [(b, .inr (0, [.ref q7, .ref q15, .null, .null, .int 0, .int 0])), (q7, .inl (cI, 70, .inl (fun _ => 0))), (q15, .inl (cI, 70, .inl (fun _ => 0)))] in_X0_init_X0c tyX0_ok nmX0 0 rfl rfl 1 (by decide) cm_X0_init_5 rfl rfl (by decide +kernel) rfl rfl (Nat.le_of_ble_eq_true rfl) rfl dX0_init_17 rfl ?_
  refine v_aload_n C dX0_init_20 rfl 0 0 rfl rfl ?_
  refine v_bipush (v := 25) C dX0_init_21 rfl bp_25 ?_
  refine v_newa (atype := .int) (ty := .int) C K (ra_int s) rfl cm_X0_init_3 0 rfl (N' := 25) (a0 := (25, .inl (fun _ => 0))) (fun _ => rfl) rfl (by decide) (Nat.le_of_ble_eq_true rfl) (Nat.le_of_ble_eq_true rfl) (Nat.le_of_ble_eq_true rfl) dX0_init_23 rfl (fun q23 => ?_)
  refine v_st [(b, .inr (0, [.ref q7, .ref q15, .null, .null, .int 0, .int 0])), (q7, .inl (cI, 70, .inl (fun _ => 0))), (q15, .inl (cI, 70, .inl (fun _ => 0))), (q23, .inl (cI, 25, .inl (fun _ => 0)))] rfl ?_
  refine v_putF (ty := (.array .int)) C K hin9 [(b, .inr (0, [.ref q7, .ref q15, .ref q23, .null, .int 0, .int 0])), (q7, .inl (cI, 70, .inl (fun _ => 0))), (q15, .inl (cI, 70, .inl (fun _ => 0))), (q23, .inl (cI, 25, .inl (fun _ => 0)))] in_X0_init_X0c tyX0_ok nmX0 0 rfl rfl 2 (by decide) cm_X0_init_6 rfl rfl (by decide +kernel) rfl rfl (Nat.le_of_ble_eq_true rfl) rfl dX0_init_25 rfl ?_
  refine v_aload_n C dX0_init_28 rfl 0 0 rfl rfl ?_
  refine v_iconst (v := 5) C dX0_init_29 rfl ic_5 ?_
  refine v_newa (atype := .int) (ty := .int) C K (ra_int s) rfl cm_X0_init_3 0 rfl (N' := 5) (a0 := (5, .inl (fun _ => 0))) (fun _ => rfl) rfl (by decide) (Nat.le_of_ble_eq_true rfl) (Nat.le_of_ble_eq_true rfl) (Nat.le_of_ble_eq_true rfl) dX0_init_30 rfl (fun q30 => ?_)
  refine v_st [(b, .inr (0, [.ref q7, .ref q15, .ref q23, .null, .int 0, .int 0])), (q7, .inl (cI, 70, .inl (fun _ => 0))), (q15, .inl (cI, 70, .inl (fun _ => 0))), (q23, .inl (cI, 25, .inl (fun _ => 0))), (q30, .inl (cI, 5, .inl (fun _ => 0)))] rfl ?_
  refine v_putF (ty := (.array .int)) C K hin9 [(b, .inr (0, [.ref q7, .ref q15, .ref q23, .ref q30, .int 0, .int 0])), (q7, .inl (cI, 70, .inl (fun _ => 0))), (q15, .inl (cI, 70, .inl (fun _ => 0))), (q23, .inl (cI, 25, .inl (fun _ => 0))), (q30, .inl (cI, 5, .inl (fun _ => 0)))] in_X0_init_X0c tyX0_ok nmX0 0 rfl rfl 3 (by decide) cm_X0_init_7 rfl rfl (by decide +kernel) rfl rfl (Nat.le_of_ble_eq_true rfl) rfl dX0_init_32 rfl ?_
  refine v_wid (k := 4) (n := 170) (Nat.le_of_ble_eq_true rfl) (Nat.le_of_ble_eq_true rfl) ?_
  exact hend ⟨q7, q15, q23, q30, rfl⟩ dX0_init_35
set_option maxHeartbeats 4000000 in
set_option maxRecDepth 100000 in
theorem c_X3_init (l : Launch) (D : va_G) (cI cC cZ cQ : ClassId) (tl tm tf : Nat) (b : Nat) : CN l D (cTy cI cC cZ cQ) yX3_init wsX3_init ({ frames := 1, cells := 1, slots := 60, locals := 30 } : Room) [.ref b] [(b, .inr (3, [.null, .int 0]))] tl tm tf 1 60 (fun u => ∃ q7 : Nat, u = [(b, .inr (3, [.ref q7, .int 0])), (q7, .inl (cC, 60, .inl (fun _ => 0)))]) := by
  refine v_startN (own := RX3) (cc := cX3_init) (nL := 1) rfl rfl (by decide) rfl (Nat.le_of_ble_eq_true rfl) ?_
  intro p e s m args below meth c A Q C K hE9 hin9 hend
  refine v_lv (lv' := [(0, .ref b)]) [0] rfl ?_
  refine v_aload_n C dX3_init_0 rfl 0 0 rfl rfl ?_
  refine v_objinit C cm_X3_init_0 cm_X3_init_1 cm_X3_init_2 dX3_init_1 rfl (Nat.le_of_ble_eq_true rfl) (Nat.le_of_ble_eq_true rfl) ?_
  refine v_aload_n C dX3_init_4 rfl 0 0 rfl rfl ?_
  refine v_bipush (v := 60) C dX3_init_5 rfl bp_60 ?_
  refine v_newa (atype := .char) (ty := .char) C K (ra_char s) rfl cm_X3_init_3 1 rfl (N' := 60) (a0 := (60, .inl (fun _ => 0))) (fun _ => rfl) rfl (by decide) (Nat.le_of_ble_eq_true rfl) (Nat.le_of_ble_eq_true rfl) (Nat.le_of_ble_eq_true rfl) dX3_init_7 rfl (fun q7 => ?_)
  refine v_st [(b, .inr (3, [.null, .int 0])), (q7, .inl (cC, 60, .inl (fun _ => 0)))] rfl ?_
  refine v_putF (ty := (.array .char)) C K hin9 [(b, .inr (3, [.ref q7, .int 0])), (q7, .inl (cC, 60, .inl (fun _ => 0)))] in_X3_init_X3c tyX3_ok nmX3 0 rfl rfl 0 (by decide) cm_X3_init_4 rfl rfl (by decide +kernel) rfl rfl (Nat.le_of_ble_eq_true rfl) rfl dX3_init_9 rfl ?_
  refine v_wid (k := 1) (n := 60) (Nat.le_of_ble_eq_true rfl) (Nat.le_of_ble_eq_true rfl) ?_
  exact hend ⟨q7, rfl⟩ dX3_init_12
set_option maxHeartbeats 4000000 in
set_option maxRecDepth 100000 in
theorem c_X2_init (l : Launch) (D : va_G) (cI cC cZ cQ : ClassId) (tl tm tf : Nat) (b : Nat) : CN l D (cTy cI cC cZ cQ) yX2_init wsX2_init ({ frames := 1, cells := 7, slots := 912, locals := 30 } : Room) [.ref b] [(b, .inr (2, [.null, .int 0, .int 0]))] tl tm tf 7 912 (fun u => ∃ q10 : Nat, u = [(b, .inr (2, [.ref q10, .int 0, .int 0])), (q10, .inl (cQ, 6, .inr (.inr (.inr (.inr (fun i => if i < 6 then some (q10 + 1 + i) else none)))))), (q10 + 1 + 0, .inl (cI, 151, .inl (fun _ => 0))), (q10 + 1 + 1, .inl (cI, 151, .inl (fun _ => 0))), (q10 + 1 + 2, .inl (cI, 151, .inl (fun _ => 0))), (q10 + 1 + 3, .inl (cI, 151, .inl (fun _ => 0))), (q10 + 1 + 4, .inl (cI, 151, .inl (fun _ => 0))), (q10 + 1 + 5, .inl (cI, 151, .inl (fun _ => 0)))]) := by
  refine v_startN (own := RX2) (cc := cX2_init) (nL := 1) rfl rfl (by decide) rfl (Nat.le_of_ble_eq_true rfl) ?_
  intro p e s m args below meth c A Q C K hE9 hin9 hend
  refine v_lv (lv' := [(0, .ref b)]) [0] rfl ?_
  refine v_aload_n C dX2_init_0 rfl 0 0 rfl rfl ?_
  refine v_objinit C cm_X2_init_0 cm_X2_init_1 cm_X2_init_2 dX2_init_1 rfl (Nat.le_of_ble_eq_true rfl) (Nat.le_of_ble_eq_true rfl) ?_
  refine v_aload_n C dX2_init_4 rfl 0 0 rfl rfl ?_
  refine v_bipush (v := 6) C dX2_init_5 rfl bp_6 ?_
  refine v_sipush (v := 151) C dX2_init_7 rfl sp_151 ?_
  refine v_mna C K hE9.2.1 cm_X2_init_3 cm_X2_init_4 0 3 rfl rfl (N' := 6) (K' := 151) rfl rfl (by decide) (by decide) (Nat.le_of_ble_eq_true rfl) (Nat.le_of_ble_eq_true rfl) dX2_init_10 rfl (fun q10 => ?_)
  refine v_st [(b, .inr (2, [.null, .int 0, .int 0])), (q10, .inl (cQ, 6, .inr (.inr (.inr (.inr (fun i => if i < 6 then some (q10 + 1 + i) else none)))))), (q10 + 1 + 0, .inl (cI, 151, .inl (fun _ => 0))), (q10 + 1 + 1, .inl (cI, 151, .inl (fun _ => 0))), (q10 + 1 + 2, .inl (cI, 151, .inl (fun _ => 0))), (q10 + 1 + 3, .inl (cI, 151, .inl (fun _ => 0))), (q10 + 1 + 4, .inl (cI, 151, .inl (fun _ => 0))), (q10 + 1 + 5, .inl (cI, 151, .inl (fun _ => 0)))] rfl ?_
  refine v_putF (ty := (.array (.array .int))) C K hin9 [(b, .inr (2, [.ref q10, .int 0, .int 0])), (q10, .inl (cQ, 6, .inr (.inr (.inr (.inr (fun i => if i < 6 then some (q10 + 1 + i) else none)))))), (q10 + 1 + 0, .inl (cI, 151, .inl (fun _ => 0))), (q10 + 1 + 1, .inl (cI, 151, .inl (fun _ => 0))), (q10 + 1 + 2, .inl (cI, 151, .inl (fun _ => 0))), (q10 + 1 + 3, .inl (cI, 151, .inl (fun _ => 0))), (q10 + 1 + 4, .inl (cI, 151, .inl (fun _ => 0))), (q10 + 1 + 5, .inl (cI, 151, .inl (fun _ => 0)))] in_X2_init_X2c tyX2_ok nmX2 0 rfl rfl 0 (by decide) cm_X2_init_5 rfl rfl (by decide +kernel) rfl rfl (Nat.le_of_ble_eq_true rfl) rfl dX2_init_14 rfl ?_
  refine v_wid (k := 7) (n := 912) (Nat.le_of_ble_eq_true rfl) (Nat.le_of_ble_eq_true rfl) ?_
  exact hend ⟨q10, rfl⟩ dX2_init_17
set_option maxHeartbeats 4000000 in
set_option maxRecDepth 100000 in
theorem c_X1_init (l : Launch) (D : va_G) (cI cC cZ cQ : ClassId) (tl tm tf : Nat) (b : Nat) : CN l D (cTy cI cC cZ cQ) yX1_init wsX1_init ({ frames := 1, cells := 1, slots := 151, locals := 30 } : Room) [.ref b] [(b, .inr (1, [.null]))] tl tm tf 1 151 (fun u => ∃ q8 : Nat, u = [(b, .inr (1, [.ref q8])), (q8, .inl (cI, 151, .inl r0))]) := by
  refine v_startN (own := RX1) (cc := cX1_init) (nL := 2) rfl rfl (by decide) rfl (Nat.le_of_ble_eq_true rfl) ?_
  intro p e s m args below meth c A Q C K hE9 hin9 hend
  refine v_lv (lv' := [(0, .ref b)]) [0] rfl ?_
  refine v_aload_n C dX1_init_0 rfl 0 0 rfl rfl ?_
  refine v_objinit C cm_X1_init_0 cm_X1_init_1 cm_X1_init_2 dX1_init_1 rfl (Nat.le_of_ble_eq_true rfl) (Nat.le_of_ble_eq_true rfl) ?_
  refine v_aload_n C dX1_init_4 rfl 0 0 rfl rfl ?_
  refine v_sipush (v := 151) C dX1_init_5 rfl sp_151 ?_
  refine v_newa (atype := .int) (ty := .int) C K (ra_int s) rfl cm_X1_init_3 0 rfl (N' := 151) (a0 := (151, .inl (fun _ => 0))) (fun _ => rfl) rfl (by decide) (Nat.le_of_ble_eq_true rfl) (Nat.le_of_ble_eq_true rfl) (Nat.le_of_ble_eq_true rfl) dX1_init_8 rfl (fun q8 => ?_)
  refine v_st [(b, .inr (1, [.null])), (q8, .inl (cI, 151, .inl (fun _ => 0)))] rfl ?_
  refine v_putF (ty := (.array .int)) C K hin9 [(b, .inr (1, [.ref q8])), (q8, .inl (cI, 151, .inl (fun _ => 0)))] in_X1_init_X1c tyX1_ok nmX1 0 rfl rfl 0 (by decide) cm_X1_init_4 rfl rfl (by decide +kernel) rfl rfl (Nat.le_of_ble_eq_true rfl) rfl dX1_init_10 rfl ?_
  refine v_getsN C hE9.1.2.2.1 hE9.2.2.1 dX1_init_13 rfl ?_
  refine v_iconst (v := 0) C dX1_init_16 rfl ic_0 ?_
  refine v_aload_n C dX1_init_17 rfl 0 0 rfl rfl ?_
  refine v_get C K in_X1_init_X1c 0 rfl rfl 0 (by decide) cm_X1_init_4 rfl dX1_init_18 rfl ?_
  refine v_iconst (v := 0) C dX1_init_21 rfl ic_0 ?_
  refine v_iconst (v := 5) C dX1_init_22 rfl ic_5 ?_
  refine v_copyx C K cm_X1_init_5 cm_X1_init_6 cm_X1_init_7 cm_X1_init_8 [(b, .inr (1, [.ref q8])), (q8, .inl (cI, 151, .inl (va_cpy fsF (fun _ => 0) 0 0 5)))] hE9.1.2.2 1 0 rfl rfl (sj := 0) (dj := 0) (nj := 5) rfl rfl rfl ⟨by decide, by decide, by decide⟩ (by decide) (by decide) (Nat.le_of_ble_eq_true rfl) (Nat.le_of_ble_eq_true rfl) rfl dX1_init_23 rfl ?_
  refine v_iconst (v := 0) C dX1_init_26 rfl ic_0 ?_
  refine v_istore_n (lv' := [(1, _), (0, _)]) C dX1_init_27 rfl 1 rfl (by decide) rfl ?_
  refine v_lv (lv' := [(0, _), (1, _)]) [1, 0] rfl ?_
  have LP : ∀ j, j ≤ 70 → VV p l e ({ frames := 1, cells := 1, slots := 151, locals := 30 } : Room) s m args below meth c (0 + 1) (0 + 151) Q (fun u : va_W => u) D A s.heap 2 [(b, .inr (1, [.ref q8])), (q8, .inl (cI, 151, .inl (rF (va_cpy fsF (fun _ => 0) 0 0 5) j)))] 28 [(0, .ref b), (1, .int (nI j))] [] := by
    refine lpB9 (fun j => VV p l e ({ frames := 1, cells := 1, slots := 151, locals := 30 } : Room) s m args below meth c (0 + 1) (0 + 151) Q (fun u : va_W => u) D A s.heap 2 [(b, .inr (1, [.ref q8])), (q8, .inl (cI, 151, .inl (rF (va_cpy fsF (fun _ => 0) 0 0 5) j)))] 28 [(0, .ref b), (1, .int (nI j))] []) 70 (fun j hj ih => ?_) ?_
    · refine v_iload_n C dX1_init_28 rfl 1 1 rfl rfl ?_
      refine v_bipush (v := 70) C dX1_init_29 rfl bp_70 ?_
      refine v_icmp_ge C 51 dX1_init_31 (by decide) rfl (fun h9 => absurd h9 (nI_ge hj (by decide))) (fun _ => ?_)
      refine v_aload_n C dX1_init_34 rfl 0 0 rfl rfl ?_
      refine v_get C K in_X1_init_X1c 0 rfl rfl 0 (by decide) cm_X1_init_4 rfl dX1_init_35 rfl ?_
      refine v_bipush (v := 46) C dX1_init_38 rfl bp_46 ?_
      refine v_iload_n C dX1_init_40 rfl 1 1 rfl rfl ?_
      refine v_iadd C dX1_init_41 rfl ?_
      refine v_bipush (v := -6) C dX1_init_42 rfl bp_m6 ?_
      refine v_iast C K [(b, .inr (1, [.ref q8])), (q8, .inl (cI, 151, .inl (rF (va_cpy fsF (fun _ => 0) 0 0 5) (j + 1))))] 1 0 rfl rfl (46 + j) (nI_add 46 j) (by omega) (by decide) (by rw [← rF_s]; rfl) dX1_init_44 rfl ?_
      refine v_iinc (lv' := [(1, _), (0, _)]) C dX1_init_45 rfl 1 rfl (inc9 _) (by decide) rfl ?_
      refine v_goto C 28 dX1_init_48 (by decide) ?_
      refine v_lv (lv' := [(0, _), (1, _)]) [1, 0] rfl ?_
      exact ih
    · refine v_iload_n C dX1_init_28 rfl 1 1 rfl rfl ?_
      refine v_bipush (v := 70) C dX1_init_29 rfl bp_70 ?_
      refine v_icmp_ge C 51 dX1_init_31 (by decide) rfl (fun _ => ?_) (fun h9 => absurd (nI_le (Nat.le_refl _) (by decide)) h9)
      refine v_st [(b, .inr (1, [.ref q8])), (q8, .inl (cI, 151, .inl r0))] (by rw [show rF (va_cpy fsF (fun _ => 0) 0 0 5) 70 = r0 from r0_c]) ?_
      refine v_wid (k := 1) (n := 151) (Nat.le_of_ble_eq_true rfl) (Nat.le_of_ble_eq_true rfl) ?_
      exact hend ⟨q8, rfl⟩ dX1_init_51
  exact v_st [(b, .inr (1, [.ref q8])), (q8, .inl (cI, 151, .inl (rF (va_cpy fsF (fun _ => 0) 0 0 5) 0)))] (by rw [rF_0]) (LP 0 (by decide))
end
section
/-- the class's rows at the beginning -/
def iC0 : S9 := fun k => if k = 0 then r0 else fun _ => 0
def adF (L : List Nat) (h s : Nat) : Nat → Nat := fun i => if i < 14 then L.getD i 0 else if i < 20 then h + 1 + (i - 14) else s + 1 + (i - 20)
theorem adF_h (L : List Nat) (h s : Nat) : (fun i => if i < 6 then some (adF L h s (14 + i)) else none) = fun i => if i < 6 then some (h + 1 + i) else none := by
  funext i
  by_cases hi : i < 6
  · rw [if_pos hi, if_pos hi, adF, if_neg (by omega), if_pos (by omega), show 14 + i - 14 = i by omega]
  · rw [if_neg hi, if_neg hi]
theorem adF_s (L : List Nat) (h s : Nat) : (fun i => if i < 2 then some (adF L h s (14 + (6 + i))) else none) = fun i => if i < 2 then some (s + 1 + i) else none := by
  funext i
  by_cases hi : i < 2
  · rw [if_pos hi, if_pos hi, adF, if_neg (by omega), if_neg (by omega), show 14 + (6 + i) - 20 = i by omega]
  · rw [if_neg hi, if_neg hi]
section VPM
variable {p : Program} {l : Launch} {e : Env} {R : Room} {s : State} {m : MethodId} {args : Array Value} {below : List Frame} {meth : Method} {c : Code} {cells slots : Nat} {Q : State → Prop}
variable {D : va_G} {A : Nat → Prop} {H0 : Heap} {nL : Nat} {σ σ2 : va_W} {pc : Nat} {lv : List (Nat × Value)} {st : List Value}
theorem v_perm (is : List Nat) (hn : va_nd is = true) (hC : is.map (fun i => σ[i]?) = σ2.map some) (hCf : is.filterMap (fun i => σ[i]?) = σ2) (kk : VV p l e R s m args below meth c cells slots Q (fun u : va_W => u) D A H0 nL σ2 pc lv st) : VV p l e R s m args below meth c cells slots Q (fun u : va_W => u) D A H0 nL σ pc lv st := fun H locs ls hP hD hS h => kk H locs ls (va_P.sub hP is hCf) (va_D.sub hD is hn hC) hS h
end VPM
set_option maxHeartbeats 4000000 in
set_option maxRecDepth 100000 in
theorem c_X4_init (l : Launch) (D : va_G) (cI cC cZ cQ : ClassId) (tl tm tf : Nat) (b : Nat) : CN l D (cTy cI cC cZ cQ) yX4_init wsX4_init ({ frames := 2, cells := 21, slots := 1611, locals := 70 } : Room) [.ref b] [(b, .inr (4, [.null, .null, .null, .null, .null, .null]))] tl tm tf 21 1611 (fun u => ∃ ad : Nat → Nat, ad 0 = b ∧ u = cW ad cI cC cZ cQ iC0) := by
  refine v_startN (own := RX4) (cc := cX4_init) (nL := 1) rfl rfl (by decide) rfl (Nat.le_of_ble_eq_true rfl) ?_
  intro p e s m args below meth c A Q C K hE9 hin9 hend
  refine v_lv (lv' := [(0, .ref b)]) [0] rfl ?_
  refine v_aload_n C dX4_init_0 rfl 0 0 rfl rfl ?_
  refine v_objinit C cm_X4_init_0 cm_X4_init_1 cm_X4_init_2 dX4_init_1 rfl (Nat.le_of_ble_eq_true rfl) (Nat.le_of_ble_eq_true rfl) ?_
  refine v_aload_n C dX4_init_4 rfl 0 0 rfl rfl ?_
  refine v_newo C K (N := 1) (ci := 1) in_X4_init_X1c tyX1 tyX1_ok cm_X4_init_3 cm_X4_init_4 cm_X4_init_5 rfl (fs := [.null]) (fun j hj => by rcases (show j = 0 by omega) with rfl <;> rfl) (Nat.le_of_ble_eq_true rfl) (Nat.le_of_ble_eq_true rfl) dX4_init_5 rfl (fun q5 => ?_)
  refine v_st [(b, .inr (4, [.null, .null, .null, .null, .null, .null])), (q5, .inr (1, [.null]))] rfl ?_
  refine v_dup C dX4_init_8 rfl rfl ?_
  refine v_initcall C K hE9 (c_X1_init l D cI cC cZ cQ tl tm tf q5) ggX4_init_X1_init rfl cm_X4_init_5 cm_X4_init_6 cm_X4_init_7 rfl hd_X1_init.2 ⟨rfl, rfl⟩ ⟨(Nat.le_of_ble_eq_true rfl), (Nat.le_of_ble_eq_true rfl)⟩ [1] [0] (σr := [(b, .inr (4, [.null, .null, .null, .null, .null, .null]))]) rfl rfl (by decide) rfl (by decide) (by decide) (Nat.le_of_ble_eq_true rfl) ⟨(Nat.le_of_ble_eq_true rfl), (Nat.le_of_ble_eq_true rfl)⟩ dX4_init_9 rfl (fun u9 hu9 => ?_)
  obtain ⟨q8_9, rfl⟩ := hu9
  refine v_st [(b, .inr (4, [.null, .null, .null, .null, .null, .null])), (q5, .inr (1, [.ref q8_9])), (q8_9, .inl (cI, 151, .inl r0))] rfl ?_
  refine v_putF (ty := (.object "VillageCinema$Hall")) C K hin9 [(b, .inr (4, [.ref q5, .null, .null, .null, .null, .null])), (q5, .inr (1, [.ref q8_9])), (q8_9, .inl (cI, 151, .inl r0))] in_X4_init_X4c tyX4_ok nmX4 0 rfl rfl 0 (by decide) cm_X4_init_8 rfl rfl (by decide +kernel) rfl rfl (Nat.le_of_ble_eq_true rfl) rfl dX4_init_12 rfl ?_
  refine v_aload_n C dX4_init_15 rfl 0 0 rfl rfl ?_
  refine v_newo C K (N := 6) (ci := 0) in_X4_init_X0c tyX0 tyX0_ok cm_X4_init_9 cm_X4_init_10 cm_X4_init_11 rfl (fs := [.null, .null, .null, .null, .int 0, .int 0]) (fun j hj => by rcases (show j = 0 ∨ j = 1 ∨ j = 2 ∨ j = 3 ∨ j = 4 ∨ j = 5 by omega) with rfl | rfl | rfl | rfl | rfl | rfl <;> rfl) (Nat.le_of_ble_eq_true rfl) (Nat.le_of_ble_eq_true rfl) dX4_init_16 rfl (fun q16 => ?_)
  refine v_st [(b, .inr (4, [.ref q5, .null, .null, .null, .null, .null])), (q5, .inr (1, [.ref q8_9])), (q8_9, .inl (cI, 151, .inl r0)), (q16, .inr (0, [.null, .null, .null, .null, .int 0, .int 0]))] rfl ?_
  refine v_dup C dX4_init_19 rfl rfl ?_
  refine v_initcallN C K hE9 (c_X0_init l D cI cC cZ cQ tl tm tf q16) ggX4_init_X0_init rfl cm_X4_init_11 hE9.2.2.2.1 cm_X4_init_12 rfl hd_X0_init.2 ⟨rfl, rfl⟩ ⟨(Nat.le_of_ble_eq_true rfl), (Nat.le_of_ble_eq_true rfl)⟩ [3] [0, 1, 2] (σr := [(b, .inr (4, [.ref q5, .null, .null, .null, .null, .null])), (q5, .inr (1, [.ref q8_9])), (q8_9, .inl (cI, 151, .inl r0))]) rfl rfl (by decide) rfl (by decide) (by decide) (Nat.le_of_ble_eq_true rfl) ⟨(Nat.le_of_ble_eq_true rfl), (Nat.le_of_ble_eq_true rfl)⟩ dX4_init_20 rfl (fun u20 hu20 => ?_)
  obtain ⟨q7_20, q15_20, q23_20, q30_20, rfl⟩ := hu20
  refine v_st [(b, .inr (4, [.ref q5, .null, .null, .null, .null, .null])), (q5, .inr (1, [.ref q8_9])), (q8_9, .inl (cI, 151, .inl r0)), (q16, .inr (0, [.ref q7_20, .ref q15_20, .ref q23_20, .ref q30_20, .int 0, .int 0])), (q7_20, .inl (cI, 70, .inl (fun _ => 0))), (q15_20, .inl (cI, 70, .inl (fun _ => 0))), (q23_20, .inl (cI, 25, .inl (fun _ => 0))), (q30_20, .inl (cI, 5, .inl (fun _ => 0)))] rfl ?_
  refine v_putF (ty := (.object "VillageCinema$FilmRun")) C K hin9 [(b, .inr (4, [.ref q5, .ref q16, .null, .null, .null, .null])), (q5, .inr (1, [.ref q8_9])), (q8_9, .inl (cI, 151, .inl r0)), (q16, .inr (0, [.ref q7_20, .ref q15_20, .ref q23_20, .ref q30_20, .int 0, .int 0])), (q7_20, .inl (cI, 70, .inl (fun _ => 0))), (q15_20, .inl (cI, 70, .inl (fun _ => 0))), (q23_20, .inl (cI, 25, .inl (fun _ => 0))), (q30_20, .inl (cI, 5, .inl (fun _ => 0)))] in_X4_init_X4c tyX4_ok nmX4 0 rfl rfl 1 (by decide) cm_X4_init_13 rfl rfl (by decide +kernel) rfl rfl (Nat.le_of_ble_eq_true rfl) rfl dX4_init_23 rfl ?_
  refine v_aload_n C dX4_init_26 rfl 0 0 rfl rfl ?_
  refine v_newo C K (N := 2) (ci := 3) in_X4_init_X3c tyX3 tyX3_ok cm_X4_init_14 cm_X4_init_15 cm_X4_init_16 rfl (fs := [.null, .int 0]) (fun j hj => by rcases (show j = 0 ∨ j = 1 by omega) with rfl | rfl <;> rfl) (Nat.le_of_ble_eq_true rfl) (Nat.le_of_ble_eq_true rfl) dX4_init_27 rfl (fun q27 => ?_)
  refine v_st [(b, .inr (4, [.ref q5, .ref q16, .null, .null, .null, .null])), (q5, .inr (1, [.ref q8_9])), (q8_9, .inl (cI, 151, .inl r0)), (q16, .inr (0, [.ref q7_20, .ref q15_20, .ref q23_20, .ref q30_20, .int 0, .int 0])), (q7_20, .inl (cI, 70, .inl (fun _ => 0))), (q15_20, .inl (cI, 70, .inl (fun _ => 0))), (q23_20, .inl (cI, 25, .inl (fun _ => 0))), (q30_20, .inl (cI, 5, .inl (fun _ => 0))), (q27, .inr (3, [.null, .int 0]))] rfl ?_
  refine v_dup C dX4_init_30 rfl rfl ?_
  refine v_initcallN C K hE9 (c_X3_init l D cI cC cZ cQ tl tm tf q27) ggX4_init_X3_init rfl cm_X4_init_16 hE9.2.2.2.2.1 cm_X4_init_17 rfl hd_X3_init.2 ⟨rfl, rfl⟩ ⟨(Nat.le_of_ble_eq_true rfl), (Nat.le_of_ble_eq_true rfl)⟩ [8] [0, 1, 2, 3, 4, 5, 6, 7] (σr := [(b, .inr (4, [.ref q5, .ref q16, .null, .null, .null, .null])), (q5, .inr (1, [.ref q8_9])), (q8_9, .inl (cI, 151, .inl r0)), (q16, .inr (0, [.ref q7_20, .ref q15_20, .ref q23_20, .ref q30_20, .int 0, .int 0])), (q7_20, .inl (cI, 70, .inl (fun _ => 0))), (q15_20, .inl (cI, 70, .inl (fun _ => 0))), (q23_20, .inl (cI, 25, .inl (fun _ => 0))), (q30_20, .inl (cI, 5, .inl (fun _ => 0)))]) rfl rfl (by decide) rfl (by decide) (by decide) (Nat.le_of_ble_eq_true rfl) ⟨(Nat.le_of_ble_eq_true rfl), (Nat.le_of_ble_eq_true rfl)⟩ dX4_init_31 rfl (fun u31 hu31 => ?_)
  obtain ⟨q7_31, rfl⟩ := hu31
  refine v_st [(b, .inr (4, [.ref q5, .ref q16, .null, .null, .null, .null])), (q5, .inr (1, [.ref q8_9])), (q8_9, .inl (cI, 151, .inl r0)), (q16, .inr (0, [.ref q7_20, .ref q15_20, .ref q23_20, .ref q30_20, .int 0, .int 0])), (q7_20, .inl (cI, 70, .inl (fun _ => 0))), (q15_20, .inl (cI, 70, .inl (fun _ => 0))), (q23_20, .inl (cI, 25, .inl (fun _ => 0))), (q30_20, .inl (cI, 5, .inl (fun _ => 0))), (q27, .inr (3, [.ref q7_31, .int 0])), (q7_31, .inl (cC, 60, .inl (fun _ => 0)))] rfl ?_
  refine v_putF (ty := (.object "VillageCinema$Pad")) C K hin9 [(b, .inr (4, [.ref q5, .ref q16, .ref q27, .null, .null, .null])), (q5, .inr (1, [.ref q8_9])), (q8_9, .inl (cI, 151, .inl r0)), (q16, .inr (0, [.ref q7_20, .ref q15_20, .ref q23_20, .ref q30_20, .int 0, .int 0])), (q7_20, .inl (cI, 70, .inl (fun _ => 0))), (q15_20, .inl (cI, 70, .inl (fun _ => 0))), (q23_20, .inl (cI, 25, .inl (fun _ => 0))), (q30_20, .inl (cI, 5, .inl (fun _ => 0))), (q27, .inr (3, [.ref q7_31, .int 0])), (q7_31, .inl (cC, 60, .inl (fun _ => 0)))] in_X4_init_X4c tyX4_ok nmX4 0 rfl rfl 2 (by decide) cm_X4_init_18 rfl rfl (by decide +kernel) rfl rfl (Nat.le_of_ble_eq_true rfl) rfl dX4_init_34 rfl ?_
  refine v_aload_n C dX4_init_37 rfl 0 0 rfl rfl ?_
  refine v_newo C K (N := 3) (ci := 2) in_X4_init_X2c tyX2 tyX2_ok cm_X4_init_19 cm_X4_init_20 cm_X4_init_21 rfl (fs := [.null, .int 0, .int 0]) (fun j hj => by rcases (show j = 0 ∨ j = 1 ∨ j = 2 by omega) with rfl | rfl | rfl <;> rfl) (Nat.le_of_ble_eq_true rfl) (Nat.le_of_ble_eq_true rfl) dX4_init_38 rfl (fun q38 => ?_)
  refine v_st [(b, .inr (4, [.ref q5, .ref q16, .ref q27, .null, .null, .null])), (q5, .inr (1, [.ref q8_9])), (q8_9, .inl (cI, 151, .inl r0)), (q16, .inr (0, [.ref q7_20, .ref q15_20, .ref q23_20, .ref q30_20, .int 0, .int 0])), (q7_20, .inl (cI, 70, .inl (fun _ => 0))), (q15_20, .inl (cI, 70, .inl (fun _ => 0))), (q23_20, .inl (cI, 25, .inl (fun _ => 0))), (q30_20, .inl (cI, 5, .inl (fun _ => 0))), (q27, .inr (3, [.ref q7_31, .int 0])), (q7_31, .inl (cC, 60, .inl (fun _ => 0))), (q38, .inr (2, [.null, .int 0, .int 0]))] rfl ?_
  refine v_dup C dX4_init_41 rfl rfl ?_
  refine v_initcallN C K hE9 (c_X2_init l D cI cC cZ cQ tl tm tf q38) ggX4_init_X2_init rfl cm_X4_init_21 hE9.2.2.2.2.2 cm_X4_init_22 rfl hd_X2_init.2 ⟨rfl, rfl⟩ ⟨(Nat.le_of_ble_eq_true rfl), (Nat.le_of_ble_eq_true rfl)⟩ [10] [0, 1, 2, 3, 4, 5, 6, 7, 8, 9] (σr := [(b, .inr (4, [.ref q5, .ref q16, .ref q27, .null, .null, .null])), (q5, .inr (1, [.ref q8_9])), (q8_9, .inl (cI, 151, .inl r0)), (q16, .inr (0, [.ref q7_20, .ref q15_20, .ref q23_20, .ref q30_20, .int 0, .int 0])), (q7_20, .inl (cI, 70, .inl (fun _ => 0))), (q15_20, .inl (cI, 70, .inl (fun _ => 0))), (q23_20, .inl (cI, 25, .inl (fun _ => 0))), (q30_20, .inl (cI, 5, .inl (fun _ => 0))), (q27, .inr (3, [.ref q7_31, .int 0])), (q7_31, .inl (cC, 60, .inl (fun _ => 0)))]) rfl rfl (by decide) rfl (by decide) (by decide) (Nat.le_of_ble_eq_true rfl) ⟨(Nat.le_of_ble_eq_true rfl), (Nat.le_of_ble_eq_true rfl)⟩ dX4_init_42 rfl (fun u42 hu42 => ?_)
  obtain ⟨q10_42, rfl⟩ := hu42
  refine v_st [(b, .inr (4, [.ref q5, .ref q16, .ref q27, .null, .null, .null])), (q5, .inr (1, [.ref q8_9])), (q8_9, .inl (cI, 151, .inl r0)), (q16, .inr (0, [.ref q7_20, .ref q15_20, .ref q23_20, .ref q30_20, .int 0, .int 0])), (q7_20, .inl (cI, 70, .inl (fun _ => 0))), (q15_20, .inl (cI, 70, .inl (fun _ => 0))), (q23_20, .inl (cI, 25, .inl (fun _ => 0))), (q30_20, .inl (cI, 5, .inl (fun _ => 0))), (q27, .inr (3, [.ref q7_31, .int 0])), (q7_31, .inl (cC, 60, .inl (fun _ => 0))), (q38, .inr (2, [.ref q10_42, .int 0, .int 0])), (q10_42, .inl (cQ, 6, .inr (.inr (.inr (.inr (fun i => if i < 6 then some (q10_42 + 1 + i) else none)))))), (q10_42 + 1 + 0, .inl (cI, 151, .inl (fun _ => 0))), (q10_42 + 1 + 1, .inl (cI, 151, .inl (fun _ => 0))), (q10_42 + 1 + 2, .inl (cI, 151, .inl (fun _ => 0))), (q10_42 + 1 + 3, .inl (cI, 151, .inl (fun _ => 0))), (q10_42 + 1 + 4, .inl (cI, 151, .inl (fun _ => 0))), (q10_42 + 1 + 5, .inl (cI, 151, .inl (fun _ => 0)))] rfl ?_
  refine v_putF (ty := (.object "VillageCinema$History")) C K hin9 [(b, .inr (4, [.ref q5, .ref q16, .ref q27, .ref q38, .null, .null])), (q5, .inr (1, [.ref q8_9])), (q8_9, .inl (cI, 151, .inl r0)), (q16, .inr (0, [.ref q7_20, .ref q15_20, .ref q23_20, .ref q30_20, .int 0, .int 0])), (q7_20, .inl (cI, 70, .inl (fun _ => 0))), (q15_20, .inl (cI, 70, .inl (fun _ => 0))), (q23_20, .inl (cI, 25, .inl (fun _ => 0))), (q30_20, .inl (cI, 5, .inl (fun _ => 0))), (q27, .inr (3, [.ref q7_31, .int 0])), (q7_31, .inl (cC, 60, .inl (fun _ => 0))), (q38, .inr (2, [.ref q10_42, .int 0, .int 0])), (q10_42, .inl (cQ, 6, .inr (.inr (.inr (.inr (fun i => if i < 6 then some (q10_42 + 1 + i) else none)))))), (q10_42 + 1 + 0, .inl (cI, 151, .inl (fun _ => 0))), (q10_42 + 1 + 1, .inl (cI, 151, .inl (fun _ => 0))), (q10_42 + 1 + 2, .inl (cI, 151, .inl (fun _ => 0))), (q10_42 + 1 + 3, .inl (cI, 151, .inl (fun _ => 0))), (q10_42 + 1 + 4, .inl (cI, 151, .inl (fun _ => 0))), (q10_42 + 1 + 5, .inl (cI, 151, .inl (fun _ => 0)))] in_X4_init_X4c tyX4_ok nmX4 0 rfl rfl 3 (by decide) cm_X4_init_23 rfl rfl (by decide +kernel) rfl rfl (Nat.le_of_ble_eq_true rfl) rfl dX4_init_45 rfl ?_
  refine v_aload_n C dX4_init_48 rfl 0 0 rfl rfl ?_
  refine v_iconst (v := 2) C dX4_init_49 rfl ic_2 ?_
  refine v_sipush (v := 151) C dX4_init_50 rfl sp_151 ?_
  refine v_mna C K hE9.2.1 cm_X4_init_24 cm_X4_init_25 0 3 rfl rfl (N' := 2) (K' := 151) rfl rfl (by decide) (by decide) (Nat.le_of_ble_eq_true rfl) (Nat.le_of_ble_eq_true rfl) dX4_init_53 rfl (fun q53 => ?_)
  refine v_st [(b, .inr (4, [.ref q5, .ref q16, .ref q27, .ref q38, .null, .null])), (q5, .inr (1, [.ref q8_9])), (q8_9, .inl (cI, 151, .inl r0)), (q16, .inr (0, [.ref q7_20, .ref q15_20, .ref q23_20, .ref q30_20, .int 0, .int 0])), (q7_20, .inl (cI, 70, .inl (fun _ => 0))), (q15_20, .inl (cI, 70, .inl (fun _ => 0))), (q23_20, .inl (cI, 25, .inl (fun _ => 0))), (q30_20, .inl (cI, 5, .inl (fun _ => 0))), (q27, .inr (3, [.ref q7_31, .int 0])), (q7_31, .inl (cC, 60, .inl (fun _ => 0))), (q38, .inr (2, [.ref q10_42, .int 0, .int 0])), (q10_42, .inl (cQ, 6, .inr (.inr (.inr (.inr (fun i => if i < 6 then some (q10_42 + 1 + i) else none)))))), (q10_42 + 1 + 0, .inl (cI, 151, .inl (fun _ => 0))), (q10_42 + 1 + 1, .inl (cI, 151, .inl (fun _ => 0))), (q10_42 + 1 + 2, .inl (cI, 151, .inl (fun _ => 0))), (q10_42 + 1 + 3, .inl (cI, 151, .inl (fun _ => 0))), (q10_42 + 1 + 4, .inl (cI, 151, .inl (fun _ => 0))), (q10_42 + 1 + 5, .inl (cI, 151, .inl (fun _ => 0))), (q53, .inl (cQ, 2, .inr (.inr (.inr (.inr (fun i => if i < 2 then some (q53 + 1 + i) else none)))))), (q53 + 1 + 0, .inl (cI, 151, .inl (fun _ => 0))), (q53 + 1 + 1, .inl (cI, 151, .inl (fun _ => 0)))] rfl ?_
  refine v_putF (ty := (.array (.array .int))) C K hin9 [(b, .inr (4, [.ref q5, .ref q16, .ref q27, .ref q38, .ref q53, .null])), (q5, .inr (1, [.ref q8_9])), (q8_9, .inl (cI, 151, .inl r0)), (q16, .inr (0, [.ref q7_20, .ref q15_20, .ref q23_20, .ref q30_20, .int 0, .int 0])), (q7_20, .inl (cI, 70, .inl (fun _ => 0))), (q15_20, .inl (cI, 70, .inl (fun _ => 0))), (q23_20, .inl (cI, 25, .inl (fun _ => 0))), (q30_20, .inl (cI, 5, .inl (fun _ => 0))), (q27, .inr (3, [.ref q7_31, .int 0])), (q7_31, .inl (cC, 60, .inl (fun _ => 0))), (q38, .inr (2, [.ref q10_42, .int 0, .int 0])), (q10_42, .inl (cQ, 6, .inr (.inr (.inr (.inr (fun i => if i < 6 then some (q10_42 + 1 + i) else none)))))), (q10_42 + 1 + 0, .inl (cI, 151, .inl (fun _ => 0))), (q10_42 + 1 + 1, .inl (cI, 151, .inl (fun _ => 0))), (q10_42 + 1 + 2, .inl (cI, 151, .inl (fun _ => 0))), (q10_42 + 1 + 3, .inl (cI, 151, .inl (fun _ => 0))), (q10_42 + 1 + 4, .inl (cI, 151, .inl (fun _ => 0))), (q10_42 + 1 + 5, .inl (cI, 151, .inl (fun _ => 0))), (q53, .inl (cQ, 2, .inr (.inr (.inr (.inr (fun i => if i < 2 then some (q53 + 1 + i) else none)))))), (q53 + 1 + 0, .inl (cI, 151, .inl (fun _ => 0))), (q53 + 1 + 1, .inl (cI, 151, .inl (fun _ => 0)))] in_X4_init_X4c tyX4_ok nmX4 0 rfl rfl 4 (by decide) cm_X4_init_26 rfl rfl (by decide +kernel) rfl rfl (Nat.le_of_ble_eq_true rfl) rfl dX4_init_57 rfl ?_
  refine v_aload_n C dX4_init_60 rfl 0 0 rfl rfl ?_
  refine v_iconst (v := 2) C dX4_init_61 rfl ic_2 ?_
  refine v_newa (atype := .boolean) (ty := .boolean) C K (ra_bool s) rfl cm_X4_init_27 2 rfl (N' := 2) (a0 := (2, .inl (fun _ => 0))) (fun _ => rfl) rfl (by decide) (Nat.le_of_ble_eq_true rfl) (Nat.le_of_ble_eq_true rfl) (Nat.le_of_ble_eq_true rfl) dX4_init_62 rfl (fun q62 => ?_)
  refine v_st [(b, .inr (4, [.ref q5, .ref q16, .ref q27, .ref q38, .ref q53, .null])), (q5, .inr (1, [.ref q8_9])), (q8_9, .inl (cI, 151, .inl r0)), (q16, .inr (0, [.ref q7_20, .ref q15_20, .ref q23_20, .ref q30_20, .int 0, .int 0])), (q7_20, .inl (cI, 70, .inl (fun _ => 0))), (q15_20, .inl (cI, 70, .inl (fun _ => 0))), (q23_20, .inl (cI, 25, .inl (fun _ => 0))), (q30_20, .inl (cI, 5, .inl (fun _ => 0))), (q27, .inr (3, [.ref q7_31, .int 0])), (q7_31, .inl (cC, 60, .inl (fun _ => 0))), (q38, .inr (2, [.ref q10_42, .int 0, .int 0])), (q10_42, .inl (cQ, 6, .inr (.inr (.inr (.inr (fun i => if i < 6 then some (q10_42 + 1 + i) else none)))))), (q10_42 + 1 + 0, .inl (cI, 151, .inl (fun _ => 0))), (q10_42 + 1 + 1, .inl (cI, 151, .inl (fun _ => 0))), (q10_42 + 1 + 2, .inl (cI, 151, .inl (fun _ => 0))), (q10_42 + 1 + 3, .inl (cI, 151, .inl (fun _ => 0))), (q10_42 + 1 + 4, .inl (cI, 151, .inl (fun _ => 0))), (q10_42 + 1 + 5, .inl (cI, 151, .inl (fun _ => 0))), (q53, .inl (cQ, 2, .inr (.inr (.inr (.inr (fun i => if i < 2 then some (q53 + 1 + i) else none)))))), (q53 + 1 + 0, .inl (cI, 151, .inl (fun _ => 0))), (q53 + 1 + 1, .inl (cI, 151, .inl (fun _ => 0))), (q62, .inl (cZ, 2, .inl (fun _ => 0)))] rfl ?_
  refine v_putF (ty := (.array .boolean)) C K hin9 [(b, .inr (4, [.ref q5, .ref q16, .ref q27, .ref q38, .ref q53, .ref q62])), (q5, .inr (1, [.ref q8_9])), (q8_9, .inl (cI, 151, .inl r0)), (q16, .inr (0, [.ref q7_20, .ref q15_20, .ref q23_20, .ref q30_20, .int 0, .int 0])), (q7_20, .inl (cI, 70, .inl (fun _ => 0))), (q15_20, .inl (cI, 70, .inl (fun _ => 0))), (q23_20, .inl (cI, 25, .inl (fun _ => 0))), (q30_20, .inl (cI, 5, .inl (fun _ => 0))), (q27, .inr (3, [.ref q7_31, .int 0])), (q7_31, .inl (cC, 60, .inl (fun _ => 0))), (q38, .inr (2, [.ref q10_42, .int 0, .int 0])), (q10_42, .inl (cQ, 6, .inr (.inr (.inr (.inr (fun i => if i < 6 then some (q10_42 + 1 + i) else none)))))), (q10_42 + 1 + 0, .inl (cI, 151, .inl (fun _ => 0))), (q10_42 + 1 + 1, .inl (cI, 151, .inl (fun _ => 0))), (q10_42 + 1 + 2, .inl (cI, 151, .inl (fun _ => 0))), (q10_42 + 1 + 3, .inl (cI, 151, .inl (fun _ => 0))), (q10_42 + 1 + 4, .inl (cI, 151, .inl (fun _ => 0))), (q10_42 + 1 + 5, .inl (cI, 151, .inl (fun _ => 0))), (q53, .inl (cQ, 2, .inr (.inr (.inr (.inr (fun i => if i < 2 then some (q53 + 1 + i) else none)))))), (q53 + 1 + 0, .inl (cI, 151, .inl (fun _ => 0))), (q53 + 1 + 1, .inl (cI, 151, .inl (fun _ => 0))), (q62, .inl (cZ, 2, .inl (fun _ => 0)))] in_X4_init_X4c tyX4_ok nmX4 0 rfl rfl 5 (by decide) cm_X4_init_28 rfl rfl (by decide +kernel) rfl rfl (Nat.le_of_ble_eq_true rfl) rfl dX4_init_64 rfl ?_
  refine v_wid (k := 21) (n := 1611) (Nat.le_of_ble_eq_true rfl) (Nat.le_of_ble_eq_true rfl) ?_
  refine v_perm (σ2 := cW (adF [b, q5, q8_9, q16, q7_20, q15_20, q23_20, q30_20, q27, q7_31, q38, q10_42, q53, q62] q10_42 q53) cI cC cZ cQ iC0) [0, 1, 2, 3, 4, 5, 6, 7, 8, 9, 10, 11, 18, 21, 12, 13, 14, 15, 16, 17, 19, 20] (by decide) (by unfold cW; rw [adF_h, adF_s]; rfl) (by unfold cW; rw [adF_h, adF_s]; rfl) ?_
  exact hend ⟨(adF [b, q5, q8_9, q16, q7_20, q15_20, q23_20, q30_20, q27, q7_31, q38, q10_42, q53, q62] q10_42 q53), rfl, rfl⟩ dX4_init_67
end
section
theorem dL_cell_0 : decode cL_cell 0 = .ok (.iload_n 1, 1) := by decide +kernel
theorem dL_cell_1 : decode cL_cell 1 = .ok (.aload_n 0, 1) := by decide +kernel
theorem dL_cell_2 : decode cL_cell 2 = .ok (.arraylength, 1) := by decide +kernel
theorem dL_cell_3 : decode cL_cell 3 = .ok (.if_icmp .ge 9, 3) := by decide +kernel
theorem dL_cell_6 : decode cL_cell 6 = .ok (.aload_n 0, 1) := by decide +kernel
theorem dL_cell_7 : decode cL_cell 7 = .ok (.iload_n 1, 1) := by decide +kernel
theorem dL_cell_8 : decode cL_cell 8 = .ok (.iaload, 1) := by decide +kernel
theorem dL_cell_9 : decode cL_cell 9 = .ok (.goto 12, 3) := by decide +kernel
theorem dL_cell_12 : decode cL_cell 12 = .ok (.ldc 7, 2) := by decide +kernel
theorem dL_cell_14 : decode cL_cell 14 = .ok (.iload_n 1, 1) := by decide +kernel
theorem dL_cell_15 : decode cL_cell 15 = .ok (.iconst 1, 1) := by decide +kernel
theorem dL_cell_16 : decode cL_cell 16 = .ok (.iadd, 1) := by decide +kernel
theorem dL_cell_17 : decode cL_cell 17 = .ok (.imul, 1) := by decide +kernel
theorem dL_cell_18 : decode cL_cell 18 = .ok (.ldc 8, 2) := by decide +kernel
theorem dL_cell_20 : decode cL_cell 20 = .ok (.iadd, 1) := by decide +kernel
theorem dL_cell_21 : decode cL_cell 21 = .ok (.ireturn, 1) := by decide +kernel
theorem dL_low_0 : decode cL_low 0 = .ok (.iload_n 0, 1) := by decide +kernel
theorem dL_low_1 : decode cL_low 1 = .ok (.ldc 9, 2) := by decide +kernel
theorem dL_low_3 : decode cL_low 3 = .ok (.iand, 1) := by decide +kernel
theorem dL_low_4 : decode cL_low 4 = .ok (.iload_n 1, 1) := by decide +kernel
theorem dL_low_5 : decode cL_low 5 = .ok (.irem, 1) := by decide +kernel
theorem dL_low_6 : decode cL_low 6 = .ok (.ireturn, 1) := by decide +kernel
set_option maxRecDepth 20000 in
theorem ggL_leftAt_L_coming : GoodIn wsL_leftAt wsL_coming := goodIn_r _ [4] (by decide +kernel) (by decide +kernel)
set_option maxRecDepth 20000 in
theorem gL_leftAt_L_coming : GoodIn wsL_leftAt (va_wsS RL 10 yL_coming wsL_coming) := goodIn_app (goodIn_of _ (by decide +kernel)) ggL_leftAt_L_coming
theorem dL_leftAt_0 : decode cL_leftAt 0 = .ok (.aload_n 3, 1) := by decide +kernel
theorem dL_leftAt_1 : decode cL_leftAt 1 = .ok (.iconst 5, 1) := by decide +kernel
theorem dL_leftAt_2 : decode cL_leftAt 2 = .ok (.iload_n 0, 1) := by decide +kernel
theorem dL_leftAt_3 : decode cL_leftAt 3 = .ok (.imul, 1) := by decide +kernel
theorem dL_leftAt_4 : decode cL_leftAt 4 = .ok (.iconst 1, 1) := by decide +kernel
theorem dL_leftAt_5 : decode cL_leftAt 5 = .ok (.iadd, 1) := by decide +kernel
theorem dL_leftAt_6 : decode cL_leftAt 6 = .ok (.iaload, 1) := by decide +kernel
theorem dL_leftAt_7 : decode cL_leftAt 7 = .ok (.istore 6, 2) := by decide +kernel
theorem dL_leftAt_9 : decode cL_leftAt 9 = .ok (.iconst 0, 1) := by decide +kernel
theorem dL_leftAt_10 : decode cL_leftAt 10 = .ok (.istore 7, 2) := by decide +kernel
theorem dL_leftAt_12 : decode cL_leftAt 12 = .ok (.iload 7, 2) := by decide +kernel
theorem dL_leftAt_14 : decode cL_leftAt 14 = .ok (.iload_n 1, 1) := by decide +kernel
theorem dL_leftAt_15 : decode cL_leftAt 15 = .ok (.if_icmp .ge 103, 3) := by decide +kernel
theorem dL_leftAt_18 : decode cL_leftAt 18 = .ok (.iload 7, 2) := by decide +kernel
theorem dL_leftAt_20 : decode cL_leftAt 20 = .ok (.iconst 2, 1) := by decide +kernel
theorem dL_leftAt_21 : decode cL_leftAt 21 = .ok (.idiv, 1) := by decide +kernel
theorem dL_leftAt_22 : decode cL_leftAt 22 = .ok (.istore 8, 2) := by decide +kernel
theorem dL_leftAt_24 : decode cL_leftAt 24 = .ok (.iload 7, 2) := by decide +kernel
theorem dL_leftAt_26 : decode cL_leftAt 26 = .ok (.bipush 14, 2) := by decide +kernel
theorem dL_leftAt_28 : decode cL_leftAt 28 = .ok (.irem, 1) := by decide +kernel
theorem dL_leftAt_29 : decode cL_leftAt 29 = .ok (.ifCond .ne 30, 3) := by decide +kernel
theorem dL_leftAt_32 : decode cL_leftAt 32 = .ok (.iload 8, 2) := by decide +kernel
theorem dL_leftAt_34 : decode cL_leftAt 34 = .ok (.bipush 7, 2) := by decide +kernel
theorem dL_leftAt_36 : decode cL_leftAt 36 = .ok (.idiv, 1) := by decide +kernel
theorem dL_leftAt_37 : decode cL_leftAt 37 = .ok (.aload_n 3, 1) := by decide +kernel
theorem dL_leftAt_38 : decode cL_leftAt 38 = .ok (.iconst 5, 1) := by decide +kernel
theorem dL_leftAt_39 : decode cL_leftAt 39 = .ok (.iload_n 0, 1) := by decide +kernel
theorem dL_leftAt_40 : decode cL_leftAt 40 = .ok (.imul, 1) := by decide +kernel
theorem dL_leftAt_41 : decode cL_leftAt 41 = .ok (.iconst 4, 1) := by decide +kernel
theorem dL_leftAt_42 : decode cL_leftAt 42 = .ok (.iadd, 1) := by decide +kernel
theorem dL_leftAt_43 : decode cL_leftAt 43 = .ok (.iaload, 1) := by decide +kernel
theorem dL_leftAt_44 : decode cL_leftAt 44 = .ok (.bipush 7, 2) := by decide +kernel
theorem dL_leftAt_46 : decode cL_leftAt 46 = .ok (.idiv, 1) := by decide +kernel
theorem dL_leftAt_47 : decode cL_leftAt 47 = .ok (.if_icmp .le 12, 3) := by decide +kernel
theorem dL_leftAt_50 : decode cL_leftAt 50 = .ok (.iload 6, 2) := by decide +kernel
theorem dL_leftAt_52 : decode cL_leftAt 52 = .ok (.iload 6, 2) := by decide +kernel
theorem dL_leftAt_54 : decode cL_leftAt 54 = .ok (.iconst 4, 1) := by decide +kernel
theorem dL_leftAt_55 : decode cL_leftAt 55 = .ok (.idiv, 1) := by decide +kernel
theorem dL_leftAt_56 : decode cL_leftAt 56 = .ok (.isub, 1) := by decide +kernel
theorem dL_leftAt_57 : decode cL_leftAt 57 = .ok (.istore 6, 2) := by decide +kernel
theorem dL_leftAt_59 : decode cL_leftAt 59 = .ok (.iload 7, 2) := by decide +kernel
theorem dL_leftAt_61 : decode cL_leftAt 61 = .ok (.iconst 2, 1) := by decide +kernel
theorem dL_leftAt_62 : decode cL_leftAt 62 = .ok (.irem, 1) := by decide +kernel
theorem dL_leftAt_63 : decode cL_leftAt 63 = .ok (.ifCond .ne 11, 3) := by decide +kernel
theorem dL_leftAt_66 : decode cL_leftAt 66 = .ok (.aload 4, 2) := by decide +kernel
theorem dL_leftAt_68 : decode cL_leftAt 68 = .ok (.iload 8, 2) := by decide +kernel
theorem dL_leftAt_70 : decode cL_leftAt 70 = .ok (.iaload, 1) := by decide +kernel
theorem dL_leftAt_71 : decode cL_leftAt 71 = .ok (.goto 8, 3) := by decide +kernel
theorem dL_leftAt_74 : decode cL_leftAt 74 = .ok (.aload 5, 2) := by decide +kernel
theorem dL_leftAt_76 : decode cL_leftAt 76 = .ok (.iload 8, 2) := by decide +kernel
theorem dL_leftAt_78 : decode cL_leftAt 78 = .ok (.iaload, 1) := by decide +kernel
theorem dL_leftAt_79 : decode cL_leftAt 79 = .ok (.iload_n 0, 1) := by decide +kernel
theorem dL_leftAt_80 : decode cL_leftAt 80 = .ok (.iconst 1, 1) := by decide +kernel
theorem dL_leftAt_81 : decode cL_leftAt 81 = .ok (.iadd, 1) := by decide +kernel
theorem dL_leftAt_82 : decode cL_leftAt 82 = .ok (.if_icmp .ne 7, 3) := by decide +kernel
theorem dL_leftAt_85 : decode cL_leftAt 85 = .ok (.iconst 1, 1) := by decide +kernel
theorem dL_leftAt_86 : decode cL_leftAt 86 = .ok (.goto 4, 3) := by decide +kernel
theorem dL_leftAt_89 : decode cL_leftAt 89 = .ok (.iconst 0, 1) := by decide +kernel
theorem dL_leftAt_90 : decode cL_leftAt 90 = .ok (.istore 9, 2) := by decide +kernel
theorem dL_leftAt_92 : decode cL_leftAt 92 = .ok (.iload 9, 2) := by decide +kernel
theorem dL_leftAt_94 : decode cL_leftAt 94 = .ok (.ifCond .eq 18, 3) := by decide +kernel
theorem dL_leftAt_97 : decode cL_leftAt 97 = .ok (.iload 6, 2) := by decide +kernel
theorem dL_leftAt_99 : decode cL_leftAt 99 = .ok (.iload 6, 2) := by decide +kernel
theorem dL_leftAt_101 : decode cL_leftAt 101 = .ok (.iload 7, 2) := by decide +kernel
theorem dL_leftAt_103 : decode cL_leftAt 103 = .ok (.iconst 2, 1) := by decide +kernel
theorem dL_leftAt_104 : decode cL_leftAt 104 = .ok (.irem, 1) := by decide +kernel
theorem dL_leftAt_105 : decode cL_leftAt 105 = .ok (.aload_n 2, 1) := by decide +kernel
theorem dL_leftAt_106 : decode cL_leftAt 106 = .ok (.invokestatic 10, 3) := by decide +kernel
theorem dL_leftAt_109 : decode cL_leftAt 109 = .ok (.isub, 1) := by decide +kernel
theorem dL_leftAt_110 : decode cL_leftAt 110 = .ok (.istore 6, 2) := by decide +kernel
theorem dL_leftAt_112 : decode cL_leftAt 112 = .ok (.iinc 7 1, 3) := by decide +kernel
theorem dL_leftAt_115 : decode cL_leftAt 115 = .ok (.goto (-103), 3) := by decide +kernel
theorem dL_leftAt_118 : decode cL_leftAt 118 = .ok (.iload_n 1, 1) := by decide +kernel
theorem dL_leftAt_119 : decode cL_leftAt 119 = .ok (.bipush 14, 2) := by decide +kernel
theorem dL_leftAt_121 : decode cL_leftAt 121 = .ok (.irem, 1) := by decide +kernel
theorem dL_leftAt_122 : decode cL_leftAt 122 = .ok (.ifCond .ne 35, 3) := by decide +kernel
theorem dL_leftAt_125 : decode cL_leftAt 125 = .ok (.iload_n 1, 1) := by decide +kernel
theorem dL_leftAt_126 : decode cL_leftAt 126 = .ok (.bipush 70, 2) := by decide +kernel
theorem dL_leftAt_128 : decode cL_leftAt 128 = .ok (.if_icmp .ge 29, 3) := by decide +kernel
theorem dL_leftAt_131 : decode cL_leftAt 131 = .ok (.iload_n 1, 1) := by decide +kernel
theorem dL_leftAt_132 : decode cL_leftAt 132 = .ok (.bipush 14, 2) := by decide +kernel
theorem dL_leftAt_134 : decode cL_leftAt 134 = .ok (.idiv, 1) := by decide +kernel
theorem dL_leftAt_135 : decode cL_leftAt 135 = .ok (.aload_n 3, 1) := by decide +kernel
theorem dL_leftAt_136 : decode cL_leftAt 136 = .ok (.iconst 5, 1) := by decide +kernel
theorem dL_leftAt_137 : decode cL_leftAt 137 = .ok (.iload_n 0, 1) := by decide +kernel
theorem dL_leftAt_138 : decode cL_leftAt 138 = .ok (.imul, 1) := by decide +kernel
theorem dL_leftAt_139 : decode cL_leftAt 139 = .ok (.iconst 4, 1) := by decide +kernel
theorem dL_leftAt_140 : decode cL_leftAt 140 = .ok (.iadd, 1) := by decide +kernel
theorem dL_leftAt_141 : decode cL_leftAt 141 = .ok (.iaload, 1) := by decide +kernel
theorem dL_leftAt_142 : decode cL_leftAt 142 = .ok (.bipush 7, 2) := by decide +kernel
theorem dL_leftAt_144 : decode cL_leftAt 144 = .ok (.idiv, 1) := by decide +kernel
theorem dL_leftAt_145 : decode cL_leftAt 145 = .ok (.if_icmp .le 12, 3) := by decide +kernel
theorem dL_leftAt_148 : decode cL_leftAt 148 = .ok (.iload 6, 2) := by decide +kernel
theorem dL_leftAt_150 : decode cL_leftAt 150 = .ok (.iload 6, 2) := by decide +kernel
theorem dL_leftAt_152 : decode cL_leftAt 152 = .ok (.iconst 4, 1) := by decide +kernel
theorem dL_leftAt_153 : decode cL_leftAt 153 = .ok (.idiv, 1) := by decide +kernel
theorem dL_leftAt_154 : decode cL_leftAt 154 = .ok (.isub, 1) := by decide +kernel
theorem dL_leftAt_155 : decode cL_leftAt 155 = .ok (.istore 6, 2) := by decide +kernel
theorem dL_leftAt_157 : decode cL_leftAt 157 = .ok (.iload 6, 2) := by decide +kernel
theorem dL_leftAt_159 : decode cL_leftAt 159 = .ok (.ireturn, 1) := by decide +kernel
theorem dL_coming_0 : decode cL_coming 0 = .ok (.iload_n 0, 1) := by decide +kernel
theorem dL_coming_1 : decode cL_coming 1 = .ok (.iload_n 1, 1) := by decide +kernel
theorem dL_coming_2 : decode cL_coming 2 = .ok (.ifCond .ne 9, 3) := by decide +kernel
theorem dL_coming_5 : decode cL_coming 5 = .ok (.aload_n 2, 1) := by decide +kernel
theorem dL_coming_6 : decode cL_coming 6 = .ok (.iconst 4, 1) := by decide +kernel
theorem dL_coming_7 : decode cL_coming 7 = .ok (.iaload, 1) := by decide +kernel
theorem dL_coming_8 : decode cL_coming 8 = .ok (.goto 6, 3) := by decide +kernel
theorem dL_coming_11 : decode cL_coming 11 = .ok (.aload_n 2, 1) := by decide +kernel
theorem dL_coming_12 : decode cL_coming 12 = .ok (.iconst 3, 1) := by decide +kernel
theorem dL_coming_13 : decode cL_coming 13 = .ok (.iaload, 1) := by decide +kernel
theorem dL_coming_14 : decode cL_coming 14 = .ok (.imul, 1) := by decide +kernel
theorem dL_coming_15 : decode cL_coming 15 = .ok (.bipush 100, 2) := by decide +kernel
theorem dL_coming_17 : decode cL_coming 17 = .ok (.idiv, 1) := by decide +kernel
theorem dL_coming_18 : decode cL_coming 18 = .ok (.istore_n 3, 1) := by decide +kernel
theorem dL_coming_19 : decode cL_coming 19 = .ok (.iload_n 3, 1) := by decide +kernel
theorem dL_coming_20 : decode cL_coming 20 = .ok (.aload_n 2, 1) := by decide +kernel
theorem dL_coming_21 : decode cL_coming 21 = .ok (.iconst 0, 1) := by decide +kernel
theorem dL_coming_22 : decode cL_coming 22 = .ok (.iaload, 1) := by decide +kernel
theorem dL_coming_23 : decode cL_coming 23 = .ok (.if_icmp .le 9, 3) := by decide +kernel
theorem dL_coming_26 : decode cL_coming 26 = .ok (.aload_n 2, 1) := by decide +kernel
theorem dL_coming_27 : decode cL_coming 27 = .ok (.iconst 0, 1) := by decide +kernel
theorem dL_coming_28 : decode cL_coming 28 = .ok (.iaload, 1) := by decide +kernel
theorem dL_coming_29 : decode cL_coming 29 = .ok (.goto 4, 3) := by decide +kernel
theorem dL_coming_32 : decode cL_coming 32 = .ok (.iload_n 3, 1) := by decide +kernel
theorem dL_coming_33 : decode cL_coming 33 = .ok (.ireturn, 1) := by decide +kernel
theorem dL_film_0 : decode cL_film 0 = .ok (.iload_n 1, 1) := by decide +kernel
theorem dL_film_1 : decode cL_film 1 = .ok (.ifCond .ne 9, 3) := by decide +kernel
theorem dL_film_4 : decode cL_film 4 = .ok (.aload_n 2, 1) := by decide +kernel
theorem dL_film_5 : decode cL_film 5 = .ok (.iload_n 0, 1) := by decide +kernel
theorem dL_film_6 : decode cL_film 6 = .ok (.iaload, 1) := by decide +kernel
theorem dL_film_7 : decode cL_film 7 = .ok (.goto 6, 3) := by decide +kernel
theorem dL_film_10 : decode cL_film 10 = .ok (.aload_n 3, 1) := by decide +kernel
theorem dL_film_11 : decode cL_film 11 = .ok (.iload_n 0, 1) := by decide +kernel
theorem dL_film_12 : decode cL_film 12 = .ok (.iaload, 1) := by decide +kernel
theorem dL_film_13 : decode cL_film 13 = .ok (.iconst 1, 1) := by decide +kernel
theorem dL_film_14 : decode cL_film 14 = .ok (.isub, 1) := by decide +kernel
theorem dL_film_15 : decode cL_film 15 = .ok (.ireturn, 1) := by decide +kernel
set_option maxRecDepth 20000 in
theorem ggL_people_L_film : GoodIn wsL_people wsL_film := goodIn_r _ [4] (by decide +kernel) (by decide +kernel)
set_option maxRecDepth 20000 in
theorem gL_people_L_film : GoodIn wsL_people (va_wsS RL 16 yL_film wsL_film) := goodIn_app (goodIn_of _ (by decide +kernel)) ggL_people_L_film
set_option maxRecDepth 20000 in
theorem ggL_people_L_leftAt : GoodIn wsL_people wsL_leftAt := goodIn_r _ [7, 8, 9, 3, 10] (by decide +kernel) (by decide +kernel)
set_option maxRecDepth 20000 in
theorem gL_people_L_leftAt : GoodIn wsL_people (va_wsS RL 20 yL_leftAt wsL_leftAt) := goodIn_app (goodIn_of _ (by decide +kernel)) ggL_people_L_leftAt
set_option maxRecDepth 20000 in
theorem ggL_people_L_coming : GoodIn wsL_people wsL_coming := goodIn_r _ [10] (by decide +kernel) (by decide +kernel)
set_option maxRecDepth 20000 in
theorem gL_people_L_coming : GoodIn wsL_people (va_wsS RL 10 yL_coming wsL_coming) := goodIn_app (goodIn_of _ (by decide +kernel)) ggL_people_L_coming
theorem dL_people_0 : decode cL_people 0 = .ok (.iload_n 0, 1) := by decide +kernel
theorem dL_people_1 : decode cL_people 1 = .ok (.iload_n 1, 1) := by decide +kernel
theorem dL_people_2 : decode cL_people 2 = .ok (.aload 4, 2) := by decide +kernel
theorem dL_people_4 : decode cL_people 4 = .ok (.aload 5, 2) := by decide +kernel
theorem dL_people_6 : decode cL_people 6 = .ok (.invokestatic 16, 3) := by decide +kernel
theorem dL_people_9 : decode cL_people 9 = .ok (.istore 6, 2) := by decide +kernel
theorem dL_people_11 : decode cL_people 11 = .ok (.iload 6, 2) := by decide +kernel
theorem dL_people_13 : decode cL_people 13 = .ok (.ifCond .ge 7, 3) := by decide +kernel
theorem dL_people_16 : decode cL_people 16 = .ok (.iconst 0, 1) := by decide +kernel
theorem dL_people_17 : decode cL_people 17 = .ok (.goto 24, 3) := by decide +kernel
theorem dL_people_20 : decode cL_people 20 = .ok (.iload 6, 2) := by decide +kernel
theorem dL_people_22 : decode cL_people 22 = .ok (.iconst 2, 1) := by decide +kernel
theorem dL_people_23 : decode cL_people 23 = .ok (.iload_n 0, 1) := by decide +kernel
theorem dL_people_24 : decode cL_people 24 = .ok (.imul, 1) := by decide +kernel
theorem dL_people_25 : decode cL_people 25 = .ok (.iload_n 1, 1) := by decide +kernel
theorem dL_people_26 : decode cL_people 26 = .ok (.iadd, 1) := by decide +kernel
theorem dL_people_27 : decode cL_people 27 = .ok (.aload_n 2, 1) := by decide +kernel
theorem dL_people_28 : decode cL_people 28 = .ok (.aload_n 3, 1) := by decide +kernel
theorem dL_people_29 : decode cL_people 29 = .ok (.aload 4, 2) := by decide +kernel
theorem dL_people_31 : decode cL_people 31 = .ok (.aload 5, 2) := by decide +kernel
theorem dL_people_33 : decode cL_people 33 = .ok (.invokestatic 20, 3) := by decide +kernel
theorem dL_people_36 : decode cL_people 36 = .ok (.iload_n 1, 1) := by decide +kernel
theorem dL_people_37 : decode cL_people 37 = .ok (.aload_n 2, 1) := by decide +kernel
theorem dL_people_38 : decode cL_people 38 = .ok (.invokestatic 10, 3) := by decide +kernel
theorem dL_people_41 : decode cL_people 41 = .ok (.ireturn, 1) := by decide +kernel
theorem dL_shows_0 : decode cL_shows 0 = .ok (.iconst 0, 1) := by decide +kernel
theorem dL_shows_1 : decode cL_shows 1 = .ok (.istore 4, 2) := by decide +kernel
theorem dL_shows_3 : decode cL_shows 3 = .ok (.bipush 7, 2) := by decide +kernel
theorem dL_shows_5 : decode cL_shows 5 = .ok (.iload_n 1, 1) := by decide +kernel
theorem dL_shows_6 : decode cL_shows 6 = .ok (.imul, 1) := by decide +kernel
theorem dL_shows_7 : decode cL_shows 7 = .ok (.istore 5, 2) := by decide +kernel
theorem dL_shows_9 : decode cL_shows 9 = .ok (.iload 5, 2) := by decide +kernel
theorem dL_shows_11 : decode cL_shows 11 = .ok (.bipush 7, 2) := by decide +kernel
theorem dL_shows_13 : decode cL_shows 13 = .ok (.iload_n 1, 1) := by decide +kernel
theorem dL_shows_14 : decode cL_shows 14 = .ok (.imul, 1) := by decide +kernel
theorem dL_shows_15 : decode cL_shows 15 = .ok (.bipush 7, 2) := by decide +kernel
theorem dL_shows_17 : decode cL_shows 17 = .ok (.iadd, 1) := by decide +kernel
theorem dL_shows_18 : decode cL_shows 18 = .ok (.if_icmp .ge 45, 3) := by decide +kernel
theorem dL_shows_21 : decode cL_shows 21 = .ok (.iload 4, 2) := by decide +kernel
theorem dL_shows_23 : decode cL_shows 23 = .ok (.aload_n 2, 1) := by decide +kernel
theorem dL_shows_24 : decode cL_shows 24 = .ok (.iload 5, 2) := by decide +kernel
theorem dL_shows_26 : decode cL_shows 26 = .ok (.iaload, 1) := by decide +kernel
theorem dL_shows_27 : decode cL_shows 27 = .ok (.iload_n 0, 1) := by decide +kernel
theorem dL_shows_28 : decode cL_shows 28 = .ok (.iconst 1, 1) := by decide +kernel
theorem dL_shows_29 : decode cL_shows 29 = .ok (.iadd, 1) := by decide +kernel
theorem dL_shows_30 : decode cL_shows 30 = .ok (.if_icmp .ne 7, 3) := by decide +kernel
theorem dL_shows_33 : decode cL_shows 33 = .ok (.iconst 1, 1) := by decide +kernel
theorem dL_shows_34 : decode cL_shows 34 = .ok (.goto 4, 3) := by decide +kernel
theorem dL_shows_37 : decode cL_shows 37 = .ok (.iconst 0, 1) := by decide +kernel
theorem dL_shows_38 : decode cL_shows 38 = .ok (.aload_n 3, 1) := by decide +kernel
theorem dL_shows_39 : decode cL_shows 39 = .ok (.iload 5, 2) := by decide +kernel
theorem dL_shows_41 : decode cL_shows 41 = .ok (.iaload, 1) := by decide +kernel
theorem dL_shows_42 : decode cL_shows 42 = .ok (.iload_n 0, 1) := by decide +kernel
theorem dL_shows_43 : decode cL_shows 43 = .ok (.iconst 1, 1) := by decide +kernel
theorem dL_shows_44 : decode cL_shows 44 = .ok (.iadd, 1) := by decide +kernel
theorem dL_shows_45 : decode cL_shows 45 = .ok (.if_icmp .ne 7, 3) := by decide +kernel
theorem dL_shows_48 : decode cL_shows 48 = .ok (.iconst 1, 1) := by decide +kernel
theorem dL_shows_49 : decode cL_shows 49 = .ok (.goto 4, 3) := by decide +kernel
theorem dL_shows_52 : decode cL_shows 52 = .ok (.iconst 0, 1) := by decide +kernel
theorem dL_shows_53 : decode cL_shows 53 = .ok (.iadd, 1) := by decide +kernel
theorem dL_shows_54 : decode cL_shows 54 = .ok (.iadd, 1) := by decide +kernel
theorem dL_shows_55 : decode cL_shows 55 = .ok (.istore 4, 2) := by decide +kernel
theorem dL_shows_57 : decode cL_shows 57 = .ok (.iinc 5 1, 3) := by decide +kernel
theorem dL_shows_60 : decode cL_shows 60 = .ok (.goto (-51), 3) := by decide +kernel
theorem dL_shows_63 : decode cL_shows 63 = .ok (.iload 4, 2) := by decide +kernel
theorem dL_shows_65 : decode cL_shows 65 = .ok (.ireturn, 1) := by decide +kernel
set_option maxRecDepth 20000 in
theorem ggL_takings_L_film : GoodIn wsL_takings wsL_film := goodIn_r _ [4] (by decide +kernel) (by decide +kernel)
set_option maxRecDepth 20000 in
theorem gL_takings_L_film : GoodIn wsL_takings (va_wsS RL 16 yL_film wsL_film) := goodIn_app (goodIn_of _ (by decide +kernel)) ggL_takings_L_film
set_option maxRecDepth 20000 in
theorem ggL_takings_L_people : GoodIn wsL_takings wsL_people := goodIn_r _ [7, 1, 2, 3, 4, 8, 9, 10, 11, 12, 13] (by decide +kernel) (by decide +kernel)
set_option maxRecDepth 20000 in
theorem gL_takings_L_people : GoodIn wsL_takings (va_wsS RL 24 yL_people wsL_people) := goodIn_app (goodIn_of _ (by decide +kernel)) ggL_takings_L_people
theorem dL_takings_0 : decode cL_takings 0 = .ok (.iconst 0, 1) := by decide +kernel
theorem dL_takings_1 : decode cL_takings 1 = .ok (.istore 6, 2) := by decide +kernel
theorem dL_takings_3 : decode cL_takings 3 = .ok (.bipush 7, 2) := by decide +kernel
theorem dL_takings_5 : decode cL_takings 5 = .ok (.iload_n 1, 1) := by decide +kernel
theorem dL_takings_6 : decode cL_takings 6 = .ok (.imul, 1) := by decide +kernel
theorem dL_takings_7 : decode cL_takings 7 = .ok (.istore 7, 2) := by decide +kernel
theorem dL_takings_9 : decode cL_takings 9 = .ok (.iload 7, 2) := by decide +kernel
theorem dL_takings_11 : decode cL_takings 11 = .ok (.bipush 7, 2) := by decide +kernel
theorem dL_takings_13 : decode cL_takings 13 = .ok (.iload_n 1, 1) := by decide +kernel
theorem dL_takings_14 : decode cL_takings 14 = .ok (.imul, 1) := by decide +kernel
theorem dL_takings_15 : decode cL_takings 15 = .ok (.bipush 7, 2) := by decide +kernel
theorem dL_takings_17 : decode cL_takings 17 = .ok (.iadd, 1) := by decide +kernel
theorem dL_takings_18 : decode cL_takings 18 = .ok (.if_icmp .ge 65, 3) := by decide +kernel
theorem dL_takings_21 : decode cL_takings 21 = .ok (.iconst 0, 1) := by decide +kernel
theorem dL_takings_22 : decode cL_takings 22 = .ok (.istore 8, 2) := by decide +kernel
theorem dL_takings_24 : decode cL_takings 24 = .ok (.iload 8, 2) := by decide +kernel
theorem dL_takings_26 : decode cL_takings 26 = .ok (.iconst 2, 1) := by decide +kernel
theorem dL_takings_27 : decode cL_takings 27 = .ok (.if_icmp .ge 50, 3) := by decide +kernel
theorem dL_takings_30 : decode cL_takings 30 = .ok (.iload 6, 2) := by decide +kernel
theorem dL_takings_32 : decode cL_takings 32 = .ok (.iload 7, 2) := by decide +kernel
theorem dL_takings_34 : decode cL_takings 34 = .ok (.iload 8, 2) := by decide +kernel
theorem dL_takings_36 : decode cL_takings 36 = .ok (.aload 4, 2) := by decide +kernel
theorem dL_takings_38 : decode cL_takings 38 = .ok (.aload 5, 2) := by decide +kernel
theorem dL_takings_40 : decode cL_takings 40 = .ok (.invokestatic 16, 3) := by decide +kernel
theorem dL_takings_43 : decode cL_takings 43 = .ok (.iload_n 0, 1) := by decide +kernel
theorem dL_takings_44 : decode cL_takings 44 = .ok (.if_icmp .ne 23, 3) := by decide +kernel
theorem dL_takings_47 : decode cL_takings 47 = .ok (.iload 7, 2) := by decide +kernel
theorem dL_takings_49 : decode cL_takings 49 = .ok (.iload 8, 2) := by decide +kernel
theorem dL_takings_51 : decode cL_takings 51 = .ok (.aload_n 2, 1) := by decide +kernel
theorem dL_takings_52 : decode cL_takings 52 = .ok (.aload_n 3, 1) := by decide +kernel
theorem dL_takings_53 : decode cL_takings 53 = .ok (.aload 4, 2) := by decide +kernel
theorem dL_takings_55 : decode cL_takings 55 = .ok (.aload 5, 2) := by decide +kernel
theorem dL_takings_57 : decode cL_takings 57 = .ok (.invokestatic 24, 3) := by decide +kernel
theorem dL_takings_60 : decode cL_takings 60 = .ok (.aload_n 2, 1) := by decide +kernel
theorem dL_takings_61 : decode cL_takings 61 = .ok (.iconst 1, 1) := by decide +kernel
theorem dL_takings_62 : decode cL_takings 62 = .ok (.iaload, 1) := by decide +kernel
theorem dL_takings_63 : decode cL_takings 63 = .ok (.imul, 1) := by decide +kernel
theorem dL_takings_64 : decode cL_takings 64 = .ok (.goto 4, 3) := by decide +kernel
theorem dL_takings_67 : decode cL_takings 67 = .ok (.iconst 0, 1) := by decide +kernel
theorem dL_takings_68 : decode cL_takings 68 = .ok (.iadd, 1) := by decide +kernel
theorem dL_takings_69 : decode cL_takings 69 = .ok (.istore 6, 2) := by decide +kernel
theorem dL_takings_71 : decode cL_takings 71 = .ok (.iinc 8 1, 3) := by decide +kernel
theorem dL_takings_74 : decode cL_takings 74 = .ok (.goto (-50), 3) := by decide +kernel
theorem dL_takings_77 : decode cL_takings 77 = .ok (.iinc 7 1, 3) := by decide +kernel
theorem dL_takings_80 : decode cL_takings 80 = .ok (.goto (-71), 3) := by decide +kernel
theorem dL_takings_83 : decode cL_takings 83 = .ok (.iload 6, 2) := by decide +kernel
theorem dL_takings_85 : decode cL_takings 85 = .ok (.ireturn, 1) := by decide +kernel
set_option maxRecDepth 20000 in
theorem ggL_share_L_shows : GoodIn wsL_share wsL_shows := goodIn_r _ [4] (by decide +kernel) (by decide +kernel)
set_option maxRecDepth 20000 in
theorem gL_share_L_shows : GoodIn wsL_share (va_wsS RL 27 yL_shows wsL_shows) := goodIn_app (goodIn_of _ (by decide +kernel)) ggL_share_L_shows
theorem dL_share_0 : decode cL_share 0 = .ok (.iconst 0, 1) := by decide +kernel
theorem dL_share_1 : decode cL_share 1 = .ok (.istore 5, 2) := by decide +kernel
theorem dL_share_3 : decode cL_share 3 = .ok (.iload 5, 2) := by decide +kernel
theorem dL_share_5 : decode cL_share 5 = .ok (.iload_n 1, 1) := by decide +kernel
theorem dL_share_6 : decode cL_share 6 = .ok (.if_icmp .gt 56, 3) := by decide +kernel
theorem dL_share_9 : decode cL_share 9 = .ok (.iload_n 0, 1) := by decide +kernel
theorem dL_share_10 : decode cL_share 10 = .ok (.iload 5, 2) := by decide +kernel
theorem dL_share_12 : decode cL_share 12 = .ok (.aload_n 3, 1) := by decide +kernel
theorem dL_share_13 : decode cL_share 13 = .ok (.aload 4, 2) := by decide +kernel
theorem dL_share_15 : decode cL_share 15 = .ok (.invokestatic 27, 3) := by decide +kernel
theorem dL_share_18 : decode cL_share 18 = .ok (.ifCond .ne 6, 3) := by decide +kernel
theorem dL_share_21 : decode cL_share 21 = .ok (.goto 35, 3) := by decide +kernel
theorem dL_share_24 : decode cL_share 24 = .ok (.aload_n 2, 1) := by decide +kernel
theorem dL_share_25 : decode cL_share 25 = .ok (.iconst 5, 1) := by decide +kernel
theorem dL_share_26 : decode cL_share 26 = .ok (.iload_n 0, 1) := by decide +kernel
theorem dL_share_27 : decode cL_share 27 = .ok (.imul, 1) := by decide +kernel
theorem dL_share_28 : decode cL_share 28 = .ok (.iconst 3, 1) := by decide +kernel
theorem dL_share_29 : decode cL_share 29 = .ok (.iadd, 1) := by decide +kernel
theorem dL_share_30 : decode cL_share 30 = .ok (.iaload, 1) := by decide +kernel
theorem dL_share_31 : decode cL_share 31 = .ok (.bipush 10, 2) := by decide +kernel
theorem dL_share_33 : decode cL_share 33 = .ok (.iload_n 1, 1) := by decide +kernel
theorem dL_share_34 : decode cL_share 34 = .ok (.iload 5, 2) := by decide +kernel
theorem dL_share_36 : decode cL_share 36 = .ok (.isub, 1) := by decide +kernel
theorem dL_share_37 : decode cL_share 37 = .ok (.imul, 1) := by decide +kernel
theorem dL_share_38 : decode cL_share 38 = .ok (.isub, 1) := by decide +kernel
theorem dL_share_39 : decode cL_share 39 = .ok (.istore 6, 2) := by decide +kernel
theorem dL_share_41 : decode cL_share 41 = .ok (.iload 6, 2) := by decide +kernel
theorem dL_share_43 : decode cL_share 43 = .ok (.bipush 20, 2) := by decide +kernel
theorem dL_share_45 : decode cL_share 45 = .ok (.if_icmp .ge 8, 3) := by decide +kernel
theorem dL_share_48 : decode cL_share 48 = .ok (.bipush 20, 2) := by decide +kernel
theorem dL_share_50 : decode cL_share 50 = .ok (.goto 5, 3) := by decide +kernel
theorem dL_share_53 : decode cL_share 53 = .ok (.iload 6, 2) := by decide +kernel
theorem dL_share_55 : decode cL_share 55 = .ok (.ireturn, 1) := by decide +kernel
theorem dL_share_56 : decode cL_share 56 = .ok (.iinc 5 1, 3) := by decide +kernel
theorem dL_share_59 : decode cL_share 59 = .ok (.goto (-56), 3) := by decide +kernel
theorem dL_share_62 : decode cL_share 62 = .ok (.bipush (-6), 2) := by decide +kernel
theorem dL_share_64 : decode cL_share 64 = .ok (.ireturn, 1) := by decide +kernel
set_option maxRecDepth 20000 in
theorem ggL_due_L_shows : GoodIn wsL_due wsL_shows := goodIn_r _ [4] (by decide +kernel) (by decide +kernel)
set_option maxRecDepth 20000 in
theorem gL_due_L_shows : GoodIn wsL_due (va_wsS RL 27 yL_shows wsL_shows) := goodIn_app (goodIn_of _ (by decide +kernel)) ggL_due_L_shows
set_option maxRecDepth 20000 in
theorem ggL_due_L_takings : GoodIn wsL_due wsL_takings := goodIn_r _ [7, 8, 9, 3, 10, 11, 12, 13, 14, 15, 16, 17, 18, 19] (by decide +kernel) (by decide +kernel)
set_option maxRecDepth 20000 in
theorem gL_due_L_takings : GoodIn wsL_due (va_wsS RL 30 yL_takings wsL_takings) := goodIn_app (goodIn_of _ (by decide +kernel)) ggL_due_L_takings
set_option maxRecDepth 20000 in
theorem ggL_due_L_share : GoodIn wsL_due wsL_share := goodIn_r _ [22, 1, 2, 3, 4] (by decide +kernel) (by decide +kernel)
set_option maxRecDepth 20000 in
theorem gL_due_L_share : GoodIn wsL_due (va_wsS RL 33 yL_share wsL_share) := goodIn_app (goodIn_of _ (by decide +kernel)) ggL_due_L_share
theorem dL_due_0 : decode cL_due 0 = .ok (.iload_n 0, 1) := by decide +kernel
theorem dL_due_1 : decode cL_due 1 = .ok (.iload_n 1, 1) := by decide +kernel
theorem dL_due_2 : decode cL_due 2 = .ok (.aload 4, 2) := by decide +kernel
theorem dL_due_4 : decode cL_due 4 = .ok (.aload 5, 2) := by decide +kernel
theorem dL_due_6 : decode cL_due 6 = .ok (.invokestatic 27, 3) := by decide +kernel
theorem dL_due_9 : decode cL_due 9 = .ok (.ifCond .ne 5, 3) := by decide +kernel
theorem dL_due_12 : decode cL_due 12 = .ok (.iconst 0, 1) := by decide +kernel
theorem dL_due_13 : decode cL_due 13 = .ok (.ireturn, 1) := by decide +kernel
theorem dL_due_14 : decode cL_due 14 = .ok (.iload_n 0, 1) := by decide +kernel
theorem dL_due_15 : decode cL_due 15 = .ok (.iload_n 1, 1) := by decide +kernel
theorem dL_due_16 : decode cL_due 16 = .ok (.aload_n 2, 1) := by decide +kernel
theorem dL_due_17 : decode cL_due 17 = .ok (.aload_n 3, 1) := by decide +kernel
theorem dL_due_18 : decode cL_due 18 = .ok (.aload 4, 2) := by decide +kernel
theorem dL_due_20 : decode cL_due 20 = .ok (.aload 5, 2) := by decide +kernel
theorem dL_due_22 : decode cL_due 22 = .ok (.invokestatic 30, 3) := by decide +kernel
theorem dL_due_25 : decode cL_due 25 = .ok (.iload_n 0, 1) := by decide +kernel
theorem dL_due_26 : decode cL_due 26 = .ok (.iload_n 1, 1) := by decide +kernel
theorem dL_due_27 : decode cL_due 27 = .ok (.aload_n 3, 1) := by decide +kernel
theorem dL_due_28 : decode cL_due 28 = .ok (.aload 4, 2) := by decide +kernel
theorem dL_due_30 : decode cL_due 30 = .ok (.aload 5, 2) := by decide +kernel
theorem dL_due_32 : decode cL_due 32 = .ok (.invokestatic 33, 3) := by decide +kernel
theorem dL_due_35 : decode cL_due 35 = .ok (.imul, 1) := by decide +kernel
theorem dL_due_36 : decode cL_due 36 = .ok (.bipush 100, 2) := by decide +kernel
theorem dL_due_38 : decode cL_due 38 = .ok (.idiv, 1) := by decide +kernel
theorem dL_due_39 : decode cL_due 39 = .ok (.istore 6, 2) := by decide +kernel
theorem dL_due_41 : decode cL_due 41 = .ok (.iload 6, 2) := by decide +kernel
theorem dL_due_43 : decode cL_due 43 = .ok (.aload_n 3, 1) := by decide +kernel
theorem dL_due_44 : decode cL_due 44 = .ok (.iconst 5, 1) := by decide +kernel
theorem dL_due_45 : decode cL_due 45 = .ok (.iload_n 0, 1) := by decide +kernel
theorem dL_due_46 : decode cL_due 46 = .ok (.imul, 1) := by decide +kernel
theorem dL_due_47 : decode cL_due 47 = .ok (.iconst 2, 1) := by decide +kernel
theorem dL_due_48 : decode cL_due 48 = .ok (.iadd, 1) := by decide +kernel
theorem dL_due_49 : decode cL_due 49 = .ok (.iaload, 1) := by decide +kernel
theorem dL_due_50 : decode cL_due 50 = .ok (.if_icmp .ge 13, 3) := by decide +kernel
theorem dL_due_53 : decode cL_due 53 = .ok (.aload_n 3, 1) := by decide +kernel
theorem dL_due_54 : decode cL_due 54 = .ok (.iconst 5, 1) := by decide +kernel
theorem dL_due_55 : decode cL_due 55 = .ok (.iload_n 0, 1) := by decide +kernel
theorem dL_due_56 : decode cL_due 56 = .ok (.imul, 1) := by decide +kernel
theorem dL_due_57 : decode cL_due 57 = .ok (.iconst 2, 1) := by decide +kernel
theorem dL_due_58 : decode cL_due 58 = .ok (.iadd, 1) := by decide +kernel
theorem dL_due_59 : decode cL_due 59 = .ok (.iaload, 1) := by decide +kernel
theorem dL_due_60 : decode cL_due 60 = .ok (.goto 5, 3) := by decide +kernel
theorem dL_due_63 : decode cL_due 63 = .ok (.iload 6, 2) := by decide +kernel
theorem dL_due_65 : decode cL_due 65 = .ok (.ireturn, 1) := by decide +kernel
set_option maxRecDepth 20000 in
theorem ggL_left_L_takings : GoodIn wsL_left wsL_takings := goodIn_r _ [4, 5, 6, 3, 7, 8, 9, 10, 11, 12, 13, 14, 15, 16] (by decide +kernel) (by decide +kernel)
set_option maxRecDepth 20000 in
theorem gL_left_L_takings : GoodIn wsL_left (va_wsS RL 30 yL_takings wsL_takings) := goodIn_app (goodIn_of _ (by decide +kernel)) ggL_left_L_takings
set_option maxRecDepth 20000 in
theorem ggL_left_L_due : GoodIn wsL_left wsL_due := goodIn_r _ [19, 20, 21, 3, 22, 1, 2, 4, 5, 6, 7, 8, 9, 10, 11, 12, 13, 14, 15, 16, 23, 24, 25] (by decide +kernel) (by decide +kernel)
set_option maxRecDepth 20000 in
theorem gL_left_L_due : GoodIn wsL_left (va_wsS RL 37 yL_due wsL_due) := goodIn_app (goodIn_of _ (by decide +kernel)) ggL_left_L_due
set_option maxRecDepth 20000 in
theorem ggL_left_L_shows : GoodIn wsL_left wsL_shows := goodIn_r _ [22] (by decide +kernel) (by decide +kernel)
set_option maxRecDepth 20000 in
theorem gL_left_L_shows : GoodIn wsL_left (va_wsS RL 27 yL_shows wsL_shows) := goodIn_app (goodIn_of _ (by decide +kernel)) ggL_left_L_shows
theorem dL_left_0 : decode cL_left 0 = .ok (.iconst 0, 1) := by decide +kernel
theorem dL_left_1 : decode cL_left 1 = .ok (.istore 5, 2) := by decide +kernel
theorem dL_left_3 : decode cL_left 3 = .ok (.iconst 0, 1) := by decide +kernel
theorem dL_left_4 : decode cL_left 4 = .ok (.istore 6, 2) := by decide +kernel
theorem dL_left_6 : decode cL_left 6 = .ok (.iload 6, 2) := by decide +kernel
theorem dL_left_8 : decode cL_left 8 = .ok (.iconst 5, 1) := by decide +kernel
theorem dL_left_9 : decode cL_left 9 = .ok (.if_icmp .ge 68, 3) := by decide +kernel
theorem dL_left_12 : decode cL_left 12 = .ok (.iconst 0, 1) := by decide +kernel
theorem dL_left_13 : decode cL_left 13 = .ok (.istore 7, 2) := by decide +kernel
theorem dL_left_15 : decode cL_left 15 = .ok (.iload 7, 2) := by decide +kernel
theorem dL_left_17 : decode cL_left 17 = .ok (.aload_n 0, 1) := by decide +kernel
theorem dL_left_18 : decode cL_left 18 = .ok (.iconst 5, 1) := by decide +kernel
theorem dL_left_19 : decode cL_left 19 = .ok (.iaload, 1) := by decide +kernel
theorem dL_left_20 : decode cL_left 20 = .ok (.if_icmp .ge 51, 3) := by decide +kernel
theorem dL_left_23 : decode cL_left 23 = .ok (.iload 5, 2) := by decide +kernel
theorem dL_left_25 : decode cL_left 25 = .ok (.iload 7, 2) := by decide +kernel
theorem dL_left_27 : decode cL_left 27 = .ok (.iload 6, 2) := by decide +kernel
theorem dL_left_29 : decode cL_left 29 = .ok (.aload_n 0, 1) := by decide +kernel
theorem dL_left_30 : decode cL_left 30 = .ok (.aload_n 1, 1) := by decide +kernel
theorem dL_left_31 : decode cL_left 31 = .ok (.aload_n 2, 1) := by decide +kernel
theorem dL_left_32 : decode cL_left 32 = .ok (.aload_n 3, 1) := by decide +kernel
theorem dL_left_33 : decode cL_left 33 = .ok (.invokestatic 30, 3) := by decide +kernel
theorem dL_left_36 : decode cL_left 36 = .ok (.iload 7, 2) := by decide +kernel
theorem dL_left_38 : decode cL_left 38 = .ok (.iload 6, 2) := by decide +kernel
theorem dL_left_40 : decode cL_left 40 = .ok (.aload_n 0, 1) := by decide +kernel
theorem dL_left_41 : decode cL_left 41 = .ok (.aload_n 1, 1) := by decide +kernel
theorem dL_left_42 : decode cL_left 42 = .ok (.aload_n 2, 1) := by decide +kernel
theorem dL_left_43 : decode cL_left 43 = .ok (.aload_n 3, 1) := by decide +kernel
theorem dL_left_44 : decode cL_left 44 = .ok (.invokestatic 37, 3) := by decide +kernel
theorem dL_left_47 : decode cL_left 47 = .ok (.isub, 1) := by decide +kernel
theorem dL_left_48 : decode cL_left 48 = .ok (.aload_n 0, 1) := by decide +kernel
theorem dL_left_49 : decode cL_left 49 = .ok (.iconst 2, 1) := by decide +kernel
theorem dL_left_50 : decode cL_left 50 = .ok (.iaload, 1) := by decide +kernel
theorem dL_left_51 : decode cL_left 51 = .ok (.iload 7, 2) := by decide +kernel
theorem dL_left_53 : decode cL_left 53 = .ok (.iload 6, 2) := by decide +kernel
theorem dL_left_55 : decode cL_left 55 = .ok (.aload_n 2, 1) := by decide +kernel
theorem dL_left_56 : decode cL_left 56 = .ok (.aload_n 3, 1) := by decide +kernel
theorem dL_left_57 : decode cL_left 57 = .ok (.invokestatic 27, 3) := by decide +kernel
theorem dL_left_60 : decode cL_left 60 = .ok (.imul, 1) := by decide +kernel
theorem dL_left_61 : decode cL_left 61 = .ok (.isub, 1) := by decide +kernel
theorem dL_left_62 : decode cL_left 62 = .ok (.iadd, 1) := by decide +kernel
theorem dL_left_63 : decode cL_left 63 = .ok (.istore 5, 2) := by decide +kernel
theorem dL_left_65 : decode cL_left 65 = .ok (.iinc 7 1, 3) := by decide +kernel
theorem dL_left_68 : decode cL_left 68 = .ok (.goto (-53), 3) := by decide +kernel
theorem dL_left_71 : decode cL_left 71 = .ok (.iinc 6 1, 3) := by decide +kernel
theorem dL_left_74 : decode cL_left 74 = .ok (.goto (-68), 3) := by decide +kernel
theorem dL_left_77 : decode cL_left 77 = .ok (.iconst 0, 1) := by decide +kernel
theorem dL_left_78 : decode cL_left 78 = .ok (.istore 6, 2) := by decide +kernel
theorem dL_left_80 : decode cL_left 80 = .ok (.iload 6, 2) := by decide +kernel
theorem dL_left_82 : decode cL_left 82 = .ok (.bipush 35, 2) := by decide +kernel
theorem dL_left_84 : decode cL_left 84 = .ok (.if_icmp .ge 19, 3) := by decide +kernel
theorem dL_left_87 : decode cL_left 87 = .ok (.iload 5, 2) := by decide +kernel
theorem dL_left_89 : decode cL_left 89 = .ok (.aload 4, 2) := by decide +kernel
theorem dL_left_91 : decode cL_left 91 = .ok (.iload 6, 2) := by decide +kernel
theorem dL_left_93 : decode cL_left 93 = .ok (.iaload, 1) := by decide +kernel
theorem dL_left_94 : decode cL_left 94 = .ok (.iadd, 1) := by decide +kernel
theorem dL_left_95 : decode cL_left 95 = .ok (.istore 5, 2) := by decide +kernel
theorem dL_left_97 : decode cL_left 97 = .ok (.iinc 6 1, 3) := by decide +kernel
theorem dL_left_100 : decode cL_left 100 = .ok (.goto (-20), 3) := by decide +kernel
theorem dL_left_103 : decode cL_left 103 = .ok (.iload 5, 2) := by decide +kernel
theorem dL_left_105 : decode cL_left 105 = .ok (.ireturn, 1) := by decide +kernel
end
section
/-! ===== the law: its five arrays (settings, films, afternoons, evenings, rents) as rows of numbers; what they have to do with the village ===== -/
def lW (la : Nat → Nat) (cI : ClassId) (τ : S9) : va_W := [(la 0, .inl (cI, 6, .inl (τ 0))), (la 1, .inl (cI, 40, .inl (τ 1))), (la 2, .inl (cI, 35, .inl (τ 2))), (la 3, .inl (cI, 35, .inl (τ 3))), (la 4, .inl (cI, 35, .inl (τ 4)))]
theorem lW_a0 (la : Nat → Nat) (cI : ClassId) (τ : S9) (g : Nat → Int32) : (lW la cI τ).set 0 (la 0, .inl (cI, 6, .inl g)) = lW la cI (st9 τ 0 g) := by simp [lW, st9]
theorem lW_a1 (la : Nat → Nat) (cI : ClassId) (τ : S9) (g : Nat → Int32) : (lW la cI τ).set 1 (la 1, .inl (cI, 40, .inl g)) = lW la cI (st9 τ 1 g) := by simp [lW, st9]
theorem lW_a2 (la : Nat → Nat) (cI : ClassId) (τ : S9) (g : Nat → Int32) : (lW la cI τ).set 2 (la 2, .inl (cI, 35, .inl g)) = lW la cI (st9 τ 2 g) := by simp [lW, st9]
theorem lW_a3 (la : Nat → Nat) (cI : ClassId) (τ : S9) (g : Nat → Int32) : (lW la cI τ).set 3 (la 3, .inl (cI, 35, .inl g)) = lW la cI (st9 τ 3 g) := by simp [lW, st9]
theorem lW_a4 (la : Nat → Nat) (cI : ClassId) (τ : S9) (g : Nat → Int32) : (lW la cI τ).set 4 (la 4, .inl (cI, 35, .inl g)) = lW la cI (st9 τ 4 g) := by simp [lW, st9]
section VL3
variable {p : Program} {l : Launch} {e : Env} {R : Room} {s : State} {m : MethodId} {args : Array Value} {below : List Frame} {meth : Method} {c : Code} {cells slots : Nat} {Q : State → Prop}
variable {τ : Type} {w : τ → va_W} {D : va_G} {A : Nat → Prop} {H0 : Heap} {nL : Nat} {cc : ByteArray} {Ts : List Cond} {own : String} {σ : τ} {pc pc' : Nat} {lv : List (Nat × Value)} {st : List Value}
theorem v_ishr (C : CX p m c cc nL s args Ts own A H0) {x y : Int32} (hdg : decode cc pc = .ok (.ishr, 1)) (hp : pc + 1 = pc') (kk : VV p l e R s m args below meth c cells slots Q w D A H0 nL σ pc' lv (.int (x >>> (y &&& 31)) :: st)) : VV p l e R s m args below meth c cells slots Q w D A H0 nL σ pc lv (.int y :: .int x :: st) := by
  subst hp
  exact fun H locs ls hP hD hS h => lv_ishr C.1.1 C.1.2.1 hdg (kk H locs ls hP hD hS h)
theorem v_dup_x2 (C : CX p m c cc nL s args Ts own A H0) {va vb vd : Value} (hdg : decode cc pc = .ok (.dup_x2, 1)) (hp : pc + 1 = pc') (hva : va.category = 1) (hvb : vb.category = 1) (hvd : vd.category = 1) (kk : VV p l e R s m args below meth c cells slots Q w D A H0 nL σ pc' lv (va :: vb :: vd :: va :: st)) : VV p l e R s m args below meth c cells slots Q w D A H0 nL σ pc lv (va :: vb :: vd :: st) := by
  subst hp
  exact fun H locs ls hP hD hS h => lv_dup_x2 C.1.1 C.1.2.1 hdg hva hvb hvd (kk H locs ls hP hD hS h)
end VL3
def sh0 (x : Int32) : Int32 := if x = -6 then 0 else x + 1
def fl0 (x : Int32) : Int32 := if x = -6 then -1 else x
def lw9 (v : Int32) (k : Nat) : Nat := v.toBitVec.toNat % 2 ^ 31 % k
theorem lw9_lt (v : Int32) {k : Nat} (h : 0 < k) : lw9 v k < k := Nat.mod_lt _ h
def LR (g : Nat → Int32) (n : Nat) (τ : S9) : Prop := wfH g n ∧ (∀ i, i < 6 → τ 0 i = g i) ∧ (∀ i, i < 5 * n → τ 1 i = g (6 + i)) ∧ (∀ d, d < 35 → τ 2 d = sh0 (g (46 + (2 * d + 0)))) ∧ (∀ d, d < 35 → τ 3 d = sh0 (g (46 + (2 * d + 1)))) ∧ ∀ d, d < 35 → τ 4 d = g (116 + d)
theorem LR.w {g : Nat → Int32} {n : Nat} {τ : S9} (h : LR g n τ) : wfH g n := h.1
theorem LR.q {g : Nat → Int32} {n : Nat} {τ : S9} (h : LR g n τ) {i : Nat} (hi : i < 6) : τ 0 i = g i := h.2.1 i hi
theorem LR.f {g : Nat → Int32} {n : Nat} {τ : S9} (h : LR g n τ) {f : Nat} (k : Nat) (hf : f < n) (hk : k < 5) : τ 1 (5 * f + k) = g (6 + 5 * f + k) := by
  rw [h.2.2.1 _ (by omega), show 6 + (5 * f + k) = 6 + 5 * f + k by omega]
theorem LR.a {g : Nat → Int32} {n : Nat} {τ : S9} (h : LR g n τ) {d : Nat} (hd : d < 35) : τ 2 d = sh0 (g (46 + 2 * d)) := h.2.2.2.1 d hd
theorem LR.e {g : Nat → Int32} {n : Nat} {τ : S9} (h : LR g n τ) {d : Nat} (hd : d < 35) : τ 3 d = sh0 (g (46 + (2 * d + 1))) := h.2.2.2.2.1 d hd
theorem LR.r {g : Nat → Int32} {n : Nat} {τ : S9} (h : LR g n τ) {d : Nat} (hd : d < 35) : τ 4 d = g (116 + d) := h.2.2.2.2.2 d hd
theorem LR.n8 {g : Nat → Int32} {n : Nat} {τ : S9} (h : LR g n τ) : n ≤ 8 := h.1.1.2.1
theorem LR.k {g : Nat → Int32} {n : Nat} {τ : S9} (h : LR g n τ) {k : Nat} (hk : k < 70) (hp : k % 2 = 0) : τ 2 (k / 2) = sh0 (g (46 + k)) := by
  rw [h.a (by omega), show 2 * (k / 2) = k by omega]
theorem LR.k1 {g : Nat → Int32} {n : Nat} {τ : S9} (h : LR g n τ) {k : Nat} (hk : k < 70) (hp : ¬ k % 2 = 0) : τ 3 (k / 2) = sh0 (g (46 + k)) := by
  rw [h.e (by omega), show 2 * (k / 2) + 1 = k by omega]
theorem ix5 (f k : Nat) : (5 : Int32) * nI f + nI k = nI (5 * f + k) := by rw [show (5 : Int32) = nI 5 from rfl, pk_mul, nI_add]
theorem ix2 (d p : Nat) : (2 : Int32) * nI d + nI p = nI (2 * d + p) := by rw [show (2 : Int32) = nI 2 from rfl, pk_mul, nI_add]
theorem ix7 (w k : Nat) : (7 : Int32) * nI w + nI k = nI (7 * w + k) := by rw [show (7 : Int32) = nI 7 from rfl, pk_mul, nI_add]
theorem ix70 (w : Nat) : (7 : Int32) * nI w = nI (7 * w) := by rw [show (7 : Int32) = nI 7 from rfl, pk_mul]
theorem nI_b {a b : Nat} (ha : a < 1000) (hb : b < 1000) (h : ¬ a = b) : ¬ nI a = nI b := fun q => h (nI_inj (by omega) (by omega) q)
theorem n6_ne {f : Nat} (hf : f < 100) : ¬ nI f = (-6 : Int32) := fun q => nI_nneg (n := f) (by omega) (by rw [q]; decide)
theorem sh0_m (x : Int32) : sh0 x - 1 = fl0 x := by
  unfold sh0 fl0
  by_cases h : x = -6
  · rw [if_pos h, if_pos h]; rfl
  · rw [if_neg h, if_neg h]; grind
theorem sh0_f {g : Nat → Int32} {n k f : Nat} (hw : wfH g n) (hk : k < 70) (hf : f < 8) : sh0 (g (46 + k)) = nI f + 1 ↔ g (46 + k) = nI f := by
  have h8 := hw.1.2.1
  rcases hw.1.2.2 k hk with h | ⟨f', hf', h⟩
  · rw [h, sh0, if_pos rfl, nI_1]
    exact ⟨fun q => absurd q.symm (nI_b (b := 0) (by omega) (by omega) (by omega)), fun q => absurd q.symm (n6_ne (by omega))⟩
  · rw [h, sh0, if_neg (n6_ne (by omega)), nI_1, nI_1]
    exact ⟨fun q => by rw [show f' = f from by have := nI_inj (by omega) (by omega) q; omega], fun q => by rw [show f' = f from nI_inj (by omega) (by omega) q]⟩
theorem sh0_z {g : Nat → Int32} {n k : Nat} (hw : wfH g n) (hk : k < 70) : 0 < sh0 (g (46 + k)) ↔ ¬ g (46 + k) = -6 := by
  have h8 := hw.1.2.1
  rcases hw.1.2.2 k hk with h | ⟨f', hf', h⟩
  · rw [h, sh0, if_pos rfl]
    exact ⟨fun q => absurd q (by decide), fun q => absurd rfl q⟩
  · rw [h, sh0, if_neg (n6_ne (by omega)), nI_1]
    exact ⟨fun _ => n6_ne (by omega), fun _ => nI_lt (a := 0) (by omega) (by omega)⟩
theorem fl0_f {g : Nat → Int32} {n k f : Nat} (hw : wfH g n) (hk : k < 70) (hf : f < 100) : fl0 (g (46 + k)) = nI f ↔ g (46 + k) = nI f := by
  have h8 := hw.1.2.1
  rcases hw.1.2.2 k hk with h | ⟨f', hf', h⟩
  · rw [h, fl0, if_pos rfl]
    exact ⟨fun q => absurd (show nI f < 0 by rw [← q]; decide) (nI_nneg (by omega)), fun q => absurd q.symm (n6_ne (by omega))⟩
  · rw [h, fl0, if_neg (n6_ne (by omega))]
theorem fl0_ge {g : Nat → Int32} {n k : Nat} (hw : wfH g n) (hk : k < 70) (h0 : 0 ≤ fl0 (g (46 + k))) : ∃ f : Nat, f < n ∧ g (46 + k) = nI f ∧ fl0 (g (46 + k)) = nI f := by
  have h8 := hw.1.2.1
  rcases hw.1.2.2 k hk with h | ⟨f', hf', h⟩
  · rw [h, fl0, if_pos rfl] at h0
    exact absurd h0 (by decide)
  · exact ⟨f', hf', h, by rw [h, fl0, if_neg (n6_ne (by omega))]⟩
theorem fl0_n {g : Nat → Int32} {n k : Nat} (hw : wfH g n) (hk : k < 70) (h0 : ¬ 0 ≤ fl0 (g (46 + k))) : g (46 + k) = -6 := by
  have h8 := hw.1.2.1
  rcases hw.1.2.2 k hk with h | ⟨f', hf', h⟩
  · exact h
  · rw [h, fl0, if_neg (n6_ne (by omega))] at h0
    exact absurd (nI_le (a := 0) (Nat.zero_le _) (by omega)) h0
theorem com_le {g : Nat → Int32} {k : Nat} {x : Int32} (h : q_c g k x ≤ g 0) : q_c g k x = q_ppl g k x := by
  unfold q_ppl
  by_cases h2 : g 0 ≤ q_c g k x
  · rw [if_pos h2]; exact Int32.le_antisymm h h2
  · rw [if_neg h2]
theorem com_gt {g : Nat → Int32} {k : Nat} {x : Int32} (h : ¬ q_c g k x ≤ g 0) : g 0 = q_ppl g k x := by
  unfold q_ppl
  rw [if_pos (by rcases Int32.le_total (a := g 0) (b := q_c g k x) with q | q; exact q; exact absurd q h)]
def q_LA (g : Nat → Int32) (f k : Nat) : Int32 := if k < 70 then q_Y g f k else q_L g f k
theorem ppa_f {g : Nat → Int32} {n k f : Nat} (hf : f < 8) (h : g (46 + k) = nI f) : q_ppl g k (q_Y g f k) = q_ppa g k := by
  rw [q_ppa, h, if_neg (n6_ne (by omega)), nI_cl (by omega)]
  rfl
theorem ppa_n {g : Nat → Int32} {k : Nat} (h : g (46 + k) = -6) : 0 = q_ppa g k := by rw [q_ppa, if_pos h]
theorem wk0 {t : Nat → Int32} {w : Nat} (h : ∀ k, ¬ k / 14 = w → t k = 0) : sm9 t (2 * (7 * w)) = 0 := sm9_zero (fun k hk => h k (by omega))
theorem wk70 {t : Nat → Int32} {w : Nat} (hw : w < 5) (h : ∀ k, ¬ k / 14 = w → t k = 0) : sm9 t (2 * (7 * w + 7)) = sm9 t 70 := (sm9_more (by omega) (fun k hk _ => h k (by omega))).symm
theorem ct0 (g : Nat → Int32) (f w : Nat) : ∀ k, ¬ k / 14 = w → q_ct g f w k = 0 := fun k h => if_neg (fun q => h q.2)
theorem tt0 (g : Nat → Int32) (f w : Nat) : ∀ k, ¬ k / 14 = w → q_tt g f w k = 0 := fun k h => if_neg (fun q => h q.2)
theorem S_nn {g : Nat → Int32} {f w : Nat} (h : ¬ q_S g f w = 0) : ¬ q_S g f w ≤ 0 := by
  have hb : ∀ m, m ≤ 70 → ∃ c : Nat, c ≤ m ∧ sm9 (q_ct g f w) m = nI c := by
    intro m
    induction m with
    | zero => exact fun _ => ⟨0, Nat.le_refl _, rfl⟩
    | succ m ih =>
      intro hm
      obtain ⟨c, hc, e⟩ := ih (by omega)
      rw [sm9, e, q_ct]
      split
      · exact ⟨c + 1, by omega, nI_1 c⟩
      · exact ⟨c, by omega, by grind⟩
  obtain ⟨c, hc, e⟩ := hb 70 (Nat.le_refl _)
  have e2 : q_S g f w = nI c := e
  rw [e2] at h ⊢
  intro q
  have := (nI_leI (b := 0) (by omega) (by omega)).mp q
  exact h (by rw [show c = 0 by omega]; rfl)
theorem fw_skip {S : Nat → Int32} {j : Nat} (h : q_fw S j = -6) (h0 : S j = 0) : q_fw S (j + 1) = -6 := by
  rw [q_fw, if_neg (fun q => q.2 (by rw [h0]; decide))]
  exact h
theorem fw_hit {S : Nat → Int32} {j : Nat} (h : q_fw S j = -6) (h0 : ¬ S j ≤ 0) (hj : j < 100) : ∀ w, j ≤ w → q_fw S (w + 1) = nI j
  | w, hw => by
    rw [q_fw]
    by_cases e : j = w
    · rw [← e, if_pos ⟨h, h0⟩]
    · obtain ⟨v, rfl⟩ : ∃ v, w = v + 1 := ⟨w - 1, by omega⟩
      have ih := fw_hit h h0 hj v (by omega)
      rw [ih, if_neg (fun q => n6_ne (by omega) q.1)]
theorem sh_ne {g : Nat → Int32} {n f w : Nat} (hw : wfH g n) (hf : f < n) (h5 : w < 5) (h : ¬ q_S g f w = 0) : ¬ q_sh g f w = -6 := by
  have hn : ¬ q_fw (q_S g f) (w + 1) = -6 := by
    rw [q_fw]
    by_cases e : q_fw (q_S g f) w = -6
    · rw [if_pos ⟨e, S_nn h⟩]
      exact n6_ne (by omega)
    · rw [if_neg (fun q => e q.1)]
      exact e
  rw [q_sh, if_neg hn, p_share]
  intro q
  split at q
  · exact absurd q (by decide)
  · rename_i h2
    rw [q] at h2
    exact h2 (by decide)
theorem so_e {g : Nat → Int32} {n f w : Nat} (hw : wfH g n) (hf : f < n) (h5 : w < 5) (h : ¬ q_S g f w = 0) : q_T g f w * q_sh g f w / 100 = q_so g f w := by rw [q_so, if_neg (sh_ne hw hf h5 h)]
def lsT (g : Nat → Int32) (w f : Nat) : Int32 := q_T g f w - q_D g f w - g 2 * q_S g f w
theorem left_e {g : Nat → Int32} {n : Nat} (hw : wfS g n) : sm9 (fun w => sm9 (lsT g w) n) 5 + sm9 (fun d => g (116 + d)) 35 = q_left g (-1) := by
  have h8 := hw.2.1
  have e1 : sm9 (fun w => sm9 (lsT g w) n) 5 = q_W (q_T g) (-1) - q_W (q_D g) (-1) - g 2 * q_W (q_S g) (-1) := by
    rw [q_W_all h8 (fun f h1 h2 w => q_T_0 hw h1 h2 w), q_W_all h8 (fun f h1 h2 w => q_D_0 hw h1 h2 w), q_W_all h8 (fun f h1 h2 w => q_S_0 hw h1 h2 w), sm9_swap (fun f w => lsT g w f) 5 n]
    rw [show (fun f => sm9 (fun w => lsT g w f) 5) = (fun f => sm9 (q_T g f) 5 - sm9 (q_D g f) 5 - sm9 (q_S g f) 5 * g 2) from funext fun f => by
      show sm9 (fun w => q_T g f w - q_D g f w - g 2 * q_S g f w) 5 = _
      rw [sm9_sub (fun w => q_T g f w - q_D g f w) (fun w => g 2 * q_S g f w), sm9_sub (q_T g f) (q_D g f), show (fun w => g 2 * q_S g f w) = (fun w => q_S g f w * g 2) from funext fun w => Int32.mul_comm _ _, sm9_mulr]]
    rw [sm9_sub (fun f => sm9 (q_T g f) 5 - sm9 (q_D g f) 5) (fun f => sm9 (q_S g f) 5 * g 2), sm9_sub (fun f => sm9 (q_T g f) 5) (fun f => sm9 (q_D g f) 5), sm9_mulr, Int32.mul_comm (g 2)]
  rw [e1, q_left, show rnT g (-1) = (fun d => g (116 + d)) from funext fun d => if_pos (Or.inl (by decide))]
end
section
/-! ===== the law: what its methods answer ===== -/
theorem sh_a {x : Int32} (h : 20 ≤ x) : x = if x ≤ 20 then 20 else x := by
  by_cases h2 : x ≤ 20
  · rw [if_pos h2]; exact Int32.le_antisymm h2 h
  · rw [if_neg h2]
theorem sh_b {x : Int32} (h : ¬ 20 ≤ x) : (20 : Int32) = if x ≤ 20 then 20 else x := by
  rw [if_pos (by rcases Int32.le_total (a := x) (b := 20) with q | q; exact q; exact absurd q h)]
theorem du_a {g : Nat → Int32} {f w : Nat} (h9 : ¬ q_S g f w = 0) (h : g (6 + 5 * f + 2) ≤ q_so g f w) : q_so g f w = q_D g f w := by
  rw [q_D, if_neg h9]
  by_cases h2 : q_so g f w ≤ g (6 + 5 * f + 2)
  · rw [if_pos h2]; exact Int32.le_antisymm h2 h
  · rw [if_neg h2]
theorem du_b {g : Nat → Int32} {f w : Nat} (h9 : ¬ q_S g f w = 0) (h : ¬ g (6 + 5 * f + 2) ≤ q_so g f w) : g (6 + 5 * f + 2) = q_D g f w := by
  rw [q_D, if_neg h9, if_pos (by rcases Int32.le_total (a := q_so g f w) (b := g (6 + 5 * f + 2)) with q | q; exact q; exact absurd q h)]
set_option maxHeartbeats 4000000 in
set_option maxRecDepth 100000 in
theorem c_L_low (l : Launch) (v : Int32) (k : Nat) (hk : 0 < k) (hk2 : k < 2 ^ 31) : CPi l yL_low wsL_low ({ frames := 0, cells := 0, slots := 0, locals := 0 } : Room) [.int v, .int (nI k)] (fun r => r = nI (lw9 v k)) := by
  refine v_startP (own := RL) (cc := cL_low) (nL := 2) ((fun _ => 0), (fun _ _ => 0)) rfl (by decide) rfl (Nat.le_of_ble_eq_true rfl) ?_
  intro p e s m args below meth c A Q C hend
  skip
  refine v_lv (lv' := [(0, .int v), (1, .int (nI k))]) [0, 1] rfl ?_
  refine v_iload_n C dL_low_0 rfl 0 0 rfl rfl ?_
  refine v_ldc C dL_low_1 rfl ct_L_low_9 ?_
  refine v_iand C dL_low_3 rfl ?_
  refine v_top (nI (v.toBitVec.toNat % 2 ^ 31)) (pk_and v 31 (by decide)) ?_
  refine v_iload_n C dL_low_4 rfl 1 1 rfl rfl ?_
  refine v_irem C dL_low_5 rfl (nI_ne0 hk hk2) ?_
  exact hend (pk_rem (Nat.mod_lt _ (by decide)) hk hk2) (rfl) dL_low_6
set_option maxHeartbeats 4000000 in
set_option maxRecDepth 100000 in
theorem c_L_coming (l : Launch) (D : va_G) (la : Nat → Nat) (cI cC cZ cQ : ClassId) (σ : S9) (g : Nat → Int32) (hq : ∀ i, i < 6 → σ 0 i = g i) (x : Int32) (k : Nat) : CMi l (lW la cI) D (cTy cI cC cZ cQ) yL_coming wsL_coming ({ frames := 0, cells := 0, slots := 0, locals := 0 } : Room) [.int x, .int (nI (k % 2)), .ref (la 0)] σ (fun r u => r = q_ppl g k x ∧ u = σ) := by
  refine v_starti (own := RL) (cc := cL_coming) (nL := 4) rfl (by decide) rfl (Nat.le_of_ble_eq_true rfl) ?_
  intro p e s m args below meth c A Q C K hend
  refine v_lv (lv' := [(0, .int x), (1, .int (nI (k % 2))), (2, .ref (la 0))]) [0, 1, 2] rfl ?_
  refine v_iload_n C dL_coming_0 rfl 0 0 rfl rfl ?_
  refine v_iload_n C dL_coming_1 rfl 1 1 rfl rfl ?_
  refine v_if_ne C 11 dL_coming_2 (by decide) rfl (fun h2 => ?_) (fun h2f => ?_)
  · skip
    have e2 : ¬ k % 2 = 0 := fun q => h2 (by rw [q]; rfl)
    refine v_aload_n C dL_coming_11 rfl 2 2 rfl rfl ?_
    refine v_iconst (v := 3) C dL_coming_12 rfl ic_3 ?_
    refine v_iald C K 0 0 rfl rfl (3) (rfl) (by omega) (by decide) dL_coming_13 rfl ?_
    refine v_top (if k % 2 = 0 then g 4 else g 3) (by rw [if_neg e2]; exact hq 3 (by decide)) ?_
    refine v_imul C dL_coming_14 rfl ?_
    refine v_bipush (v := 100) C dL_coming_15 rfl bp_100 ?_
    refine v_idiv C dL_coming_17 rfl (by decide) ?_
    refine v_istore_n (lv' := [(3, _), (0, _), (1, _), (2, _)]) C dL_coming_18 rfl 3 rfl (by decide) rfl ?_
    refine v_iload_n C dL_coming_19 rfl 3 0 rfl rfl ?_
    refine v_aload_n C dL_coming_20 rfl 2 3 rfl rfl ?_
    refine v_iconst (v := 0) C dL_coming_21 rfl ic_0 ?_
    refine v_iald C K 0 0 rfl rfl (0) (rfl) (by omega) (by decide) dL_coming_22 rfl ?_
    refine v_top (g 0) (hq 0 (by decide)) ?_
    refine v_icmp_le C 32 dL_coming_23 (by decide) rfl (fun h23 => ?_) (fun h23f => ?_)
    · skip
      refine v_iload_n C dL_coming_32 rfl 3 0 rfl rfl ?_
      exact hend (⟨com_le (g := g) (k := k) (x := x) h23, rfl⟩) (rfl) dL_coming_33
    · skip
      refine v_aload_n C dL_coming_26 rfl 2 3 rfl rfl ?_
      refine v_iconst (v := 0) C dL_coming_27 rfl ic_0 ?_
      refine v_iald C K 0 0 rfl rfl (0) (rfl) (by omega) (by decide) dL_coming_28 rfl ?_
      refine v_top (g 0) (hq 0 (by decide)) ?_
      refine v_goto C 33 dL_coming_29 (by decide) ?_
      exact hend (⟨com_gt (g := g) (k := k) (x := x) h23f, rfl⟩) (rfl) dL_coming_33
  · skip
    have e2 : k % 2 = 0 := nI_inj (b := 0) (by omega) (by omega) h2f
    refine v_aload_n C dL_coming_5 rfl 2 2 rfl rfl ?_
    refine v_iconst (v := 4) C dL_coming_6 rfl ic_4 ?_
    refine v_iald C K 0 0 rfl rfl (4) (rfl) (by omega) (by decide) dL_coming_7 rfl ?_
    refine v_goto C 14 dL_coming_8 (by decide) ?_
    refine v_top (if k % 2 = 0 then g 4 else g 3) (by rw [if_pos e2]; exact hq 4 (by decide)) ?_
    refine v_imul C dL_coming_14 rfl ?_
    refine v_bipush (v := 100) C dL_coming_15 rfl bp_100 ?_
    refine v_idiv C dL_coming_17 rfl (by decide) ?_
    refine v_istore_n (lv' := [(3, _), (0, _), (1, _), (2, _)]) C dL_coming_18 rfl 3 rfl (by decide) rfl ?_
    refine v_iload_n C dL_coming_19 rfl 3 0 rfl rfl ?_
    refine v_aload_n C dL_coming_20 rfl 2 3 rfl rfl ?_
    refine v_iconst (v := 0) C dL_coming_21 rfl ic_0 ?_
    refine v_iald C K 0 0 rfl rfl (0) (rfl) (by omega) (by decide) dL_coming_22 rfl ?_
    refine v_top (g 0) (hq 0 (by decide)) ?_
    refine v_icmp_le C 32 dL_coming_23 (by decide) rfl (fun h23 => ?_) (fun h23f => ?_)
    · skip
      refine v_iload_n C dL_coming_32 rfl 3 0 rfl rfl ?_
      exact hend (⟨com_le (g := g) (k := k) (x := x) h23, rfl⟩) (rfl) dL_coming_33
    · skip
      refine v_aload_n C dL_coming_26 rfl 2 3 rfl rfl ?_
      refine v_iconst (v := 0) C dL_coming_27 rfl ic_0 ?_
      refine v_iald C K 0 0 rfl rfl (0) (rfl) (by omega) (by decide) dL_coming_28 rfl ?_
      refine v_top (g 0) (hq 0 (by decide)) ?_
      refine v_goto C 33 dL_coming_29 (by decide) ?_
      exact hend (⟨com_gt (g := g) (k := k) (x := x) h23f, rfl⟩) (rfl) dL_coming_33
set_option maxHeartbeats 4000000 in
set_option maxRecDepth 100000 in
theorem c_L_film (l : Launch) (D : va_G) (la : Nat → Nat) (cI cC cZ cQ : ClassId) (σ : S9) (g : Nat → Int32) (n : Nat) (hR : LR g n σ) (d p9 : Nat) (hd : d < 35) (hp : p9 < 2) : CMi l (lW la cI) D (cTy cI cC cZ cQ) yL_film wsL_film ({ frames := 0, cells := 0, slots := 0, locals := 0 } : Room) [.int (nI d), .int (nI p9), .ref (la 2), .ref (la 3)] σ (fun r u => r = fl0 (g (46 + (2 * d + p9))) ∧ u = σ) := by
  refine v_starti (own := RL) (cc := cL_film) (nL := 4) rfl (by decide) rfl (Nat.le_of_ble_eq_true rfl) ?_
  intro p e s m args below meth c A Q C K hend
  refine v_lv (lv' := [(0, .int (nI d)), (1, .int (nI p9)), (2, .ref (la 2)), (3, .ref (la 3))]) [0, 1, 2, 3] rfl ?_
  refine v_iload_n C dL_film_0 rfl 1 1 rfl rfl ?_
  refine v_if_ne C 10 dL_film_1 (by decide) rfl (fun h1 => ?_) (fun h1f => ?_)
  · skip
    have hp1 : p9 = 1 := by
      rcases (show p9 = 0 ∨ p9 = 1 by omega) with q | q
      · exact absurd (by rw [q]; rfl) h1
      · exact q
    refine v_aload_n C dL_film_10 rfl 3 3 rfl rfl ?_
    refine v_iload_n C dL_film_11 rfl 0 0 rfl rfl ?_
    refine v_iald C K 3 0 rfl rfl (d) (rfl) (by omega) (by decide) dL_film_12 rfl ?_
    refine v_top (sh0 (g (46 + (2 * d + p9)))) (by rw [hp1]; exact hR.e hd) ?_
    refine v_iconst (v := 1) C dL_film_13 rfl ic_1 ?_
    refine v_isub C dL_film_14 rfl ?_
    exact hend (⟨sh0_m _, rfl⟩) (rfl) dL_film_15
  · skip
    have hp0 : p9 = 0 := nI_inj (b := 0) (by omega) (by omega) h1f
    refine v_aload_n C dL_film_4 rfl 2 2 rfl rfl ?_
    refine v_iload_n C dL_film_5 rfl 0 0 rfl rfl ?_
    refine v_iald C K 2 0 rfl rfl (d) (rfl) (by omega) (by decide) dL_film_6 rfl ?_
    refine v_goto C 13 dL_film_7 (by decide) ?_
    refine v_top (sh0 (g (46 + (2 * d + p9)))) (by rw [hp0]; exact hR.a hd) ?_
    refine v_iconst (v := 1) C dL_film_13 rfl ic_1 ?_
    refine v_isub C dL_film_14 rfl ?_
    exact hend (⟨sh0_m _, rfl⟩) (rfl) dL_film_15
set_option maxHeartbeats 4000000 in
set_option maxRecDepth 100000 in
theorem c_L_leftAt (l : Launch) (D : va_G) (la : Nat → Nat) (cI cC cZ cQ : ClassId) (σ : S9) (g : Nat → Int32) (n : Nat) (hR : LR g n σ) (f q9 : Nat) (hf : f < n) (hq9 : q9 ≤ 70) : CMi l (lW la cI) D (cTy cI cC cZ cQ) yL_leftAt wsL_leftAt ({ frames := 1, cells := 0, slots := 0, locals := 23 } : Room) [.int (nI f), .int (nI q9), .ref (la 0), .ref (la 1), .ref (la 2), .ref (la 3)] σ (fun r u => r = q_LA g f q9 ∧ u = σ) := by
  refine v_starti (own := RL) (cc := cL_leftAt) (nL := 10) rfl (by decide) rfl (Nat.le_of_ble_eq_true rfl) ?_
  intro p e s m args below meth c A Q C K hend
  refine v_lv (lv' := [(0, .int (nI f)), (1, .int (nI q9)), (2, .ref (la 0)), (3, .ref (la 1)), (4, .ref (la 2)), (5, .ref (la 3))]) [0, 1, 2, 3, 4, 5] rfl ?_
  have hn8 := hR.n8
  refine v_aload_n C dL_leftAt_0 rfl 3 3 rfl rfl ?_
  refine v_iconst (v := 5) C dL_leftAt_1 rfl ic_5 ?_
  refine v_iload_n C dL_leftAt_2 rfl 0 0 rfl rfl ?_
  refine v_imul C dL_leftAt_3 rfl ?_
  refine v_iconst (v := 1) C dL_leftAt_4 rfl ic_1 ?_
  refine v_iadd C dL_leftAt_5 rfl ?_
  refine v_iald C K 1 0 rfl rfl (5 * f + 1) (ix5 f 1) (by omega) (by decide) dL_leftAt_6 rfl ?_
  refine v_top (q_L g f 0) (hR.f 1 hf (by decide)) ?_
  refine v_istore (lv' := [(6, _), (0, _), (1, _), (2, _), (3, _), (4, _), (5, _)]) C dL_leftAt_7 rfl (by decide) rfl ?_
  refine v_iconst (v := 0) C dL_leftAt_9 rfl ic_0 ?_
  refine v_istore (lv' := [(7, _), (6, _), (0, _), (1, _), (2, _), (3, _), (4, _), (5, _)]) C dL_leftAt_10 rfl (by decide) rfl ?_
  have LP12 : ∀ k, k ≤ q9 → VV p l e ({ frames := 1, cells := 0, slots := 0, locals := 23 } : Room) s m args below meth c 0 0 Q (lW la cI) D A s.heap 10 σ 12 [(0, .int (nI f)), (1, .int (nI q9)), (2, .ref (la 0)), (3, .ref (la 1)), (4, .ref (la 2)), (5, .ref (la 3)), (6, .int (q_L g f k)), (7, .int (nI k))] [] := by
    refine lpB9 (fun k => VV p l e ({ frames := 1, cells := 0, slots := 0, locals := 23 } : Room) s m args below meth c 0 0 Q (lW la cI) D A s.heap 10 σ 12 [(0, .int (nI f)), (1, .int (nI q9)), (2, .ref (la 0)), (3, .ref (la 1)), (4, .ref (la 2)), (5, .ref (la 3)), (6, .int (q_L g f k)), (7, .int (nI k))] []) q9 (fun k hk ih => ?_) ?_
    · skip
      refine v_iload C dL_leftAt_12 rfl 7 rfl ?_
      refine v_iload_n C dL_leftAt_14 rfl 1 1 rfl rfl ?_
      refine v_icmp_ge C 118 dL_leftAt_15 (by decide) rfl (fun h9 => absurd h9 (nI_ge hk (by omega))) (fun _ => ?_)
      refine v_iload C dL_leftAt_18 rfl 7 rfl ?_
      refine v_iconst (v := 2) C dL_leftAt_20 rfl ic_2 ?_
      refine v_idiv C dL_leftAt_21 rfl (by decide) ?_
      refine v_top (nI (k / 2)) (pk_div (by omega) (by decide) (by decide)) ?_
      refine v_istore (lv' := [(8, _), (0, _), (1, _), (2, _), (3, _), (4, _), (5, _), (6, _), (7, _)]) C dL_leftAt_22 rfl (by decide) rfl ?_
      refine v_iload C dL_leftAt_24 rfl 8 rfl ?_
      refine v_bipush (v := 14) C dL_leftAt_26 rfl bp_14 ?_
      refine v_irem C dL_leftAt_28 rfl (by decide) ?_
      have J59 : VV p l e ({ frames := 1, cells := 0, slots := 0, locals := 23 } : Room) s m args below meth c 0 0 Q (lW la cI) D A s.heap 10 σ 59 [(0, .int (nI f)), (1, .int (nI q9)), (2, .ref (la 0)), (3, .ref (la 1)), (4, .ref (la 2)), (5, .ref (la 3)), (6, .int (q_Y g f k)), (7, .int (nI k)), (8, .int (nI (k / 2)))] [] := by
        refine v_iload C dL_leftAt_59 rfl 7 rfl ?_
        refine v_iconst (v := 2) C dL_leftAt_61 rfl ic_2 ?_
        refine v_irem C dL_leftAt_62 rfl (by decide) ?_
        refine v_top (nI (k % 2)) (pk_rem (by omega) (by decide) (by decide)) ?_
        refine v_if_ne C 74 dL_leftAt_63 (by decide) rfl (fun h63 => ?_) (fun h63f => ?_)
        · skip
          have e63 : ¬ k % 2 = 0 := fun q => h63 (by rw [q]; rfl)
          refine v_aload C dL_leftAt_74 rfl 5 rfl ?_
          refine v_iload C dL_leftAt_76 rfl 8 rfl ?_
          refine v_iald C K 3 0 rfl rfl (k / 2) (rfl) (by omega) (by decide) dL_leftAt_78 rfl ?_
          refine v_top (sh0 (g (46 + k))) (hR.k1 (by omega) e63) ?_
          refine v_iload_n C dL_leftAt_79 rfl 0 0 rfl rfl ?_
          refine v_iconst (v := 1) C dL_leftAt_80 rfl ic_1 ?_
          refine v_iadd C dL_leftAt_81 rfl ?_
          refine v_icmp_ne C 89 dL_leftAt_82 (by decide) rfl (fun h82 => ?_) (fun h82f => ?_)
          · skip
            refine v_iconst (v := 0) C dL_leftAt_89 rfl ic_0 ?_
            refine v_istore (lv' := [(9, _), (0, _), (1, _), (2, _), (3, _), (4, _), (5, _), (6, _), (7, _), (8, _)]) C dL_leftAt_90 rfl (by decide) rfl ?_
            refine v_iload C dL_leftAt_92 rfl 0 rfl ?_
            refine v_if_eq C 112 dL_leftAt_94 (by decide) rfl (fun _ => ?_) (fun h9 => absurd (rfl) h9)
            refine v_iinc (lv' := [(7, _), (9, _), (0, _), (1, _), (2, _), (3, _), (4, _), (5, _), (6, _), (8, _)]) C dL_leftAt_112 rfl 8 rfl (inc9 _) (by decide) rfl ?_
            refine v_goto C 12 dL_leftAt_115 (by decide) ?_
            refine v_lv (lv' := [(0, _), (1, _), (2, _), (3, _), (4, _), (5, _), (6, _), (7, _)]) [2, 3, 4, 5, 6, 7, 8, 0] rfl ?_
            exact v9cast ih rfl (by rw [q_L, if_neg (fun q => h82 ((sh0_f hR.w (by omega) (by omega)).mpr q))]; rfl) rfl
          · skip
            refine v_iconst (v := 1) C dL_leftAt_85 rfl ic_1 ?_
            refine v_goto C 90 dL_leftAt_86 (by decide) ?_
            refine v_istore (lv' := [(9, _), (0, _), (1, _), (2, _), (3, _), (4, _), (5, _), (6, _), (7, _), (8, _)]) C dL_leftAt_90 rfl (by decide) rfl ?_
            refine v_iload C dL_leftAt_92 rfl 0 rfl ?_
            refine v_if_eq C 112 dL_leftAt_94 (by decide) rfl (fun h9 => absurd h9 (by decide)) (fun _ => ?_)
            refine v_iload C dL_leftAt_97 rfl 7 rfl ?_
            refine v_iload C dL_leftAt_99 rfl 7 rfl ?_
            refine v_iload C dL_leftAt_101 rfl 8 rfl ?_
            refine v_iconst (v := 2) C dL_leftAt_103 rfl ic_2 ?_
            refine v_irem C dL_leftAt_104 rfl (by decide) ?_
            refine v_top (nI (k % 2)) (pk_rem (by omega) (by decide) (by decide)) ?_
            refine v_aload_n C dL_leftAt_105 rfl 2 3 rfl rfl ?_
            refine v_callSid C K (c_L_coming l D la cI cC cZ cQ _ g (fun i hi => hR.q hi) (q_Y g f k) k) gL_leftAt_L_coming rfl hd_L_coming.2 ⟨rfl, rfl⟩ ⟨Nat.le_of_ble_eq_true rfl, Nat.le_of_ble_eq_true rfl⟩ rfl rfl (Nat.le_of_ble_eq_true rfl) ⟨Nat.le_refl _, Nat.le_refl _⟩ dL_leftAt_106 rfl ?_
            refine v_isub C dL_leftAt_109 rfl ?_
            refine v_istore (lv' := [(6, _), (9, _), (0, _), (1, _), (2, _), (3, _), (4, _), (5, _), (7, _), (8, _)]) C dL_leftAt_110 rfl (by decide) rfl ?_
            refine v_iinc (lv' := [(7, _), (6, _), (9, _), (0, _), (1, _), (2, _), (3, _), (4, _), (5, _), (8, _)]) C dL_leftAt_112 rfl 8 rfl (inc9 _) (by decide) rfl ?_
            refine v_goto C 12 dL_leftAt_115 (by decide) ?_
            refine v_lv (lv' := [(0, _), (1, _), (2, _), (3, _), (4, _), (5, _), (6, _), (7, _)]) [3, 4, 5, 6, 7, 8, 1, 0] rfl ?_
            exact v9cast ih rfl (by rw [q_L, if_pos ((sh0_f hR.w (by omega) (by omega)).mp h82f)]; rfl) rfl
        · skip
          have e63 : k % 2 = 0 := nI_inj (b := 0) (by omega) (by omega) h63f
          refine v_aload C dL_leftAt_66 rfl 4 rfl ?_
          refine v_iload C dL_leftAt_68 rfl 8 rfl ?_
          refine v_iald C K 2 0 rfl rfl (k / 2) (rfl) (by omega) (by decide) dL_leftAt_70 rfl ?_
          refine v_goto C 79 dL_leftAt_71 (by decide) ?_
          refine v_top (sh0 (g (46 + k))) (hR.k (by omega) e63) ?_
          refine v_iload_n C dL_leftAt_79 rfl 0 0 rfl rfl ?_
          refine v_iconst (v := 1) C dL_leftAt_80 rfl ic_1 ?_
          refine v_iadd C dL_leftAt_81 rfl ?_
          refine v_icmp_ne C 89 dL_leftAt_82 (by decide) rfl (fun h82 => ?_) (fun h82f => ?_)
          · skip
            refine v_iconst (v := 0) C dL_leftAt_89 rfl ic_0 ?_
            refine v_istore (lv' := [(9, _), (0, _), (1, _), (2, _), (3, _), (4, _), (5, _), (6, _), (7, _), (8, _)]) C dL_leftAt_90 rfl (by decide) rfl ?_
            refine v_iload C dL_leftAt_92 rfl 0 rfl ?_
            refine v_if_eq C 112 dL_leftAt_94 (by decide) rfl (fun _ => ?_) (fun h9 => absurd (rfl) h9)
            refine v_iinc (lv' := [(7, _), (9, _), (0, _), (1, _), (2, _), (3, _), (4, _), (5, _), (6, _), (8, _)]) C dL_leftAt_112 rfl 8 rfl (inc9 _) (by decide) rfl ?_
            refine v_goto C 12 dL_leftAt_115 (by decide) ?_
            refine v_lv (lv' := [(0, _), (1, _), (2, _), (3, _), (4, _), (5, _), (6, _), (7, _)]) [2, 3, 4, 5, 6, 7, 8, 0] rfl ?_
            exact v9cast ih rfl (by rw [q_L, if_neg (fun q => h82 ((sh0_f hR.w (by omega) (by omega)).mpr q))]; rfl) rfl
          · skip
            refine v_iconst (v := 1) C dL_leftAt_85 rfl ic_1 ?_
            refine v_goto C 90 dL_leftAt_86 (by decide) ?_
            refine v_istore (lv' := [(9, _), (0, _), (1, _), (2, _), (3, _), (4, _), (5, _), (6, _), (7, _), (8, _)]) C dL_leftAt_90 rfl (by decide) rfl ?_
            refine v_iload C dL_leftAt_92 rfl 0 rfl ?_
            refine v_if_eq C 112 dL_leftAt_94 (by decide) rfl (fun h9 => absurd h9 (by decide)) (fun _ => ?_)
            refine v_iload C dL_leftAt_97 rfl 7 rfl ?_
            refine v_iload C dL_leftAt_99 rfl 7 rfl ?_
            refine v_iload C dL_leftAt_101 rfl 8 rfl ?_
            refine v_iconst (v := 2) C dL_leftAt_103 rfl ic_2 ?_
            refine v_irem C dL_leftAt_104 rfl (by decide) ?_
            refine v_top (nI (k % 2)) (pk_rem (by omega) (by decide) (by decide)) ?_
            refine v_aload_n C dL_leftAt_105 rfl 2 3 rfl rfl ?_
            refine v_callSid C K (c_L_coming l D la cI cC cZ cQ _ g (fun i hi => hR.q hi) (q_Y g f k) k) gL_leftAt_L_coming rfl hd_L_coming.2 ⟨rfl, rfl⟩ ⟨Nat.le_of_ble_eq_true rfl, Nat.le_of_ble_eq_true rfl⟩ rfl rfl (Nat.le_of_ble_eq_true rfl) ⟨Nat.le_refl _, Nat.le_refl _⟩ dL_leftAt_106 rfl ?_
            refine v_isub C dL_leftAt_109 rfl ?_
            refine v_istore (lv' := [(6, _), (9, _), (0, _), (1, _), (2, _), (3, _), (4, _), (5, _), (7, _), (8, _)]) C dL_leftAt_110 rfl (by decide) rfl ?_
            refine v_iinc (lv' := [(7, _), (6, _), (9, _), (0, _), (1, _), (2, _), (3, _), (4, _), (5, _), (8, _)]) C dL_leftAt_112 rfl 8 rfl (inc9 _) (by decide) rfl ?_
            refine v_goto C 12 dL_leftAt_115 (by decide) ?_
            refine v_lv (lv' := [(0, _), (1, _), (2, _), (3, _), (4, _), (5, _), (6, _), (7, _)]) [3, 4, 5, 6, 7, 8, 1, 0] rfl ?_
            exact v9cast ih rfl (by rw [q_L, if_pos ((sh0_f hR.w (by omega) (by omega)).mp h82f)]; rfl) rfl
      refine v_top (nI (k % 14)) (pk_rem (by omega) (by decide) (by decide)) ?_
      refine v_if_ne C 59 dL_leftAt_29 (by decide) rfl (fun h29 => ?_) (fun h29f => ?_)
      · skip
        have e29 : ¬ k % 14 = 0 := fun q => h29 (by rw [q]; rfl)
        refine v_lv (lv' := [(0, _), (1, _), (2, _), (3, _), (4, _), (5, _), (6, _), (7, _), (8, _)]) [1, 2, 3, 4, 5, 6, 7, 8, 0] rfl ?_
        exact v9cast J59 rfl (by simp [q_Y, q_pre, q_fade, e29]) rfl
      · skip
        have e29 : k % 14 = 0 := nI_inj (b := 0) (by omega) (by omega) h29f
        refine v_iload C dL_leftAt_32 rfl 0 rfl ?_
        refine v_bipush (v := 7) C dL_leftAt_34 rfl bp_7 ?_
        refine v_idiv C dL_leftAt_36 rfl (by decide) ?_
        refine v_top (nI (k / 14)) (by rw [show k / 14 = k / 2 / 7 by omega]; exact pk_div (by omega) (by decide) (by decide)) ?_
        refine v_aload_n C dL_leftAt_37 rfl 3 4 rfl rfl ?_
        refine v_iconst (v := 5) C dL_leftAt_38 rfl ic_5 ?_
        refine v_iload_n C dL_leftAt_39 rfl 0 1 rfl rfl ?_
        refine v_imul C dL_leftAt_40 rfl ?_
        refine v_iconst (v := 4) C dL_leftAt_41 rfl ic_4 ?_
        refine v_iadd C dL_leftAt_42 rfl ?_
        refine v_iald C K 1 0 rfl rfl (5 * f + 4) (ix5 f 4) (by omega) (by decide) dL_leftAt_43 rfl ?_
        refine v_top (g (6 + 5 * f + 4)) (hR.f 4 hf (by decide)) ?_
        refine v_bipush (v := 7) C dL_leftAt_44 rfl bp_7 ?_
        refine v_idiv C dL_leftAt_46 rfl (by decide) ?_
        refine v_icmp_le C 59 dL_leftAt_47 (by decide) rfl (fun h47 => ?_) (fun h47f => ?_)
        · skip
          refine v_lv (lv' := [(0, _), (1, _), (2, _), (3, _), (4, _), (5, _), (6, _), (7, _), (8, _)]) [1, 2, 3, 4, 5, 6, 7, 8, 0] rfl ?_
          exact v9cast J59 rfl (by simp [q_Y, q_pre, q_fade, e29, h47]) rfl
        · skip
          refine v_iload C dL_leftAt_50 rfl 7 rfl ?_
          refine v_iload C dL_leftAt_52 rfl 7 rfl ?_
          refine v_iconst (v := 4) C dL_leftAt_54 rfl ic_4 ?_
          refine v_idiv C dL_leftAt_55 rfl (by decide) ?_
          refine v_isub C dL_leftAt_56 rfl ?_
          refine v_istore (lv' := [(6, _), (8, _), (0, _), (1, _), (2, _), (3, _), (4, _), (5, _), (7, _)]) C dL_leftAt_57 rfl (by decide) rfl ?_
          refine v_lv (lv' := [(0, _), (1, _), (2, _), (3, _), (4, _), (5, _), (6, _), (7, _), (8, _)]) [2, 3, 4, 5, 6, 7, 0, 8, 1] rfl ?_
          exact v9cast J59 rfl (by simp [q_Y, q_pre, q_fade, e29, h47f]) rfl
    · skip
      refine v_iload C dL_leftAt_12 rfl 7 rfl ?_
      refine v_iload_n C dL_leftAt_14 rfl 1 1 rfl rfl ?_
      refine v_icmp_ge C 118 dL_leftAt_15 (by decide) rfl (fun _ => ?_) (fun h9 => absurd (nI_le (Nat.le_refl _) (by omega)) h9)
      refine v_iload_n C dL_leftAt_118 rfl 1 1 rfl rfl ?_
      refine v_bipush (v := 14) C dL_leftAt_119 rfl bp_14 ?_
      refine v_irem C dL_leftAt_121 rfl (by decide) ?_
      refine v_top (nI (q9 % 14)) (pk_rem (by omega) (by decide) (by decide)) ?_
      refine v_if_ne C 157 dL_leftAt_122 (by decide) rfl (fun h122 => ?_) (fun h122f => ?_)
      · skip
        have e122 : ¬ q9 % 14 = 0 := fun q => h122 (by rw [q]; rfl)
        refine v_iload C dL_leftAt_157 rfl 6 rfl ?_
        exact hend (⟨by simp [q_LA, q_Y, q_pre, q_fade, e122], rfl⟩) (rfl) dL_leftAt_159
      · skip
        have e122 : q9 % 14 = 0 := nI_inj (b := 0) (by omega) (by omega) h122f
        refine v_iload_n C dL_leftAt_125 rfl 1 1 rfl rfl ?_
        refine v_bipush (v := 70) C dL_leftAt_126 rfl bp_70 ?_
        refine v_icmp_ge C 157 dL_leftAt_128 (by decide) rfl (fun h128 => ?_) (fun h128f => ?_)
        · skip
          have e128 : ¬ q9 < 70 := fun q => nI_ge q (by omega) h128
          refine v_iload C dL_leftAt_157 rfl 6 rfl ?_
          exact hend (⟨by simp [q_LA, q_Y, q_pre, q_fade, e122, e128], rfl⟩) (rfl) dL_leftAt_159
        · skip
          have e128 : q9 < 70 := by
            rcases Nat.lt_or_ge q9 70 with q | q
            · exact q
            · exact absurd (nI_le q (by omega)) h128f
          refine v_iload_n C dL_leftAt_131 rfl 1 1 rfl rfl ?_
          refine v_bipush (v := 14) C dL_leftAt_132 rfl bp_14 ?_
          refine v_idiv C dL_leftAt_134 rfl (by decide) ?_
          refine v_top (nI (q9 / 14)) (pk_div (by omega) (by decide) (by decide)) ?_
          refine v_aload_n C dL_leftAt_135 rfl 3 3 rfl rfl ?_
          refine v_iconst (v := 5) C dL_leftAt_136 rfl ic_5 ?_
          refine v_iload_n C dL_leftAt_137 rfl 0 0 rfl rfl ?_
          refine v_imul C dL_leftAt_138 rfl ?_
          refine v_iconst (v := 4) C dL_leftAt_139 rfl ic_4 ?_
          refine v_iadd C dL_leftAt_140 rfl ?_
          refine v_iald C K 1 0 rfl rfl (5 * f + 4) (ix5 f 4) (by omega) (by decide) dL_leftAt_141 rfl ?_
          refine v_top (g (6 + 5 * f + 4)) (hR.f 4 hf (by decide)) ?_
          refine v_bipush (v := 7) C dL_leftAt_142 rfl bp_7 ?_
          refine v_idiv C dL_leftAt_144 rfl (by decide) ?_
          refine v_icmp_le C 157 dL_leftAt_145 (by decide) rfl (fun h145 => ?_) (fun h145f => ?_)
          · skip
            refine v_iload C dL_leftAt_157 rfl 6 rfl ?_
            exact hend (⟨by simp [q_LA, q_Y, q_pre, q_fade, e122, e128, h145], rfl⟩) (rfl) dL_leftAt_159
          · skip
            refine v_iload C dL_leftAt_148 rfl 6 rfl ?_
            refine v_iload C dL_leftAt_150 rfl 6 rfl ?_
            refine v_iconst (v := 4) C dL_leftAt_152 rfl ic_4 ?_
            refine v_idiv C dL_leftAt_153 rfl (by decide) ?_
            refine v_isub C dL_leftAt_154 rfl ?_
            refine v_istore (lv' := [(6, _), (0, _), (1, _), (2, _), (3, _), (4, _), (5, _), (7, _)]) C dL_leftAt_155 rfl (by decide) rfl ?_
            refine v_iload C dL_leftAt_157 rfl 0 rfl ?_
            exact hend (⟨by simp [q_LA, q_Y, q_pre, q_fade, e122, e128, h145f], rfl⟩) (rfl) dL_leftAt_159
  refine v_lv (lv' := [(0, _), (1, _), (2, _), (3, _), (4, _), (5, _), (6, _), (7, _)]) [2, 3, 4, 5, 6, 7, 1, 0] rfl ?_
  exact LP12 0 (Nat.zero_le _)
set_option maxHeartbeats 4000000 in
set_option maxRecDepth 100000 in
theorem c_L_people (l : Launch) (D : va_G) (la : Nat → Nat) (cI cC cZ cQ : ClassId) (σ : S9) (g : Nat → Int32) (n : Nat) (hR : LR g n σ) (d p9 : Nat) (hd : d < 35) (hp : p9 < 2) : CMi l (lW la cI) D (cTy cI cC cZ cQ) yL_people wsL_people ({ frames := 2, cells := 0, slots := 0, locals := 52 } : Room) [.int (nI d), .int (nI p9), .ref (la 0), .ref (la 1), .ref (la 2), .ref (la 3)] σ (fun r u => r = q_ppa g (2 * d + p9) ∧ u = σ) := by
  refine v_starti (own := RL) (cc := cL_people) (nL := 7) rfl (by decide) rfl (Nat.le_of_ble_eq_true rfl) ?_
  intro p e s m args below meth c A Q C K hend
  refine v_lv (lv' := [(0, .int (nI d)), (1, .int (nI p9)), (2, .ref (la 0)), (3, .ref (la 1)), (4, .ref (la 2)), (5, .ref (la 3))]) [0, 1, 2, 3, 4, 5] rfl ?_
  have hn8 := hR.n8
  have hk9 : 2 * d + p9 < 70 := by omega
  refine v_iload_n C dL_people_0 rfl 0 0 rfl rfl ?_
  refine v_iload_n C dL_people_1 rfl 1 1 rfl rfl ?_
  refine v_aload C dL_people_2 rfl 4 rfl ?_
  refine v_aload C dL_people_4 rfl 5 rfl ?_
  refine v_callSid C K (c_L_film l D la cI cC cZ cQ _ g n hR d p9 hd hp) gL_people_L_film rfl hd_L_film.2 ⟨rfl, rfl⟩ ⟨Nat.le_of_ble_eq_true rfl, Nat.le_of_ble_eq_true rfl⟩ rfl rfl (Nat.le_of_ble_eq_true rfl) ⟨Nat.le_refl _, Nat.le_refl _⟩ dL_people_6 rfl ?_
  refine v_istore (lv' := [(6, _), (0, _), (1, _), (2, _), (3, _), (4, _), (5, _)]) C dL_people_9 rfl (by decide) rfl ?_
  refine v_iload C dL_people_11 rfl 0 rfl ?_
  refine v_if_ge C 20 dL_people_13 (by decide) rfl (fun h13 => ?_) (fun h13f => ?_)
  · skip
    obtain ⟨f, hf, ef, e6⟩ := fl0_ge hR.w hk9 h13
    refine v_iload C dL_people_20 rfl 0 rfl ?_
    refine v_top (nI f) (e6) ?_
    refine v_iconst (v := 2) C dL_people_22 rfl ic_2 ?_
    refine v_iload_n C dL_people_23 rfl 0 1 rfl rfl ?_
    refine v_imul C dL_people_24 rfl ?_
    refine v_iload_n C dL_people_25 rfl 1 2 rfl rfl ?_
    refine v_iadd C dL_people_26 rfl ?_
    refine v_top (nI (2 * d + p9)) (ix2 d p9) ?_
    refine v_aload_n C dL_people_27 rfl 2 3 rfl rfl ?_
    refine v_aload_n C dL_people_28 rfl 3 4 rfl rfl ?_
    refine v_aload C dL_people_29 rfl 5 rfl ?_
    refine v_aload C dL_people_31 rfl 6 rfl ?_
    refine v_callSid C K (c_L_leftAt l D la cI cC cZ cQ _ g n hR f (2 * d + p9) hf (by omega)) gL_people_L_leftAt rfl hd_L_leftAt.2 ⟨rfl, rfl⟩ ⟨Nat.le_of_ble_eq_true rfl, Nat.le_of_ble_eq_true rfl⟩ rfl rfl (Nat.le_of_ble_eq_true rfl) ⟨Nat.le_refl _, Nat.le_refl _⟩ dL_people_33 rfl ?_
    refine v_top (q_Y g f (2 * d + p9)) (if_pos hk9) ?_
    refine v_iload_n C dL_people_36 rfl 1 2 rfl rfl ?_
    refine v_top (nI ((2 * d + p9) % 2)) (by rw [show (2 * d + p9) % 2 = p9 by omega]) ?_
    refine v_aload_n C dL_people_37 rfl 2 3 rfl rfl ?_
    refine v_callSid C K (c_L_coming l D la cI cC cZ cQ _ g (fun i hi => hR.q hi) (q_Y g f (2 * d + p9)) (2 * d + p9)) gL_people_L_coming rfl hd_L_coming.2 ⟨rfl, rfl⟩ ⟨Nat.le_of_ble_eq_true rfl, Nat.le_of_ble_eq_true rfl⟩ rfl rfl (Nat.le_of_ble_eq_true rfl) ⟨Nat.le_refl _, Nat.le_refl _⟩ dL_people_38 rfl ?_
    exact hend (⟨ppa_f (n := n) (by omega) ef, rfl⟩) (rfl) dL_people_41
  · skip
    have e6 := fl0_n hR.w hk9 h13f
    refine v_iconst (v := 0) C dL_people_16 rfl ic_0 ?_
    refine v_goto C 41 dL_people_17 (by decide) ?_
    exact hend (⟨ppa_n e6, rfl⟩) (rfl) dL_people_41
set_option maxHeartbeats 4000000 in
set_option maxRecDepth 100000 in
theorem c_L_shows (l : Launch) (D : va_G) (la : Nat → Nat) (cI cC cZ cQ : ClassId) (σ : S9) (g : Nat → Int32) (n : Nat) (hR : LR g n σ) (f w : Nat) (hf : f < n) (hw : w < 5) : CMi l (lW la cI) D (cTy cI cC cZ cQ) yL_shows wsL_shows ({ frames := 0, cells := 0, slots := 0, locals := 0 } : Room) [.int (nI f), .int (nI w), .ref (la 2), .ref (la 3)] σ (fun r u => r = q_S g f w ∧ u = σ) := by
  refine v_starti (own := RL) (cc := cL_shows) (nL := 6) rfl (by decide) rfl (Nat.le_of_ble_eq_true rfl) ?_
  intro p e s m args below meth c A Q C K hend
  refine v_lv (lv' := [(0, .int (nI f)), (1, .int (nI w)), (2, .ref (la 2)), (3, .ref (la 3))]) [0, 1, 2, 3] rfl ?_
  have hn8 := hR.n8
  refine v_iconst (v := 0) C dL_shows_0 rfl ic_0 ?_
  refine v_istore (lv' := [(4, _), (0, _), (1, _), (2, _), (3, _)]) C dL_shows_1 rfl (by decide) rfl ?_
  refine v_bipush (v := 7) C dL_shows_3 rfl bp_7 ?_
  refine v_iload_n C dL_shows_5 rfl 1 2 rfl rfl ?_
  refine v_imul C dL_shows_6 rfl ?_
  refine v_top (nI (7 * w)) (ix70 w) ?_
  refine v_istore (lv' := [(5, _), (4, _), (0, _), (1, _), (2, _), (3, _)]) C dL_shows_7 rfl (by decide) rfl ?_
  have LP9 : ∀ j, j ≤ 7 → VV p l e ({ frames := 0, cells := 0, slots := 0, locals := 0 } : Room) s m args below meth c 0 0 Q (lW la cI) D A s.heap 6 σ 9 [(0, .int (nI f)), (1, .int (nI w)), (2, .ref (la 2)), (3, .ref (la 3)), (4, .int (sm9 (q_ct g f w) (2 * (7 * w + j)))), (5, .int (nI (7 * w + j)))] [] := by
    refine lpB9 (fun j => VV p l e ({ frames := 0, cells := 0, slots := 0, locals := 0 } : Room) s m args below meth c 0 0 Q (lW la cI) D A s.heap 6 σ 9 [(0, .int (nI f)), (1, .int (nI w)), (2, .ref (la 2)), (3, .ref (la 3)), (4, .int (sm9 (q_ct g f w) (2 * (7 * w + j)))), (5, .int (nI (7 * w + j)))] []) 7 (fun j hj ih => ?_) ?_
    · skip
      refine v_iload C dL_shows_9 rfl 5 rfl ?_
      refine v_bipush (v := 7) C dL_shows_11 rfl bp_7 ?_
      refine v_iload_n C dL_shows_13 rfl 1 1 rfl rfl ?_
      refine v_imul C dL_shows_14 rfl ?_
      refine v_bipush (v := 7) C dL_shows_15 rfl bp_7 ?_
      refine v_iadd C dL_shows_17 rfl ?_
      refine v_top (nI (7 * w + 7)) (ix7 w 7) ?_
      refine v_icmp_ge C 63 dL_shows_18 (by decide) rfl (fun h9 => absurd h9 (nI_ge (show 7 * w + j < 7 * w + 7 by omega) (by omega))) (fun _ => ?_)
      refine v_iload C dL_shows_21 rfl 4 rfl ?_
      refine v_aload_n C dL_shows_23 rfl 2 2 rfl rfl ?_
      refine v_iload C dL_shows_24 rfl 5 rfl ?_
      refine v_iald C K 2 0 rfl rfl (7 * w + j) (rfl) (by omega) (by decide) dL_shows_26 rfl ?_
      refine v_top (sh0 (g (46 + 2 * (7 * w + j)))) (hR.a (by omega)) ?_
      refine v_iload_n C dL_shows_27 rfl 0 0 rfl rfl ?_
      refine v_iconst (v := 1) C dL_shows_28 rfl ic_1 ?_
      refine v_iadd C dL_shows_29 rfl ?_
      refine v_icmp_ne C 37 dL_shows_30 (by decide) rfl (fun h30 => ?_) (fun h30f => ?_)
      · skip
        refine v_iconst (v := 0) C dL_shows_37 rfl ic_0 ?_
        refine v_top (q_ct g f w (2 * (7 * w + j))) ((if_neg (fun q => h30 ((sh0_f hR.w (by omega) (by omega)).mpr q.1))).symm) ?_
        refine v_aload_n C dL_shows_38 rfl 3 3 rfl rfl ?_
        refine v_iload C dL_shows_39 rfl 5 rfl ?_
        refine v_iald C K 3 0 rfl rfl (7 * w + j) (rfl) (by omega) (by decide) dL_shows_41 rfl ?_
        refine v_top (sh0 (g (46 + (2 * (7 * w + j) + 1)))) (hR.e (by omega)) ?_
        refine v_iload_n C dL_shows_42 rfl 0 0 rfl rfl ?_
        refine v_iconst (v := 1) C dL_shows_43 rfl ic_1 ?_
        refine v_iadd C dL_shows_44 rfl ?_
        refine v_icmp_ne C 52 dL_shows_45 (by decide) rfl (fun h45 => ?_) (fun h45f => ?_)
        · skip
          refine v_iconst (v := 0) C dL_shows_52 rfl ic_0 ?_
          refine v_top (q_ct g f w (2 * (7 * w + j) + 1)) ((if_neg (fun q => h45 ((sh0_f hR.w (by omega) (by omega)).mpr q.1))).symm) ?_
          refine v_iadd C dL_shows_53 rfl ?_
          refine v_iadd C dL_shows_54 rfl ?_
          refine v_top (sm9 (q_ct g f w) (2 * (7 * w + (j + 1)))) (by rw [show 2 * (7 * w + (j + 1)) = 2 * (7 * w + j) + 1 + 1 by omega, sm9, sm9, Int32.add_assoc]) ?_
          refine v_istore (lv' := [(4, _), (0, _), (1, _), (2, _), (3, _), (5, _)]) C dL_shows_55 rfl (by decide) rfl ?_
          refine v_iinc (lv' := [(5, _), (4, _), (0, _), (1, _), (2, _), (3, _)]) C dL_shows_57 rfl 5 rfl (inc9 _) (by decide) rfl ?_
          refine v_goto C 9 dL_shows_60 (by decide) ?_
          refine v_lv (lv' := [(0, _), (1, _), (2, _), (3, _), (4, _), (5, _)]) [2, 3, 4, 5, 1, 0] rfl ?_
          exact ih
        · skip
          refine v_iconst (v := 1) C dL_shows_48 rfl ic_1 ?_
          refine v_goto C 53 dL_shows_49 (by decide) ?_
          refine v_top (q_ct g f w (2 * (7 * w + j) + 1)) ((if_pos ⟨(sh0_f hR.w (by omega) (by omega)).mp h45f, by omega⟩).symm) ?_
          refine v_iadd C dL_shows_53 rfl ?_
          refine v_iadd C dL_shows_54 rfl ?_
          refine v_top (sm9 (q_ct g f w) (2 * (7 * w + (j + 1)))) (by rw [show 2 * (7 * w + (j + 1)) = 2 * (7 * w + j) + 1 + 1 by omega, sm9, sm9, Int32.add_assoc]) ?_
          refine v_istore (lv' := [(4, _), (0, _), (1, _), (2, _), (3, _), (5, _)]) C dL_shows_55 rfl (by decide) rfl ?_
          refine v_iinc (lv' := [(5, _), (4, _), (0, _), (1, _), (2, _), (3, _)]) C dL_shows_57 rfl 5 rfl (inc9 _) (by decide) rfl ?_
          refine v_goto C 9 dL_shows_60 (by decide) ?_
          refine v_lv (lv' := [(0, _), (1, _), (2, _), (3, _), (4, _), (5, _)]) [2, 3, 4, 5, 1, 0] rfl ?_
          exact ih
      · skip
        refine v_iconst (v := 1) C dL_shows_33 rfl ic_1 ?_
        refine v_goto C 38 dL_shows_34 (by decide) ?_
        refine v_top (q_ct g f w (2 * (7 * w + j))) ((if_pos ⟨(sh0_f hR.w (by omega) (by omega)).mp h30f, by omega⟩).symm) ?_
        refine v_aload_n C dL_shows_38 rfl 3 3 rfl rfl ?_
        refine v_iload C dL_shows_39 rfl 5 rfl ?_
        refine v_iald C K 3 0 rfl rfl (7 * w + j) (rfl) (by omega) (by decide) dL_shows_41 rfl ?_
        refine v_top (sh0 (g (46 + (2 * (7 * w + j) + 1)))) (hR.e (by omega)) ?_
        refine v_iload_n C dL_shows_42 rfl 0 0 rfl rfl ?_
        refine v_iconst (v := 1) C dL_shows_43 rfl ic_1 ?_
        refine v_iadd C dL_shows_44 rfl ?_
        refine v_icmp_ne C 52 dL_shows_45 (by decide) rfl (fun h45 => ?_) (fun h45f => ?_)
        · skip
          refine v_iconst (v := 0) C dL_shows_52 rfl ic_0 ?_
          refine v_top (q_ct g f w (2 * (7 * w + j) + 1)) ((if_neg (fun q => h45 ((sh0_f hR.w (by omega) (by omega)).mpr q.1))).symm) ?_
          refine v_iadd C dL_shows_53 rfl ?_
          refine v_iadd C dL_shows_54 rfl ?_
          refine v_top (sm9 (q_ct g f w) (2 * (7 * w + (j + 1)))) (by rw [show 2 * (7 * w + (j + 1)) = 2 * (7 * w + j) + 1 + 1 by omega, sm9, sm9, Int32.add_assoc]) ?_
          refine v_istore (lv' := [(4, _), (0, _), (1, _), (2, _), (3, _), (5, _)]) C dL_shows_55 rfl (by decide) rfl ?_
          refine v_iinc (lv' := [(5, _), (4, _), (0, _), (1, _), (2, _), (3, _)]) C dL_shows_57 rfl 5 rfl (inc9 _) (by decide) rfl ?_
          refine v_goto C 9 dL_shows_60 (by decide) ?_
          refine v_lv (lv' := [(0, _), (1, _), (2, _), (3, _), (4, _), (5, _)]) [2, 3, 4, 5, 1, 0] rfl ?_
          exact ih
        · skip
          refine v_iconst (v := 1) C dL_shows_48 rfl ic_1 ?_
          refine v_goto C 53 dL_shows_49 (by decide) ?_
          refine v_top (q_ct g f w (2 * (7 * w + j) + 1)) ((if_pos ⟨(sh0_f hR.w (by omega) (by omega)).mp h45f, by omega⟩).symm) ?_
          refine v_iadd C dL_shows_53 rfl ?_
          refine v_iadd C dL_shows_54 rfl ?_
          refine v_top (sm9 (q_ct g f w) (2 * (7 * w + (j + 1)))) (by rw [show 2 * (7 * w + (j + 1)) = 2 * (7 * w + j) + 1 + 1 by omega, sm9, sm9, Int32.add_assoc]) ?_
          refine v_istore (lv' := [(4, _), (0, _), (1, _), (2, _), (3, _), (5, _)]) C dL_shows_55 rfl (by decide) rfl ?_
          refine v_iinc (lv' := [(5, _), (4, _), (0, _), (1, _), (2, _), (3, _)]) C dL_shows_57 rfl 5 rfl (inc9 _) (by decide) rfl ?_
          refine v_goto C 9 dL_shows_60 (by decide) ?_
          refine v_lv (lv' := [(0, _), (1, _), (2, _), (3, _), (4, _), (5, _)]) [2, 3, 4, 5, 1, 0] rfl ?_
          exact ih
    · skip
      refine v_iload C dL_shows_9 rfl 5 rfl ?_
      refine v_bipush (v := 7) C dL_shows_11 rfl bp_7 ?_
      refine v_iload_n C dL_shows_13 rfl 1 1 rfl rfl ?_
      refine v_imul C dL_shows_14 rfl ?_
      refine v_bipush (v := 7) C dL_shows_15 rfl bp_7 ?_
      refine v_iadd C dL_shows_17 rfl ?_
      refine v_top (nI (7 * w + 7)) (ix7 w 7) ?_
      refine v_icmp_ge C 63 dL_shows_18 (by decide) rfl (fun _ => ?_) (fun h9 => absurd (nI_le (Nat.le_refl _) (by omega)) h9)
      refine v_iload C dL_shows_63 rfl 4 rfl ?_
      exact hend (⟨wk70 hw (ct0 g f w), rfl⟩) (rfl) dL_shows_65
  refine v_lv (lv' := [(0, _), (1, _), (2, _), (3, _), (4, _), (5, _)]) [2, 3, 4, 5, 1, 0] rfl ?_
  exact v9cast (LP9 0 (Nat.zero_le _)) rfl (by rw [Nat.add_zero, wk0 (ct0 g f w)]) rfl
set_option maxHeartbeats 4000000 in
set_option maxRecDepth 100000 in
theorem c_L_takings (l : Launch) (D : va_G) (la : Nat → Nat) (cI cC cZ cQ : ClassId) (σ : S9) (g : Nat → Int32) (n : Nat) (hR : LR g n σ) (f w : Nat) (hf : f < n) (hw : w < 5) : CMi l (lW la cI) D (cTy cI cC cZ cQ) yL_takings wsL_takings ({ frames := 3, cells := 0, slots := 0, locals := 78 } : Room) [.int (nI f), .int (nI w), .ref (la 0), .ref (la 1), .ref (la 2), .ref (la 3)] σ (fun r u => r = q_T g f w ∧ u = σ) := by
  refine v_starti (own := RL) (cc := cL_takings) (nL := 9) rfl (by decide) rfl (Nat.le_of_ble_eq_true rfl) ?_
  intro p e s m args below meth c A Q C K hend
  refine v_lv (lv' := [(0, .int (nI f)), (1, .int (nI w)), (2, .ref (la 0)), (3, .ref (la 1)), (4, .ref (la 2)), (5, .ref (la 3))]) [0, 1, 2, 3, 4, 5] rfl ?_
  have hn8 := hR.n8
  refine v_iconst (v := 0) C dL_takings_0 rfl ic_0 ?_
  refine v_istore (lv' := [(6, _), (0, _), (1, _), (2, _), (3, _), (4, _), (5, _)]) C dL_takings_1 rfl (by decide) rfl ?_
  refine v_bipush (v := 7) C dL_takings_3 rfl bp_7 ?_
  refine v_iload_n C dL_takings_5 rfl 1 2 rfl rfl ?_
  refine v_imul C dL_takings_6 rfl ?_
  refine v_top (nI (7 * w)) (ix70 w) ?_
  refine v_istore (lv' := [(7, _), (6, _), (0, _), (1, _), (2, _), (3, _), (4, _), (5, _)]) C dL_takings_7 rfl (by decide) rfl ?_
  have LP9 : ∀ j, j ≤ 7 → VV p l e ({ frames := 3, cells := 0, slots := 0, locals := 78 } : Room) s m args below meth c 0 0 Q (lW la cI) D A s.heap 9 σ 9 [(0, .int (nI f)), (1, .int (nI w)), (2, .ref (la 0)), (3, .ref (la 1)), (4, .ref (la 2)), (5, .ref (la 3)), (6, .int (sm9 (q_tt g f w) (2 * (7 * w + j)))), (7, .int (nI (7 * w + j)))] [] := by
    refine lpB9 (fun j => VV p l e ({ frames := 3, cells := 0, slots := 0, locals := 78 } : Room) s m args below meth c 0 0 Q (lW la cI) D A s.heap 9 σ 9 [(0, .int (nI f)), (1, .int (nI w)), (2, .ref (la 0)), (3, .ref (la 1)), (4, .ref (la 2)), (5, .ref (la 3)), (6, .int (sm9 (q_tt g f w) (2 * (7 * w + j)))), (7, .int (nI (7 * w + j)))] []) 7 (fun j hj ih => ?_) ?_
    · skip
      refine v_iload C dL_takings_9 rfl 7 rfl ?_
      refine v_bipush (v := 7) C dL_takings_11 rfl bp_7 ?_
      refine v_iload_n C dL_takings_13 rfl 1 1 rfl rfl ?_
      refine v_imul C dL_takings_14 rfl ?_
      refine v_bipush (v := 7) C dL_takings_15 rfl bp_7 ?_
      refine v_iadd C dL_takings_17 rfl ?_
      refine v_top (nI (7 * w + 7)) (ix7 w 7) ?_
      refine v_icmp_ge C 83 dL_takings_18 (by decide) rfl (fun h9 => absurd h9 (nI_ge (show 7 * w + j < 7 * w + 7 by omega) (by omega))) (fun _ => ?_)
      refine v_iconst (v := 0) C dL_takings_21 rfl ic_0 ?_
      refine v_istore (lv' := [(8, _), (0, _), (1, _), (2, _), (3, _), (4, _), (5, _), (6, _), (7, _)]) C dL_takings_22 rfl (by decide) rfl ?_
      have LP24 : ∀ i, i ≤ 2 → VV p l e ({ frames := 3, cells := 0, slots := 0, locals := 78 } : Room) s m args below meth c 0 0 Q (lW la cI) D A s.heap 9 σ 24 [(0, .int (nI f)), (1, .int (nI w)), (2, .ref (la 0)), (3, .ref (la 1)), (4, .ref (la 2)), (5, .ref (la 3)), (6, .int (sm9 (q_tt g f w) (2 * (7 * w + j) + i))), (7, .int (nI (7 * w + j))), (8, .int (nI i))] [] := by
        refine lpB9 (fun i => VV p l e ({ frames := 3, cells := 0, slots := 0, locals := 78 } : Room) s m args below meth c 0 0 Q (lW la cI) D A s.heap 9 σ 24 [(0, .int (nI f)), (1, .int (nI w)), (2, .ref (la 0)), (3, .ref (la 1)), (4, .ref (la 2)), (5, .ref (la 3)), (6, .int (sm9 (q_tt g f w) (2 * (7 * w + j) + i))), (7, .int (nI (7 * w + j))), (8, .int (nI i))] []) 2 (fun i hi ih => ?_) ?_
        · skip
          refine v_iload C dL_takings_24 rfl 8 rfl ?_
          refine v_iconst (v := 2) C dL_takings_26 rfl ic_2 ?_
          refine v_icmp_ge C 77 dL_takings_27 (by decide) rfl (fun h9 => absurd h9 (nI_ge hi (by decide))) (fun _ => ?_)
          refine v_iload C dL_takings_30 rfl 6 rfl ?_
          refine v_iload C dL_takings_32 rfl 7 rfl ?_
          refine v_iload C dL_takings_34 rfl 8 rfl ?_
          refine v_aload C dL_takings_36 rfl 4 rfl ?_
          refine v_aload C dL_takings_38 rfl 5 rfl ?_
          refine v_callSid C K (c_L_film l D la cI cC cZ cQ _ g n hR (7 * w + j) i (by omega) hi) gL_takings_L_film rfl hd_L_film.2 ⟨rfl, rfl⟩ ⟨Nat.le_of_ble_eq_true rfl, Nat.le_of_ble_eq_true rfl⟩ rfl rfl (Nat.le_of_ble_eq_true rfl) ⟨Nat.le_refl _, Nat.le_refl _⟩ dL_takings_40 rfl ?_
          refine v_iload_n C dL_takings_43 rfl 0 0 rfl rfl ?_
          refine v_icmp_ne C 67 dL_takings_44 (by decide) rfl (fun h44 => ?_) (fun h44f => ?_)
          · skip
            refine v_iconst (v := 0) C dL_takings_67 rfl ic_0 ?_
            refine v_top (q_tt g f w (2 * (7 * w + j) + i)) ((if_neg (fun q => h44 ((fl0_f hR.w (by omega) (by omega)).mpr q.1))).symm) ?_
            refine v_iadd C dL_takings_68 rfl ?_
            refine v_istore (lv' := [(6, _), (0, _), (1, _), (2, _), (3, _), (4, _), (5, _), (7, _), (8, _)]) C dL_takings_69 rfl (by decide) rfl ?_
            refine v_iinc (lv' := [(8, _), (6, _), (0, _), (1, _), (2, _), (3, _), (4, _), (5, _), (7, _)]) C dL_takings_71 rfl 8 rfl (inc9 _) (by decide) rfl ?_
            refine v_goto C 24 dL_takings_74 (by decide) ?_
            refine v_lv (lv' := [(0, _), (1, _), (2, _), (3, _), (4, _), (5, _), (6, _), (7, _), (8, _)]) [2, 3, 4, 5, 6, 7, 1, 8, 0] rfl ?_
            exact ih
          · skip
            refine v_iload C dL_takings_47 rfl 7 rfl ?_
            refine v_iload C dL_takings_49 rfl 8 rfl ?_
            refine v_aload_n C dL_takings_51 rfl 2 2 rfl rfl ?_
            refine v_aload_n C dL_takings_52 rfl 3 3 rfl rfl ?_
            refine v_aload C dL_takings_53 rfl 4 rfl ?_
            refine v_aload C dL_takings_55 rfl 5 rfl ?_
            refine v_callSid C K (c_L_people l D la cI cC cZ cQ _ g n hR (7 * w + j) i (by omega) hi) gL_takings_L_people rfl hd_L_people.2 ⟨rfl, rfl⟩ ⟨Nat.le_of_ble_eq_true rfl, Nat.le_of_ble_eq_true rfl⟩ rfl rfl (Nat.le_of_ble_eq_true rfl) ⟨Nat.le_refl _, Nat.le_refl _⟩ dL_takings_57 rfl ?_
            refine v_aload_n C dL_takings_60 rfl 2 2 rfl rfl ?_
            refine v_iconst (v := 1) C dL_takings_61 rfl ic_1 ?_
            refine v_iald C K 0 0 rfl rfl (1) (rfl) (by omega) (by decide) dL_takings_62 rfl ?_
            refine v_top (g 1) (hR.q (by decide)) ?_
            refine v_imul C dL_takings_63 rfl ?_
            refine v_goto C 68 dL_takings_64 (by decide) ?_
            refine v_top (q_tt g f w (2 * (7 * w + j) + i)) ((if_pos ⟨(fl0_f hR.w (by omega) (by omega)).mp h44f, by omega⟩).symm) ?_
            refine v_iadd C dL_takings_68 rfl ?_
            refine v_istore (lv' := [(6, _), (0, _), (1, _), (2, _), (3, _), (4, _), (5, _), (7, _), (8, _)]) C dL_takings_69 rfl (by decide) rfl ?_
            refine v_iinc (lv' := [(8, _), (6, _), (0, _), (1, _), (2, _), (3, _), (4, _), (5, _), (7, _)]) C dL_takings_71 rfl 8 rfl (inc9 _) (by decide) rfl ?_
            refine v_goto C 24 dL_takings_74 (by decide) ?_
            refine v_lv (lv' := [(0, _), (1, _), (2, _), (3, _), (4, _), (5, _), (6, _), (7, _), (8, _)]) [2, 3, 4, 5, 6, 7, 1, 8, 0] rfl ?_
            exact ih
        · skip
          refine v_iload C dL_takings_24 rfl 8 rfl ?_
          refine v_iconst (v := 2) C dL_takings_26 rfl ic_2 ?_
          refine v_icmp_ge C 77 dL_takings_27 (by decide) rfl (fun _ => ?_) (fun h9 => absurd (nI_le (Nat.le_refl _) (by decide)) h9)
          refine v_iinc (lv' := [(7, _), (0, _), (1, _), (2, _), (3, _), (4, _), (5, _), (6, _), (8, _)]) C dL_takings_77 rfl 7 rfl (inc9 _) (by decide) rfl ?_
          refine v_goto C 9 dL_takings_80 (by decide) ?_
          refine v_lv (lv' := [(0, _), (1, _), (2, _), (3, _), (4, _), (5, _), (6, _), (7, _)]) [1, 2, 3, 4, 5, 6, 7, 0] rfl ?_
          exact v9cast ih rfl (by rw [show 2 * (7 * w + (j + 1)) = 2 * (7 * w + j) + 2 by omega]; rfl) rfl
      refine v_lv (lv' := [(0, _), (1, _), (2, _), (3, _), (4, _), (5, _), (6, _), (7, _), (8, _)]) [1, 2, 3, 4, 5, 6, 7, 8, 0] rfl ?_
      exact LP24 0 (by omega)
    · skip
      refine v_iload C dL_takings_9 rfl 7 rfl ?_
      refine v_bipush (v := 7) C dL_takings_11 rfl bp_7 ?_
      refine v_iload_n C dL_takings_13 rfl 1 1 rfl rfl ?_
      refine v_imul C dL_takings_14 rfl ?_
      refine v_bipush (v := 7) C dL_takings_15 rfl bp_7 ?_
      refine v_iadd C dL_takings_17 rfl ?_
      refine v_top (nI (7 * w + 7)) (ix7 w 7) ?_
      refine v_icmp_ge C 83 dL_takings_18 (by decide) rfl (fun _ => ?_) (fun h9 => absurd (nI_le (Nat.le_refl _) (by omega)) h9)
      refine v_iload C dL_takings_83 rfl 6 rfl ?_
      exact hend (⟨wk70 hw (tt0 g f w), rfl⟩) (rfl) dL_takings_85
  refine v_lv (lv' := [(0, _), (1, _), (2, _), (3, _), (4, _), (5, _), (6, _), (7, _)]) [2, 3, 4, 5, 6, 7, 1, 0] rfl ?_
  exact v9cast (LP9 0 (Nat.zero_le _)) rfl (by rw [Nat.add_zero, wk0 (tt0 g f w)]) rfl
set_option maxHeartbeats 4000000 in
set_option maxRecDepth 100000 in
theorem c_L_share (l : Launch) (D : va_G) (la : Nat → Nat) (cI cC cZ cQ : ClassId) (σ : S9) (g : Nat → Int32) (n : Nat) (hR : LR g n σ) (f w : Nat) (hf : f < n) (hw : w < 5) : CMi l (lW la cI) D (cTy cI cC cZ cQ) yL_share wsL_share ({ frames := 1, cells := 0, slots := 0, locals := 25 } : Room) [.int (nI f), .int (nI w), .ref (la 1), .ref (la 2), .ref (la 3)] σ (fun r u => r = q_sh g f w ∧ u = σ) := by
  refine v_starti (own := RL) (cc := cL_share) (nL := 7) rfl (by decide) rfl (Nat.le_of_ble_eq_true rfl) ?_
  intro p e s m args below meth c A Q C K hend
  refine v_lv (lv' := [(0, .int (nI f)), (1, .int (nI w)), (2, .ref (la 1)), (3, .ref (la 2)), (4, .ref (la 3))]) [0, 1, 2, 3, 4] rfl ?_
  have hn8 := hR.n8
  refine v_iconst (v := 0) C dL_share_0 rfl ic_0 ?_
  refine v_istore (lv' := [(5, _), (0, _), (1, _), (2, _), (3, _), (4, _)]) C dL_share_1 rfl (by decide) rfl ?_
  have LP3 : ∀ j, j ≤ (w + 1) → q_fw (q_S g f) j = -6 → VV p l e ({ frames := 1, cells := 0, slots := 0, locals := 25 } : Room) s m args below meth c 0 0 Q (lW la cI) D A s.heap 7 σ 3 [(0, .int (nI f)), (1, .int (nI w)), (2, .ref (la 1)), (3, .ref (la 2)), (4, .ref (la 3)), (5, .int (nI j))] [] := by
    refine lpB9 (fun j => q_fw (q_S g f) j = -6 → VV p l e ({ frames := 1, cells := 0, slots := 0, locals := 25 } : Room) s m args below meth c 0 0 Q (lW la cI) D A s.heap 7 σ 3 [(0, .int (nI f)), (1, .int (nI w)), (2, .ref (la 1)), (3, .ref (la 2)), (4, .ref (la 3)), (5, .int (nI j))] []) (w + 1) (fun j hj ih => ?_) ?_
    · intro hre
      refine v_iload C dL_share_3 rfl 5 rfl ?_
      refine v_iload_n C dL_share_5 rfl 1 1 rfl rfl ?_
      refine v_icmp_gt C 62 dL_share_6 (by decide) rfl (fun h9 => absurd h9 (fun q => absurd ((nI_ltI (by omega) (by omega)).mp q) (by omega))) (fun _ => ?_)
      refine v_iload_n C dL_share_9 rfl 0 0 rfl rfl ?_
      refine v_iload C dL_share_10 rfl 5 rfl ?_
      refine v_aload_n C dL_share_12 rfl 3 3 rfl rfl ?_
      refine v_aload C dL_share_13 rfl 4 rfl ?_
      refine v_callSid C K (c_L_shows l D la cI cC cZ cQ _ g n hR f j hf (by omega)) gL_share_L_shows rfl hd_L_shows.2 ⟨rfl, rfl⟩ ⟨Nat.le_of_ble_eq_true rfl, Nat.le_of_ble_eq_true rfl⟩ rfl rfl (Nat.le_of_ble_eq_true rfl) ⟨Nat.le_refl _, Nat.le_refl _⟩ dL_share_15 rfl ?_
      refine v_if_ne C 24 dL_share_18 (by decide) rfl (fun h18 => ?_) (fun h18f => ?_)
      · skip
        have e9 := fw_hit hre (S_nn h18) (by omega) w (by omega)
        refine v_aload_n C dL_share_24 rfl 2 2 rfl rfl ?_
        refine v_iconst (v := 5) C dL_share_25 rfl ic_5 ?_
        refine v_iload_n C dL_share_26 rfl 0 0 rfl rfl ?_
        refine v_imul C dL_share_27 rfl ?_
        refine v_iconst (v := 3) C dL_share_28 rfl ic_3 ?_
        refine v_iadd C dL_share_29 rfl ?_
        refine v_iald C K 1 0 rfl rfl (5 * f + 3) (ix5 f 3) (by omega) (by decide) dL_share_30 rfl ?_
        refine v_top (g (6 + 5 * f + 3)) (hR.f 3 hf (by decide)) ?_
        refine v_bipush (v := 10) C dL_share_31 rfl bp_10 ?_
        refine v_iload_n C dL_share_33 rfl 1 1 rfl rfl ?_
        refine v_iload C dL_share_34 rfl 5 rfl ?_
        refine v_isub C dL_share_36 rfl ?_
        refine v_imul C dL_share_37 rfl ?_
        refine v_isub C dL_share_38 rfl ?_
        refine v_istore (lv' := [(6, _), (0, _), (1, _), (2, _), (3, _), (4, _), (5, _)]) C dL_share_39 rfl (by decide) rfl ?_
        refine v_iload C dL_share_41 rfl 0 rfl ?_
        refine v_bipush (v := 20) C dL_share_43 rfl bp_20 ?_
        refine v_icmp_ge C 53 dL_share_45 (by decide) rfl (fun h45 => ?_) (fun h45f => ?_)
        · skip
          refine v_iload C dL_share_53 rfl 0 rfl ?_
          exact hend (⟨by rw [q_sh, e9, if_neg (n6_ne (by omega)), p_share]; exact sh_a h45, rfl⟩) (rfl) dL_share_55
        · skip
          refine v_bipush (v := 20) C dL_share_48 rfl bp_20 ?_
          refine v_goto C 55 dL_share_50 (by decide) ?_
          exact hend (⟨by rw [q_sh, e9, if_neg (n6_ne (by omega)), p_share]; exact sh_b h45f, rfl⟩) (rfl) dL_share_55
      · skip
        refine v_goto C 56 dL_share_21 (by decide) ?_
        refine v_iinc (lv' := [(5, _), (0, _), (1, _), (2, _), (3, _), (4, _)]) C dL_share_56 rfl 5 rfl (inc9 _) (by decide) rfl ?_
        refine v_goto C 3 dL_share_59 (by decide) ?_
        refine v_lv (lv' := [(0, _), (1, _), (2, _), (3, _), (4, _), (5, _)]) [1, 2, 3, 4, 5, 0] rfl ?_
        exact ih (fw_skip hre h18f)
    · intro hre
      refine v_iload C dL_share_3 rfl 5 rfl ?_
      refine v_iload_n C dL_share_5 rfl 1 1 rfl rfl ?_
      refine v_icmp_gt C 62 dL_share_6 (by decide) rfl (fun _ => ?_) (fun h9 => absurd (nI_lt (by omega) (by omega)) h9)
      refine v_bipush (v := -6) C dL_share_62 rfl bp_m6 ?_
      exact hend (⟨by rw [q_sh, if_pos hre], rfl⟩) (rfl) dL_share_64
  refine v_lv (lv' := [(0, _), (1, _), (2, _), (3, _), (4, _), (5, _)]) [1, 2, 3, 4, 5, 0] rfl ?_
  exact LP3 0 (Nat.zero_le _) rfl
set_option maxHeartbeats 4000000 in
set_option maxRecDepth 100000 in
theorem c_L_due (l : Launch) (D : va_G) (la : Nat → Nat) (cI cC cZ cQ : ClassId) (σ : S9) (g : Nat → Int32) (n : Nat) (hR : LR g n σ) (f w : Nat) (hf : f < n) (hw : w < 5) : CMi l (lW la cI) D (cTy cI cC cZ cQ) yL_due wsL_due ({ frames := 4, cells := 0, slots := 0, locals := 106 } : Room) [.int (nI f), .int (nI w), .ref (la 0), .ref (la 1), .ref (la 2), .ref (la 3)] σ (fun r u => r = q_D g f w ∧ u = σ) := by
  refine v_starti (own := RL) (cc := cL_due) (nL := 7) rfl (by decide) rfl (Nat.le_of_ble_eq_true rfl) ?_
  intro p e s m args below meth c A Q C K hend
  refine v_lv (lv' := [(0, .int (nI f)), (1, .int (nI w)), (2, .ref (la 0)), (3, .ref (la 1)), (4, .ref (la 2)), (5, .ref (la 3))]) [0, 1, 2, 3, 4, 5] rfl ?_
  have hn8 := hR.n8
  refine v_iload_n C dL_due_0 rfl 0 0 rfl rfl ?_
  refine v_iload_n C dL_due_1 rfl 1 1 rfl rfl ?_
  refine v_aload C dL_due_2 rfl 4 rfl ?_
  refine v_aload C dL_due_4 rfl 5 rfl ?_
  refine v_callSid C K (c_L_shows l D la cI cC cZ cQ _ g n hR f w hf hw) gL_due_L_shows rfl hd_L_shows.2 ⟨rfl, rfl⟩ ⟨Nat.le_of_ble_eq_true rfl, Nat.le_of_ble_eq_true rfl⟩ rfl rfl (Nat.le_of_ble_eq_true rfl) ⟨Nat.le_refl _, Nat.le_refl _⟩ dL_due_6 rfl ?_
  refine v_if_ne C 14 dL_due_9 (by decide) rfl (fun h9 => ?_) (fun h9f => ?_)
  · skip
    refine v_iload_n C dL_due_14 rfl 0 0 rfl rfl ?_
    refine v_iload_n C dL_due_15 rfl 1 1 rfl rfl ?_
    refine v_aload_n C dL_due_16 rfl 2 2 rfl rfl ?_
    refine v_aload_n C dL_due_17 rfl 3 3 rfl rfl ?_
    refine v_aload C dL_due_18 rfl 4 rfl ?_
    refine v_aload C dL_due_20 rfl 5 rfl ?_
    refine v_callSid C K (c_L_takings l D la cI cC cZ cQ _ g n hR f w hf hw) gL_due_L_takings rfl hd_L_takings.2 ⟨rfl, rfl⟩ ⟨Nat.le_of_ble_eq_true rfl, Nat.le_of_ble_eq_true rfl⟩ rfl rfl (Nat.le_of_ble_eq_true rfl) ⟨Nat.le_refl _, Nat.le_refl _⟩ dL_due_22 rfl ?_
    refine v_iload_n C dL_due_25 rfl 0 0 rfl rfl ?_
    refine v_iload_n C dL_due_26 rfl 1 1 rfl rfl ?_
    refine v_aload_n C dL_due_27 rfl 3 3 rfl rfl ?_
    refine v_aload C dL_due_28 rfl 4 rfl ?_
    refine v_aload C dL_due_30 rfl 5 rfl ?_
    refine v_callSid C K (c_L_share l D la cI cC cZ cQ _ g n hR f w hf hw) gL_due_L_share rfl hd_L_share.2 ⟨rfl, rfl⟩ ⟨Nat.le_of_ble_eq_true rfl, Nat.le_of_ble_eq_true rfl⟩ rfl rfl (Nat.le_of_ble_eq_true rfl) ⟨Nat.le_refl _, Nat.le_refl _⟩ dL_due_32 rfl ?_
    refine v_imul C dL_due_35 rfl ?_
    refine v_bipush (v := 100) C dL_due_36 rfl bp_100 ?_
    refine v_idiv C dL_due_38 rfl (by decide) ?_
    refine v_top (q_so g f w) (so_e hR.w hf hw h9) ?_
    refine v_istore (lv' := [(6, _), (0, _), (1, _), (2, _), (3, _), (4, _), (5, _)]) C dL_due_39 rfl (by decide) rfl ?_
    refine v_iload C dL_due_41 rfl 0 rfl ?_
    refine v_aload_n C dL_due_43 rfl 3 4 rfl rfl ?_
    refine v_iconst (v := 5) C dL_due_44 rfl ic_5 ?_
    refine v_iload_n C dL_due_45 rfl 0 1 rfl rfl ?_
    refine v_imul C dL_due_46 rfl ?_
    refine v_iconst (v := 2) C dL_due_47 rfl ic_2 ?_
    refine v_iadd C dL_due_48 rfl ?_
    refine v_iald C K 1 0 rfl rfl (5 * f + 2) (ix5 f 2) (by omega) (by decide) dL_due_49 rfl ?_
    refine v_top (g (6 + 5 * f + 2)) (hR.f 2 hf (by decide)) ?_
    refine v_icmp_ge C 63 dL_due_50 (by decide) rfl (fun h50 => ?_) (fun h50f => ?_)
    · skip
      refine v_iload C dL_due_63 rfl 0 rfl ?_
      exact hend (⟨du_a h9 h50, rfl⟩) (rfl) dL_due_65
    · skip
      refine v_aload_n C dL_due_53 rfl 3 4 rfl rfl ?_
      refine v_iconst (v := 5) C dL_due_54 rfl ic_5 ?_
      refine v_iload_n C dL_due_55 rfl 0 1 rfl rfl ?_
      refine v_imul C dL_due_56 rfl ?_
      refine v_iconst (v := 2) C dL_due_57 rfl ic_2 ?_
      refine v_iadd C dL_due_58 rfl ?_
      refine v_iald C K 1 0 rfl rfl (5 * f + 2) (ix5 f 2) (by omega) (by decide) dL_due_59 rfl ?_
      refine v_top (g (6 + 5 * f + 2)) (hR.f 2 hf (by decide)) ?_
      refine v_goto C 65 dL_due_60 (by decide) ?_
      exact hend (⟨du_b h9 h50f, rfl⟩) (rfl) dL_due_65
  · skip
    refine v_iconst (v := 0) C dL_due_12 rfl ic_0 ?_
    exact hend (⟨(if_pos h9f).symm, rfl⟩) (rfl) dL_due_13
set_option maxHeartbeats 4000000 in
set_option maxRecDepth 100000 in
theorem c_L_left (l : Launch) (D : va_G) (la : Nat → Nat) (cI cC cZ cQ : ClassId) (σ : S9) (g : Nat → Int32) (n : Nat) (hR : LR g n σ) : CMi l (lW la cI) D (cTy cI cC cZ cQ) yL_left wsL_left ({ frames := 5, cells := 0, slots := 0, locals := 132 } : Room) [.ref (la 0), .ref (la 1), .ref (la 2), .ref (la 3), .ref (la 4)] σ (fun r u => r = q_left g (-1) ∧ u = σ) := by
  refine v_starti (own := RL) (cc := cL_left) (nL := 8) rfl (by decide) rfl (Nat.le_of_ble_eq_true rfl) ?_
  intro p e s m args below meth c A Q C K hend
  refine v_lv (lv' := [(0, .ref (la 0)), (1, .ref (la 1)), (2, .ref (la 2)), (3, .ref (la 3)), (4, .ref (la 4))]) [0, 1, 2, 3, 4] rfl ?_
  have hn8 := hR.n8
  refine v_iconst (v := 0) C dL_left_0 rfl ic_0 ?_
  refine v_istore (lv' := [(5, _), (0, _), (1, _), (2, _), (3, _), (4, _)]) C dL_left_1 rfl (by decide) rfl ?_
  refine v_iconst (v := 0) C dL_left_3 rfl ic_0 ?_
  refine v_istore (lv' := [(6, _), (5, _), (0, _), (1, _), (2, _), (3, _), (4, _)]) C dL_left_4 rfl (by decide) rfl ?_
  have LP6 : ∀ j, j ≤ 5 → VV p l e ({ frames := 5, cells := 0, slots := 0, locals := 132 } : Room) s m args below meth c 0 0 Q (lW la cI) D A s.heap 8 σ 6 [(0, .ref (la 0)), (1, .ref (la 1)), (2, .ref (la 2)), (3, .ref (la 3)), (4, .ref (la 4)), (5, .int (sm9 (fun w => sm9 (lsT g w) n) j)), (6, .int (nI j))] [] := by
    refine lpB9 (fun j => VV p l e ({ frames := 5, cells := 0, slots := 0, locals := 132 } : Room) s m args below meth c 0 0 Q (lW la cI) D A s.heap 8 σ 6 [(0, .ref (la 0)), (1, .ref (la 1)), (2, .ref (la 2)), (3, .ref (la 3)), (4, .ref (la 4)), (5, .int (sm9 (fun w => sm9 (lsT g w) n) j)), (6, .int (nI j))] []) 5 (fun j hj ih => ?_) ?_
    · skip
      refine v_iload C dL_left_6 rfl 6 rfl ?_
      refine v_iconst (v := 5) C dL_left_8 rfl ic_5 ?_
      refine v_icmp_ge C 77 dL_left_9 (by decide) rfl (fun h9 => absurd h9 (nI_ge hj (by decide))) (fun _ => ?_)
      refine v_iconst (v := 0) C dL_left_12 rfl ic_0 ?_
      refine v_istore (lv' := [(7, _), (0, _), (1, _), (2, _), (3, _), (4, _), (5, _), (6, _)]) C dL_left_13 rfl (by decide) rfl ?_
      have LP15 : ∀ i, i ≤ n → VV p l e ({ frames := 5, cells := 0, slots := 0, locals := 132 } : Room) s m args below meth c 0 0 Q (lW la cI) D A s.heap 8 σ 15 [(0, .ref (la 0)), (1, .ref (la 1)), (2, .ref (la 2)), (3, .ref (la 3)), (4, .ref (la 4)), (5, .int (sm9 (fun w => sm9 (lsT g w) n) j + sm9 (lsT g j) i)), (6, .int (nI j)), (7, .int (nI i))] [] := by
        refine lpB9 (fun i => VV p l e ({ frames := 5, cells := 0, slots := 0, locals := 132 } : Room) s m args below meth c 0 0 Q (lW la cI) D A s.heap 8 σ 15 [(0, .ref (la 0)), (1, .ref (la 1)), (2, .ref (la 2)), (3, .ref (la 3)), (4, .ref (la 4)), (5, .int (sm9 (fun w => sm9 (lsT g w) n) j + sm9 (lsT g j) i)), (6, .int (nI j)), (7, .int (nI i))] []) n (fun i hi ih => ?_) ?_
        · skip
          refine v_iload C dL_left_15 rfl 7 rfl ?_
          refine v_aload_n C dL_left_17 rfl 0 0 rfl rfl ?_
          refine v_iconst (v := 5) C dL_left_18 rfl ic_5 ?_
          refine v_iald C K 0 0 rfl rfl (5) (rfl) (by omega) (by decide) dL_left_19 rfl ?_
          refine v_top (nI n) ((hR.q (by decide)).trans hR.w.1.1) ?_
          refine v_icmp_ge C 71 dL_left_20 (by decide) rfl (fun h9 => absurd h9 (nI_ge hi (by omega))) (fun _ => ?_)
          refine v_iload C dL_left_23 rfl 5 rfl ?_
          refine v_iload C dL_left_25 rfl 7 rfl ?_
          refine v_iload C dL_left_27 rfl 6 rfl ?_
          refine v_aload_n C dL_left_29 rfl 0 0 rfl rfl ?_
          refine v_aload_n C dL_left_30 rfl 1 1 rfl rfl ?_
          refine v_aload_n C dL_left_31 rfl 2 2 rfl rfl ?_
          refine v_aload_n C dL_left_32 rfl 3 3 rfl rfl ?_
          refine v_callSid C K (c_L_takings l D la cI cC cZ cQ _ g n hR i j hi hj) gL_left_L_takings rfl hd_L_takings.2 ⟨rfl, rfl⟩ ⟨Nat.le_of_ble_eq_true rfl, Nat.le_of_ble_eq_true rfl⟩ rfl rfl (Nat.le_of_ble_eq_true rfl) ⟨Nat.le_refl _, Nat.le_refl _⟩ dL_left_33 rfl ?_
          refine v_iload C dL_left_36 rfl 7 rfl ?_
          refine v_iload C dL_left_38 rfl 6 rfl ?_
          refine v_aload_n C dL_left_40 rfl 0 0 rfl rfl ?_
          refine v_aload_n C dL_left_41 rfl 1 1 rfl rfl ?_
          refine v_aload_n C dL_left_42 rfl 2 2 rfl rfl ?_
          refine v_aload_n C dL_left_43 rfl 3 3 rfl rfl ?_
          refine v_callSid C K (c_L_due l D la cI cC cZ cQ _ g n hR i j hi hj) gL_left_L_due rfl hd_L_due.2 ⟨rfl, rfl⟩ ⟨Nat.le_of_ble_eq_true rfl, Nat.le_of_ble_eq_true rfl⟩ rfl rfl (Nat.le_of_ble_eq_true rfl) ⟨Nat.le_refl _, Nat.le_refl _⟩ dL_left_44 rfl ?_
          refine v_isub C dL_left_47 rfl ?_
          refine v_aload_n C dL_left_48 rfl 0 0 rfl rfl ?_
          refine v_iconst (v := 2) C dL_left_49 rfl ic_2 ?_
          refine v_iald C K 0 0 rfl rfl (2) (rfl) (by omega) (by decide) dL_left_50 rfl ?_
          refine v_top (g 2) (hR.q (by decide)) ?_
          refine v_iload C dL_left_51 rfl 7 rfl ?_
          refine v_iload C dL_left_53 rfl 6 rfl ?_
          refine v_aload_n C dL_left_55 rfl 2 2 rfl rfl ?_
          refine v_aload_n C dL_left_56 rfl 3 3 rfl rfl ?_
          refine v_callSid C K (c_L_shows l D la cI cC cZ cQ _ g n hR i j hi hj) gL_left_L_shows rfl hd_L_shows.2 ⟨rfl, rfl⟩ ⟨Nat.le_of_ble_eq_true rfl, Nat.le_of_ble_eq_true rfl⟩ rfl rfl (Nat.le_of_ble_eq_true rfl) ⟨Nat.le_refl _, Nat.le_refl _⟩ dL_left_57 rfl ?_
          refine v_imul C dL_left_60 rfl ?_
          refine v_isub C dL_left_61 rfl ?_
          refine v_iadd C dL_left_62 rfl ?_
          refine v_top (sm9 (fun w => sm9 (lsT g w) n) j + sm9 (lsT g j) (i + 1)) (Int32.add_assoc _ _ _) ?_
          refine v_istore (lv' := [(5, _), (0, _), (1, _), (2, _), (3, _), (4, _), (6, _), (7, _)]) C dL_left_63 rfl (by decide) rfl ?_
          refine v_iinc (lv' := [(7, _), (5, _), (0, _), (1, _), (2, _), (3, _), (4, _), (6, _)]) C dL_left_65 rfl 7 rfl (inc9 _) (by decide) rfl ?_
          refine v_goto C 15 dL_left_68 (by decide) ?_
          refine v_lv (lv' := [(0, _), (1, _), (2, _), (3, _), (4, _), (5, _), (6, _), (7, _)]) [2, 3, 4, 5, 6, 1, 7, 0] rfl ?_
          exact ih
        · skip
          refine v_iload C dL_left_15 rfl 7 rfl ?_
          refine v_aload_n C dL_left_17 rfl 0 0 rfl rfl ?_
          refine v_iconst (v := 5) C dL_left_18 rfl ic_5 ?_
          refine v_iald C K 0 0 rfl rfl (5) (rfl) (by omega) (by decide) dL_left_19 rfl ?_
          refine v_top (nI n) ((hR.q (by decide)).trans hR.w.1.1) ?_
          refine v_icmp_ge C 71 dL_left_20 (by decide) rfl (fun _ => ?_) (fun h9 => absurd (nI_le (Nat.le_refl _) (by omega)) h9)
          refine v_iinc (lv' := [(6, _), (0, _), (1, _), (2, _), (3, _), (4, _), (5, _), (7, _)]) C dL_left_71 rfl 6 rfl (inc9 _) (by decide) rfl ?_
          refine v_goto C 6 dL_left_74 (by decide) ?_
          refine v_lv (lv' := [(0, _), (1, _), (2, _), (3, _), (4, _), (5, _), (6, _)]) [1, 2, 3, 4, 5, 6, 0] rfl ?_
          exact ih
      refine v_lv (lv' := [(0, _), (1, _), (2, _), (3, _), (4, _), (5, _), (6, _), (7, _)]) [1, 2, 3, 4, 5, 6, 7, 0] rfl ?_
      exact v9cast (LP15 0 (Nat.zero_le _)) rfl (by rw [sm9, Int32.add_zero]; rfl) rfl
    · skip
      refine v_iload C dL_left_6 rfl 6 rfl ?_
      refine v_iconst (v := 5) C dL_left_8 rfl ic_5 ?_
      refine v_icmp_ge C 77 dL_left_9 (by decide) rfl (fun _ => ?_) (fun h9 => absurd (nI_le (Nat.le_refl _) (by decide)) h9)
      refine v_iconst (v := 0) C dL_left_77 rfl ic_0 ?_
      refine v_istore (lv' := [(6, _), (0, _), (1, _), (2, _), (3, _), (4, _), (5, _)]) C dL_left_78 rfl (by decide) rfl ?_
      have LP80 : ∀ d, d ≤ 35 → VV p l e ({ frames := 5, cells := 0, slots := 0, locals := 132 } : Room) s m args below meth c 0 0 Q (lW la cI) D A s.heap 8 σ 80 [(0, .ref (la 0)), (1, .ref (la 1)), (2, .ref (la 2)), (3, .ref (la 3)), (4, .ref (la 4)), (5, .int (sm9 (fun w => sm9 (lsT g w) n) 5 + sm9 (fun d => g (116 + d)) d)), (6, .int (nI d))] [] := by
        refine lpB9 (fun d => VV p l e ({ frames := 5, cells := 0, slots := 0, locals := 132 } : Room) s m args below meth c 0 0 Q (lW la cI) D A s.heap 8 σ 80 [(0, .ref (la 0)), (1, .ref (la 1)), (2, .ref (la 2)), (3, .ref (la 3)), (4, .ref (la 4)), (5, .int (sm9 (fun w => sm9 (lsT g w) n) 5 + sm9 (fun d => g (116 + d)) d)), (6, .int (nI d))] []) 35 (fun d hd ih => ?_) ?_
        · skip
          refine v_iload C dL_left_80 rfl 6 rfl ?_
          refine v_bipush (v := 35) C dL_left_82 rfl bp_35 ?_
          refine v_icmp_ge C 103 dL_left_84 (by decide) rfl (fun h9 => absurd h9 (nI_ge hd (by decide))) (fun _ => ?_)
          refine v_iload C dL_left_87 rfl 5 rfl ?_
          refine v_aload C dL_left_89 rfl 4 rfl ?_
          refine v_iload C dL_left_91 rfl 6 rfl ?_
          refine v_iald C K 4 0 rfl rfl (d) (rfl) (by omega) (by decide) dL_left_93 rfl ?_
          refine v_top (g (116 + d)) (hR.r hd) ?_
          refine v_iadd C dL_left_94 rfl ?_
          refine v_top (sm9 (fun w => sm9 (lsT g w) n) 5 + sm9 (fun d => g (116 + d)) (d + 1)) (Int32.add_assoc _ _ _) ?_
          refine v_istore (lv' := [(5, _), (0, _), (1, _), (2, _), (3, _), (4, _), (6, _)]) C dL_left_95 rfl (by decide) rfl ?_
          refine v_iinc (lv' := [(6, _), (5, _), (0, _), (1, _), (2, _), (3, _), (4, _)]) C dL_left_97 rfl 6 rfl (inc9 _) (by decide) rfl ?_
          refine v_goto C 80 dL_left_100 (by decide) ?_
          refine v_lv (lv' := [(0, _), (1, _), (2, _), (3, _), (4, _), (5, _), (6, _)]) [2, 3, 4, 5, 6, 1, 0] rfl ?_
          exact ih
        · skip
          refine v_iload C dL_left_80 rfl 6 rfl ?_
          refine v_bipush (v := 35) C dL_left_82 rfl bp_35 ?_
          refine v_icmp_ge C 103 dL_left_84 (by decide) rfl (fun _ => ?_) (fun h9 => absurd (nI_le (Nat.le_refl _) (by decide)) h9)
          refine v_iload C dL_left_103 rfl 5 rfl ?_
          exact hend (⟨left_e hR.w.1, rfl⟩) (rfl) dL_left_105
      refine v_lv (lv' := [(0, _), (1, _), (2, _), (3, _), (4, _), (5, _), (6, _)]) [1, 2, 3, 4, 5, 6, 0] rfl ?_
      exact v9cast (LP80 0 (by omega)) rfl (by rw [show sm9 (fun d => g (116 + d)) 0 = 0 from rfl, Int32.add_zero]; rfl) rfl
  refine v_lv (lv' := [(0, _), (1, _), (2, _), (3, _), (4, _), (5, _), (6, _)]) [2, 3, 4, 5, 6, 1, 0] rfl ?_
  exact LP6 0 (by omega)
end
section
/-! ===== the law: two worlds side by side; calls of the class told by what they keep; the script ===== -/
theorem P_left {D : va_G} {cl : List vw_C} {W1 W2 : va_W} {H : Heap} (h : va_P D cl (W1 ++ W2) H) : va_P D cl W1 H := fun k q hq => h k q (by rw [List.getElem?_append_left (List.getElem?_eq_some_iff.mp hq).1]; exact hq)
theorem P_right {D : va_G} {cl : List vw_C} {W1 W2 : va_W} {H : Heap} (h : va_P D cl (W1 ++ W2) H) : va_P D cl W2 H := fun k q hq => h (W1.length + k) q (by rw [List.getElem?_append_right (by omega), Nat.add_sub_cancel_left]; exact hq)
theorem D_left {A : Nat → Prop} {W1 W2 : va_W} (h : va_D A (W1 ++ W2)) : va_D A W1 := ⟨fun i j p q hi hj e => h.1 i j p q (by rw [List.getElem?_append_left (List.getElem?_eq_some_iff.mp hi).1]; exact hi) (by rw [List.getElem?_append_left (List.getElem?_eq_some_iff.mp hj).1]; exact hj) e, fun k q hq => h.2 k q (by rw [List.getElem?_append_left (List.getElem?_eq_some_iff.mp hq).1]; exact hq)⟩
theorem D_right {A : Nat → Prop} {W1 W2 : va_W} (h : va_D A (W1 ++ W2)) : va_D A W2 := ⟨fun i j p q hi hj e => by
  have := h.1 (W1.length + i) (W1.length + j) p q (by rw [List.getElem?_append_right (by omega), Nat.add_sub_cancel_left]; exact hi) (by rw [List.getElem?_append_right (by omega), Nat.add_sub_cancel_left]; exact hj) e
  omega, fun k q hq => h.2 (W1.length + k) q (by rw [List.getElem?_append_right (by omega), Nat.add_sub_cancel_left]; exact hq)⟩
theorem D_apart {A : Nat → Prop} {W1 W2 : va_W} (h : va_D A (W1 ++ W2)) {i j : Nat} {p q : Nat × va_E} (hi : W1[i]? = some p) (hj : W2[j]? = some q) : p.1 ≠ q.1 := fun e => by
  have hl := (List.getElem?_eq_some_iff.mp hi).1
  have := h.1 i (W1.length + j) p q (by rw [List.getElem?_append_left hl]; exact hi) (by rw [List.getElem?_append_right (by omega), Nat.add_sub_cancel_left]; exact hj) e
  omega
theorem free_9 {A : Nat → Prop} {W : va_W} {H0 H : Heap} {locs : List Loc} (hD : va_D A W) (hS : va_S A H0 H locs) (hA : ∀ q, H0.size ≤ q → A q) : ∀ q, va_A W H.size q → A q := by
  intro q hq
  rcases hq with ⟨k, e, hk⟩ | hle
  · exact hD.2 k (q, e) hk
  · exact hA q (Nat.le_trans hS.1 hle)
theorem join_l {A : Nat → Prop} {D : va_G} {cl : List vw_C} {W1 W2 U1 : va_W} {H H1 : Heap} (hP : va_P D cl (W1 ++ W2) H) (hD : va_D A (W1 ++ W2)) (hF : ∀ q, va_A W1 H.size q → A q) (hk : ∀ q : Nat, q < H.size → ¬ va_A W1 H.size q → H1[q]? = H[q]?) (hP1 : va_P D cl U1 H1) (hD1 : va_D (va_A W1 H.size) U1) : va_P D cl (U1 ++ W2) H1 ∧ va_D A (U1 ++ W2) := by
  have hn : ∀ (k : Nat) (q : Nat × va_E), W2[k]? = some q → ¬ va_A W1 H.size q.1 := by
    rintro k q hq (⟨i, e, hi⟩ | hle)
    · exact D_apart hD hi hq rfl
    · have := (P_right hP k q hq).lt
      omega
  exact ⟨hP1.app ((P_right hP).kept (fun k q hq => hk q.1 ((P_right hP k q hq).lt) (hn k q hq))), (hD1.weaken (fun _ _ _ h => hF _ h)).app (D_right hD) (fun i j p q hi hj e => hn j q hj (e ▸ hD1.2 i p hi))⟩
theorem join_r {A : Nat → Prop} {D : va_G} {cl : List vw_C} {W1 W2 U2 : va_W} {H H1 : Heap} (hP : va_P D cl (W1 ++ W2) H) (hD : va_D A (W1 ++ W2)) (hF : ∀ q, va_A W2 H.size q → A q) (hk : ∀ q : Nat, q < H.size → ¬ va_A W2 H.size q → H1[q]? = H[q]?) (hP1 : va_P D cl U2 H1) (hD1 : va_D (va_A W2 H.size) U2) : va_P D cl (W1 ++ U2) H1 ∧ va_D A (W1 ++ U2) := by
  have hn : ∀ (k : Nat) (q : Nat × va_E), W1[k]? = some q → ¬ va_A W2 H.size q.1 := by
    rintro k q hq (⟨i, e, hi⟩ | hle)
    · exact D_apart hD hq hi rfl
    · have := (P_left hP k q hq).lt
      omega
  exact ⟨((P_left hP).kept (fun k q hq => hk q.1 ((P_left hP k q hq).lt) (hn k q hq))).app hP1, (D_left hD).app (hD1.weaken (fun _ _ _ h => hF _ h)) (fun i j p q hi hj e => hn i p hi (e ▸ hD1.2 j q hj))⟩
section VL2
variable {p : Program} {l : Launch} {e : Env} {R : Room} {s : State} {m : MethodId} {args : Array Value} {below : List Frame} {meth : Method} {c : Code} {cells slots : Nat} {Q : State → Prop}
variable {τ1 τ2 : Type} {w1 : τ1 → va_W} {w2 : τ2 → va_W} {D : va_G} {A : Nat → Prop} {nL : Nat} {cc : ByteArray} {Ts : List Cond} {own : String} {tys : List (ClassId × FieldType)} {σ1 : τ1} {σ2 : τ2} {pc pc' : Nat} {lv lv' : List (Nat × Value)} {st rest : List Value}
theorem v_callVL (C : CX p m c cc nL s args Ts own A s.heap) (K : va_K D vwCl tys s) {y : MethodName} {ws ws' : List Cond} {rm : Room} {bytes : ByteArray} {maxL n index : Nat} {ret : Option FieldType} {As st0 : List Value} {C' : String} {b ci : Nat} {fs : List Value} {q : vw_C} {post : Int32 → τ1 → Prop} (hM : CMi l w1 D tys y ws rm (.ref b :: As) σ1 post) (hG : GoodIn Ts (wsV own index C' y ws)) (hw : ws = Cond.code y bytes maxL ret :: ws') (hd : y.cls = C' ∧ y.cls ≠ "java/lang/invoke/MethodHandle" ∧ y.cls ≠ "java/lang/invoke/VarHandle" ∧ (parseMethodDescriptor y.desc).map (fun d => d.parameters.length) = some n) (hrm : rm.cells = 0 ∧ rm.slots = 0) (hR : rm.frames + 1 ≤ R.frames ∧ 8 + (maxL + 11) + rm.locals ≤ R.locals) (q0 : Nat) (he : (w1 σ1)[q0]? = some (b, .inr (ci, fs))) (hc : vwCl[ci]? = some q) (hq : q.1 = C') (hst : st0 = As.reverse ++ .ref b :: rest) (hn : As.length = n) (hcat : (rest.map fun v => v.category).sum ≤ 8) (hcs : cells ≤ R.cells ∧ slots ≤ R.slots) (hdg : decode cc pc = .ok (.invokevirtual index, 3)) (hp : pc + 3 = pc') (kk : ∀ (r : Int32) (u : τ1), post r u → VV p l e R s m args below meth c cells slots Q (fun u : τ1 × τ2 => w1 u.1 ++ w2 u.2) D A s.heap nL (u, σ2) pc' lv (.int r :: rest)) : VV p l e R s m args below meth c cells slots Q (fun u : τ1 × τ2 => w1 u.1 ++ w2 u.2) D A s.heap nL (σ1, σ2) pc lv st0 := by
  subst hst
  subst hp
  subst hq
  intro H locs ls hP hD hS h
  have hF := free_9 (D_left hD) hS C.2
  refine va_calli (va_runV (As := As) (rest := rest) C.1 (hM H.size) (cwV n C.1.2.2.2.2 hG hw hrm.1 hrm.2 hd hR) ⟨v9_blind, va_recv K (P_left hP) hc he, fun U hU hW => ⟨rfl, by rw [hU], by rw [hU]; exact P_left hP, va_K.moved hW.alike K, (D_left hD).weaken (fun _ _ _ _ => trivial)⟩⟩ rfl hn h.1 rfl (lv_room hcat) hdg hcs) hS (fun q _ h => hF q h) hF (fun r u t H1 locs1 ht hvm hq2 hB hz hk hS1 => ?_)
  obtain ⟨hP1, hK1, hD1⟩ := hB
  rw [ht] at hP1
  obtain ⟨hP2, hD2⟩ := join_l hP hD hF hk hP1 hD1
  exact kk r u hq2 H1 locs1 ls hP2 hD2 hS1 h
theorem v_callVLE (C : CX p m c cc nL s args Ts own A s.heap) (K : va_K D vwCl tys s) {tl tm tf : Nat} (hE : zS tl tm tf A s s.heap) {y : MethodName} {ws ws' : List Cond} {rm : Room} {bytes : ByteArray} {maxL n index : Nat} {ret : Option FieldType} {As st0 : List Value} {C' : String} {b ci : Nat} {fs : List Value} {q : vw_C} {post : Int32 → τ1 → Prop} (hM : CMiE l w1 D tys y ws rm (.ref b :: As) σ1 tl tm tf post) (hG : GoodIn Ts (wsV own index C' y ws)) (hw : ws = Cond.code y bytes maxL ret :: ws') (hd : y.cls = C' ∧ y.cls ≠ "java/lang/invoke/MethodHandle" ∧ y.cls ≠ "java/lang/invoke/VarHandle" ∧ (parseMethodDescriptor y.desc).map (fun d => d.parameters.length) = some n) (hrm : rm.cells = 0 ∧ rm.slots = 0) (hR : rm.frames + 1 ≤ R.frames ∧ 8 + (maxL + 11) + rm.locals ≤ R.locals) (q0 : Nat) (he : (w1 σ1)[q0]? = some (b, .inr (ci, fs))) (hc : vwCl[ci]? = some q) (hq : q.1 = C') (hst : st0 = As.reverse ++ .ref b :: rest) (hn : As.length = n) (hcat : (rest.map fun v => v.category).sum ≤ 8) (hcs : cells ≤ R.cells ∧ slots ≤ R.slots) (hdg : decode cc pc = .ok (.invokevirtual index, 3)) (hp : pc + 3 = pc') (kk : ∀ (r : Int32) (u : τ1), post r u → VV p l e R s m args below meth c cells slots Q (fun u : τ1 × τ2 => w1 u.1 ++ w2 u.2) D A s.heap nL (u, σ2) pc' lv (.int r :: rest)) : VV p l e R s m args below meth c cells slots Q (fun u : τ1 × τ2 => w1 u.1 ++ w2 u.2) D A s.heap nL (σ1, σ2) pc lv st0 := by
  subst hst
  subst hp
  subst hq
  intro H locs ls hP hD hS h
  have hF := free_9 (D_left hD) hS C.2
  refine va_calli (va_runV (As := As) (rest := rest) C.1 (hM H.size) (cwV n C.1.2.2.2.2 hG hw hrm.1 hrm.2 hd hR) ⟨v9_blindE, va_recv K (P_left hP) hc he, fun U hU hW => ⟨rfl, by rw [hU], ⟨by rw [hU]; exact P_left hP, va_K.moved hW.alike K, (D_left hD).weaken (fun _ _ _ _ => trivial)⟩, ?_⟩⟩ rfl hn h.1 rfl (lv_room hcat) hdg hcs) hS (fun q _ h => hF q h) hF (fun r u t H1 locs1 ht hvm hq2 hB hz hk hS1 => ?_)
  · show zS tl tm tf _ U U.heap
    rw [hU]
    exact ((hE.moved hW.alike).kept hS.2.1).narrow hF
  · obtain ⟨hP1, hK1, hD1⟩ := hB
    rw [ht] at hP1
    obtain ⟨hP2, hD2⟩ := join_l hP hD hF hk hP1 hD1
    exact kk r u hq2 H1 locs1 ls hP2 hD2 hS1 h
theorem v_sld {τ : Type} {w : τ → va_W} {τσ : τ} (C : CX p m c cc nL s args Ts own A s.heap) {b L : Nat} {xs : Nat → Int32} (hX : va_X b L xs s s.heap) (hbl : b < s.heap.size) (hbA : ¬ A b) {i : Int32} (j : Nat) (hi : i = nI j) (hj : j < L) (hL : L ≤ 100000) (hdg : decode cc pc = .ok (.iaload, 1)) (hp : pc + 1 = pc') (kk : VV p l e R s m args below meth c cells slots Q w D A s.heap nL τσ pc' lv (.int (xs j) :: st)) : VV p l e R s m args below meth c cells slots Q w D A s.heap nL τσ pc lv (.int i :: .ref b :: st) := by
  subst hp
  obtain ⟨h1, h2⟩ := i9_in hi hj hL
  exact fun H locs ls hP hD hS h => va_sld C.1.1 C.1.2.1 hX hbl hbA hS h1 hdg (by rw [h2]; exact kk H locs ls hP hD hS h)
theorem v_slen {τ : Type} {w : τ → va_W} {τσ : τ} (C : CX p m c cc nL s args Ts own A s.heap) {b L : Nat} {xs : Nat → Int32} (hX : va_X b L xs s s.heap) (hbl : b < s.heap.size) (hbA : ¬ A b) (hdg : decode cc pc = .ok (.arraylength, 1)) (hp : pc + 1 = pc') (kk : VV p l e R s m args below meth c cells slots Q w D A s.heap nL τσ pc' lv (.int (nI L) :: st)) : VV p l e R s m args below meth c cells slots Q w D A s.heap nL τσ pc lv (.ref b :: st) := by
  subst hp
  exact fun H locs ls hP hD hS h => va_slen C.1.1 C.1.2.1 hX hbl hbA hS hdg (kk H locs ls hP hD hS h)
theorem v_callSR (C : CX p m c cc nL s args Ts own A s.heap) (K : va_K D vwCl tys s) {y : MethodName} {ws ws' : List Cond} {rm : Room} {bytes : ByteArray} {maxL n index : Nat} {ret : Option FieldType} {As st0 : List Value} {post : Int32 → τ2 → Prop} (hM : CMi l w2 D tys y ws rm As σ2 post) (hG : GoodIn Ts (va_wsS own index y ws)) (hw : ws = Cond.code y bytes maxL ret :: ws') (hd : y.cls ≠ "java/lang/invoke/MethodHandle" ∧ y.cls ≠ "java/lang/invoke/VarHandle" ∧ (parseMethodDescriptor y.desc).map (fun d => d.parameters.length) = some n) (hrm : rm.cells = 0 ∧ rm.slots = 0) (hR : rm.frames + 1 ≤ R.frames ∧ 8 + (maxL + 11) + rm.locals ≤ R.locals) (hst : st0 = As.reverse ++ rest) (hn : As.length = n) (hcat : (rest.map fun v => v.category).sum ≤ 8) (hcs : cells ≤ R.cells ∧ slots ≤ R.slots) (hdg : decode cc pc = .ok (.invokestatic index, 3)) (hp : pc + 3 = pc') (kk : ∀ (r : Int32) (u : τ2), post r u → VV p l e R s m args below meth c cells slots Q (fun u : τ1 × τ2 => w1 u.1 ++ w2 u.2) D A s.heap nL (σ1, u) pc' lv (.int r :: rest)) : VV p l e R s m args below meth c cells slots Q (fun u : τ1 × τ2 => w1 u.1 ++ w2 u.2) D A s.heap nL (σ1, σ2) pc lv st0 := by
  subst hst
  subst hp
  intro H locs ls hP hD hS h
  have hF := free_9 (D_right hD) hS C.2
  refine va_calli (va_runS (As := As) (rest := rest) C.1 (hM H.size) (va_cwS n C.1.2.2.2.2 hG hw hrm.1 hrm.2 hd hR) ⟨v9_blind, fun U hU hW => ⟨rfl, by rw [hU], by rw [hU]; exact P_right hP, va_K.moved hW.alike K, (D_right hD).weaken (fun _ _ _ _ => trivial)⟩⟩ rfl hn h.1 rfl (lv_room hcat) hdg hcs) hS (fun q _ h => hF q h) hF (fun r u t H1 locs1 ht hvm hq2 hB hz hk hS1 => ?_)
  obtain ⟨hP1, hK1, hD1⟩ := hB
  rw [ht] at hP1
  obtain ⟨hP2, hD2⟩ := join_r hP hD hF hk hP1 hD1
  exact kk r u hq2 H1 locs1 ls hP2 hD2 hS1 h
end VL2
/-! the script: a static method that reads it -/
def CPX (l : Launch) (y : MethodName) (ws : List Cond) (rm : Room) (As : List Value) (b L : Nat) (xs : Nat → Int32) (post : Int32 → Prop) : Prop :=
  ∀ sz : Nat, Met l y ws rm (va_Pc As (fun U => U.heap.size = sz ∧ va_X b L xs U U.heap ∧ b < U.heap.size)) (va_Qi (fun r (_ : Unit) => post r) (fun _ _ => True) (va_A [] sz)) 0 0 (va_A [] sz)
theorem v9_blindX {As : List Value} {b L : Nat} {xs : Nat → Int32} {sz : Nat} : FrameBlind (va_Pc As (fun U => U.heap.size = sz ∧ va_X b L xs U U.heap ∧ b < U.heap.size)) := fun a U g mk q => by
  obtain ⟨q0, q1, qX, q2⟩ := q
  exact ⟨q0, q1, va_X.moved (u := U) (U := U.calling g mk a) (Vm.Alike.refl U.vm) qX, q2⟩
theorem v_startPX {l : Launch} {y : MethodName} {ws ws' : List Cond} {rm : Room} {ty : FieldType} {cc : ByteArray} {nL : Nat} {own : String} {As : List Value} {b L : Nat} {xs : Nat → Int32} {post : Int32 → Prop} (D : va_G) (ho : y.cls = own) (hy : plainName y.cls = true) (hw : ws = Cond.code y cc nL (some ty) :: ws') (hlg : (lg_sl As).length ≤ nL)
    (body : ∀ (p : Program) (e : Env) (s : State) (m : MethodId) (args : Array Value) (below : List Frame) (meth : Method) (c : Code) (A : Nat → Prop) (Q : State → Prop), CX p m c cc nL s args ws own A s.heap → va_X b L xs s s.heap → b < s.heap.size → ¬ A b → (∀ {pc1 : Nat} {lv1 : List (Nat × Value)} {r : Int32}, post r → narrow ty (.int r) = .int r → decode cc pc1 = .ok (.ireturn, 1) → VV p l e rm s m args below meth c 0 0 Q (fun _ : Unit => []) D A s.heap nL () pc1 lv1 [.int r]) → VV p l e rm s m args below meth c 0 0 Q (fun _ : Unit => []) D A s.heap nL () 0 (lv_args 0 As) []) : CPX l y ws rm As b L xs post := by
  subst ho
  intro sz
  refine Met.ofW (cc := cc) (maxL := nL) (ret := some ty) hy hw ?_
  intro p e s m args below meth c s₁ B hml hv
  obtain ⟨rfl, hsz, hX, hbl⟩ := hv
  subst hsz
  have hl := lv_entry As (n := nL) hlg
  rw [lg_entry_eq]
  have C : CX p m c cc nL s As.toArray ws y.cls (va_A [] s.heap.size) s.heap := ⟨⟨B.exec, B.bytes, hml, findClass_of_methodNamed B.named, atoms_spec (ws := ws) B.pre⟩, fun q h => Or.inr h⟩
  have hbA : ¬ va_A [] s.heap.size b := by
    rintro (⟨k, e9, h2⟩ | hle)
    · cases h2
    · omega
  exact body p e s m As.toArray below meth c (va_A [] s.heap.size) _ C hX hbl hbA (fun h1 h2 h3 => v_pret (w := fun _ : Unit => []) C B.returns B.notSynchronized h2 h1 h3) s.heap [] _ (fun k q h => by simp at h) ⟨(fun i j p q h => by simp at h), (fun k q h => by simp at h)⟩ va_S.rf hl
theorem v_callSX {p : Program} {l : Launch} {e : Env} {R : Room} {s : State} {m : MethodId} {args : Array Value} {below : List Frame} {meth : Method} {c : Code} {cells slots : Nat} {Q : State → Prop} {τ : Type} {w : τ → va_W} {D : va_G} {A : Nat → Prop} {nL : Nat} {cc : ByteArray} {Ts : List Cond} {own : String} {σ : τ} {pc pc' : Nat} {lv : List (Nat × Value)} {rest : List Value} (C : CX p m c cc nL s args Ts own A s.heap) {b L : Nat} {xs : Nat → Int32} (hX : va_X b L xs s s.heap) (hbl : b < s.heap.size) (hbA : ¬ A b) {y : MethodName} {ws ws' : List Cond} {rm : Room} {bytes : ByteArray} {maxL n index : Nat} {ret : Option FieldType} {As st0 : List Value} {post : Int32 → Prop} (hM : CPX l y ws rm As b L xs post) (hG : GoodIn Ts (va_wsS own index y ws)) (hw : ws = Cond.code y bytes maxL ret :: ws') (hd : y.cls ≠ "java/lang/invoke/MethodHandle" ∧ y.cls ≠ "java/lang/invoke/VarHandle" ∧ (parseMethodDescriptor y.desc).map (fun d => d.parameters.length) = some n) (hrm : rm.cells = 0 ∧ rm.slots = 0) (hR : rm.frames + 1 ≤ R.frames ∧ 8 + (maxL + 11) + rm.locals ≤ R.locals) (hst : st0 = As.reverse ++ rest) (hn : As.length = n) (hcat : (rest.map fun v => v.category).sum ≤ 8) (hcs : cells ≤ R.cells ∧ slots ≤ R.slots) (hdg : decode cc pc = .ok (.invokestatic index, 3)) (hp : pc + 3 = pc') (kk : ∀ (r : Int32), post r → VV p l e R s m args below meth c cells slots Q w D A s.heap nL σ pc' lv (.int r :: rest)) : VV p l e R s m args below meth c cells slots Q w D A s.heap nL σ pc lv st0 := by
  subst hst
  subst hp
  intro H locs ls hP hD hS h
  have hF : ∀ q, va_A [] H.size q → A q := by
    intro q hq
    rcases hq with ⟨k, e, hk⟩ | hle
    · cases hk
    · exact C.2 q (Nat.le_trans hS.1 hle)
  refine va_calli (va_runS (As := As) (rest := rest) C.1 (hM H.size) (va_cwS n C.1.2.2.2.2 hG hw hrm.1 hrm.2 hd hR) ⟨v9_blindX, fun U hU hW => ⟨rfl, by rw [hU], by rw [hU]; exact (hX.moved hW.alike).kept (hS.2.1 b hbl hbA), by rw [hU]; exact Nat.lt_of_lt_of_le hbl hS.1⟩⟩ rfl hn h.1 rfl (lv_room hcat) hdg hcs) hS (fun q _ h => hF q h) hF (fun r u t H1 locs1 ht hvm hq2 hB hz hk hS1 => ?_)
  refine kk r hq2 H1 locs1 ls (hP.kept (fun k q hq => hk q.1 ((hP k q hq).lt) ?_)) hD hS1 h
  rintro (⟨k2, e, h2⟩ | hle)
  · cases h2
  · have := (hP k q hq).lt
    omega
/-! both worlds -/
def PW (ad la : Nat → Nat) (cI cC cZ cQ : ClassId) : S9 × S9 → va_W := fun u => cW ad cI cC cZ cQ u.1 ++ lW la cI u.2
theorem PW_get {ad la : Nat → Nat} {cI cC cZ cQ : ClassId} {u t : S9} {i : Nat} {x : Nat × va_E} (h : (lW la cI t)[i]? = some x) : (PW ad la cI cC cZ cQ (u, t))[22 + i]? = some x := by
  show (cW ad cI cC cZ cQ u ++ lW la cI t)[22 + i]? = some x
  rw [List.getElem?_append_right (show (cW ad cI cC cZ cQ u).length ≤ 22 + i from Nat.le_add_right 22 i), show 22 + i - (cW ad cI cC cZ cQ u).length = i from Nat.add_sub_cancel_left 22 i]
  exact h
theorem PW_set {ad la : Nat → Nat} {cI cC cZ cQ : ClassId} {u t t2 : S9} {i : Nat} {x : Nat × va_E} (h : (lW la cI t).set i x = lW la cI t2) : (PW ad la cI cC cZ cQ (u, t)).set (22 + i) x = PW ad la cI cC cZ cQ (u, t2) := by
  show (cW ad cI cC cZ cQ u ++ lW la cI t).set (22 + i) x = cW ad cI cC cZ cQ u ++ lW la cI t2
  rw [List.set_append_right _ _ (show (cW ad cI cC cZ cQ u).length ≤ 22 + i from Nat.le_add_right 22 i), show 22 + i - (cW ad cI cC cZ cQ u).length = i from Nat.add_sub_cancel_left 22 i, h]
section PWR
variable {p : Program} {l : Launch} {e : Env} {R : Room} {s : State} {m : MethodId} {args : Array Value} {below : List Frame} {meth : Method} {c : Code} {cells slots : Nat} {Q : State → Prop}
variable {ad la : Nat → Nat} {cI cC cZ cQ : ClassId} {D : va_G} {A : Nat → Prop} {nL : Nat} {cc : ByteArray} {Ts : List Cond} {own : String} {u t : S9} {pc pc' : Nat} {lv lv' : List (Nat × Value)} {st rest : List Value}
theorem v_aldL (C : CX p m c cc nL s args Ts own A s.heap) (K : va_K D vwCl (cTy cI cC cZ cQ) s) (i N : Nat) (he : (lW la cI t)[i]? = some (la i, .inl (cI, N, .inl (t i)))) {x : Int32} (j : Nat) (hx : x = nI j) (hj : j < N) (hN : N ≤ 100000) (hdg : decode cc pc = .ok (.iaload, 1)) (hp : pc + 1 = pc') (kk : VV p l e R s m args below meth c cells slots Q (PW ad la cI cC cZ cQ) D A s.heap nL (u, t) pc' lv (.int (t i j) :: st)) : VV p l e R s m args below meth c cells slots Q (PW ad la cI cC cZ cQ) D A s.heap nL (u, t) pc lv (.int x :: .ref (la i) :: st) :=
  v_iald C K (22 + i) 0 (PW_get he) rfl j hx hj hN hdg hp kk
theorem v_astL (C : CX p m c cc nL s args Ts own A s.heap) (K : va_K D vwCl (cTy cI cC cZ cQ) s) (i N : Nat) (he : (lW la cI t)[i]? = some (la i, .inl (cI, N, .inl (t i)))) (hs : ∀ h : Nat → Int32, (lW la cI t).set i (la i, .inl (cI, N, .inl h)) = lW la cI (st9 t i h)) {x v : Int32} (j : Nat) (hx : x = nI j) (hj : j < N) (hN : N ≤ 100000) (hdg : decode cc pc = .ok (.iastore, 1)) (hp : pc + 1 = pc') (kk : VV p l e R s m args below meth c cells slots Q (PW ad la cI cC cZ cQ) D A s.heap nL (u, st9 t i (upd (t i) j v)) pc' lv st) : VV p l e R s m args below meth c cells slots Q (PW ad la cI cC cZ cQ) D A s.heap nL (u, t) pc lv (.int v :: .int x :: .ref (la i) :: st) :=
  v_iast C K (u, st9 t i (upd (t i) j v)) (22 + i) 0 (PW_get he) rfl j hx hj hN (PW_set (hs _)) hdg hp kk
theorem v_cI (C : CX p m c cc nL s args Ts own A s.heap) (K : va_K D vwCl (cTy cI cC cZ cQ) s) {y : MethodName} {ws ws' : List Cond} {rm : Room} {bytes : ByteArray} {maxL n index : Nat} {ret : Option FieldType} {As st0 : List Value} {C' : String} {b ci : Nat} {fs : List Value} {q : vw_C} {post : Int32 → S9 → Prop} (r2 : Int32) (I : S9 → Prop) (hM : CMi l (cW ad cI cC cZ cQ) D (cTy cI cC cZ cQ) y ws rm (.ref b :: As) u post) (hG : GoodIn Ts (wsV own index C' y ws)) (hw : ws = Cond.code y bytes maxL ret :: ws') (hd : y.cls = C' ∧ y.cls ≠ "java/lang/invoke/MethodHandle" ∧ y.cls ≠ "java/lang/invoke/VarHandle" ∧ (parseMethodDescriptor y.desc).map (fun d => d.parameters.length) = some n) (hrm : rm.cells = 0 ∧ rm.slots = 0) (hR : rm.frames + 1 ≤ R.frames ∧ 8 + (maxL + 11) + rm.locals ≤ R.locals) (q0 : Nat) (he : (cW ad cI cC cZ cQ u)[q0]? = some (b, .inr (ci, fs))) (hc : vwCl[ci]? = some q) (hq : q.1 = C') (hst : st0 = As.reverse ++ .ref b :: rest) (hn : As.length = n) (hcat : (rest.map fun v => v.category).sum ≤ 8) (hcs : cells ≤ R.cells ∧ slots ≤ R.slots) (hdg : decode cc pc = .ok (.invokevirtual index, 3)) (hp : pc + 3 = pc') (hpost : ∀ (r : Int32) (v : S9), post r v → r = r2 ∧ I v) (kk : ∀ v : S9, I v → VV p l e R s m args below meth c cells slots Q (PW ad la cI cC cZ cQ) D A s.heap nL (v, t) pc' lv (.int r2 :: rest)) : VV p l e R s m args below meth c cells slots Q (PW ad la cI cC cZ cQ) D A s.heap nL (u, t) pc lv st0 :=
  v_callVL (w1 := cW ad cI cC cZ cQ) (w2 := lW la cI) C K hM hG hw hd hrm hR q0 he hc hq hst hn hcat hcs hdg hp (fun r v hv => by rw [(hpost r v hv).1]; exact kk v (hpost r v hv).2)
theorem v_cIE (C : CX p m c cc nL s args Ts own A s.heap) (K : va_K D vwCl (cTy cI cC cZ cQ) s) {tl tm tf : Nat} (hE : zS tl tm tf A s s.heap) {y : MethodName} {ws ws' : List Cond} {rm : Room} {bytes : ByteArray} {maxL n index : Nat} {ret : Option FieldType} {As st0 : List Value} {C' : String} {b ci : Nat} {fs : List Value} {q : vw_C} {post : Int32 → S9 → Prop} (r2 : Int32) (I : S9 → Prop) (hM : CMiE l (cW ad cI cC cZ cQ) D (cTy cI cC cZ cQ) y ws rm (.ref b :: As) u tl tm tf post) (hG : GoodIn Ts (wsV own index C' y ws)) (hw : ws = Cond.code y bytes maxL ret :: ws') (hd : y.cls = C' ∧ y.cls ≠ "java/lang/invoke/MethodHandle" ∧ y.cls ≠ "java/lang/invoke/VarHandle" ∧ (parseMethodDescriptor y.desc).map (fun d => d.parameters.length) = some n) (hrm : rm.cells = 0 ∧ rm.slots = 0) (hR : rm.frames + 1 ≤ R.frames ∧ 8 + (maxL + 11) + rm.locals ≤ R.locals) (q0 : Nat) (he : (cW ad cI cC cZ cQ u)[q0]? = some (b, .inr (ci, fs))) (hc : vwCl[ci]? = some q) (hq : q.1 = C') (hst : st0 = As.reverse ++ .ref b :: rest) (hn : As.length = n) (hcat : (rest.map fun v => v.category).sum ≤ 8) (hcs : cells ≤ R.cells ∧ slots ≤ R.slots) (hdg : decode cc pc = .ok (.invokevirtual index, 3)) (hp : pc + 3 = pc') (hpost : ∀ (r : Int32) (v : S9), post r v → r = r2 ∧ I v) (kk : ∀ v : S9, I v → VV p l e R s m args below meth c cells slots Q (PW ad la cI cC cZ cQ) D A s.heap nL (v, t) pc' lv (.int r2 :: rest)) : VV p l e R s m args below meth c cells slots Q (PW ad la cI cC cZ cQ) D A s.heap nL (u, t) pc lv st0 :=
  v_callVLE (w1 := cW ad cI cC cZ cQ) (w2 := lW la cI) C K hE hM hG hw hd hrm hR q0 he hc hq hst hn hcat hcs hdg hp (fun r v hv => by rw [(hpost r v hv).1]; exact kk v (hpost r v hv).2)
theorem v_cR (C : CX p m c cc nL s args Ts own A s.heap) (K : va_K D vwCl (cTy cI cC cZ cQ) s) {y : MethodName} {ws ws' : List Cond} {rm : Room} {bytes : ByteArray} {maxL n index : Nat} {ret : Option FieldType} {As st0 : List Value} {r2 : Int32} (hM : CMi l (lW la cI) D (cTy cI cC cZ cQ) y ws rm As t (fun (r : Int32) (v : S9) => r = r2 ∧ v = t)) (hG : GoodIn Ts (va_wsS own index y ws)) (hw : ws = Cond.code y bytes maxL ret :: ws') (hd : y.cls ≠ "java/lang/invoke/MethodHandle" ∧ y.cls ≠ "java/lang/invoke/VarHandle" ∧ (parseMethodDescriptor y.desc).map (fun d => d.parameters.length) = some n) (hrm : rm.cells = 0 ∧ rm.slots = 0) (hR : rm.frames + 1 ≤ R.frames ∧ 8 + (maxL + 11) + rm.locals ≤ R.locals) (hst : st0 = As.reverse ++ rest) (hn : As.length = n) (hcat : (rest.map fun v => v.category).sum ≤ 8) (hcs : cells ≤ R.cells ∧ slots ≤ R.slots) (hdg : decode cc pc = .ok (.invokestatic index, 3)) (hp : pc + 3 = pc') (kk : VV p l e R s m args below meth c cells slots Q (PW ad la cI cC cZ cQ) D A s.heap nL (u, t) pc' lv (.int r2 :: rest)) : VV p l e R s m args below meth c cells slots Q (PW ad la cI cC cZ cQ) D A s.heap nL (u, t) pc lv st0 :=
  v_callSR (w1 := cW ad cI cC cZ cQ) (w2 := lW la cI) C K hM hG hw hd hrm hR hst hn hcat hcs hdg hp (fun r v hv => by rw [hv.1, hv.2]; exact kk)
end PWR
/-! what every call of the class keeps: its village, and where its history stands -/
def IC (g : Nat → Int32) (n : Nat) (u : S9) : Prop := u 0 = g ∧ wfH g n ∧ ∃ o h : Nat, u 8 0 = nI o ∧ o < 6 ∧ u 8 1 = nI h ∧ h ≤ 6
theorem IC.w {g : Nat → Int32} {n : Nat} {u : S9} (hI : IC g n u) : wfH (u 0) n := by rw [hI.1]; exact hI.2.1
theorem IC.cc {g : Nat → Int32} {n : Nat} {u v : S9} (hI : IC g n u) (hc : cc9 u v) : IC g n v := by
  have c0 := hc 0 (Or.inl rfl)
  have c8 := hc 8 (Or.inr (by decide))
  exact ⟨c0.trans hI.1, hI.2.1, by rw [c8]; exact hI.2.2⟩
theorem IC.rec {n n2 : Nat} {g r2 : Nat → Int32} {u : S9} (hI : IC g n u) {o h : Nat} (ho : u 8 0 = nI o) (ho6 : o < 6) (hh : u 8 1 = nI h) (hle : h ≤ 6) (hw : wfH r2 n2) : IC r2 n2 (st9 (hsM u o h) 0 r2) := by
  have e8 : st9 (hsM u o h) 0 r2 8 = if h < 6 then upd (u 8) 1 (nI (h + 1)) else upd (u 8) 0 (nI ((o + 1) % 6)) := (st9_n _ _ (by decide)).trans (by rw [hsM, st9_s])
  refine ⟨st9_s _ _ _, hw, ?_⟩
  rw [e8]
  by_cases h6 : h < 6
  · rw [if_pos h6]
    exact ⟨o, h + 1, by rw [upd_n _ _ (by decide)]; exact ho, ho6, upd_s _ _ _, by omega⟩
  · rw [if_neg h6]
    exact ⟨(o + 1) % 6, h, upd_s _ _ _, by omega, by rw [upd_n _ _ (by decide)]; exact hh, hle⟩
theorem ic_ok {n n2 : Nat} {g r2 : Nat → Int32} {u v : S9} {o h : Nat} {E r X : Int32} (hI : IC g n u) (ho : u 8 0 = nI o) (ho6 : o < 6) (hh : u 8 1 = nI h) (hle : h ≤ 6) (hw : wfH r2 n2) (hE : E = 0) (hp : (E = 0 → r = X ∧ v = st9 (hsM u o h) 0 r2) ∧ (¬ E = 0 → r = E ∧ v = u)) : r = X ∧ IC r2 n2 v := by
  obtain ⟨a, b⟩ := hp.1 hE
  exact ⟨a, by rw [b]; exact hI.rec ho ho6 hh hle hw⟩
theorem ic_no {n : Nat} {g : Nat → Int32} {u v : S9} {E r X : Int32} {W : Prop} (hI : IC g n u) (hE : E = X) (hX : ¬ X = 0) (hp : W ∧ (¬ E = 0 → r = E ∧ v = u)) : r = X ∧ IC g n v := by
  obtain ⟨a, b⟩ := hp.2 (by rw [hE]; exact hX)
  exact ⟨a.trans hE, by rw [b]; exact hI⟩
theorem p_in_ok {a n : Nat} (h : a ≤ n) (hn : n < 100000) : p_in (nI a) 0 (nI n) = 1 := by
  unfold p_in
  rw [if_neg (nI_pos (by omega)), if_neg (nI_nlt h (by omega))]
theorem p_in_ok2 {a b n : Nat} (hb : b ≤ a) (h : a ≤ n) (hn : n < 100000) : p_in (nI a) (nI b) (nI n) = 1 := by
  unfold p_in
  rw [if_neg (nI_nlt hb (by omega)), if_neg (nI_nlt h (by omega))]
theorem p_part_ok {d q : Nat} (hd : d < 35) (hq : q < 2) : p_part (nI d) (nI q) = 1 := by
  have e1 : p_in (nI d) 0 34 = 1 := p_in_ok (n := 34) (by omega) (by decide)
  have e2 : p_in (nI q) 0 1 = 1 := p_in_ok (n := 1) (by omega) (by decide)
  unfold p_part
  rw [e1, e2, if_neg (by decide), if_neg (by decide)]
theorem q_k_ok {d q : Nat} (hd : d < 35) (hq : q < 2) : q_k (nI d) (nI q) = 2 * d + q := by rw [q_k, nI_cl (by omega), nI_cl (by omega)]
theorem p_f_ok {g : Nat → Int32} {n f : Nat} (hw : wfH g n) (hf : f < n) : p_in (nI f) 0 (g 5 - 1) = 1 := by
  have h8 := hw.1.2.1
  obtain ⟨m, rfl⟩ : ∃ m, n = m + 1 := ⟨n - 1, by omega⟩
  rw [hw.1.1, nI_pred]
  exact p_in_ok (by omega) (by omega)
/-! reading calls -/
theorem ip_rent {g : Nat → Int32} {n : Nat} {u v : S9} {r : Int32} (hI : IC g n u) {d : Nat} (hd : d < 35) (h : r = (if p_in (nI d) 0 34 = 0 then -2 else u 0 (116 + (nI d).toNatClampNeg)) ∧ v = u) : r = g (116 + d) ∧ IC g n v := by
  have e1 : p_in (nI d) 0 34 = 1 := p_in_ok (n := 34) (by omega) (by decide)
  rw [e1, if_neg (by decide), nI_cl (by omega), hI.1] at h
  exact ⟨h.1, by rw [h.2]; exact hI⟩
theorem ip_at {g : Nat → Int32} {n : Nat} {u v : S9} {r X what : Int32} (hI : IC g n u) {d q : Nat} (hd : d < 35) (hq : q < 2) (hX : q_at g (2 * d + q) what = X) (h : r = (if p_part (nI d) (nI q) = 0 then -2 else q_at (u 0) (q_k (nI d) (nI q)) what) ∧ cc9 u v) : r = X ∧ IC g n v := by
  rw [p_part_ok hd hq, if_neg (by decide), q_k_ok hd hq, hI.1, hX] at h
  exact ⟨h.1, hI.cc h.2⟩
theorem ip_of {g : Nat → Int32} {n : Nat} {u v : S9} {r X what : Int32} (hI : IC g n u) {f : Nat} (hf : f < n) (hX : q_of g f what = X) (h : r = (if p_in (nI f) 0 (u 0 5 - 1) = 0 then -1 else q_of (u 0) (nI f).toNatClampNeg what) ∧ cc9 u v) : r = X ∧ IC g n v := by
  have h8 := hI.2.1.1.2.1
  rw [hI.1, p_f_ok hI.2.1 hf, if_neg (by decide), nI_cl (by omega), hX] at h
  exact ⟨h.1, hI.cc h.2⟩
theorem ip_iw {g : Nat → Int32} {n : Nat} {u v : S9} {r X what : Int32} (hI : IC g n u) {f w : Nat} (hf : f < n) (hw : w < 5) (hX : q_iw g f w what = X) (h : r = (if p_in (nI f) 0 (u 0 5 - 1) = 0 then -1 else if p_in (nI w) 0 4 = 0 then -2 else q_iw (u 0) (nI f).toNatClampNeg (nI w).toNatClampNeg what) ∧ cc9 u v) : r = X ∧ IC g n v := by
  have h8 := hI.2.1.1.2.1
  have e1 : p_in (nI w) 0 4 = 1 := p_in_ok (n := 4) (by omega) (by decide)
  rw [hI.1, p_f_ok hI.2.1 hf, if_neg (by decide), e1, if_neg (by decide), nI_cl (by omega), nI_cl (by omega), hX] at h
  exact ⟨h.1, hI.cc h.2⟩
theorem ip_wk {g : Nat → Int32} {n : Nat} {u v : S9} {r X what : Int32} (hI : IC g n u) {w : Nat} (hw : w < 5) (hX : q_wk g (nI w) what = X) (h : r = (if p_in (nI w) 0 4 = 0 then -2 else q_wk (u 0) (nI w) what) ∧ cc9 u v) : r = X ∧ IC g n v := by
  have e1 : p_in (nI w) 0 4 = 1 := p_in_ok (n := 4) (by omega) (by decide)
  rw [hI.1, e1, if_neg (by decide), hX] at h
  exact ⟨h.1, hI.cc h.2⟩
theorem ip_cnt {g : Nat → Int32} {n : Nat} {u v : S9} {r X what : Int32} (hI : IC g n u) (hX : ∀ a b : Int32, q_cnt g a b what = X) (h : r = q_cnt (u 0) (u 7 0) (u 8 1) what ∧ cc9 u v) : r = X ∧ IC g n v := by
  rw [hI.1, hX] at h
  exact ⟨h.1, hI.cc h.2⟩
/-! changes -/
theorem wfH_film {r : Nat → Int32} {n : Nat} {d c m s f : Int32} (hw : wfH r n) (hn : n < 8) (hE : q_filmE r d c m s f = 0) : wfH (film9 r n d c m s f) (n + 1) := by
  have hs : ¬ p_in s 20 90 = 0 := fun e => by
    unfold q_filmE at hE
    rw [if_pos e] at hE
    by_cases h1 : p_in d 0 3 = 0
    · rw [if_pos h1] at hE
      exact absurd hE (by decide)
    · rw [if_neg h1] at hE
      by_cases h2 : p_in c 1 999 = 0
      · rw [if_pos h2] at hE
        exact absurd hE (by decide)
      · rw [if_neg h2] at hE
        by_cases h3 : p_in m 0 500 = 0
        · rw [if_pos h3] at hE
          exact absurd hE (by decide)
        · rw [if_neg h3] at hE
          exact absurd hE (by decide)
  have hsv : ∃ v : Nat, 20 ≤ v ∧ v ≤ 90 ∧ s = nI v := by
    have h1 := p_in_ne hs
    obtain ⟨j, hj, rfl⟩ := nI_of2 (x := s) (M := 90) (n := 90) rfl (fun q => absurd (Int32.lt_of_lt_of_le q (show (0 : Int32) ≤ 20 by decide)) (Int32.not_lt.mpr h1.1)) h1.2
    exact ⟨j, (nI_leI (a := 20) (by decide) (by omega)).mp h1.1, hj, rfl⟩
  have old : ∀ i, i ≠ 5 → (i < 6 + 5 * n ∨ 6 + 5 * n + 4 < i) → film9 r n d c m s f i = r i := fun i h1 h2 => by
    unfold film9
    rw [upd_n _ _ h1, upd_n _ _ (by omega), upd_n _ _ (by omega), upd_n _ _ (by omega), upd_n _ _ (by omega), upd_n _ _ (by omega)]
  refine ⟨⟨upd_s _ _ _, by omega, fun k hk => ?_⟩, fun f' hf' => ?_, fun d' hd' => ?_⟩
  · rw [old _ (by omega) (by omega)]
    rcases hw.1.2.2 k hk with e | ⟨g, hg, e⟩
    · exact Or.inl e
    · exact Or.inr ⟨g, by omega, e⟩
  · by_cases e : f' = n
    · subst e
      obtain ⟨v, v1, v2, ev⟩ := hsv
      refine ⟨v, v1, v2, ?_⟩
      unfold film9
      rw [upd_n _ _ (by omega), upd_n _ _ (by omega), upd_s, ev]
    · rw [old _ (by omega) (by omega)]
      exact hw.2.1 f' (by omega)
  · rw [old _ (by omega) (by omega)]
    exact hw.2.2 d' hd'
theorem wfH_set {r : Nat → Int32} {n i : Nat} {v : Int32} (hw : wfH r n) (hi : i < 5) : wfH (upd r i v) n := by
  refine ⟨⟨by rw [upd_n _ _ (by omega)]; exact hw.1.1, hw.1.2.1, fun k hk => by rw [upd_n _ _ (by omega)]; exact hw.1.2.2 k hk⟩, fun f hf => by rw [upd_n _ _ (by omega)]; exact hw.2.1 f hf, fun d hd => by rw [upd_n _ _ (by omega)]; exact hw.2.2 d hd⟩
theorem wfH_rent {r : Nat → Int32} {n d0 v : Nat} (hw : wfH r n) (hv : v ≤ 999) : wfH (upd r (116 + d0) (nI v)) n := by
  have h8 := hw.1.2.1
  refine ⟨⟨by rw [upd_n _ _ (by omega)]; exact hw.1.1, h8, fun k hk => by rw [upd_n _ _ (by omega)]; exact hw.1.2.2 k hk⟩, fun f hf => by rw [upd_n _ _ (by omega)]; exact hw.2.1 f hf, fun d hd => ?_⟩
  by_cases e : d = d0
  · subst e
    exact ⟨v, hv, upd_s _ _ _⟩
  · rw [upd_n _ _ (by omega)]
    exact hw.2.2 d hd
theorem wfH_ltF {r : Nat → Int32} {n d : Nat} (hw : wfH r n) (hd : d < 35) : wfH (ltF r d 2) n := by
  have h1 := wfH_upd (k := 2 * d + 0) (x := -6) hw (by omega) (Or.inl rfl)
  have h2 := wfH_upd (k := 2 * d + 1) (x := -6) h1 (by omega) (Or.inl rfl)
  have e : ltF r d 2 = upd (upd r (46 + (2 * d + 0)) (-6)) (46 + (2 * d + 1)) (-6) := by
    show upd (upd r (46 + 2 * d + 0) (-6)) (46 + 2 * d + 1) (-6) = _
    rw [show 46 + 2 * d + 0 = 46 + (2 * d + 0) by omega, show 46 + 2 * d + 1 = 46 + (2 * d + 1) by omega]
  rw [e]
  exact h2
theorem wfH_let {r : Nat → Int32} {n : Nat} {d v : Int32} (hw : wfH r n) (h1 : ¬ p_in d 0 34 = 0) (h2 : ¬ p_in v 0 999 = 0) : wfH (q_letR r d.toNatClampNeg v) n := by
  obtain ⟨d, hd, rfl⟩ := p_in_nI (n := 34) (by decide) h1
  obtain ⟨v, hv, rfl⟩ := p_in_nI (n := 999) (by decide) h2
  rw [nI_cl (by omega)]
  unfold q_letR
  by_cases e : nI v ≤ 0
  · rw [if_pos e]
    exact wfH_rent hw hv
  · rw [if_neg e]
    exact wfH_rent (wfH_ltF hw (by omega)) hv
theorem set_ix {x v : Int32} (h : q_setE x v = 0) : x.toNatClampNeg < 5 := by
  have h1 : ¬ p_val x v = 0 := fun e => by
    unfold q_setE at h
    rw [if_pos e] at h
    exact absurd h (by decide)
  have h2 : ¬ p_in x 0 4 = 0 := fun e => h1 (val_no v e)
  obtain ⟨j, hj, rfl⟩ := p_in_nI (n := 4) (by decide) h2
  rw [nI_cl (by omega)]
  omega
theorem ip_film {g : Nat → Int32} {n : Nat} {u v : S9} {r : Int32} {o h : Nat} (hI : IC g n u) (ho : u 8 0 = nI o) (ho6 : o < 6) (hh : u 8 1 = nI h) (hle : h ≤ 6) (hn : n < 8) {xd xc xm xs xf : Nat} (hd : xd ≤ 3) (hc1 : 1 ≤ xc) (hc : xc ≤ 999) (hm : xm ≤ 500) (hs1 : 20 ≤ xs) (hs : xs ≤ 90) (hf : xf ≤ 34) (hp : (q_filmE (u 0) (nI xd) (nI xc) (nI xm) (nI xs) (nI xf) = 0 → n < 8 ∧ r = nI n ∧ v = st9 (hsM u o h) 0 (film9 (u 0) n (nI xd) (nI xc) (nI xm) (nI xs) (nI xf))) ∧ (¬ q_filmE (u 0) (nI xd) (nI xc) (nI xm) (nI xs) (nI xf) = 0 → r = q_filmE (u 0) (nI xd) (nI xc) (nI xm) (nI xs) (nI xf) ∧ v = u)) : r = nI n ∧ IC (film9 g n (nI xd) (nI xc) (nI xm) (nI xs) (nI xf)) (n + 1) v := by
  rw [hI.1] at hp
  have e1 : p_in (nI xd) 0 3 = 1 := p_in_ok (n := 3) hd (by decide)
  have e2 : p_in (nI xc) 1 999 = 1 := p_in_ok2 (b := 1) (n := 999) hc1 hc (by decide)
  have e3 : p_in (nI xm) 0 500 = 1 := p_in_ok (n := 500) hm (by decide)
  have e4 : p_in (nI xs) 20 90 = 1 := p_in_ok2 (b := 20) (n := 90) hs1 hs (by decide)
  have e5 : p_in (nI xf) 0 34 = 1 := p_in_ok (n := 34) hf (by decide)
  have e6 : ¬ g 5 = 8 := fun e => by
    rw [hI.2.1.1.1] at e
    have := nI_inj (b := 8) (by omega) (by omega) e
    omega
  have hE : q_filmE g (nI xd) (nI xc) (nI xm) (nI xs) (nI xf) = 0 := by
    unfold q_filmE
    rw [e1, e2, e3, e4, e5, if_neg (by decide), if_neg (by decide), if_neg (by decide), if_neg (by decide), if_neg (by decide), if_neg e6]
  exact ic_ok hI ho ho6 hh hle (wfH_film hI.2.1 hn hE) hE ⟨fun q => (hp.1 q).2, hp.2⟩
theorem k70 {d q : Nat} (hd : d < 35) (hq : q < 2) : 2 * d + q < 70 := by omega
theorem why_ok {g : Nat → Int32} {n f d q : Nat} (hw : wfH g n) (hf : f < n) (hd : d < 35) (hq : q < 2) : p_why g (nI f) (nI d) (nI q) = if p_canShow g f d = 0 then -5 else 0 := by
  have h8 := hw.1.2.1
  unfold p_why
  rw [p_f_ok hw hf, if_neg (by decide), p_part_ok hd hq, if_neg (by decide), nI_cl (by omega), nI_cl (by omega)]
theorem ip_show {g : Nat → Int32} {n : Nat} {u v : S9} {r : Int32} {o h : Nat} (hI : IC g n u) (ho : u 8 0 = nI o) (ho6 : o < 6) (hh : u 8 1 = nI h) (hle : h ≤ 6) {f d q : Nat} (hf : f < n) (hd : d < 35) (hq : q < 2) (hE : ¬ p_canShow g f d = 0) (hp : (p_why (u 0) (nI f) (nI d) (nI q) = 0 → r = u 0 (46 + q_k (nI d) (nI q)) ∧ v = st9 (hsM u o h) 0 (upd (u 0) (46 + q_k (nI d) (nI q)) (nI f))) ∧ (¬ p_why (u 0) (nI f) (nI d) (nI q) = 0 → r = p_why (u 0) (nI f) (nI d) (nI q) ∧ v = u)) : r = g (46 + (2 * d + q)) ∧ IC (upd g (46 + (2 * d + q)) (nI f)) n v := by
  rw [hI.1, q_k_ok hd hq, why_ok hI.2.1 hf hd hq] at hp
  exact ic_ok hI ho ho6 hh hle (wfH_upd hI.2.1 (k70 hd hq) (Or.inr ⟨f, hf, rfl⟩)) (if_neg hE) hp
theorem ip_showN {g : Nat → Int32} {n : Nat} {u v : S9} {r : Int32} {W : Prop} (hI : IC g n u) {f d q : Nat} (hf : f < n) (hd : d < 35) (hq : q < 2) (hE : p_canShow g f d = 0) (hp : W ∧ (¬ p_why (u 0) (nI f) (nI d) (nI q) = 0 → r = p_why (u 0) (nI f) (nI d) (nI q) ∧ v = u)) : r = -5 ∧ IC g n v := by
  rw [hI.1, why_ok hI.2.1 hf hd hq] at hp
  exact ic_no hI (if_pos hE) (by decide) hp
theorem ip_ifs {g : Nat → Int32} {n : Nat} {u v : S9} {r : Int32} (hI : IC g n u) {f d q : Nat} (hf : f < n) (hd : d < 35) (hq : q < 2) (hE : ¬ p_canShow g f d = 0) (hp : r = (if 0 ≤ p_why (u 0) (nI f) (nI d) (nI q) then q_more (u 0) (q_k (nI d) (nI q)) (nI f) + 1000000 else p_why (u 0) (nI f) (nI d) (nI q)) ∧ cc9 u v) : r = q_left (upd g (46 + (2 * d + q)) (nI f)) (-1) - q_left g (-1) + 1000000 ∧ IC g n v := by
  rw [hI.1, q_k_ok hd hq, why_ok hI.2.1 hf hd hq, if_neg hE, if_pos (by decide)] at hp
  exact ⟨hp.1, hI.cc hp.2⟩
theorem ip_ifsN {g : Nat → Int32} {n : Nat} {u v : S9} {r : Int32} (hI : IC g n u) {f d q : Nat} (hf : f < n) (hd : d < 35) (hq : q < 2) (hE : p_canShow g f d = 0) (hp : r = (if 0 ≤ p_why (u 0) (nI f) (nI d) (nI q) then q_more (u 0) (q_k (nI d) (nI q)) (nI f) + 1000000 else p_why (u 0) (nI f) (nI d) (nI q)) ∧ cc9 u v) : r = -5 ∧ IC g n v := by
  rw [hI.1, q_k_ok hd hq, why_ok hI.2.1 hf hd hq, if_pos hE, if_neg (by decide)] at hp
  exact ⟨hp.1, hI.cc hp.2⟩
theorem ip_drop {g : Nat → Int32} {n : Nat} {u v : S9} {r : Int32} {o h : Nat} (hI : IC g n u) (ho : u 8 0 = nI o) (ho6 : o < 6) (hh : u 8 1 = nI h) (hle : h ≤ 6) {d q : Nat} (hd : d < 35) (hq : q < 2) (hE : ¬ g (46 + (2 * d + q)) = -6) (hp : (q_dropE (u 0) (nI d) (nI q) = 0 → r = u 0 (46 + q_k (nI d) (nI q)) ∧ ¬ p_part (nI d) (nI q) = 0 ∧ v = st9 (hsM u o h) 0 (upd (u 0) (46 + q_k (nI d) (nI q)) (-6))) ∧ (¬ q_dropE (u 0) (nI d) (nI q) = 0 → r = q_dropE (u 0) (nI d) (nI q) ∧ v = u)) : r = g (46 + (2 * d + q)) ∧ IC (upd g (46 + (2 * d + q)) (-6)) n v := by
  rw [hI.1, q_k_ok hd hq] at hp
  have e : q_dropE g (nI d) (nI q) = 0 := by
    unfold q_dropE
    rw [p_part_ok hd hq, if_neg (by decide), q_k_ok hd hq, if_neg hE]
  exact ic_ok hI ho ho6 hh hle (wfH_upd hI.2.1 (k70 hd hq) (Or.inl rfl)) e ⟨fun z => ⟨(hp.1 z).1, (hp.1 z).2.2⟩, hp.2⟩
theorem ip_dropN {g : Nat → Int32} {n : Nat} {u v : S9} {r : Int32} {W : Prop} (hI : IC g n u) {d q : Nat} (hd : d < 35) (hq : q < 2) (hE : g (46 + (2 * d + q)) = -6) (hp : W ∧ (¬ q_dropE (u 0) (nI d) (nI q) = 0 → r = q_dropE (u 0) (nI d) (nI q) ∧ v = u)) : r = -5 ∧ IC g n v := by
  rw [hI.1] at hp
  refine ic_no hI ?_ (by decide) hp
  unfold q_dropE
  rw [p_part_ok hd hq, if_neg (by decide), q_k_ok hd hq, if_pos hE]
theorem exE_ok {g : Nat → Int32} {d q d2 q2 : Nat} (hd : d < 35) (hq : q < 2) (hd2 : d2 < 35) (hq2 : q2 < 2) : q_exE g (nI d) (nI q) (nI d2) (nI q2) = if p_canBe g (g (46 + (2 * d2 + q2))) d = 0 then -5 else if p_canBe g (g (46 + (2 * d + q))) d2 = 0 then -5 else 0 := by
  unfold q_exE
  rw [p_part_ok hd hq, p_part_ok hd2 hq2, if_neg (by decide), if_neg (by decide), q_k_ok hd hq, q_k_ok hd2 hq2, nI_cl (by omega), nI_cl (by omega)]

theorem ip_ex {g : Nat → Int32} {n : Nat} {u v : S9} {r : Int32} {o h : Nat} (hI : IC g n u) (ho : u 8 0 = nI o) (ho6 : o < 6) (hh : u 8 1 = nI h) (hle : h ≤ 6) {d q d2 q2 : Nat} (hd : d < 35) (hq : q < 2) (hd2 : d2 < 35) (hq2 : q2 < 2) (h1 : ¬ p_canBe g (g (46 + (2 * d2 + q2))) d = 0) (h2 : ¬ p_canBe g (g (46 + (2 * d + q))) d2 = 0) (hp : (q_exE (u 0) (nI d) (nI q) (nI d2) (nI q2) = 0 → ¬ p_part (nI d) (nI q) = 0 ∧ ¬ p_part (nI d2) (nI q2) = 0 ∧ r = q_left (q_exR (u 0) (q_k (nI d) (nI q)) (q_k (nI d2) (nI q2))) (-1) - q_left (u 0) (-1) + 1000000 ∧ cc9 (st9 (hsM u o h) 0 (q_exR (u 0) (q_k (nI d) (nI q)) (q_k (nI d2) (nI q2)))) v) ∧ (¬ q_exE (u 0) (nI d) (nI q) (nI d2) (nI q2) = 0 → r = q_exE (u 0) (nI d) (nI q) (nI d2) (nI q2) ∧ v = u)) : r = q_left (q_exR g (2 * d + q) (2 * d2 + q2)) (-1) - q_left g (-1) + 1000000 ∧ IC (q_exR g (2 * d + q) (2 * d2 + q2)) n v := by
  rw [hI.1, exE_ok hd hq hd2 hq2, q_k_ok hd hq, q_k_ok hd2 hq2, if_neg h1, if_neg h2] at hp
  obtain ⟨-, -, a, b⟩ := hp.1 rfl
  exact ⟨a, (hI.rec ho ho6 hh hle (wfH_ex hI.2.1 (k70 hd hq) (k70 hd2 hq2))).cc b⟩
theorem ip_exN {g : Nat → Int32} {n : Nat} {u v : S9} {r : Int32} {W : Prop} (hI : IC g n u) {d q d2 q2 : Nat} (hd : d < 35) (hq : q < 2) (hd2 : d2 < 35) (hq2 : q2 < 2) (hn : p_canBe g (g (46 + (2 * d2 + q2))) d = 0 ∨ p_canBe g (g (46 + (2 * d + q))) d2 = 0) (hp : W ∧ (¬ q_exE (u 0) (nI d) (nI q) (nI d2) (nI q2) = 0 → r = q_exE (u 0) (nI d) (nI q) (nI d2) (nI q2) ∧ v = u)) : r = -5 ∧ IC g n v := by
  rw [hI.1, exE_ok hd hq hd2 hq2] at hp
  refine ic_no hI ?_ (by decide) hp
  by_cases h1 : p_canBe g (g (46 + (2 * d2 + q2))) d = 0
  · rw [if_pos h1]
  · rw [if_neg h1, if_pos (hn.resolve_left h1)]
theorem ip_let {g : Nat → Int32} {n : Nat} {u v : S9} {r : Int32} {o h : Nat} (hI : IC g n u) (ho : u 8 0 = nI o) (ho6 : o < 6) (hh : u 8 1 = nI h) (hle : h ≤ 6) {d x : Nat} (hd : d < 35) (hx : x ≤ 999) (hp : (q_letE (nI d) (nI x) = 0 → ¬ p_in (nI d) 0 34 = 0 ∧ ¬ p_in (nI x) 0 999 = 0 ∧ r = (if nI x ≤ 0 then 0 else sm9 (q_lt (u 0) (nI d).toNatClampNeg) 2) ∧ v = st9 (hsM u o h) 0 (q_letR (u 0) (nI d).toNatClampNeg (nI x))) ∧ (¬ q_letE (nI d) (nI x) = 0 → r = q_letE (nI d) (nI x) ∧ v = u)) : r = (if nI x ≤ 0 then 0 else sm9 (q_lt g d) 2) ∧ IC (q_letR g d (nI x)) n v := by
  have e1 : p_in (nI d) 0 34 = 1 := p_in_ok (n := 34) (by omega) (by decide)
  have e2 : p_in (nI x) 0 999 = 1 := p_in_ok (n := 999) hx (by decide)
  have hE : q_letE (nI d) (nI x) = 0 := by
    unfold q_letE
    rw [e1, e2, if_neg (by decide), if_neg (by decide)]
  have hw := wfH_let (d := nI d) (v := nI x) hI.2.1 (by rw [e1]; decide) (by rw [e2]; decide)
  rw [nI_cl (by omega)] at hw
  rw [hI.1, nI_cl (by omega)] at hp
  exact ic_ok hI ho ho6 hh hle hw hE ⟨fun q => (hp.1 q).2.2, hp.2⟩
theorem ip_set {g : Nat → Int32} {n : Nat} {u v : S9} {r x : Int32} {o h : Nat} (hI : IC g n u) (ho : u 8 0 = nI o) (ho6 : o < 6) (hh : u 8 1 = nI h) (hle : h ≤ 6) {i : Nat} (hi : i < 5) (hE : q_setE (nI i) x = 0) (hp : (q_setE (nI i) x = 0 → r = u 0 (nI i).toNatClampNeg ∧ v = st9 (hsM u o h) 0 (upd (u 0) (nI i).toNatClampNeg x)) ∧ (¬ q_setE (nI i) x = 0 → r = q_setE (nI i) x ∧ v = u)) : r = g i ∧ IC (upd g i x) n v := by
  rw [hI.1, nI_cl (by omega)] at hp
  exact ic_ok hI ho ho6 hh hle (wfH_set hI.2.1 hi) hE hp
end
section
/-! ===== the law: its words among the tables, by their places ===== -/
theorem in_at {big : List Cond} (ws : List Cond) (ps : List Nat) (hp : ws = ps.filterMap (fun i => big[i]?)) : ∀ w ∈ ws, w ∈ big := by
  intro w hw
  rw [hp] at hw
  obtain ⟨i, -, hi⟩ := List.mem_filterMap.mp hw
  first | exact List.mem_of_getElem? hi | exact List.getElem?_mem hi
set_option maxRecDepth 20000 in
theorem wsL_law_r1_in : ∀ w ∈ wsL_law_r1, w ∈ lw_tbl := in_at _ [19, 20, 12, 42, 381, 21, 22, 23, 24, 25, 26, 27, 28, 13, 101, 43, 44, 15, 102, 68, 69, 16, 103, 82] (by decide +kernel)
set_option maxRecDepth 20000 in
theorem wsL_law_r2_in : ∀ w ∈ wsL_law_r2, w ∈ lw_tbl := in_at _ [83, 17, 104, 100, 105, 120, 106, 29, 30, 31, 32, 38, 35, 37, 36, 14, 46, 47, 48, 49, 50, 51, 52, 71] (by decide +kernel)
set_option maxRecDepth 20000 in
theorem wsL_law_r3_in : ∀ w ∈ wsL_law_r3, w ∈ lw_tbl := in_at _ [72, 73, 81, 74, 85, 86, 87, 88, 90, 282, 283, 11, 284, 285, 286, 287, 288, 289, 290, 144, 145, 146, 147, 125] (by decide +kernel)
set_option maxRecDepth 20000 in
theorem wsL_law_r4_in : ∀ w ∈ wsL_law_r4, w ∈ lw_tbl := in_at _ [126, 127, 148, 149, 150, 151, 152, 153, 154, 132, 133, 134, 135, 91, 92, 136, 137, 138, 139, 155, 156, 157, 158, 159] (by decide +kernel)
set_option maxRecDepth 20000 in
theorem wsL_law_r5_in : ∀ w ∈ wsL_law_r5, w ∈ lw_tbl := in_at _ [291, 292, 293, 294, 295, 296, 297, 298, 299, 300, 301, 302, 303, 304, 305, 306, 307, 308, 309, 310, 311, 312, 313, 314] (by decide +kernel)
set_option maxRecDepth 20000 in
theorem wsL_law_r6_in : ∀ w ∈ wsL_law_r6, w ∈ lw_tbl := in_at _ [315, 316, 317, 270, 271, 272, 273, 257, 164, 166, 0, 167, 168, 169, 170, 171, 172, 173, 174, 175, 176, 177, 178, 179] (by decide +kernel)
set_option maxRecDepth 20000 in
theorem wsL_law_r7_in : ∀ w ∈ wsL_law_r7, w ∈ lw_tbl := in_at _ [180, 181, 182, 183, 184, 185, 186, 187, 188, 189, 190, 274, 276, 7, 277, 199, 200, 201, 202, 278, 280, 8, 281, 215] (by decide +kernel)
set_option maxRecDepth 20000 in
theorem wsL_law_r8_in : ∀ w ∈ wsL_law_r8, w ∈ lw_tbl := in_at _ [216, 217, 218, 53, 54, 219, 220, 222, 3, 223, 224, 225, 226, 227, 232, 233, 18, 234, 228, 229, 230, 231, 235, 236] (by decide +kernel)
set_option maxRecDepth 20000 in
theorem wsL_law_r9_in : ∀ w ∈ wsL_law_r9, w ∈ lw_tbl := in_at _ [237, 238, 239, 240, 241, 242, 243, 244, 245, 247, 4, 248, 249, 251, 5, 252, 253, 254, 255, 256, 191, 192, 193, 194] (by decide +kernel)
set_option maxRecDepth 20000 in
theorem wsL_law_r10_in : ∀ w ∈ wsL_law_r10, w ∈ lw_tbl := in_at _ [160, 161, 162, 163, 195, 196, 197, 198, 203, 204, 205, 206, 207, 209, 1, 210, 211, 213, 2, 214, 258, 259, 260, 261] (by decide +kernel)
set_option maxRecDepth 20000 in
theorem wsL_law_r11_a : ∀ w ∈ ([Cond.methodLink RX4 102 yX1_changeRent, Cond.instanceMethod yX1_changeRent, Cond.selects RX1 yX1_changeRent yX1_changeRent, Cond.code yX1_changeRent cX1_changeRent 3 none, Cond.methodLink RX4 106 yX4_dropShowsOfDay, Cond.instanceMethod yX4_dropShowsOfDay, Cond.selects RX4 yX4_dropShowsOfDay yX4_dropShowsOfDay, Cond.code yX4_dropShowsOfDay cX4_dropShowsOfDay 4 (some .int), Cond.methodLink RL 95 yX4_set, Cond.instanceMethod yX4_set, Cond.selects RX4 yX4_set yX4_set, Cond.code yX4_set cX4_set 3 (some .int), Cond.fieldLink RX4 50 "VillageCinema" "LEAST_SETTING" "[I", Cond.fieldLink RX4 54 "VillageCinema" "MOST_SETTING" "[I", Cond.methodLink RX4 61 yX1_changeSetting, Cond.instanceMethod yX1_changeSetting, Cond.selects RX1 yX1_changeSetting yX1_changeSetting, Cond.code yX1_changeSetting cX1_changeSetting 4 (some .int), Cond.methodLink RL 98 yL_same, Cond.static yL_same] : List Cond), w ∈ lw_tbl := in_at _ [262, 263, 264, 265, 266, 268, 6, 269, 121, 122, 123, 124, 128, 130, 140, 141, 142, 143, 318, 319] (by decide +kernel)
set_option maxRecDepth 20000 in
theorem wsL_law_r11_b : ∀ w ∈ ([Cond.methodLink RL 40 yX4_rent, Cond.instanceMethod yX4_rent, Cond.selects RX4 yX4_rent yX4_rent] : List Cond), w ∈ lw_tbl := in_at _ [321, 322, 323] (by decide +kernel)
set_option maxRecDepth 20000 in
theorem wsL_law_r11_c : Cond.code yL_same cL_same 22 (some .boolean) ∈ lw_tbl := List.mem_append_right _ (List.mem_of_getElem? (i := 309) rfl)
set_option maxRecDepth 20000 in
theorem wsL_law_r11_in : ∀ w ∈ wsL_law_r11, w ∈ lw_tbl := List.forall_mem_append.mpr ⟨wsL_law_r11_a, List.forall_mem_cons.mpr ⟨wsL_law_r11_c, wsL_law_r11_b⟩⟩
set_option maxRecDepth 20000 in
theorem wsL_law_r12_in : ∀ w ∈ wsL_law_r12, w ∈ lw_tbl := in_at _ [324, 325, 326, 327, 328, 329, 330, 331, 332, 333, 334, 335, 336, 337, 338, 339, 340, 341, 342, 343, 344, 345, 346, 347] (by decide +kernel)
set_option maxRecDepth 20000 in
theorem wsL_law_r13_in : ∀ w ∈ wsL_law_r13, w ∈ lw_tbl := in_at _ [348, 349, 350, 351, 352, 353, 354, 355, 356, 357, 358, 359, 360, 361, 362, 363, 364, 365, 366, 367, 368, 369, 370, 371] (by decide +kernel)
set_option maxRecDepth 20000 in
theorem wsL_law_r14_in : ∀ w ∈ wsL_law_r14, w ∈ lw_tbl := in_at _ [372, 373, 375, 9, 376, 377, 378, 379, 380, 382, 383, 384, 385, 386, 388, 10, 389, 390, 391, 392, 393, 394, 395, 396] (by decide +kernel)
set_option maxRecDepth 20000 in
theorem wsL_law_r15_in : ∀ w ∈ wsL_law_r15, w ∈ lw_tbl := in_at _ [397, 75, 398, 399, 400, 401] (by decide +kernel)
set_option maxRecDepth 20000 in
theorem wsL_law_cX0 : ∀ w ∈ wsX00, w ∈ lw_tbl := in_at _ [55, 57, 59, 61, 63, 65] (by decide +kernel)
set_option maxRecDepth 20000 in
theorem wsL_law_cX1 : ∀ w ∈ wsX10, w ∈ lw_tbl := in_at _ [39] (by decide +kernel)
set_option maxRecDepth 20000 in
theorem wsL_law_cX2 : ∀ w ∈ wsX20, w ∈ lw_tbl := in_at _ [93, 95, 97] (by decide +kernel)
set_option maxRecDepth 20000 in
theorem wsL_law_cX3 : ∀ w ∈ wsX30, w ∈ lw_tbl := in_at _ [76, 78] (by decide +kernel)
set_option maxRecDepth 20000 in
theorem wsL_law_cX4 : ∀ w ∈ wsX40, w ∈ lw_tbl := in_at _ [107, 109, 111, 113, 115, 117] (by decide +kernel)
theorem wsL_law_in : ∀ w ∈ wsL_law, w ∈ lw_tbl := by
  unfold wsL_law
  exact (List.forall_mem_append.mpr ⟨(List.forall_mem_append.mpr ⟨(List.forall_mem_append.mpr ⟨(List.forall_mem_append.mpr ⟨(List.forall_mem_append.mpr ⟨(List.forall_mem_append.mpr ⟨(List.forall_mem_append.mpr ⟨wsL_law_r1_in, (List.forall_mem_append.mpr ⟨wsL_law_r2_in, (List.forall_mem_append.mpr ⟨wsL_law_r3_in, (List.forall_mem_append.mpr ⟨wsL_law_r4_in, (List.forall_mem_append.mpr ⟨wsL_law_r5_in, (List.forall_mem_append.mpr ⟨wsL_law_r6_in, (List.forall_mem_append.mpr ⟨wsL_law_r7_in, (List.forall_mem_append.mpr ⟨wsL_law_r8_in, (List.forall_mem_append.mpr ⟨wsL_law_r9_in, (List.forall_mem_append.mpr ⟨wsL_law_r10_in, (List.forall_mem_append.mpr ⟨wsL_law_r11_in, (List.forall_mem_append.mpr ⟨wsL_law_r12_in, (List.forall_mem_append.mpr ⟨wsL_law_r13_in, (List.forall_mem_append.mpr ⟨wsL_law_r14_in, wsL_law_r15_in⟩)⟩)⟩)⟩)⟩)⟩)⟩)⟩)⟩)⟩)⟩)⟩)⟩)⟩), wsL_law_cX4⟩), wsL_law_cX1⟩), wsL_law_cX0⟩), wsL_law_cX3⟩), wsL_law_cX2⟩), (fun w h => absurd h List.not_mem_nil)⟩)
theorem inlX0 : ∀ w ∈ wsX00, w ∈ wsL_law := fun _ h => List.mem_append_left _ (List.mem_append_left _ (List.mem_append_left _ (List.mem_append_right _ h)))
theorem inX0 : ∀ w ∈ wsX00, w ∈ lw_tbl := fun w h => wsL_law_in w (inlX0 w h)
theorem inlX1 : ∀ w ∈ wsX10, w ∈ wsL_law := fun _ h => List.mem_append_left _ (List.mem_append_left _ (List.mem_append_left _ (List.mem_append_left _ (List.mem_append_right _ h))))
theorem inX1 : ∀ w ∈ wsX10, w ∈ lw_tbl := fun w h => wsL_law_in w (inlX1 w h)
theorem inlX2 : ∀ w ∈ wsX20, w ∈ wsL_law := fun _ h => List.mem_append_left _ (List.mem_append_right _ h)
theorem inX2 : ∀ w ∈ wsX20, w ∈ lw_tbl := fun w h => wsL_law_in w (inlX2 w h)
theorem inlX3 : ∀ w ∈ wsX30, w ∈ wsL_law := fun _ h => List.mem_append_left _ (List.mem_append_left _ (List.mem_append_right _ h))
theorem inX3 : ∀ w ∈ wsX30, w ∈ lw_tbl := fun w h => wsL_law_in w (inlX3 w h)
theorem inlX4 : ∀ w ∈ wsX40, w ∈ wsL_law := fun _ h => List.mem_append_left _ (List.mem_append_left _ (List.mem_append_left _ (List.mem_append_left _ (List.mem_append_left _ (List.mem_append_right _ h)))))
theorem inX4 : ∀ w ∈ wsX40, w ∈ lw_tbl := fun w h => wsL_law_in w (inlX4 w h)
theorem inX5 : ∀ w ∈ wsX50, w ∈ lw_tbl := by decide +kernel
end
section
/-! ===== the law's beginning: the tables' words ===== -/
theorem wT {i : Nat} {w : Cond} (h : tables_1[i]? = some w) : w ∈ lw_tbl := List.mem_append_right _ (List.mem_of_getElem? h)
theorem arr_k {args : Array Value} {s : State} {ty : FieldType} (h : (Cond.arrayClass ty).before args s = true) : ∃ cA : ClassId, ArrOfT s cA ty ∧ s.vm.findClass ("[" ++ ty.toString) = some cA := by
  obtain ⟨cA, kA, comp, h1, h2, h3⟩ := Cond.arrayClass_spec h
  exact ⟨cA, fun n z => ⟨fun k h => (by cases h), kA, h2, comp, h3⟩, h1⟩
theorem arr_q {args : Array Value} {s : State} (h : (Cond.arrayOver (.array .int)).before args s = true) : ∃ cA : ClassId, ArrOfT s cA (.array .int) ∧ s.vm.findClass ("[" ++ (FieldType.array .int).toString) = some cA := by
  obtain ⟨comp, cA, kA, -, -, h2, h3, h4⟩ := arrayOverA_spec h
  exact ⟨cA, fun n z => ⟨fun k h => (by cases h), kA, h2, comp, h3⟩, h4⟩
theorem law_K {args : Array Value} {s : State} (hts : ∀ w ∈ lw_tbl, w.before args s = true) : ∃ (D : va_G) (cI cC cZ cQ : ClassId), va_K D vwCl (cTy cI cC cZ cQ) s := by
  obtain ⟨cI, a1, a2⟩ := arr_k (hts (.arrayClass .int) (wT (i := 31) (by decide +kernel)))
  obtain ⟨cC, b1, b2⟩ := arr_k (hts (.arrayClass .char) (wT (i := 70) (by decide +kernel)))
  obtain ⟨cZ, z1, z2⟩ := arr_k (hts (.arrayClass .boolean) (wT (i := 109) (by decide +kernel)))
  obtain ⟨cQ, q1, q2⟩ := arr_q (hts (.arrayOver (.array .int)) (wT (i := 78) (by decide +kernel)))
  obtain ⟨c0, i0, k0⟩ := u_known (C := RX0) (T := TX0) (N := 6) (n := 6) hts inX0 (hts (.instantiable RX0 6) (wT (i := 33) (by decide +kernel)))
  obtain ⟨c1, i1, k1⟩ := u_known (C := RX1) (T := TX1) (N := 1) (n := 1) hts inX1 (hts (.instantiable RX1 1) (wT (i := 17) (by decide +kernel)))
  obtain ⟨c2, i2, k2⟩ := u_known (C := RX2) (T := TX2) (N := 3) (n := 3) hts inX2 (hts (.instantiable RX2 3) (wT (i := 72) (by decide +kernel)))
  obtain ⟨c3, i3, k3⟩ := u_known (C := RX3) (T := TX3) (N := 2) (n := 2) hts inX3 (hts (.instantiable RX3 2) (wT (i := 58) (by decide +kernel)))
  obtain ⟨c4, i4, k4⟩ := u_known (C := RX4) (T := TX4) (N := 6) (n := 6) hts inX4 (hts (.instantiable RX4 6) (wT (i := 9) (by decide +kernel)))
  refine ⟨(fun k => match k with | 0 => c0 | 1 => c1 | 2 => c2 | 3 => c3 | _ => c4, fun k => match k with | 0 => i0 | 1 => i1 | 2 => i2 | 3 => i3 | _ => i4), cI, cC, cZ, cQ, ?_, ?_⟩
  · intro k q hq
    match k, hq with
    | 0, hq => cases hq; exact k0
    | 1, hq => cases hq; exact k1
    | 2, hq => cases hq; exact k2
    | 3, hq => cases hq; exact k3
    | 4, hq => cases hq; exact k4
    | k + 5, hq => simp [vwCl] at hq
  · intro k q hq
    match k, hq with
    | 0, hq => cases hq; exact ⟨a1, a2⟩
    | 1, hq => cases hq; exact ⟨b1, b2⟩
    | 2, hq => cases hq; exact ⟨z1, z2⟩
    | 3, hq => cases hq; exact ⟨q1, q2⟩
    | k + 4, hq => simp [cTy] at hq
theorem z_sz {args : Array Value} {s : State} {t : Term} {b : Nat} {cell : Cell} {n : Value} (hv : (Term.length t).eval args s none [] s = some n) (ht : t.eval args s none [] s = some (.ref b)) (hc : s.heap[b]? = some cell) : cell.slots.size < 2 ^ 31 := by
  obtain ⟨b', cell', ht', harr, -⟩ := Term.length_spec hv
  cases ht.symm.trans ht'
  obtain ⟨hcell, -, -, -⟩ := State.arrayAt?_spec harr
  cases hc.symm.trans hcell
  simp only [Term.eval, ht, harr, Option.bind_eq_bind, Option.bind_some] at hv
  by_cases hlt : cell.slots.size < 2147483648
  · exact hlt
  · simp [hlt] at hv
theorem z_of {args : Array Value} {s : State} {nm : String} {f : Nat → Int32} {A : Nat → Prop} (hl : (Cond.laysStatic "VillageCinema" nm "[I").before args s = true) (hini : (Cond.initialized "VillageCinema").before args s = true) (harr : (Cond.arrayOf (.static "VillageCinema" nm "[I") .int).before args s = true) (hlen : (Cond.eq (.length (.static "VillageCinema" nm "[I")) (.int 5)).before args s = true) (hel : ∀ j : Nat, j < 5 → (Cond.eq (.elem (.static "VillageCinema" nm "[I") (.int (Int32.ofNat j))) (.int (f j))).before args s = true) (hA : ∀ a : Nat, a < s.heap.size → ¬ A a) : ∃ t : Nat, z9 "VillageCinema" nm "[I" t 5 f A s s.heap := by
  obtain ⟨t, ht, hT⟩ := va_Tof (N := 5) (f := fun j => .int (f j)) (by decide) harr (va_eqt hlen) (fun j hj => va_eqt (hel j hj)) hA
  refine ⟨t, va_Zref hl hini ht hA, hT, ?_⟩
  obtain ⟨cell, h1, h2, h3, h4, h5, h6, h7⟩ := hT
  refine ⟨cell, h1, h2, h3, ?_, h6⟩
  exact (nI_eq (z_sz (va_eqt hlen) ht h1) (by decide)).mp h5
theorem law_z {args : Array Value} {s : State} (hts : ∀ w ∈ lw_tbl, w.before args s = true) (hgv : (Jvm.Cond.and given_1 narrow_1).before args s = true) {A : Nat → Prop} (hA : ∀ a : Nat, a < s.heap.size → ¬ A a) : ∃ tl tm tf : Nat, zS tl tm tf A s s.heap := by
  have hs := flat_of_before _ hgv
  have hi := hts (.initialized "VillageCinema") (wT (i := 1) (by decide +kernel))
  obtain ⟨tl, h1⟩ := z_of (nm := "LEAST_SETTING") (f := lsF) (hts (.laysStatic "VillageCinema" "LEAST_SETTING" "[I") (wT (i := 118) (by decide +kernel))) hi (hs _ (by decide +kernel)) (hs _ (by decide +kernel)) (fun j hj => by rcases (show j = 0 ∨ j = 1 ∨ j = 2 ∨ j = 3 ∨ j = 4 by omega) with rfl | rfl | rfl | rfl | rfl <;> exact hs _ (by decide +kernel)) hA
  obtain ⟨tm, h2⟩ := z_of (nm := "MOST_SETTING") (f := msF) (hts (.laysStatic "VillageCinema" "MOST_SETTING" "[I") (wT (i := 120) (by decide +kernel))) hi (hs _ (by decide +kernel)) (hs _ (by decide +kernel)) (fun j hj => by rcases (show j = 0 ∨ j = 1 ∨ j = 2 ∨ j = 3 ∨ j = 4 by omega) with rfl | rfl | rfl | rfl | rfl <;> exact hs _ (by decide +kernel)) hA
  obtain ⟨tf, h3⟩ := z_of (nm := "FIRST_SETTING") (f := fsF) (hts (.laysStatic "VillageCinema" "FIRST_SETTING" "[I") (wT (i := 23) (by decide +kernel))) hi (hs _ (by decide +kernel)) (hs _ (by decide +kernel)) (fun j hj => by rcases (show j = 0 ∨ j = 1 ∨ j = 2 ∨ j = 3 ∨ j = 4 by omega) with rfl | rfl | rfl | rfl | rfl <;> exact hs _ (by decide +kernel)) hA
  exact ⟨tl, tm, tf, h1, h2, h3⟩
theorem law_iE {b : Nat} {s : State} (hts : ∀ w ∈ lw_tbl, w.before #[Value.ref b] s = true) {A : Nat → Prop} {tl tm tf : Nat} (hz : zS tl tm tf A s s.heap) : iE tl tm tf A s :=
  ⟨hz, over_moved (Vm.Alike.refl s.vm) (hts (.arrayOver (.array .int)) (wT (i := 78) (by decide +kernel))), va_Nw.of rfl (hts (.fieldLinkNest RX1 15 "VillageCinema" "FIRST_SETTING" "[I" "VillageCinema") (wT (i := 22) (by decide +kernel))), va_Nw.of rfl (hts (.methodLinkNest RX4 18 yX0_init RX4) (wT (i := 34) (by decide +kernel))), va_Nw.of rfl (hts (.methodLinkNest RX4 25 yX3_init RX4) (wT (i := 59) (by decide +kernel))), va_Nw.of rfl (hts (.methodLinkNest RX4 32 yX2_init RX4) (wT (i := 73) (by decide +kernel)))⟩
end

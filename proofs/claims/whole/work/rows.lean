section
-- ===== PART A: goes FIRST, ahead of the names: the tables' words, and 'selects' of the private methods out of them =====
/-- a private method of a class that the tables say can be made, by its rows of tables_1 -/
def lw_okq (q : MethodName × Nat) : Prop := (q.1.cls ≠ "java/lang/invoke/MethodHandle" ∧ q.1.cls ≠ "java/lang/invoke/VarHandle") ∧ Cond.instantiable q.1.cls q.2 ∈ tables_1 ∧ Cond.privateMethod q.1 ∈ tables_1 ∧ Cond.instanceMethod q.1 ∈ tables_1
theorem lw_p0 : lw_okq (⟨"VillageCinema", "errorOfShow", "(III)I"⟩, 6) := ⟨⟨by decide +kernel, by decide +kernel⟩, List.mem_of_getElem? (i := 10) (by decide +kernel), List.mem_of_getElem? (i := 155) (by decide +kernel), List.mem_of_getElem? (i := 156) (by decide +kernel)⟩
theorem lw_p1 : lw_okq (⟨"VillageCinema", "sumOfFilms", "(I)I"⟩, 6) := ⟨⟨by decide +kernel, by decide +kernel⟩, List.mem_of_getElem? (i := 10) (by decide +kernel), List.mem_of_getElem? (i := 198) (by decide +kernel), List.mem_of_getElem? (i := 199) (by decide +kernel)⟩
theorem lw_p2 : lw_okq (⟨"VillageCinema", "sumOfFilm", "(II)I"⟩, 6) := ⟨⟨by decide +kernel, by decide +kernel⟩, List.mem_of_getElem? (i := 10) (by decide +kernel), List.mem_of_getElem? (i := 202) (by decide +kernel), List.mem_of_getElem? (i := 203) (by decide +kernel)⟩
theorem lw_p3 : lw_okq (⟨"VillageCinema$FilmRun", "followWeek", "(LVillageCinema$Hall;III)I"⟩, 6) := ⟨⟨by decide +kernel, by decide +kernel⟩, List.mem_of_getElem? (i := 34) (by decide +kernel), List.mem_of_getElem? (i := 211) (by decide +kernel), List.mem_of_getElem? (i := 212) (by decide +kernel)⟩
theorem lw_p4 : lw_okq (⟨"VillageCinema$FilmRun", "reckonWeek", "(LVillageCinema$Hall;II)V"⟩, 6) := ⟨⟨by decide +kernel, by decide +kernel⟩, List.mem_of_getElem? (i := 34) (by decide +kernel), List.mem_of_getElem? (i := 236) (by decide +kernel), List.mem_of_getElem? (i := 237) (by decide +kernel)⟩
theorem lw_p5 : lw_okq (⟨"VillageCinema$FilmRun", "shareOfTakings", "(I)I"⟩, 6) := ⟨⟨by decide +kernel, by decide +kernel⟩, List.mem_of_getElem? (i := 34) (by decide +kernel), List.mem_of_getElem? (i := 240) (by decide +kernel), List.mem_of_getElem? (i := 241) (by decide +kernel)⟩
theorem lw_p6 : lw_okq (⟨"VillageCinema", "dropShowsOfDay", "(I)I"⟩, 6) := ⟨⟨by decide +kernel, by decide +kernel⟩, List.mem_of_getElem? (i := 10) (by decide +kernel), List.mem_of_getElem? (i := 257) (by decide +kernel), List.mem_of_getElem? (i := 258) (by decide +kernel)⟩
theorem lw_p7 : lw_okq (⟨"VillageCinema", "putInShowsOfPad", "()I"⟩, 6) := ⟨⟨by decide +kernel, by decide +kernel⟩, List.mem_of_getElem? (i := 10) (by decide +kernel), List.mem_of_getElem? (i := 281) (by decide +kernel), List.mem_of_getElem? (i := 282) (by decide +kernel)⟩
theorem lw_p8 : lw_okq (⟨"VillageCinema$Pad", "characterAt", "(I)C"⟩, 2) := ⟨⟨by decide +kernel, by decide +kernel⟩, List.mem_of_getElem? (i := 59) (by decide +kernel), List.mem_of_getElem? (i := 293) (by decide +kernel), List.mem_of_getElem? (i := 294) (by decide +kernel)⟩
theorem lw_p9 : lw_okq (⟨"VillageCinema", "sumOfFilmsInWeek", "(II)I"⟩, 6) := ⟨⟨by decide +kernel, by decide +kernel⟩, List.mem_of_getElem? (i := 10) (by decide +kernel), List.mem_of_getElem? (i := 360) (by decide +kernel), List.mem_of_getElem? (i := 361) (by decide +kernel)⟩
theorem lw_p10 : lw_okq (⟨"VillageCinema", "fullShows", "()I"⟩, 6) := ⟨⟨by decide +kernel, by decide +kernel⟩, List.mem_of_getElem? (i := 10) (by decide +kernel), List.mem_of_getElem? (i := 381) (by decide +kernel), List.mem_of_getElem? (i := 382) (by decide +kernel)⟩
theorem lw_p11 : lw_okq (⟨"VillageCinema", "gainWith", "(II)I"⟩, 6) := ⟨⟨by decide +kernel, by decide +kernel⟩, List.mem_of_getElem? (i := 10) (by decide +kernel), List.mem_of_getElem? (i := 397) (by decide +kernel), List.mem_of_getElem? (i := 398) (by decide +kernel)⟩
theorem lw_p12 : lw_okq (⟨"VillageCinema", "leftOfFilm", "(I)I"⟩, 6) := ⟨⟨by decide +kernel, by decide +kernel⟩, List.mem_of_getElem? (i := 10) (by decide +kernel), List.mem_of_getElem? (i := 401) (by decide +kernel), List.mem_of_getElem? (i := 402) (by decide +kernel)⟩
theorem lw_p13 : lw_okq (⟨"VillageCinemaModel", "record", "()V"⟩, 18) := ⟨⟨by decide +kernel, by decide +kernel⟩, List.mem_of_getElem? (i := 465) (by decide +kernel), List.mem_of_getElem? (i := 536) (by decide +kernel), List.mem_of_getElem? (i := 537) (by decide +kernel)⟩
theorem lw_p14 : lw_okq (⟨"VillageCinemaModel", "whyNotShown", "(III)I"⟩, 18) := ⟨⟨by decide +kernel, by decide +kernel⟩, List.mem_of_getElem? (i := 465) (by decide +kernel), List.mem_of_getElem? (i := 551) (by decide +kernel), List.mem_of_getElem? (i := 552) (by decide +kernel)⟩
theorem lw_p15 : lw_okq (⟨"VillageCinemaModel", "isFilm", "(I)Z"⟩, 18) := ⟨⟨by decide +kernel, by decide +kernel⟩, List.mem_of_getElem? (i := 465) (by decide +kernel), List.mem_of_getElem? (i := 555) (by decide +kernel), List.mem_of_getElem? (i := 556) (by decide +kernel)⟩
def lw_privs_1 : List (MethodName × Nat) := [(⟨"VillageCinema", "errorOfShow", "(III)I"⟩, 6), (⟨"VillageCinema", "sumOfFilms", "(I)I"⟩, 6), (⟨"VillageCinema", "sumOfFilm", "(II)I"⟩, 6), (⟨"VillageCinema$FilmRun", "followWeek", "(LVillageCinema$Hall;III)I"⟩, 6), (⟨"VillageCinema$FilmRun", "reckonWeek", "(LVillageCinema$Hall;II)V"⟩, 6), (⟨"VillageCinema$FilmRun", "shareOfTakings", "(I)I"⟩, 6), (⟨"VillageCinema", "dropShowsOfDay", "(I)I"⟩, 6), (⟨"VillageCinema", "putInShowsOfPad", "()I"⟩, 6), (⟨"VillageCinema$Pad", "characterAt", "(I)C"⟩, 2), (⟨"VillageCinema", "sumOfFilmsInWeek", "(II)I"⟩, 6), (⟨"VillageCinema", "fullShows", "()I"⟩, 6), (⟨"VillageCinema", "gainWith", "(II)I"⟩, 6), (⟨"VillageCinema", "leftOfFilm", "(I)I"⟩, 6), (⟨"VillageCinemaModel", "record", "()V"⟩, 18), (⟨"VillageCinemaModel", "whyNotShown", "(III)I"⟩, 18), (⟨"VillageCinemaModel", "isFilm", "(I)Z"⟩, 18)]
theorem lw_r1 : ∀ q ∈ lw_privs_1, lw_okq q := List.forall_mem_cons.mpr ⟨lw_p0, List.forall_mem_cons.mpr ⟨lw_p1, List.forall_mem_cons.mpr ⟨lw_p2, List.forall_mem_cons.mpr ⟨lw_p3, List.forall_mem_cons.mpr ⟨lw_p4, List.forall_mem_cons.mpr ⟨lw_p5, List.forall_mem_cons.mpr ⟨lw_p6, List.forall_mem_cons.mpr ⟨lw_p7, List.forall_mem_cons.mpr ⟨lw_p8, List.forall_mem_cons.mpr ⟨lw_p9, List.forall_mem_cons.mpr ⟨lw_p10, List.forall_mem_cons.mpr ⟨lw_p11, List.forall_mem_cons.mpr ⟨lw_p12, List.forall_mem_cons.mpr ⟨lw_p13, List.forall_mem_cons.mpr ⟨lw_p14, List.forall_mem_cons.mpr ⟨lw_p15, fun _ h => absurd h List.not_mem_nil⟩⟩⟩⟩⟩⟩⟩⟩⟩⟩⟩⟩⟩⟩⟩⟩
theorem lw_p16 : lw_okq (⟨"VillageCinemaModel", "canShow", "(II)Z"⟩, 18) := ⟨⟨by decide +kernel, by decide +kernel⟩, List.mem_of_getElem? (i := 465) (by decide +kernel), List.mem_of_getElem? (i := 562) (by decide +kernel), List.mem_of_getElem? (i := 563) (by decide +kernel)⟩
theorem lw_p17 : lw_okq (⟨"VillageCinemaModel", "isLet", "(I)Z"⟩, 18) := ⟨⟨by decide +kernel, by decide +kernel⟩, List.mem_of_getElem? (i := 465) (by decide +kernel), List.mem_of_getElem? (i := 566) (by decide +kernel), List.mem_of_getElem? (i := 567) (by decide +kernel)⟩
theorem lw_p18 : lw_okq (⟨"VillageCinemaModel", "filmPart", "(II)I"⟩, 18) := ⟨⟨by decide +kernel, by decide +kernel⟩, List.mem_of_getElem? (i := 465) (by decide +kernel), List.mem_of_getElem? (i := 570) (by decide +kernel), List.mem_of_getElem? (i := 571) (by decide +kernel)⟩
theorem lw_p19 : lw_okq (⟨"VillageCinemaModel", "showAt", "(II)I"⟩, 18) := ⟨⟨by decide +kernel, by decide +kernel⟩, List.mem_of_getElem? (i := 465) (by decide +kernel), List.mem_of_getElem? (i := 574) (by decide +kernel), List.mem_of_getElem? (i := 575) (by decide +kernel)⟩
theorem lw_p20 : lw_okq (⟨"VillageCinemaModel", "canBe", "(II)Z"⟩, 18) := ⟨⟨by decide +kernel, by decide +kernel⟩, List.mem_of_getElem? (i := 465) (by decide +kernel), List.mem_of_getElem? (i := 586) (by decide +kernel), List.mem_of_getElem? (i := 587) (by decide +kernel)⟩
theorem lw_p21 : lw_okq (⟨"VillageCinemaModel", "leftNow", "()I"⟩, 18) := ⟨⟨by decide +kernel, by decide +kernel⟩, List.mem_of_getElem? (i := 465) (by decide +kernel), List.mem_of_getElem? (i := 590) (by decide +kernel), List.mem_of_getElem? (i := 591) (by decide +kernel)⟩
theorem lw_p22 : lw_okq (⟨"VillageCinemaModel", "reckon", "()V"⟩, 18) := ⟨⟨by decide +kernel, by decide +kernel⟩, List.mem_of_getElem? (i := 465) (by decide +kernel), List.mem_of_getElem? (i := 594) (by decide +kernel), List.mem_of_getElem? (i := 595) (by decide +kernel)⟩
theorem lw_p23 : lw_okq (⟨"VillageCinemaModel", "findPeople", "()V"⟩, 18) := ⟨⟨by decide +kernel, by decide +kernel⟩, List.mem_of_getElem? (i := 465) (by decide +kernel), List.mem_of_getElem? (i := 598) (by decide +kernel), List.mem_of_getElem? (i := 599) (by decide +kernel)⟩
theorem lw_p24 : lw_okq (⟨"VillageCinemaModel", "fade", "(I)V"⟩, 18) := ⟨⟨by decide +kernel, by decide +kernel⟩, List.mem_of_getElem? (i := 465) (by decide +kernel), List.mem_of_getElem? (i := 602) (by decide +kernel), List.mem_of_getElem? (i := 603) (by decide +kernel)⟩
theorem lw_p25 : lw_okq (⟨"VillageCinemaModel", "findTakings", "()V"⟩, 18) := ⟨⟨by decide +kernel, by decide +kernel⟩, List.mem_of_getElem? (i := 465) (by decide +kernel), List.mem_of_getElem? (i := 606) (by decide +kernel), List.mem_of_getElem? (i := 607) (by decide +kernel)⟩
theorem lw_p26 : lw_okq (⟨"VillageCinemaModel", "findDues", "()V"⟩, 18) := ⟨⟨by decide +kernel, by decide +kernel⟩, List.mem_of_getElem? (i := 465) (by decide +kernel), List.mem_of_getElem? (i := 610) (by decide +kernel), List.mem_of_getElem? (i := 611) (by decide +kernel)⟩
theorem lw_p27 : lw_okq (⟨"VillageCinemaModel", "shareOf", "(II)I"⟩, 18) := ⟨⟨by decide +kernel, by decide +kernel⟩, List.mem_of_getElem? (i := 465) (by decide +kernel), List.mem_of_getElem? (i := 614) (by decide +kernel), List.mem_of_getElem? (i := 615) (by decide +kernel)⟩
theorem lw_p28 : lw_okq (⟨"VillageCinemaModel", "shareOfTakings", "(I)I"⟩, 18) := ⟨⟨by decide +kernel, by decide +kernel⟩, List.mem_of_getElem? (i := 465) (by decide +kernel), List.mem_of_getElem? (i := 618) (by decide +kernel), List.mem_of_getElem? (i := 619) (by decide +kernel)⟩
theorem lw_p29 : lw_okq (⟨"VillageCinemaModel", "leftOf", "(I)I"⟩, 18) := ⟨⟨by decide +kernel, by decide +kernel⟩, List.mem_of_getElem? (i := 465) (by decide +kernel), List.mem_of_getElem? (i := 622) (by decide +kernel), List.mem_of_getElem? (i := 623) (by decide +kernel)⟩
theorem lw_p30 : lw_okq (⟨"VillageCinemaModel", "rentsOf", "(I)I"⟩, 18) := ⟨⟨by decide +kernel, by decide +kernel⟩, List.mem_of_getElem? (i := 465) (by decide +kernel), List.mem_of_getElem? (i := 629) (by decide +kernel), List.mem_of_getElem? (i := 630) (by decide +kernel)⟩
theorem lw_p31 : lw_okq (⟨"VillageCinemaModel", "peopleOf", "(I)I"⟩, 18) := ⟨⟨by decide +kernel, by decide +kernel⟩, List.mem_of_getElem? (i := 465) (by decide +kernel), List.mem_of_getElem? (i := 649) (by decide +kernel), List.mem_of_getElem? (i := 650) (by decide +kernel)⟩
def lw_privs_2 : List (MethodName × Nat) := [(⟨"VillageCinemaModel", "canShow", "(II)Z"⟩, 18), (⟨"VillageCinemaModel", "isLet", "(I)Z"⟩, 18), (⟨"VillageCinemaModel", "filmPart", "(II)I"⟩, 18), (⟨"VillageCinemaModel", "showAt", "(II)I"⟩, 18), (⟨"VillageCinemaModel", "canBe", "(II)Z"⟩, 18), (⟨"VillageCinemaModel", "leftNow", "()I"⟩, 18), (⟨"VillageCinemaModel", "reckon", "()V"⟩, 18), (⟨"VillageCinemaModel", "findPeople", "()V"⟩, 18), (⟨"VillageCinemaModel", "fade", "(I)V"⟩, 18), (⟨"VillageCinemaModel", "findTakings", "()V"⟩, 18), (⟨"VillageCinemaModel", "findDues", "()V"⟩, 18), (⟨"VillageCinemaModel", "shareOf", "(II)I"⟩, 18), (⟨"VillageCinemaModel", "shareOfTakings", "(I)I"⟩, 18), (⟨"VillageCinemaModel", "leftOf", "(I)I"⟩, 18), (⟨"VillageCinemaModel", "rentsOf", "(I)I"⟩, 18), (⟨"VillageCinemaModel", "peopleOf", "(I)I"⟩, 18)]
theorem lw_r2 : ∀ q ∈ lw_privs_2, lw_okq q := List.forall_mem_cons.mpr ⟨lw_p16, List.forall_mem_cons.mpr ⟨lw_p17, List.forall_mem_cons.mpr ⟨lw_p18, List.forall_mem_cons.mpr ⟨lw_p19, List.forall_mem_cons.mpr ⟨lw_p20, List.forall_mem_cons.mpr ⟨lw_p21, List.forall_mem_cons.mpr ⟨lw_p22, List.forall_mem_cons.mpr ⟨lw_p23, List.forall_mem_cons.mpr ⟨lw_p24, List.forall_mem_cons.mpr ⟨lw_p25, List.forall_mem_cons.mpr ⟨lw_p26, List.forall_mem_cons.mpr ⟨lw_p27, List.forall_mem_cons.mpr ⟨lw_p28, List.forall_mem_cons.mpr ⟨lw_p29, List.forall_mem_cons.mpr ⟨lw_p30, List.forall_mem_cons.mpr ⟨lw_p31, fun _ h => absurd h List.not_mem_nil⟩⟩⟩⟩⟩⟩⟩⟩⟩⟩⟩⟩⟩⟩⟩⟩
theorem lw_p32 : lw_okq (⟨"VillageCinemaModel", "firstShow", "(I)I"⟩, 18) := ⟨⟨by decide +kernel, by decide +kernel⟩, List.mem_of_getElem? (i := 465) (by decide +kernel), List.mem_of_getElem? (i := 653) (by decide +kernel), List.mem_of_getElem? (i := 654) (by decide +kernel)⟩
theorem lw_p33 : lw_okq (⟨"VillageCinemaModel", "peopleIn", "(I)I"⟩, 18) := ⟨⟨by decide +kernel, by decide +kernel⟩, List.mem_of_getElem? (i := 465) (by decide +kernel), List.mem_of_getElem? (i := 665) (by decide +kernel), List.mem_of_getElem? (i := 666) (by decide +kernel)⟩
theorem lw_p34 : lw_okq (⟨"VillageCinemaModel", "fullShows", "()I"⟩, 18) := ⟨⟨by decide +kernel, by decide +kernel⟩, List.mem_of_getElem? (i := 465) (by decide +kernel), List.mem_of_getElem? (i := 681) (by decide +kernel), List.mem_of_getElem? (i := 682) (by decide +kernel)⟩
theorem lw_p35 : lw_okq (⟨"VillageCinemaModel", "moreWith", "(II)I"⟩, 18) := ⟨⟨by decide +kernel, by decide +kernel⟩, List.mem_of_getElem? (i := 465) (by decide +kernel), List.mem_of_getElem? (i := 689) (by decide +kernel), List.mem_of_getElem? (i := 690) (by decide +kernel)⟩
theorem lw_p36 : lw_okq (⟨"VillageCinemaModel", "findFault", "()I"⟩, 18) := ⟨⟨by decide +kernel, by decide +kernel⟩, List.mem_of_getElem? (i := 465) (by decide +kernel), List.mem_of_getElem? (i := 718) (by decide +kernel), List.mem_of_getElem? (i := 719) (by decide +kernel)⟩
theorem lw_p37 : lw_okq (⟨"VillageCinemaModel", "readsShow", "()Z"⟩, 18) := ⟨⟨by decide +kernel, by decide +kernel⟩, List.mem_of_getElem? (i := 465) (by decide +kernel), List.mem_of_getElem? (i := 722) (by decide +kernel), List.mem_of_getElem? (i := 723) (by decide +kernel)⟩
theorem lw_p38 : lw_okq (⟨"VillageCinemaModel", "takeDigit", "(I)I"⟩, 18) := ⟨⟨by decide +kernel, by decide +kernel⟩, List.mem_of_getElem? (i := 465) (by decide +kernel), List.mem_of_getElem? (i := 726) (by decide +kernel), List.mem_of_getElem? (i := 727) (by decide +kernel)⟩
theorem lw_p39 : lw_okq (⟨"VillageCinemaModel", "character", "(I)I"⟩, 18) := ⟨⟨by decide +kernel, by decide +kernel⟩, List.mem_of_getElem? (i := 465) (by decide +kernel), List.mem_of_getElem? (i := 730) (by decide +kernel), List.mem_of_getElem? (i := 731) (by decide +kernel)⟩
theorem lw_p40 : lw_okq (⟨"VillageCinemaModel", "takePart", "()I"⟩, 18) := ⟨⟨by decide +kernel, by decide +kernel⟩, List.mem_of_getElem? (i := 465) (by decide +kernel), List.mem_of_getElem? (i := 734) (by decide +kernel), List.mem_of_getElem? (i := 735) (by decide +kernel)⟩
theorem lw_p41 : lw_okq (⟨"VillageCinemaModel", "takeDay", "()I"⟩, 18) := ⟨⟨by decide +kernel, by decide +kernel⟩, List.mem_of_getElem? (i := 465) (by decide +kernel), List.mem_of_getElem? (i := 738) (by decide +kernel), List.mem_of_getElem? (i := 739) (by decide +kernel)⟩
theorem lw_p42 : lw_okq (⟨"VillageCinemaModel", "isNext", "()Z"⟩, 18) := ⟨⟨by decide +kernel, by decide +kernel⟩, List.mem_of_getElem? (i := 465) (by decide +kernel), List.mem_of_getElem? (i := 742) (by decide +kernel), List.mem_of_getElem? (i := 743) (by decide +kernel)⟩
theorem lw_p43 : lw_okq (⟨"VillageCinemaModel", "showsMany", "()I"⟩, 18) := ⟨⟨by decide +kernel, by decide +kernel⟩, List.mem_of_getElem? (i := 465) (by decide +kernel), List.mem_of_getElem? (i := 758) (by decide +kernel), List.mem_of_getElem? (i := 759) (by decide +kernel)⟩
def lw_privs_3 : List (MethodName × Nat) := [(⟨"VillageCinemaModel", "firstShow", "(I)I"⟩, 18), (⟨"VillageCinemaModel", "peopleIn", "(I)I"⟩, 18), (⟨"VillageCinemaModel", "fullShows", "()I"⟩, 18), (⟨"VillageCinemaModel", "moreWith", "(II)I"⟩, 18), (⟨"VillageCinemaModel", "findFault", "()I"⟩, 18), (⟨"VillageCinemaModel", "readsShow", "()Z"⟩, 18), (⟨"VillageCinemaModel", "takeDigit", "(I)I"⟩, 18), (⟨"VillageCinemaModel", "character", "(I)I"⟩, 18), (⟨"VillageCinemaModel", "takePart", "()I"⟩, 18), (⟨"VillageCinemaModel", "takeDay", "()I"⟩, 18), (⟨"VillageCinemaModel", "isNext", "()Z"⟩, 18), (⟨"VillageCinemaModel", "showsMany", "()I"⟩, 18)]
theorem lw_r3 : ∀ q ∈ lw_privs_3, lw_okq q := List.forall_mem_cons.mpr ⟨lw_p32, List.forall_mem_cons.mpr ⟨lw_p33, List.forall_mem_cons.mpr ⟨lw_p34, List.forall_mem_cons.mpr ⟨lw_p35, List.forall_mem_cons.mpr ⟨lw_p36, List.forall_mem_cons.mpr ⟨lw_p37, List.forall_mem_cons.mpr ⟨lw_p38, List.forall_mem_cons.mpr ⟨lw_p39, List.forall_mem_cons.mpr ⟨lw_p40, List.forall_mem_cons.mpr ⟨lw_p41, List.forall_mem_cons.mpr ⟨lw_p42, List.forall_mem_cons.mpr ⟨lw_p43, fun _ h => absurd h List.not_mem_nil⟩⟩⟩⟩⟩⟩⟩⟩⟩⟩⟩⟩
def lw_privs : List (MethodName × Nat) := lw_privs_1 ++ (lw_privs_2 ++ (lw_privs_3))
def lw_tbl : List Cond := k2_sels lw_privs ++ tables_1
theorem lw_privs_ok : ∀ q ∈ lw_privs, lw_okq q := by
  show ∀ q ∈ lw_privs_1 ++ (lw_privs_2 ++ (lw_privs_3)), lw_okq q
  exact List.forall_mem_append.mpr ⟨lw_r1, List.forall_mem_append.mpr ⟨lw_r2, lw_r3⟩⟩
end
section
/-! ===== BEGIN words of one list among another's, by their places ===== -/
theorem goodIn_r {big : List Cond} (ws : List Cond) (ps : List Nat) (hp : ws = ps.filterMap (fun i => big[i]?)) (h : ws.all goodWord = true) : GoodIn big ws := by
  intro w hw
  have h1 := List.all_eq_true.mp h w hw
  rw [hp] at hw
  obtain ⟨i, -, hi⟩ := List.mem_filterMap.mp hw
  have hm : w ∈ big := by first | exact List.mem_of_getElem? hi | exact List.getElem?_mem hi
  exact ⟨hm, good_of_word h1⟩
theorem goodIn_app {big a b : List Cond} (ha : GoodIn big a) (hb : GoodIn big b) : GoodIn big (a ++ b) := fun w h => (List.mem_append.mp h).elim (ha w) (hb w)
theorem goodIn_ca {big a b : List Cond} {c : Cond} (ha : GoodIn big (c :: a)) (hb : GoodIn big b) : GoodIn big (c :: (a ++ b)) := fun w h => (List.mem_cons.mp h).elim (fun e => ha w (List.mem_cons.mpr (Or.inl e))) (fun h => (List.mem_append.mp h).elim (fun h => ha w (List.mem_cons.mpr (Or.inr h))) (hb w))
theorem goodIn_sub {big ws : List Cond} (hm : ∀ w ∈ ws, w ∈ big) (h : ws.all goodWord = true) : GoodIn big ws := fun w hw => ⟨hm w hw, good_of_word (List.all_eq_true.mp h w hw)⟩
/-! ===== END ===== -/


/-! ===== BEGIN printed: names, fields, word lists, decode rows ===== -/
def RX0 : String := "VillageCinema$FilmRun"
def TX0 : u_T := fun k => match k with
  | 0 => ("VillageCinema$FilmRun", "peopleAt", "[I", true)
  | 1 => ("VillageCinema$FilmRun", "leftBehind", "[I", true)
  | 2 => ("VillageCinema$FilmRun", "sums", "[I", true)
  | 3 => ("VillageCinema$FilmRun", "shares", "[I", true)
  | 4 => ("VillageCinema$FilmRun", "fullShows", "I", false)
  | _ => ("VillageCinema$FilmRun", "leftAtEnd", "I", false)
def tyX0 : Nat → FieldType := fun k => match k with
  | 0 => .array .int
  | 1 => .array .int
  | 2 => .array .int
  | 3 => .array .int
  | 4 => .int
  | _ => .int
abbrev wsX00 : List Cond := u_ws RX0 TX0 6
theorem nmX0 : ∀ a, a < 6 → ∀ b, b < 6 → a ≠ b → (TX0 a).2.1 ≠ (TX0 b).2.1 := by decide +kernel
theorem tyX0_ok : ∀ k, k < 6 → parseFieldDescriptor (TX0 k).2.2.1 = some (tyX0 k) := by decide +kernel
abbrev cX0_init : ByteArray := prog_2_method_1_code
def yX0_init : MethodName := ⟨RX0, "<init>", "()V"⟩
abbrev cX0_follow : ByteArray := prog_2_method_2_code
def yX0_follow : MethodName := ⟨RX0, "follow", "(LVillageCinema$Hall;I)V"⟩
abbrev cX0_followWeek : ByteArray := prog_2_method_3_code
def yX0_followWeek : MethodName := ⟨RX0, "followWeek", "(LVillageCinema$Hall;III)I"⟩
abbrev cX0_peopleOf : ByteArray := prog_2_method_4_code
def yX0_peopleOf : MethodName := ⟨RX0, "peopleOf", "(LVillageCinema$Hall;II)I"⟩
abbrev cX0_nextShare : ByteArray := prog_2_method_5_code
def yX0_nextShare : MethodName := ⟨RX0, "nextShare", "(IIZ)I"⟩
abbrev cX0_reckonWeek : ByteArray := prog_2_method_6_code
def yX0_reckonWeek : MethodName := ⟨RX0, "reckonWeek", "(LVillageCinema$Hall;II)V"⟩
abbrev cX0_shareOfTakings : ByteArray := prog_2_method_7_code
def yX0_shareOfTakings : MethodName := ⟨RX0, "shareOfTakings", "(I)I"⟩
abbrev cX0_dueAboveShare : ByteArray := prog_2_method_8_code
def yX0_dueAboveShare : MethodName := ⟨RX0, "dueAboveShare", "(I)I"⟩
abbrev cX0_sumOfWeek : ByteArray := prog_2_method_9_code
def yX0_sumOfWeek : MethodName := ⟨RX0, "sumOfWeek", "(II)I"⟩
abbrev cX0_sum : ByteArray := prog_2_method_10_code
def yX0_sum : MethodName := ⟨RX0, "sum", "(I)I"⟩
abbrev cX0_shareIn : ByteArray := prog_2_method_11_code
def yX0_shareIn : MethodName := ⟨RX0, "shareIn", "(I)I"⟩
abbrev cX0_peopleAt : ByteArray := prog_2_method_12_code
def yX0_peopleAt : MethodName := ⟨RX0, "peopleAt", "(I)I"⟩
abbrev cX0_leftBehind : ByteArray := prog_2_method_13_code
def yX0_leftBehind : MethodName := ⟨RX0, "leftBehind", "(I)I"⟩
abbrev cX0_fullShows : ByteArray := prog_2_method_14_code
def yX0_fullShows : MethodName := ⟨RX0, "fullShows", "()I"⟩
abbrev cX0_leftAtEnd : ByteArray := prog_2_method_15_code
def yX0_leftAtEnd : MethodName := ⟨RX0, "leftAtEnd", "()I"⟩
def RX1 : String := "VillageCinema$Hall"
def TX1 : u_T := fun k => match k with
  | _ => ("VillageCinema$Hall", "row", "[I", true)
def tyX1 : Nat → FieldType := fun k => match k with
  | _ => .array .int
abbrev wsX10 : List Cond := u_ws RX1 TX1 1
theorem nmX1 : ∀ a, a < 1 → ∀ b, b < 1 → a ≠ b → (TX1 a).2.1 ≠ (TX1 b).2.1 := by decide +kernel
theorem tyX1_ok : ∀ k, k < 1 → parseFieldDescriptor (TX1 k).2.2.1 = some (tyX1 k) := by decide +kernel
abbrev cX1_init : ByteArray := prog_3_method_1_code
def yX1_init : MethodName := ⟨RX1, "<init>", "()V"⟩
abbrev cX1_copyTo : ByteArray := prog_3_method_2_code
def yX1_copyTo : MethodName := ⟨RX1, "copyTo", "([I)V"⟩
abbrev cX1_copyFrom : ByteArray := prog_3_method_3_code
def yX1_copyFrom : MethodName := ⟨RX1, "copyFrom", "([I)V"⟩
abbrev cX1_setting : ByteArray := prog_3_method_4_code
def yX1_setting : MethodName := ⟨RX1, "setting", "(I)I"⟩
abbrev cX1_changeSetting : ByteArray := prog_3_method_5_code
def yX1_changeSetting : MethodName := ⟨RX1, "changeSetting", "(II)I"⟩
abbrev cX1_films : ByteArray := prog_3_method_6_code
def yX1_films : MethodName := ⟨RX1, "films", "()I"⟩
abbrev cX1_hasFilm : ByteArray := prog_3_method_7_code
def yX1_hasFilm : MethodName := ⟨RX1, "hasFilm", "(I)Z"⟩
abbrev cX1_addFilm : ByteArray := prog_3_method_8_code
def yX1_addFilm : MethodName := ⟨RX1, "addFilm", "(IIIII)I"⟩
abbrev cX1_fact : ByteArray := prog_3_method_9_code
def yX1_fact : MethodName := ⟨RX1, "fact", "(II)I"⟩
abbrev cX1_showAt : ByteArray := prog_3_method_10_code
def yX1_showAt : MethodName := ⟨RX1, "showAt", "(I)I"⟩
abbrev cX1_replaceShow : ByteArray := prog_3_method_11_code
def yX1_replaceShow : MethodName := ⟨RX1, "replaceShow", "(II)I"⟩
abbrev cX1_canHold : ByteArray := prog_3_method_12_code
def yX1_canHold : MethodName := ⟨RX1, "canHold", "(II)Z"⟩
abbrev cX1_shows : ByteArray := prog_3_method_13_code
def yX1_shows : MethodName := ⟨RX1, "shows", "()I"⟩
abbrev cX1_firstDayShown : ByteArray := prog_3_method_14_code
def yX1_firstDayShown : MethodName := ⟨RX1, "firstDayShown", "(I)I"⟩
abbrev cX1_rentOf : ByteArray := prog_3_method_15_code
def yX1_rentOf : MethodName := ⟨RX1, "rentOf", "(I)I"⟩
abbrev cX1_changeRent : ByteArray := prog_3_method_16_code
def yX1_changeRent : MethodName := ⟨RX1, "changeRent", "(II)V"⟩
abbrev cX1_rentsOf : ByteArray := prog_3_method_17_code
def yX1_rentsOf : MethodName := ⟨RX1, "rentsOf", "(II)I"⟩
def RX2 : String := "VillageCinema$History"
def TX2 : u_T := fun k => match k with
  | 0 => ("VillageCinema$History", "states", "[[I", true)
  | 1 => ("VillageCinema$History", "oldest", "I", false)
  | _ => ("VillageCinema$History", "size", "I", false)
def tyX2 : Nat → FieldType := fun k => match k with
  | 0 => .array (.array .int)
  | 1 => .int
  | _ => .int
abbrev wsX20 : List Cond := u_ws RX2 TX2 3
theorem nmX2 : ∀ a, a < 3 → ∀ b, b < 3 → a ≠ b → (TX2 a).2.1 ≠ (TX2 b).2.1 := by decide +kernel
theorem tyX2_ok : ∀ k, k < 3 → parseFieldDescriptor (TX2 k).2.2.1 = some (tyX2 k) := by decide +kernel
abbrev cX2_init : ByteArray := prog_4_method_1_code
def yX2_init : MethodName := ⟨RX2, "<init>", "()V"⟩
abbrev cX2_size : ByteArray := prog_4_method_2_code
def yX2_size : MethodName := ⟨RX2, "size", "()I"⟩
abbrev cX2_record : ByteArray := prog_4_method_3_code
def yX2_record : MethodName := ⟨RX2, "record", "(LVillageCinema$Hall;)V"⟩
abbrev cX2_takeBack : ByteArray := prog_4_method_4_code
def yX2_takeBack : MethodName := ⟨RX2, "takeBack", "(LVillageCinema$Hall;)V"⟩
def RX3 : String := "VillageCinema$Pad"
def TX3 : u_T := fun k => match k with
  | 0 => ("VillageCinema$Pad", "text", "[C", true)
  | _ => ("VillageCinema$Pad", "length", "I", false)
def tyX3 : Nat → FieldType := fun k => match k with
  | 0 => .array .char
  | _ => .int
abbrev wsX30 : List Cond := u_ws RX3 TX3 2
theorem nmX3 : ∀ a, a < 2 → ∀ b, b < 2 → a ≠ b → (TX3 a).2.1 ≠ (TX3 b).2.1 := by decide +kernel
theorem tyX3_ok : ∀ k, k < 2 → parseFieldDescriptor (TX3 k).2.2.1 = some (tyX3 k) := by decide +kernel
abbrev cX3_init : ByteArray := prog_5_method_1_code
def yX3_init : MethodName := ⟨RX3, "<init>", "()V"⟩
abbrev cX3_length : ByteArray := prog_5_method_2_code
def yX3_length : MethodName := ⟨RX3, "length", "()I"⟩
abbrev cX3_empty : ByteArray := prog_5_method_3_code
def yX3_empty : MethodName := ⟨RX3, "empty", "()V"⟩
abbrev cX3_append : ByteArray := prog_5_method_4_code
def yX3_append : MethodName := ⟨RX3, "append", "(J)I"⟩
abbrev cX3_charactersIn : ByteArray := prog_5_method_5_code
def yX3_charactersIn : MethodName := ⟨RX3, "charactersIn", "(J)I"⟩
abbrev cX3_firstFault : ByteArray := prog_5_method_6_code
def yX3_firstFault : MethodName := ⟨RX3, "firstFault", "()I"⟩
abbrev cX3_behind : ByteArray := prog_5_method_7_code
def yX3_behind : MethodName := ⟨RX3, "behind", "(IC)I"⟩
abbrev cX3_behindFirstDigit : ByteArray := prog_5_method_8_code
def yX3_behindFirstDigit : MethodName := ⟨RX3, "behindFirstDigit", "(C)I"⟩
abbrev cX3_behindDay : ByteArray := prog_5_method_9_code
def yX3_behindDay : MethodName := ⟨RX3, "behindDay", "(C)I"⟩
abbrev cX3_isBetween : ByteArray := prog_5_method_10_code
def yX3_isBetween : MethodName := ⟨RX3, "isBetween", "(CCC)Z"⟩
abbrev cX3_characterAt : ByteArray := prog_5_method_11_code
def yX3_characterAt : MethodName := ⟨RX3, "characterAt", "(I)C"⟩
abbrev cX3_endOfShow : ByteArray := prog_5_method_12_code
def yX3_endOfShow : MethodName := ⟨RX3, "endOfShow", "(I)I"⟩
abbrev cX3_filmAt : ByteArray := prog_5_method_13_code
def yX3_filmAt : MethodName := ⟨RX3, "filmAt", "(I)I"⟩
abbrev cX3_partAt : ByteArray := prog_5_method_14_code
def yX3_partAt : MethodName := ⟨RX3, "partAt", "(I)I"⟩
abbrev cX3_dayAt : ByteArray := prog_5_method_15_code
def yX3_dayAt : MethodName := ⟨RX3, "dayAt", "(II)I"⟩
def RX4 : String := "VillageCinema"
def TX4 : u_T := fun k => match k with
  | 0 => ("VillageCinema", "hall", "LVillageCinema$Hall;", true)
  | 1 => ("VillageCinema", "run", "LVillageCinema$FilmRun;", true)
  | 2 => ("VillageCinema", "pad", "LVillageCinema$Pad;", true)
  | 3 => ("VillageCinema", "history", "LVillageCinema$History;", true)
  | 4 => ("VillageCinema", "slots", "[[I", true)
  | _ => ("VillageCinema", "saved", "[Z", true)
def tyX4 : Nat → FieldType := fun k => match k with
  | 0 => .object "VillageCinema$Hall"
  | 1 => .object "VillageCinema$FilmRun"
  | 2 => .object "VillageCinema$Pad"
  | 3 => .object "VillageCinema$History"
  | 4 => .array (.array .int)
  | _ => .array .boolean
abbrev wsX40 : List Cond := u_ws RX4 TX4 6
theorem nmX4 : ∀ a, a < 6 → ∀ b, b < 6 → a ≠ b → (TX4 a).2.1 ≠ (TX4 b).2.1 := by decide +kernel
theorem tyX4_ok : ∀ k, k < 6 → parseFieldDescriptor (TX4 k).2.2.1 = some (tyX4 k) := by decide +kernel
abbrev cX4_init : ByteArray := prog_1_method_1_code
def yX4_init : MethodName := ⟨RX4, "<init>", "()V"⟩
abbrev cX4_set : ByteArray := prog_1_method_2_code
def yX4_set : MethodName := ⟨RX4, "set", "(II)I"⟩
abbrev cX4_film : ByteArray := prog_1_method_3_code
def yX4_film : MethodName := ⟨RX4, "film", "(IIIII)I"⟩
abbrev cX4_show : ByteArray := prog_1_method_4_code
def yX4_show : MethodName := ⟨RX4, "show", "(III)I"⟩
abbrev cX4_drop : ByteArray := prog_1_method_5_code
def yX4_drop : MethodName := ⟨RX4, "drop", "(II)I"⟩
abbrev cX4_exchange : ByteArray := prog_1_method_6_code
def yX4_exchange : MethodName := ⟨RX4, "exchange", "(IIII)I"⟩
abbrev cX4_let : ByteArray := prog_1_method_7_code
def yX4_let : MethodName := ⟨RX4, "let", "(II)I"⟩
abbrev cX4_carryOut : ByteArray := prog_1_method_8_code
def yX4_carryOut : MethodName := ⟨RX4, "carryOut", "()I"⟩
abbrev cX4_at : ByteArray := prog_1_method_9_code
def yX4_at : MethodName := ⟨RX4, "at", "(III)I"⟩
abbrev cX4_of : ByteArray := prog_1_method_10_code
def yX4_of : MethodName := ⟨RX4, "of", "(II)I"⟩
abbrev cX4_inWeek : ByteArray := prog_1_method_11_code
def yX4_inWeek : MethodName := ⟨RX4, "inWeek", "(III)I"⟩
abbrev cX4_week : ByteArray := prog_1_method_12_code
def yX4_week : MethodName := ⟨RX4, "week", "(II)I"⟩
abbrev cX4_distributor : ByteArray := prog_1_method_13_code
def yX4_distributor : MethodName := ⟨RX4, "distributor", "(II)I"⟩
abbrev cX4_rent : ByteArray := prog_1_method_14_code
def yX4_rent : MethodName := ⟨RX4, "rent", "(I)I"⟩
abbrev cX4_count : ByteArray := prog_1_method_15_code
def yX4_count : MethodName := ⟨RX4, "count", "(I)I"⟩
abbrev cX4_ifShown : ByteArray := prog_1_method_16_code
def yX4_ifShown : MethodName := ⟨RX4, "ifShown", "(III)I"⟩
abbrev cX4_bestFilm : ByteArray := prog_1_method_17_code
def yX4_bestFilm : MethodName := ⟨RX4, "bestFilm", "(III)I"⟩
abbrev cX4_worstShow : ByteArray := prog_1_method_18_code
def yX4_worstShow : MethodName := ⟨RX4, "worstShow", "(I)I"⟩
abbrev cX4_priceFor : ByteArray := prog_1_method_19_code
def yX4_priceFor : MethodName := ⟨RX4, "priceFor", "(III)I"⟩
abbrev cX4_put : ByteArray := prog_1_method_20_code
def yX4_put : MethodName := ⟨RX4, "put", "(J)I"⟩
abbrev cX4_wipe : ByteArray := prog_1_method_21_code
def yX4_wipe : MethodName := ⟨RX4, "wipe", "()I"⟩
abbrev cX4_fault : ByteArray := prog_1_method_22_code
def yX4_fault : MethodName := ⟨RX4, "fault", "()I"⟩
abbrev cX4_undo : ByteArray := prog_1_method_23_code
def yX4_undo : MethodName := ⟨RX4, "undo", "()I"⟩
abbrev cX4_save : ByteArray := prog_1_method_24_code
def yX4_save : MethodName := ⟨RX4, "save", "(I)I"⟩
abbrev cX4_restore : ByteArray := prog_1_method_25_code
def yX4_restore : MethodName := ⟨RX4, "restore", "(I)I"⟩
abbrev cX4_isWithin : ByteArray := prog_1_method_26_code
def yX4_isWithin : MethodName := ⟨RX4, "isWithin", "(III)Z"⟩
abbrev cX4_isDay : ByteArray := prog_1_method_27_code
def yX4_isDay : MethodName := ⟨RX4, "isDay", "(I)Z"⟩
abbrev cX4_isWeek : ByteArray := prog_1_method_28_code
def yX4_isWeek : MethodName := ⟨RX4, "isWeek", "(I)Z"⟩
abbrev cX4_isPlace : ByteArray := prog_1_method_29_code
def yX4_isPlace : MethodName := ⟨RX4, "isPlace", "(II)Z"⟩
abbrev cX4_placeOf : ByteArray := prog_1_method_30_code
def yX4_placeOf : MethodName := ⟨RX4, "placeOf", "(II)I"⟩
abbrev cX4_errorOfShow : ByteArray := prog_1_method_31_code
def yX4_errorOfShow : MethodName := ⟨RX4, "errorOfShow", "(III)I"⟩
abbrev cX4_dropShowsOfDay : ByteArray := prog_1_method_32_code
def yX4_dropShowsOfDay : MethodName := ⟨RX4, "dropShowsOfDay", "(I)I"⟩
abbrev cX4_putInShowsOfPad : ByteArray := prog_1_method_33_code
def yX4_putInShowsOfPad : MethodName := ⟨RX4, "putInShowsOfPad", "()I"⟩
abbrev cX4_sumOfFilm : ByteArray := prog_1_method_34_code
def yX4_sumOfFilm : MethodName := ⟨RX4, "sumOfFilm", "(II)I"⟩
abbrev cX4_sumOfFilms : ByteArray := prog_1_method_35_code
def yX4_sumOfFilms : MethodName := ⟨RX4, "sumOfFilms", "(I)I"⟩
abbrev cX4_sumOfFilmsInWeek : ByteArray := prog_1_method_36_code
def yX4_sumOfFilmsInWeek : MethodName := ⟨RX4, "sumOfFilmsInWeek", "(II)I"⟩
abbrev cX4_fullShows : ByteArray := prog_1_method_37_code
def yX4_fullShows : MethodName := ⟨RX4, "fullShows", "()I"⟩
abbrev cX4_leftOfFilm : ByteArray := prog_1_method_38_code
def yX4_leftOfFilm : MethodName := ⟨RX4, "leftOfFilm", "(I)I"⟩
abbrev cX4_gainWith : ByteArray := prog_1_method_39_code
def yX4_gainWith : MethodName := ⟨RX4, "gainWith", "(II)I"⟩
def RX5 : String := "VillageCinemaModel"
def TX5 : u_T := fun k => match k with
  | 0 => ("VillageCinemaModel", "state", "[I", true)
  | 1 => ("VillageCinemaModel", "history", "[I", true)
  | 2 => ("VillageCinemaModel", "recorded", "I", false)
  | 3 => ("VillageCinemaModel", "slots", "[I", true)
  | 4 => ("VillageCinemaModel", "isSaved", "[I", true)
  | 5 => ("VillageCinemaModel", "pad", "[I", true)
  | 6 => ("VillageCinemaModel", "padLength", "I", false)
  | 7 => ("VillageCinemaModel", "people", "[I", true)
  | 8 => ("VillageCinemaModel", "behind", "[I", true)
  | 9 => ("VillageCinemaModel", "left", "[I", true)
  | 10 => ("VillageCinemaModel", "shows", "[I", true)
  | 11 => ("VillageCinemaModel", "takings", "[I", true)
  | 12 => ("VillageCinemaModel", "shares", "[I", true)
  | 13 => ("VillageCinemaModel", "dues", "[I", true)
  | 14 => ("VillageCinemaModel", "at", "I", false)
  | 15 => ("VillageCinemaModel", "film", "I", false)
  | 16 => ("VillageCinemaModel", "part", "I", false)
  | _ => ("VillageCinemaModel", "day", "I", false)
def tyX5 : Nat → FieldType := fun k => match k with
  | 0 => .array .int
  | 1 => .array .int
  | 2 => .int
  | 3 => .array .int
  | 4 => .array .int
  | 5 => .array .int
  | 6 => .int
  | 7 => .array .int
  | 8 => .array .int
  | 9 => .array .int
  | 10 => .array .int
  | 11 => .array .int
  | 12 => .array .int
  | 13 => .array .int
  | 14 => .int
  | 15 => .int
  | 16 => .int
  | _ => .int
abbrev wsX50 : List Cond := u_ws RX5 TX5 18
theorem nmX5 : ∀ a, a < 18 → ∀ b, b < 18 → a ≠ b → (TX5 a).2.1 ≠ (TX5 b).2.1 := by decide +kernel
theorem tyX5_ok : ∀ k, k < 18 → parseFieldDescriptor (TX5 k).2.2.1 = some (tyX5 k) := by decide +kernel
abbrev cX5_init : ByteArray := prog_7_method_1_code
def yX5_init : MethodName := ⟨RX5, "<init>", "()V"⟩
abbrev cX5_moves : ByteArray := prog_7_method_3_code
def yX5_moves : MethodName := ⟨RX5, "moves", "([II[II)V"⟩
abbrev cX5_within : ByteArray := prog_7_method_4_code
def yX5_within : MethodName := ⟨RX5, "within", "(III)Z"⟩
abbrev cX5_record : ByteArray := prog_7_method_5_code
def yX5_record : MethodName := ⟨RX5, "record", "()V"⟩
abbrev cX5_isFilm : ByteArray := prog_7_method_6_code
def yX5_isFilm : MethodName := ⟨RX5, "isFilm", "(I)Z"⟩
abbrev cX5_filmPart : ByteArray := prog_7_method_7_code
def yX5_filmPart : MethodName := ⟨RX5, "filmPart", "(II)I"⟩
abbrev cX5_isPart : ByteArray := prog_7_method_8_code
def yX5_isPart : MethodName := ⟨RX5, "isPart", "(II)Z"⟩
abbrev cX5_showAt : ByteArray := prog_7_method_9_code
def yX5_showAt : MethodName := ⟨RX5, "showAt", "(II)I"⟩
abbrev cX5_isLet : ByteArray := prog_7_method_10_code
def yX5_isLet : MethodName := ⟨RX5, "isLet", "(I)Z"⟩
abbrev cX5_fade : ByteArray := prog_7_method_11_code
def yX5_fade : MethodName := ⟨RX5, "fade", "(I)V"⟩
abbrev cX5_findPeople : ByteArray := prog_7_method_12_code
def yX5_findPeople : MethodName := ⟨RX5, "findPeople", "()V"⟩
abbrev cX5_findTakings : ByteArray := prog_7_method_13_code
def yX5_findTakings : MethodName := ⟨RX5, "findTakings", "()V"⟩
abbrev cX5_shareOf : ByteArray := prog_7_method_14_code
def yX5_shareOf : MethodName := ⟨RX5, "shareOf", "(II)I"⟩
abbrev cX5_shareOfTakings : ByteArray := prog_7_method_15_code
def yX5_shareOfTakings : MethodName := ⟨RX5, "shareOfTakings", "(I)I"⟩
abbrev cX5_findDues : ByteArray := prog_7_method_16_code
def yX5_findDues : MethodName := ⟨RX5, "findDues", "()V"⟩
abbrev cX5_reckon : ByteArray := prog_7_method_17_code
def yX5_reckon : MethodName := ⟨RX5, "reckon", "()V"⟩
abbrev cX5_sumOf : ByteArray := prog_7_method_18_code
def yX5_sumOf : MethodName := ⟨RX5, "sumOf", "([II)I"⟩
abbrev cX5_sumOfFilm : ByteArray := prog_7_method_19_code
def yX5_sumOfFilm : MethodName := ⟨RX5, "sumOfFilm", "([II)I"⟩
abbrev cX5_rentsOf : ByteArray := prog_7_method_20_code
def yX5_rentsOf : MethodName := ⟨RX5, "rentsOf", "(I)I"⟩
abbrev cX5_peopleIn : ByteArray := prog_7_method_21_code
def yX5_peopleIn : MethodName := ⟨RX5, "peopleIn", "(I)I"⟩
abbrev cX5_leftOf : ByteArray := prog_7_method_22_code
def yX5_leftOf : MethodName := ⟨RX5, "leftOf", "(I)I"⟩
abbrev cX5_leftNow : ByteArray := prog_7_method_23_code
def yX5_leftNow : MethodName := ⟨RX5, "leftNow", "()I"⟩
abbrev cX5_isValue : ByteArray := prog_7_method_24_code
def yX5_isValue : MethodName := ⟨RX5, "isValue", "(II)Z"⟩
abbrev cX5_set : ByteArray := prog_7_method_25_code
def yX5_set : MethodName := ⟨RX5, "set", "(II)I"⟩
abbrev cX5_film : ByteArray := prog_7_method_26_code
def yX5_film : MethodName := ⟨RX5, "film", "(IIIII)I"⟩
abbrev cX5_canShow : ByteArray := prog_7_method_27_code
def yX5_canShow : MethodName := ⟨RX5, "canShow", "(II)Z"⟩
abbrev cX5_whyNotShown : ByteArray := prog_7_method_28_code
def yX5_whyNotShown : MethodName := ⟨RX5, "whyNotShown", "(III)I"⟩
abbrev cX5_show : ByteArray := prog_7_method_29_code
def yX5_show : MethodName := ⟨RX5, "show", "(III)I"⟩
abbrev cX5_drop : ByteArray := prog_7_method_30_code
def yX5_drop : MethodName := ⟨RX5, "drop", "(II)I"⟩
abbrev cX5_canBe : ByteArray := prog_7_method_31_code
def yX5_canBe : MethodName := ⟨RX5, "canBe", "(II)Z"⟩
abbrev cX5_exchange : ByteArray := prog_7_method_32_code
def yX5_exchange : MethodName := ⟨RX5, "exchange", "(IIII)I"⟩
abbrev cX5_let : ByteArray := prog_7_method_33_code
def yX5_let : MethodName := ⟨RX5, "let", "(II)I"⟩
abbrev cX5_at : ByteArray := prog_7_method_34_code
def yX5_at : MethodName := ⟨RX5, "at", "(III)I"⟩
abbrev cX5_peopleOf : ByteArray := prog_7_method_35_code
def yX5_peopleOf : MethodName := ⟨RX5, "peopleOf", "(I)I"⟩
abbrev cX5_firstShow : ByteArray := prog_7_method_36_code
def yX5_firstShow : MethodName := ⟨RX5, "firstShow", "(I)I"⟩
abbrev cX5_of : ByteArray := prog_7_method_37_code
def yX5_of : MethodName := ⟨RX5, "of", "(II)I"⟩
abbrev cX5_inWeek : ByteArray := prog_7_method_38_code
def yX5_inWeek : MethodName := ⟨RX5, "inWeek", "(III)I"⟩
abbrev cX5_week : ByteArray := prog_7_method_39_code
def yX5_week : MethodName := ⟨RX5, "week", "(II)I"⟩
abbrev cX5_distributor : ByteArray := prog_7_method_40_code
def yX5_distributor : MethodName := ⟨RX5, "distributor", "(II)I"⟩
abbrev cX5_rent : ByteArray := prog_7_method_41_code
def yX5_rent : MethodName := ⟨RX5, "rent", "(I)I"⟩
abbrev cX5_fullShows : ByteArray := prog_7_method_42_code
def yX5_fullShows : MethodName := ⟨RX5, "fullShows", "()I"⟩
abbrev cX5_count : ByteArray := prog_7_method_43_code
def yX5_count : MethodName := ⟨RX5, "count", "(I)I"⟩
abbrev cX5_moreWith : ByteArray := prog_7_method_44_code
def yX5_moreWith : MethodName := ⟨RX5, "moreWith", "(II)I"⟩
abbrev cX5_ifShown : ByteArray := prog_7_method_45_code
def yX5_ifShown : MethodName := ⟨RX5, "ifShown", "(III)I"⟩
abbrev cX5_bestFilm : ByteArray := prog_7_method_46_code
def yX5_bestFilm : MethodName := ⟨RX5, "bestFilm", "(III)I"⟩
abbrev cX5_worstShow : ByteArray := prog_7_method_47_code
def yX5_worstShow : MethodName := ⟨RX5, "worstShow", "(I)I"⟩
abbrev cX5_priceFor : ByteArray := prog_7_method_48_code
def yX5_priceFor : MethodName := ⟨RX5, "priceFor", "(III)I"⟩
abbrev cX5_put : ByteArray := prog_7_method_49_code
def yX5_put : MethodName := ⟨RX5, "put", "(J)I"⟩
abbrev cX5_wipe : ByteArray := prog_7_method_50_code
def yX5_wipe : MethodName := ⟨RX5, "wipe", "()I"⟩
abbrev cX5_character : ByteArray := prog_7_method_51_code
def yX5_character : MethodName := ⟨RX5, "character", "(I)I"⟩
abbrev cX5_takeDigit : ByteArray := prog_7_method_52_code
def yX5_takeDigit : MethodName := ⟨RX5, "takeDigit", "(I)I"⟩
abbrev cX5_takePart : ByteArray := prog_7_method_53_code
def yX5_takePart : MethodName := ⟨RX5, "takePart", "()I"⟩
abbrev cX5_takeDay : ByteArray := prog_7_method_54_code
def yX5_takeDay : MethodName := ⟨RX5, "takeDay", "()I"⟩
abbrev cX5_readsShow : ByteArray := prog_7_method_55_code
def yX5_readsShow : MethodName := ⟨RX5, "readsShow", "()Z"⟩
abbrev cX5_isNext : ByteArray := prog_7_method_56_code
def yX5_isNext : MethodName := ⟨RX5, "isNext", "()Z"⟩
abbrev cX5_findFault : ByteArray := prog_7_method_57_code
def yX5_findFault : MethodName := ⟨RX5, "findFault", "()I"⟩
abbrev cX5_fault : ByteArray := prog_7_method_58_code
def yX5_fault : MethodName := ⟨RX5, "fault", "()I"⟩
abbrev cX5_carryOut : ByteArray := prog_7_method_59_code
def yX5_carryOut : MethodName := ⟨RX5, "carryOut", "()I"⟩
abbrev cX5_undo : ByteArray := prog_7_method_60_code
def yX5_undo : MethodName := ⟨RX5, "undo", "()I"⟩
abbrev cX5_showsMany : ByteArray := prog_7_method_61_code
def yX5_showsMany : MethodName := ⟨RX5, "showsMany", "()I"⟩
abbrev cX5_save : ByteArray := prog_7_method_62_code
def yX5_save : MethodName := ⟨RX5, "save", "(I)I"⟩
abbrev cX5_restore : ByteArray := prog_7_method_63_code
def yX5_restore : MethodName := ⟨RX5, "restore", "(I)I"⟩
def RJ9 : String := "java/lang/Math"
def TJ9 : u_T := fun k => match k with
  | _ => ("", "", "", false)
def tyJ9 : Nat → FieldType := fun k => match k with
  | _ => .int
abbrev wsJ90 : List Cond := u_ws RJ9 TJ9 0
theorem nmJ9 : ∀ a, a < 0 → ∀ b, b < 0 → a ≠ b → (TJ9 a).2.1 ≠ (TJ9 b).2.1 := by decide +kernel
theorem tyJ9_ok : ∀ k, k < 0 → parseFieldDescriptor (TJ9 k).2.2.1 = some (tyJ9 k) := by decide +kernel
abbrev cJ9_max_7cf53 : ByteArray := prog_8_method_65_code
def yJ9_max_7cf53 : MethodName := ⟨RJ9, "max", "(II)I"⟩
abbrev cJ9_min_7cf53 : ByteArray := prog_8_method_69_code
def yJ9_min_7cf53 : MethodName := ⟨RJ9, "min", "(II)I"⟩
def RJ10 : String := "java/lang/System"
def TJ10 : u_T := fun k => match k with
  | _ => ("", "", "", false)
def tyJ10 : Nat → FieldType := fun k => match k with
  | _ => .int
abbrev wsJ100 : List Cond := u_ws RJ10 TJ10 0
theorem nmJ10 : ∀ a, a < 0 → ∀ b, b < 0 → a ≠ b → (TJ10 a).2.1 ≠ (TJ10 b).2.1 := by decide +kernel
theorem tyJ10_ok : ∀ k, k < 0 → parseFieldDescriptor (TJ10 k).2.2.1 = some (tyJ10 k) := by decide +kernel
def RL : String := "VillageCinemaLaw"
abbrev cL_law : ByteArray := code
def yL_law : MethodName := ⟨RL, "law", "([I)Z"⟩
abbrev vwCl : List vw_C := [(RX0, TX0, 6), (RX1, TX1, 1), (RX2, TX2, 3), (RX3, TX3, 2), (RX4, TX4, 6), (RX5, TX5, 18)]
end
section
/-! ===== one judgement for a walk whose world is a function of a state of numbers: VV; rows that turn it on ===== -/
abbrev S9 : Type := Nat → Nat → Int32
def st9 (σ : S9) (i : Nat) (g : Nat → Int32) : S9 := fun k => if k = i then g else σ k
theorem st9_s (σ : S9) (i : Nat) (g : Nat → Int32) : st9 σ i g i = g := if_pos rfl
theorem st9_n (σ : S9) {i k : Nat} (g : Nat → Int32) (h : k ≠ i) : st9 σ i g k = σ k := if_neg h
theorem i9_in {i : Int32} {n j : Nat} (hi : i = nI j) (hj : j < n) (hn : n ≤ 100000) : vp_in i n ∧ i.toNatClampNeg = j := by
  subst hi
  exact ⟨vp_in_nI hj (by omega), nI_clamp (by omega)⟩
def v9_world {τ : Type} (D : va_G) (w : τ → va_W) (tys : List (ClassId × FieldType)) (A : Nat → Prop) (u : τ) (t : State) : Prop := va_P D vwCl (w u) t.heap ∧ va_K D vwCl tys t ∧ va_D A (w u)
def CX (p : Program) (m : MethodId) (c : Code) (cc : ByteArray) (nL : Nat) (s : State) (args : Array Value) (Ts : List Cond) (own : String) (A : Nat → Prop) (H0 : Heap) : Prop := CallFix p m c cc nL s args Ts own ∧ ∀ q : Nat, H0.size ≤ q → A q
def CMi {τ : Type} (l : Launch) (w : τ → va_W) (D : va_G) (tys : List (ClassId × FieldType)) (y : MethodName) (ws : List Cond) (rm : Room) (As : List Value) (σ : τ) (post : Int32 → τ → Prop) : Prop :=
  ∀ sz : Nat, Met l y ws rm (va_Pc As (fun U => U.heap.size = sz ∧ v9_world D w tys (fun _ => True) σ U)) (va_Qi post (v9_world D w tys (va_A (w σ) sz)) (va_A (w σ) sz)) 0 0 (va_A (w σ) sz)
def CMv {τ : Type} (l : Launch) (w : τ → va_W) (D : va_G) (tys : List (ClassId × FieldType)) (y : MethodName) (ws : List Cond) (rm : Room) (As : List Value) (σ : τ) (post : τ → Prop) : Prop :=
  ∀ sz : Nat, Met l y ws rm (va_Pc As (fun U => U.heap.size = sz ∧ v9_world D w tys (fun _ => True) σ U)) (va_Qv post (v9_world D w tys (va_A (w σ) sz)) (va_A (w σ) sz)) 0 0 (va_A (w σ) sz)
def CPi (l : Launch) (y : MethodName) (ws : List Cond) (rm : Room) (As : List Value) (post : Int32 → Prop) : Prop :=
  ∀ sz : Nat, Met l y ws rm (va_Pc As (fun U => U.heap.size = sz)) (va_Qi (fun r (_ : Unit) => post r) (fun _ _ => True) (va_A [] sz)) 0 0 (va_A [] sz)
theorem v9_blind {τ : Type} {D : va_G} {w : τ → va_W} {tys : List (ClassId × FieldType)} {As : List Value} {σ : τ} {sz : Nat} : FrameBlind (va_Pc As (fun U => U.heap.size = sz ∧ v9_world D w tys (fun _ => True) σ U)) := fun a U g mk q => by
  obtain ⟨q0, q1, qP, qK, qD⟩ := q
  exact ⟨q0, q1, qP, va_K.moved (u := U) (U := U.calling g mk a) (Vm.Alike.refl U.vm) qK, qD⟩
theorem v9_blindP {As : List Value} {sz : Nat} : FrameBlind (va_Pc As (fun U => U.heap.size = sz)) := fun a U g mk q => q
section V9
variable {p : Program} {l : Launch} {e : Env} {R : Room} {s : State} {m : MethodId} {args : Array Value} {below : List Frame} {meth : Method} {c : Code} {cells slots : Nat} {Q : State → Prop}
variable {τ : Type} {w : τ → va_W} {D : va_G} {A : Nat → Prop} {H0 : Heap} {nL : Nat} {cc : ByteArray} {Ts : List Cond} {own : String} {tys : List (ClassId × FieldType)} {σ : τ} {pc pc' : Nat} {lv lv' : List (Nat × Value)} {st rest : List Value}
def VV (p : Program) (l : Launch) (e : Env) (R : Room) (s : State) (m : MethodId) (args : Array Value) (below : List Frame) (meth : Method) (c : Code) (cells slots : Nat) (Q : State → Prop) {τ : Type} (w : τ → va_W) (D : va_G) (A : Nat → Prop) (H0 : Heap) (nL : Nat) (σ : τ) (pc : Nat) (lv : List (Nat × Value)) (st : List Value) : Prop :=
  ∀ (H : Heap) (locs : List Loc) (ls : Array Slot), va_P D vwCl (w σ) H → va_D A (w σ) → va_S A H0 H locs → lv_has ls nL lv → W p l e R s m args below meth c H locs cells slots Q (F0 m pc ls st)
theorem v_iload_n (C : CX p m c cc nL s args Ts own A H0) {k : Fin 4} {x : Int32} (hdg : decode cc pc = .ok (.iload_n k, 1)) (hp : pc + 1 = pc') (i j : Nat) (hi : (k : Nat) = i) (hl : lv[j]? = some (i, .int x)) (kk : VV p l e R s m args below meth c cells slots Q w D A H0 nL σ pc' lv (.int x :: st)) : VV p l e R s m args below meth c cells slots Q w D A H0 nL σ pc lv st := by
  subst hp
  exact fun H locs ls hP hD hS h => lv_iload_n C.1.1 C.1.2.1 hdg hi (lv_at h j hl) (kk H locs ls hP hD hS h)
theorem v_iload (C : CX p m c cc nL s args Ts own A H0) {x : Int32} {i : Nat} (hdg : decode cc pc = .ok (.iload i, 2)) (hp : pc + 2 = pc') (j : Nat) (hl : lv[j]? = some (i, .int x)) (kk : VV p l e R s m args below meth c cells slots Q w D A H0 nL σ pc' lv (.int x :: st)) : VV p l e R s m args below meth c cells slots Q w D A H0 nL σ pc lv st := by
  subst hp
  exact fun H locs ls hP hD hS h => lv_iload C.1.1 C.1.2.1 hdg (lv_at h j hl) (kk H locs ls hP hD hS h)
theorem v_lload_n (C : CX p m c cc nL s args Ts own A H0) {k : Fin 4} {x : Int64} (hdg : decode cc pc = .ok (.lload_n k, 1)) (hp : pc + 1 = pc') (i j : Nat) (hi : (k : Nat) = i) (hl : lv[j]? = some (i, .long x)) (kk : VV p l e R s m args below meth c cells slots Q w D A H0 nL σ pc' lv (.long x :: st)) : VV p l e R s m args below meth c cells slots Q w D A H0 nL σ pc lv st := by
  subst hp
  exact fun H locs ls hP hD hS h => lv_lload_n C.1.1 C.1.2.1 hdg hi (lv_at h j hl) (kk H locs ls hP hD hS h)
theorem v_lload (C : CX p m c cc nL s args Ts own A H0) {x : Int64} {i : Nat} (hdg : decode cc pc = .ok (.lload i, 2)) (hp : pc + 2 = pc') (j : Nat) (hl : lv[j]? = some (i, .long x)) (kk : VV p l e R s m args below meth c cells slots Q w D A H0 nL σ pc' lv (.long x :: st)) : VV p l e R s m args below meth c cells slots Q w D A H0 nL σ pc lv st := by
  subst hp
  exact fun H locs ls hP hD hS h => lv_lload C.1.1 C.1.2.1 hdg (lv_at h j hl) (kk H locs ls hP hD hS h)
theorem v_aload_n (C : CX p m c cc nL s args Ts own A H0) {k : Fin 4} {x : Nat} (hdg : decode cc pc = .ok (.aload_n k, 1)) (hp : pc + 1 = pc') (i j : Nat) (hi : (k : Nat) = i) (hl : lv[j]? = some (i, .ref x)) (kk : VV p l e R s m args below meth c cells slots Q w D A H0 nL σ pc' lv (.ref x :: st)) : VV p l e R s m args below meth c cells slots Q w D A H0 nL σ pc lv st := by
  subst hp
  exact fun H locs ls hP hD hS h => lv_aload_n C.1.1 C.1.2.1 hdg hi (lv_at h j hl) (kk H locs ls hP hD hS h)
theorem v_aload (C : CX p m c cc nL s args Ts own A H0) {x : Nat} {i : Nat} (hdg : decode cc pc = .ok (.aload i, 2)) (hp : pc + 2 = pc') (j : Nat) (hl : lv[j]? = some (i, .ref x)) (kk : VV p l e R s m args below meth c cells slots Q w D A H0 nL σ pc' lv (.ref x :: st)) : VV p l e R s m args below meth c cells slots Q w D A H0 nL σ pc lv st := by
  subst hp
  exact fun H locs ls hP hD hS h => lv_aload C.1.1 C.1.2.1 hdg (lv_at h j hl) (kk H locs ls hP hD hS h)
theorem v_istore_n (C : CX p m c cc nL s args Ts own A H0) {k : Fin 4} {x : Int32} (hdg : decode cc pc = .ok (.istore_n k, 1)) (hp : pc + 1 = pc') (i : Nat) (hi : (k : Nat) = i) (hn : i < nL) (hl : (i, Value.int x) :: lv.filter (fun q => !(q.1 == i) && !(q.1 + 1 == i && q.2.category == 2)) = lv') (kk : VV p l e R s m args below meth c cells slots Q w D A H0 nL σ pc' lv' st) : VV p l e R s m args below meth c cells slots Q w D A H0 nL σ pc lv (.int x :: st) := by
  subst hp
  exact fun H locs ls hP hD hS h => lv_istore_n C.1.1 C.1.2.1 hdg hi h hn hl (fun ls h => kk H locs ls hP hD hS h)
theorem v_istore (C : CX p m c cc nL s args Ts own A H0) {x : Int32} {i : Nat} (hdg : decode cc pc = .ok (.istore i, 2)) (hp : pc + 2 = pc') (hn : i < nL) (hl : (i, Value.int x) :: lv.filter (fun q => !(q.1 == i) && !(q.1 + 1 == i && q.2.category == 2)) = lv') (kk : VV p l e R s m args below meth c cells slots Q w D A H0 nL σ pc' lv' st) : VV p l e R s m args below meth c cells slots Q w D A H0 nL σ pc lv (.int x :: st) := by
  subst hp
  exact fun H locs ls hP hD hS h => lv_istore C.1.1 C.1.2.1 hdg h hn hl (fun ls h => kk H locs ls hP hD hS h)
theorem v_lstore_n (C : CX p m c cc nL s args Ts own A H0) {k : Fin 4} {x : Int64} (hdg : decode cc pc = .ok (.lstore_n k, 1)) (hp : pc + 1 = pc') (i : Nat) (hi : (k : Nat) = i) (hn : i + 1 < nL) (hl : (i, Value.long x) :: lv.filter (fun q => !(q.1 == i) && (!(q.1 == i + 1) && !(q.1 + 1 == i && q.2.category == 2))) = lv') (kk : VV p l e R s m args below meth c cells slots Q w D A H0 nL σ pc' lv' st) : VV p l e R s m args below meth c cells slots Q w D A H0 nL σ pc lv (.long x :: st) := by
  subst hp
  exact fun H locs ls hP hD hS h => lv_lstore_n C.1.1 C.1.2.1 hdg hi h hn hl (fun ls h => kk H locs ls hP hD hS h)
theorem v_lstore (C : CX p m c cc nL s args Ts own A H0) {x : Int64} {i : Nat} (hdg : decode cc pc = .ok (.lstore i, 2)) (hp : pc + 2 = pc') (hn : i + 1 < nL) (hl : (i, Value.long x) :: lv.filter (fun q => !(q.1 == i) && (!(q.1 == i + 1) && !(q.1 + 1 == i && q.2.category == 2))) = lv') (kk : VV p l e R s m args below meth c cells slots Q w D A H0 nL σ pc' lv' st) : VV p l e R s m args below meth c cells slots Q w D A H0 nL σ pc lv (.long x :: st) := by
  subst hp
  exact fun H locs ls hP hD hS h => lv_lstore C.1.1 C.1.2.1 hdg h hn hl (fun ls h => kk H locs ls hP hD hS h)
theorem v_astore_n (C : CX p m c cc nL s args Ts own A H0) {k : Fin 4} {x : Nat} (hdg : decode cc pc = .ok (.astore_n k, 1)) (hp : pc + 1 = pc') (i : Nat) (hi : (k : Nat) = i) (hn : i < nL) (hl : (i, Value.ref x) :: lv.filter (fun q => !(q.1 == i) && !(q.1 + 1 == i && q.2.category == 2)) = lv') (kk : VV p l e R s m args below meth c cells slots Q w D A H0 nL σ pc' lv' st) : VV p l e R s m args below meth c cells slots Q w D A H0 nL σ pc lv (.ref x :: st) := by
  subst hp
  exact fun H locs ls hP hD hS h => lv_astore_n C.1.1 C.1.2.1 hdg hi h hn hl (fun ls h => kk H locs ls hP hD hS h)
theorem v_astore (C : CX p m c cc nL s args Ts own A H0) {x : Nat} {i : Nat} (hdg : decode cc pc = .ok (.astore i, 2)) (hp : pc + 2 = pc') (hn : i < nL) (hl : (i, Value.ref x) :: lv.filter (fun q => !(q.1 == i) && !(q.1 + 1 == i && q.2.category == 2)) = lv') (kk : VV p l e R s m args below meth c cells slots Q w D A H0 nL σ pc' lv' st) : VV p l e R s m args below meth c cells slots Q w D A H0 nL σ pc lv (.ref x :: st) := by
  subst hp
  exact fun H locs ls hP hD hS h => lv_astore C.1.1 C.1.2.1 hdg h hn hl (fun ls h => kk H locs ls hP hD hS h)
theorem v_iinc (C : CX p m c cc nL s args Ts own A H0) {n : Int} {x v : Int32} {i : Nat} (hdg : decode cc pc = .ok (.iinc i n, 3)) (hp : pc + 3 = pc') (j : Nat) (hj : lv[j]? = some (i, .int x)) (hv : x + Int32.ofInt n = v) (hn : i < nL) (hl : (i, Value.int v) :: lv.filter (fun q => !(q.1 == i) && !(q.1 + 1 == i && q.2.category == 2)) = lv') (kk : VV p l e R s m args below meth c cells slots Q w D A H0 nL σ pc' lv' st) : VV p l e R s m args below meth c cells slots Q w D A H0 nL σ pc lv st := by
  subst hp
  exact fun H locs ls hP hD hS h => lv_iinc C.1.1 C.1.2.1 hdg h hj hv hn hl (fun ls h => kk H locs ls hP hD hS h)
theorem v_iconst (C : CX p m c cc nL s args Ts own A H0) {n : Int} {v : Int32} (hdg : decode cc pc = .ok (.iconst n, 1)) (hp : pc + 1 = pc') (hv : Int32.ofInt n = v) (kk : VV p l e R s m args below meth c cells slots Q w D A H0 nL σ pc' lv (.int v :: st)) : VV p l e R s m args below meth c cells slots Q w D A H0 nL σ pc lv st := by
  subst hp
  exact fun H locs ls hP hD hS h => lv_iconst C.1.1 C.1.2.1 hdg hv (kk H locs ls hP hD hS h)
theorem v_bipush (C : CX p m c cc nL s args Ts own A H0) {n : Int} {v : Int32} (hdg : decode cc pc = .ok (.bipush n, 2)) (hp : pc + 2 = pc') (hv : (Int8.ofInt n).toInt32 = v) (kk : VV p l e R s m args below meth c cells slots Q w D A H0 nL σ pc' lv (.int v :: st)) : VV p l e R s m args below meth c cells slots Q w D A H0 nL σ pc lv st := by
  subst hp
  exact fun H locs ls hP hD hS h => lv_bipush C.1.1 C.1.2.1 hdg hv (kk H locs ls hP hD hS h)
theorem v_sipush (C : CX p m c cc nL s args Ts own A H0) {n : Int} {v : Int32} (hdg : decode cc pc = .ok (.sipush n, 3)) (hp : pc + 3 = pc') (hv : (Int16.ofInt n).toInt32 = v) (kk : VV p l e R s m args below meth c cells slots Q w D A H0 nL σ pc' lv (.int v :: st)) : VV p l e R s m args below meth c cells slots Q w D A H0 nL σ pc lv st := by
  subst hp
  exact fun H locs ls hP hD hS h => lv_sipush C.1.1 C.1.2.1 hdg hv (kk H locs ls hP hD hS h)
theorem v_lconst (C : CX p m c cc nL s args Ts own A H0) {n : Fin 2} {v : Int64} (hdg : decode cc pc = .ok (.lconst n, 1)) (hp : pc + 1 = pc') (hv : Int64.ofNat (n : Nat) = v) (kk : VV p l e R s m args below meth c cells slots Q w D A H0 nL σ pc' lv (.long v :: st)) : VV p l e R s m args below meth c cells slots Q w D A H0 nL σ pc lv st := by
  subst hp
  exact fun H locs ls hP hD hS h => lv_lconst C.1.1 C.1.2.1 hdg hv (kk H locs ls hP hD hS h)
theorem v_ldc (C : CX p m c cc nL s args Ts own A H0) {index : Nat} {v : Int32} (hdg : decode cc pc = .ok (.ldc index, 2)) (hp : pc + 2 = pc') (hm : Cond.constant own index v ∈ Ts) (kk : VV p l e R s m args below meth c cells slots Q w D A H0 nL σ pc' lv (.int v :: st)) : VV p l e R s m args below meth c cells slots Q w D A H0 nL σ pc lv st := by
  subst hp
  exact fun H locs ls hP hD hS h => lv_ldc C.1.1 C.1.2.1 C.1.2.2.2.1 (C.1.2.2.2.2 _ hm) hdg (kk H locs ls hP hD hS h)
theorem v_ldc2 (C : CX p m c cc nL s args Ts own A H0) {index : Nat} {v : Int64} (hdg : decode cc pc = .ok (.ldc2_w index, 3)) (hp : pc + 3 = pc') (hm : Cond.constantLong own index v ∈ Ts) (kk : VV p l e R s m args below meth c cells slots Q w D A H0 nL σ pc' lv (.long v :: st)) : VV p l e R s m args below meth c cells slots Q w D A H0 nL σ pc lv st := by
  subst hp
  exact fun H locs ls hP hD hS h => lv_ldc2 C.1.1 C.1.2.1 C.1.2.2.2.1 (C.1.2.2.2.2 _ hm) hdg (kk H locs ls hP hD hS h)
theorem v_iadd (C : CX p m c cc nL s args Ts own A H0) {x y : Int32} (hdg : decode cc pc = .ok (.iadd, 1)) (hp : pc + 1 = pc') (kk : VV p l e R s m args below meth c cells slots Q w D A H0 nL σ pc' lv (.int (x + y) :: st)) : VV p l e R s m args below meth c cells slots Q w D A H0 nL σ pc lv (.int y :: .int x :: st) := by
  subst hp
  exact fun H locs ls hP hD hS h => lv_iadd C.1.1 C.1.2.1 hdg (kk H locs ls hP hD hS h)
theorem v_isub (C : CX p m c cc nL s args Ts own A H0) {x y : Int32} (hdg : decode cc pc = .ok (.isub, 1)) (hp : pc + 1 = pc') (kk : VV p l e R s m args below meth c cells slots Q w D A H0 nL σ pc' lv (.int (x - y) :: st)) : VV p l e R s m args below meth c cells slots Q w D A H0 nL σ pc lv (.int y :: .int x :: st) := by
  subst hp
  exact fun H locs ls hP hD hS h => lv_isub C.1.1 C.1.2.1 hdg (kk H locs ls hP hD hS h)
theorem v_imul (C : CX p m c cc nL s args Ts own A H0) {x y : Int32} (hdg : decode cc pc = .ok (.imul, 1)) (hp : pc + 1 = pc') (kk : VV p l e R s m args below meth c cells slots Q w D A H0 nL σ pc' lv (.int (x * y) :: st)) : VV p l e R s m args below meth c cells slots Q w D A H0 nL σ pc lv (.int y :: .int x :: st) := by
  subst hp
  exact fun H locs ls hP hD hS h => lv_imul C.1.1 C.1.2.1 hdg (kk H locs ls hP hD hS h)
theorem v_iand (C : CX p m c cc nL s args Ts own A H0) {x y : Int32} (hdg : decode cc pc = .ok (.iand, 1)) (hp : pc + 1 = pc') (kk : VV p l e R s m args below meth c cells slots Q w D A H0 nL σ pc' lv (.int (x &&& y) :: st)) : VV p l e R s m args below meth c cells slots Q w D A H0 nL σ pc lv (.int y :: .int x :: st) := by
  subst hp
  exact fun H locs ls hP hD hS h => lv_iand C.1.1 C.1.2.1 hdg (kk H locs ls hP hD hS h)
theorem v_ior (C : CX p m c cc nL s args Ts own A H0) {x y : Int32} (hdg : decode cc pc = .ok (.ior, 1)) (hp : pc + 1 = pc') (kk : VV p l e R s m args below meth c cells slots Q w D A H0 nL σ pc' lv (.int (x ||| y) :: st)) : VV p l e R s m args below meth c cells slots Q w D A H0 nL σ pc lv (.int y :: .int x :: st) := by
  subst hp
  exact fun H locs ls hP hD hS h => lv_ior C.1.1 C.1.2.1 hdg (kk H locs ls hP hD hS h)
theorem v_ixor (C : CX p m c cc nL s args Ts own A H0) {x y : Int32} (hdg : decode cc pc = .ok (.ixor, 1)) (hp : pc + 1 = pc') (kk : VV p l e R s m args below meth c cells slots Q w D A H0 nL σ pc' lv (.int (x ^^^ y) :: st)) : VV p l e R s m args below meth c cells slots Q w D A H0 nL σ pc lv (.int y :: .int x :: st) := by
  subst hp
  exact fun H locs ls hP hD hS h => lv_ixor C.1.1 C.1.2.1 hdg (kk H locs ls hP hD hS h)
theorem v_idiv (C : CX p m c cc nL s args Ts own A H0) {x y : Int32} (hdg : decode cc pc = .ok (.idiv, 1)) (hp : pc + 1 = pc') (hne : ¬ y = 0) (kk : VV p l e R s m args below meth c cells slots Q w D A H0 nL σ pc' lv (.int (x / y) :: st)) : VV p l e R s m args below meth c cells slots Q w D A H0 nL σ pc lv (.int y :: .int x :: st) := by
  subst hp
  exact fun H locs ls hP hD hS h => lv_idiv C.1.1 C.1.2.1 hdg hne (kk H locs ls hP hD hS h)
theorem v_irem (C : CX p m c cc nL s args Ts own A H0) {x y : Int32} (hdg : decode cc pc = .ok (.irem, 1)) (hp : pc + 1 = pc') (hne : ¬ y = 0) (kk : VV p l e R s m args below meth c cells slots Q w D A H0 nL σ pc' lv (.int (x - x / y * y) :: st)) : VV p l e R s m args below meth c cells slots Q w D A H0 nL σ pc lv (.int y :: .int x :: st) := by
  subst hp
  exact fun H locs ls hP hD hS h => lv_irem C.1.1 C.1.2.1 hdg hne (kk H locs ls hP hD hS h)
theorem v_ladd (C : CX p m c cc nL s args Ts own A H0) {x y : Int64} (hdg : decode cc pc = .ok (.ladd, 1)) (hp : pc + 1 = pc') (kk : VV p l e R s m args below meth c cells slots Q w D A H0 nL σ pc' lv (.long (x + y) :: st)) : VV p l e R s m args below meth c cells slots Q w D A H0 nL σ pc lv (.long y :: .long x :: st) := by
  subst hp
  exact fun H locs ls hP hD hS h => lv_ladd C.1.1 C.1.2.1 hdg (kk H locs ls hP hD hS h)
theorem v_land (C : CX p m c cc nL s args Ts own A H0) {x y : Int64} (hdg : decode cc pc = .ok (.land, 1)) (hp : pc + 1 = pc') (kk : VV p l e R s m args below meth c cells slots Q w D A H0 nL σ pc' lv (.long (x &&& y) :: st)) : VV p l e R s m args below meth c cells slots Q w D A H0 nL σ pc lv (.long y :: .long x :: st) := by
  subst hp
  exact fun H locs ls hP hD hS h => lv_land C.1.1 C.1.2.1 hdg (kk H locs ls hP hD hS h)
theorem v_lor (C : CX p m c cc nL s args Ts own A H0) {x y : Int64} (hdg : decode cc pc = .ok (.lor, 1)) (hp : pc + 1 = pc') (kk : VV p l e R s m args below meth c cells slots Q w D A H0 nL σ pc' lv (.long (x ||| y) :: st)) : VV p l e R s m args below meth c cells slots Q w D A H0 nL σ pc lv (.long y :: .long x :: st) := by
  subst hp
  exact fun H locs ls hP hD hS h => lv_lor C.1.1 C.1.2.1 hdg (kk H locs ls hP hD hS h)
theorem v_lshl (C : CX p m c cc nL s args Ts own A H0) {x v : Int64} {y : Int32} (hdg : decode cc pc = .ok (.lshl, 1)) (hp : pc + 1 = pc') (hv : x <<< (y.toInt64 &&& 63) = v) (kk : VV p l e R s m args below meth c cells slots Q w D A H0 nL σ pc' lv (.long v :: st)) : VV p l e R s m args below meth c cells slots Q w D A H0 nL σ pc lv (.int y :: .long x :: st) := by
  subst hp
  exact fun H locs ls hP hD hS h => lv_lshl C.1.1 C.1.2.1 hdg hv (kk H locs ls hP hD hS h)
theorem v_lushr (C : CX p m c cc nL s args Ts own A H0) {x v : Int64} {y : Int32} (hdg : decode cc pc = .ok (.lushr, 1)) (hp : pc + 1 = pc') (hv : (x.toUInt64 >>> (y.toInt64.toUInt64 &&& Int64.toUInt64 63)).toInt64 = v) (kk : VV p l e R s m args below meth c cells slots Q w D A H0 nL σ pc' lv (.long v :: st)) : VV p l e R s m args below meth c cells slots Q w D A H0 nL σ pc lv (.int y :: .long x :: st) := by
  subst hp
  exact fun H locs ls hP hD hS h => lv_lushr C.1.1 C.1.2.1 hdg hv (kk H locs ls hP hD hS h)
theorem v_i2l (C : CX p m c cc nL s args Ts own A H0) {x : Int32} {v : Int64} (hdg : decode cc pc = .ok (.i2l, 1)) (hp : pc + 1 = pc') (hv : x.toInt64 = v) (kk : VV p l e R s m args below meth c cells slots Q w D A H0 nL σ pc' lv (.long v :: st)) : VV p l e R s m args below meth c cells slots Q w D A H0 nL σ pc lv (.int x :: st) := by
  subst hp
  exact fun H locs ls hP hD hS h => lv_i2l C.1.1 C.1.2.1 hdg hv (kk H locs ls hP hD hS h)
theorem v_l2i (C : CX p m c cc nL s args Ts own A H0) {x : Int64} {v : Int32} (hdg : decode cc pc = .ok (.l2i, 1)) (hp : pc + 1 = pc') (hv : x.toInt32 = v) (kk : VV p l e R s m args below meth c cells slots Q w D A H0 nL σ pc' lv (.int v :: st)) : VV p l e R s m args below meth c cells slots Q w D A H0 nL σ pc lv (.long x :: st) := by
  subst hp
  exact fun H locs ls hP hD hS h => lv_l2i C.1.1 C.1.2.1 hdg hv (kk H locs ls hP hD hS h)
theorem v_i2c (C : CX p m c cc nL s args Ts own A H0) {x v : Int32} (hdg : decode cc pc = .ok (.i2c, 1)) (hp : pc + 1 = pc') (hv : (x.toUInt32 % 65536).toInt32 = v) (kk : VV p l e R s m args below meth c cells slots Q w D A H0 nL σ pc' lv (.int v :: st)) : VV p l e R s m args below meth c cells slots Q w D A H0 nL σ pc lv (.int x :: st) := by
  subst hp
  exact fun H locs ls hP hD hS h => lv_i2c C.1.1 C.1.2.1 hdg hv (kk H locs ls hP hD hS h)
theorem v_dup (C : CX p m c cc nL s args Ts own A H0) {va : Value} (hdg : decode cc pc = .ok (.dup, 1)) (hp : pc + 1 = pc') (hva : va.category = 1) (kk : VV p l e R s m args below meth c cells slots Q w D A H0 nL σ pc' lv (va :: va :: st)) : VV p l e R s m args below meth c cells slots Q w D A H0 nL σ pc lv (va :: st) := by
  subst hp
  exact fun H locs ls hP hD hS h => lv_dup C.1.1 C.1.2.1 hdg hva (kk H locs ls hP hD hS h)
theorem v_pop (C : CX p m c cc nL s args Ts own A H0) {va : Value} (hdg : decode cc pc = .ok (.pop, 1)) (hp : pc + 1 = pc') (hva : va.category = 1) (kk : VV p l e R s m args below meth c cells slots Q w D A H0 nL σ pc' lv (st)) : VV p l e R s m args below meth c cells slots Q w D A H0 nL σ pc lv (va :: st) := by
  subst hp
  exact fun H locs ls hP hD hS h => lv_pop C.1.1 C.1.2.1 hdg hva (kk H locs ls hP hD hS h)
theorem v_dup2 (C : CX p m c cc nL s args Ts own A H0) {va vb : Value} (hdg : decode cc pc = .ok (.dup2, 1)) (hp : pc + 1 = pc') (hva : va.category = 1) (hvb : vb.category = 1) (kk : VV p l e R s m args below meth c cells slots Q w D A H0 nL σ pc' lv (va :: vb :: va :: vb :: st)) : VV p l e R s m args below meth c cells slots Q w D A H0 nL σ pc lv (va :: vb :: st) := by
  subst hp
  exact fun H locs ls hP hD hS h => lv_dup2_11 C.1.1 C.1.2.1 hdg hva hvb (kk H locs ls hP hD hS h)
theorem v_lcmp (C : CX p m c cc nL s args Ts own A H0) {x y : Int64} (hdg : decode cc pc = .ok (.lcmp, 1)) (hp : pc + 1 = pc') (kk : VV p l e R s m args below meth c cells slots Q w D A H0 nL σ pc' lv (.int (lg_cmp x y) :: st)) : VV p l e R s m args below meth c cells slots Q w D A H0 nL σ pc lv (.long y :: .long x :: st) := by
  subst hp
  exact fun H locs ls hP hD hS h => W.lcmp C.1.1 C.1.2.1 hdg (kk H locs ls hP hD hS h)
theorem v_if_eq (C : CX p m c cc nL s args Ts own A H0) {x : Int32} {off : Int} (tgt : Nat) (hdg : decode cc pc = .ok (.ifCond .eq off, 3)) (ht : (pc : Int) + off = (tgt : Int)) (hp : pc + 3 = pc') (kt : x = 0 → VV p l e R s m args below meth c cells slots Q w D A H0 nL σ tgt lv st) (kf : ¬ x = 0 → VV p l e R s m args below meth c cells slots Q w D A H0 nL σ pc' lv st) : VV p l e R s m args below meth c cells slots Q w D A H0 nL σ pc lv (.int x :: st) := by
  subst hp
  exact fun H locs ls hP hD hS h => lv_if_eq C.1.1 C.1.2.1 hdg ht (fun h2 => kt h2 H locs ls hP hD hS h) (fun h2 => kf h2 H locs ls hP hD hS h)
theorem v_icmp_eq (C : CX p m c cc nL s args Ts own A H0) {x y : Int32} {off : Int} (tgt : Nat) (hdg : decode cc pc = .ok (.if_icmp .eq off, 3)) (ht : (pc : Int) + off = (tgt : Int)) (hp : pc + 3 = pc') (kt : x = y → VV p l e R s m args below meth c cells slots Q w D A H0 nL σ tgt lv st) (kf : ¬ x = y → VV p l e R s m args below meth c cells slots Q w D A H0 nL σ pc' lv st) : VV p l e R s m args below meth c cells slots Q w D A H0 nL σ pc lv (.int y :: .int x :: st) := by
  subst hp
  exact fun H locs ls hP hD hS h => lv_icmp_eq C.1.1 C.1.2.1 hdg ht (fun h2 => kt h2 H locs ls hP hD hS h) (fun h2 => kf h2 H locs ls hP hD hS h)
theorem v_if_ne (C : CX p m c cc nL s args Ts own A H0) {x : Int32} {off : Int} (tgt : Nat) (hdg : decode cc pc = .ok (.ifCond .ne off, 3)) (ht : (pc : Int) + off = (tgt : Int)) (hp : pc + 3 = pc') (kt : ¬ x = 0 → VV p l e R s m args below meth c cells slots Q w D A H0 nL σ tgt lv st) (kf : x = 0 → VV p l e R s m args below meth c cells slots Q w D A H0 nL σ pc' lv st) : VV p l e R s m args below meth c cells slots Q w D A H0 nL σ pc lv (.int x :: st) := by
  subst hp
  exact fun H locs ls hP hD hS h => lv_if_ne C.1.1 C.1.2.1 hdg ht (fun h2 => kt h2 H locs ls hP hD hS h) (fun h2 => kf h2 H locs ls hP hD hS h)
theorem v_icmp_ne (C : CX p m c cc nL s args Ts own A H0) {x y : Int32} {off : Int} (tgt : Nat) (hdg : decode cc pc = .ok (.if_icmp .ne off, 3)) (ht : (pc : Int) + off = (tgt : Int)) (hp : pc + 3 = pc') (kt : ¬ x = y → VV p l e R s m args below meth c cells slots Q w D A H0 nL σ tgt lv st) (kf : x = y → VV p l e R s m args below meth c cells slots Q w D A H0 nL σ pc' lv st) : VV p l e R s m args below meth c cells slots Q w D A H0 nL σ pc lv (.int y :: .int x :: st) := by
  subst hp
  exact fun H locs ls hP hD hS h => lv_icmp_ne C.1.1 C.1.2.1 hdg ht (fun h2 => kt h2 H locs ls hP hD hS h) (fun h2 => kf h2 H locs ls hP hD hS h)
theorem v_if_lt (C : CX p m c cc nL s args Ts own A H0) {x : Int32} {off : Int} (tgt : Nat) (hdg : decode cc pc = .ok (.ifCond .lt off, 3)) (ht : (pc : Int) + off = (tgt : Int)) (hp : pc + 3 = pc') (kt : x < 0 → VV p l e R s m args below meth c cells slots Q w D A H0 nL σ tgt lv st) (kf : ¬ x < 0 → VV p l e R s m args below meth c cells slots Q w D A H0 nL σ pc' lv st) : VV p l e R s m args below meth c cells slots Q w D A H0 nL σ pc lv (.int x :: st) := by
  subst hp
  exact fun H locs ls hP hD hS h => lv_if_lt C.1.1 C.1.2.1 hdg ht (fun h2 => kt h2 H locs ls hP hD hS h) (fun h2 => kf h2 H locs ls hP hD hS h)
theorem v_icmp_lt (C : CX p m c cc nL s args Ts own A H0) {x y : Int32} {off : Int} (tgt : Nat) (hdg : decode cc pc = .ok (.if_icmp .lt off, 3)) (ht : (pc : Int) + off = (tgt : Int)) (hp : pc + 3 = pc') (kt : x < y → VV p l e R s m args below meth c cells slots Q w D A H0 nL σ tgt lv st) (kf : ¬ x < y → VV p l e R s m args below meth c cells slots Q w D A H0 nL σ pc' lv st) : VV p l e R s m args below meth c cells slots Q w D A H0 nL σ pc lv (.int y :: .int x :: st) := by
  subst hp
  exact fun H locs ls hP hD hS h => lv_icmp_lt C.1.1 C.1.2.1 hdg ht (fun h2 => kt h2 H locs ls hP hD hS h) (fun h2 => kf h2 H locs ls hP hD hS h)
theorem v_if_ge (C : CX p m c cc nL s args Ts own A H0) {x : Int32} {off : Int} (tgt : Nat) (hdg : decode cc pc = .ok (.ifCond .ge off, 3)) (ht : (pc : Int) + off = (tgt : Int)) (hp : pc + 3 = pc') (kt : 0 ≤ x → VV p l e R s m args below meth c cells slots Q w D A H0 nL σ tgt lv st) (kf : ¬ 0 ≤ x → VV p l e R s m args below meth c cells slots Q w D A H0 nL σ pc' lv st) : VV p l e R s m args below meth c cells slots Q w D A H0 nL σ pc lv (.int x :: st) := by
  subst hp
  exact fun H locs ls hP hD hS h => lv_if_ge C.1.1 C.1.2.1 hdg ht (fun h2 => kt h2 H locs ls hP hD hS h) (fun h2 => kf h2 H locs ls hP hD hS h)
theorem v_icmp_ge (C : CX p m c cc nL s args Ts own A H0) {x y : Int32} {off : Int} (tgt : Nat) (hdg : decode cc pc = .ok (.if_icmp .ge off, 3)) (ht : (pc : Int) + off = (tgt : Int)) (hp : pc + 3 = pc') (kt : y ≤ x → VV p l e R s m args below meth c cells slots Q w D A H0 nL σ tgt lv st) (kf : ¬ y ≤ x → VV p l e R s m args below meth c cells slots Q w D A H0 nL σ pc' lv st) : VV p l e R s m args below meth c cells slots Q w D A H0 nL σ pc lv (.int y :: .int x :: st) := by
  subst hp
  exact fun H locs ls hP hD hS h => lv_icmp_ge C.1.1 C.1.2.1 hdg ht (fun h2 => kt h2 H locs ls hP hD hS h) (fun h2 => kf h2 H locs ls hP hD hS h)
theorem v_if_gt (C : CX p m c cc nL s args Ts own A H0) {x : Int32} {off : Int} (tgt : Nat) (hdg : decode cc pc = .ok (.ifCond .gt off, 3)) (ht : (pc : Int) + off = (tgt : Int)) (hp : pc + 3 = pc') (kt : 0 < x → VV p l e R s m args below meth c cells slots Q w D A H0 nL σ tgt lv st) (kf : ¬ 0 < x → VV p l e R s m args below meth c cells slots Q w D A H0 nL σ pc' lv st) : VV p l e R s m args below meth c cells slots Q w D A H0 nL σ pc lv (.int x :: st) := by
  subst hp
  exact fun H locs ls hP hD hS h => lv_if_gt C.1.1 C.1.2.1 hdg ht (fun h2 => kt h2 H locs ls hP hD hS h) (fun h2 => kf h2 H locs ls hP hD hS h)
theorem v_icmp_gt (C : CX p m c cc nL s args Ts own A H0) {x y : Int32} {off : Int} (tgt : Nat) (hdg : decode cc pc = .ok (.if_icmp .gt off, 3)) (ht : (pc : Int) + off = (tgt : Int)) (hp : pc + 3 = pc') (kt : y < x → VV p l e R s m args below meth c cells slots Q w D A H0 nL σ tgt lv st) (kf : ¬ y < x → VV p l e R s m args below meth c cells slots Q w D A H0 nL σ pc' lv st) : VV p l e R s m args below meth c cells slots Q w D A H0 nL σ pc lv (.int y :: .int x :: st) := by
  subst hp
  exact fun H locs ls hP hD hS h => lv_icmp_gt C.1.1 C.1.2.1 hdg ht (fun h2 => kt h2 H locs ls hP hD hS h) (fun h2 => kf h2 H locs ls hP hD hS h)
theorem v_if_le (C : CX p m c cc nL s args Ts own A H0) {x : Int32} {off : Int} (tgt : Nat) (hdg : decode cc pc = .ok (.ifCond .le off, 3)) (ht : (pc : Int) + off = (tgt : Int)) (hp : pc + 3 = pc') (kt : x ≤ 0 → VV p l e R s m args below meth c cells slots Q w D A H0 nL σ tgt lv st) (kf : ¬ x ≤ 0 → VV p l e R s m args below meth c cells slots Q w D A H0 nL σ pc' lv st) : VV p l e R s m args below meth c cells slots Q w D A H0 nL σ pc lv (.int x :: st) := by
  subst hp
  exact fun H locs ls hP hD hS h => lv_if_le C.1.1 C.1.2.1 hdg ht (fun h2 => kt h2 H locs ls hP hD hS h) (fun h2 => kf h2 H locs ls hP hD hS h)
theorem v_icmp_le (C : CX p m c cc nL s args Ts own A H0) {x y : Int32} {off : Int} (tgt : Nat) (hdg : decode cc pc = .ok (.if_icmp .le off, 3)) (ht : (pc : Int) + off = (tgt : Int)) (hp : pc + 3 = pc') (kt : x ≤ y → VV p l e R s m args below meth c cells slots Q w D A H0 nL σ tgt lv st) (kf : ¬ x ≤ y → VV p l e R s m args below meth c cells slots Q w D A H0 nL σ pc' lv st) : VV p l e R s m args below meth c cells slots Q w D A H0 nL σ pc lv (.int y :: .int x :: st) := by
  subst hp
  exact fun H locs ls hP hD hS h => lv_icmp_le C.1.1 C.1.2.1 hdg ht (fun h2 => kt h2 H locs ls hP hD hS h) (fun h2 => kf h2 H locs ls hP hD hS h)
theorem v_goto (C : CX p m c cc nL s args Ts own A H0) {off : Int} (tgt : Nat) (hdg : decode cc pc = .ok (.goto off, 3)) (ht : (pc : Int) + off = (tgt : Int)) (kk : VV p l e R s m args below meth c cells slots Q w D A H0 nL σ tgt lv st) : VV p l e R s m args below meth c cells slots Q w D A H0 nL σ pc lv st := fun H locs ls hP hD hS h => lv_goto C.1.1 C.1.2.1 hdg ht (kk H locs ls hP hD hS h)
theorem v_tableOut (C : CX p m c cc nL s args Ts own A H0) {dflt lo hi : Int} {offs : Array Int} {len : Nat} {x : Int32} (tgt : Nat) (hdg : decode cc pc = .ok (.tableswitch dflt lo hi offs, len)) (h1 : x.toInt < lo ∨ hi < x.toInt) (ht : (pc : Int) + dflt = (tgt : Int)) (kk : VV p l e R s m args below meth c cells slots Q w D A H0 nL σ tgt lv st) : VV p l e R s m args below meth c cells slots Q w D A H0 nL σ pc lv (.int x :: st) := fun H locs ls hP hD hS h => lv_tableOut C.1.1 C.1.2.1 hdg h1 ht (kk H locs ls hP hD hS h)
theorem v_tableIn (C : CX p m c cc nL s args Ts own A H0) {dflt lo hi : Int} {offs : Array Int} {len : Nat} {x : Int32} {off : Int} (tgt : Nat) (hdg : decode cc pc = .ok (.tableswitch dflt lo hi offs, len)) (h1 : ¬ x.toInt < lo) (h2 : ¬ hi < x.toInt) (ho : offs[(x.toInt - lo).toNat]? = some off) (ht : (pc : Int) + off = (tgt : Int)) (kk : VV p l e R s m args below meth c cells slots Q w D A H0 nL σ tgt lv st) : VV p l e R s m args below meth c cells slots Q w D A H0 nL σ pc lv (.int x :: st) := fun H locs ls hP hD hS h => lv_tableIn C.1.1 C.1.2.1 hdg h1 h2 ho ht (kk H locs ls hP hD hS h)
theorem v_lookup (C : CX p m c cc nL s args Ts own A H0) {dflt : Int} {ps : Array (Int × Int)} {len : Nat} {x : Int32} {off : Int} (tgt : Nat) (hdg : decode cc pc = .ok (.lookupswitch dflt ps, len)) (hp : (ps.toList.zip (ps.toList.drop 1)).all (fun (a, next) => a.1 < next.1) = true) (ho : Op.lookupswitch.offset ps.toList dflt x.toInt = off) (ht : (pc : Int) + off = (tgt : Int)) (kk : VV p l e R s m args below meth c cells slots Q w D A H0 nL σ tgt lv st) : VV p l e R s m args below meth c cells slots Q w D A H0 nL σ pc lv (.int x :: st) := fun H locs ls hP hD hS h => lv_lookup C.1.1 C.1.2.1 hdg hp ho ht (kk H locs ls hP hD hS h)
theorem v_lv (ks : List Nat) (hl : lv_pick lv ks = lv') (kk : VV p l e R s m args below meth c cells slots Q w D A H0 nL σ pc lv' st) : VV p l e R s m args below meth c cells slots Q w D A H0 nL σ pc lv st := fun H locs ls hP hD hS h => kk H locs ls hP hD hS (lv_sub h ks hl)
theorem v_top {x : Int32} (y : Int32) (hy : x = y) (kk : VV p l e R s m args below meth c cells slots Q w D A H0 nL σ pc lv (.int y :: st)) : VV p l e R s m args below meth c cells slots Q w D A H0 nL σ pc lv (.int x :: st) := by
  subst hy
  exact kk
theorem v_top2 {x z : Int32} (y : Int32) (hy : x = y) (kk : VV p l e R s m args below meth c cells slots Q w D A H0 nL σ pc lv (.int z :: .int y :: st)) : VV p l e R s m args below meth c cells slots Q w D A H0 nL σ pc lv (.int z :: .int x :: st) := by
  subst hy
  exact kk
theorem v_topN {x : Int32} (kk : ∀ y : Int32, y = x → VV p l e R s m args below meth c cells slots Q w D A H0 nL σ pc lv (.int y :: st)) : VV p l e R s m args below meth c cells slots Q w D A H0 nL σ pc lv (.int x :: st) := kk x rfl
theorem v_st {σ1 : τ} (σ2 : τ) (hw : σ1 = σ2) (kk : VV p l e R s m args below meth c cells slots Q w D A H0 nL σ2 pc lv st) : VV p l e R s m args below meth c cells slots Q w D A H0 nL σ1 pc lv st := by
  subst hw
  exact kk
theorem v_w {σ1 : τ} (σ2 : τ) (hw : w σ1 = w σ2) (kk : VV p l e R s m args below meth c cells slots Q w D A H0 nL σ2 pc lv st) : VV p l e R s m args below meth c cells slots Q w D A H0 nL σ1 pc lv st := fun H locs ls hP hD hS h => kk H locs ls (hw ▸ hP) (hw ▸ hD) hS h
theorem v_pc {pc1 : Nat} (pc2 : Nat) (hw : pc1 = pc2) (kk : VV p l e R s m args below meth c cells slots Q w D A H0 nL σ pc2 lv st) : VV p l e R s m args below meth c cells slots Q w D A H0 nL σ pc1 lv st := by
  subst hw
  exact kk
theorem v_get (C : CX p m c cc nL s args Ts own A H0) (K : va_K D vwCl tys s) {Cn : String} {T : u_T} {N ci index a : Nat} {fs : List Value} {v : Value} (hin : ∀ x ∈ u_ws Cn T N, x ∈ Ts) (q0 : Nat) (he : (w σ)[q0]? = some (a, .inr (ci, fs))) (hc : vwCl[ci]? = some (Cn, T, N)) (k : Nat) (hk : k < N) (hlink : Cond.fieldLink own index (T k).1 (T k).2.1 (T k).2.2.1 ∈ Ts) (hv : fs[k]? = some v) (hdg : decode cc pc = .ok (.getfield index, 3)) (hp : pc + 3 = pc') (kk : VV p l e R s m args below meth c cells slots Q w D A H0 nL σ pc' lv (v :: st)) : VV p l e R s m args below meth c cells slots Q w D A H0 nL σ pc lv (.ref a :: st) := by
  subst hp
  exact fun H locs ls hP hD hS h => va_get C.1.1 C.1.2.1 C.1.2.2.2.2 hin C.1.2.2.2.1 K hP q0 he hc k hk (C.1.2.2.2.2 _ hlink) (fun x h9 => h9) hv hdg (kk H locs ls hP hD hS h)
theorem v_put (C : CX p m c cc nL s args Ts own A H0) (K : va_K D vwCl tys s) {Cn : String} {T : u_T} {N ci index a : Nat} {fs : List Value} {v : Value} {ty : FieldType} {ty0 : Nat → FieldType} (σ2 : τ) (hin : ∀ x ∈ u_ws Cn T N, x ∈ Ts) (hty : ∀ k, k < N → parseFieldDescriptor (T k).2.2.1 = some (ty0 k)) (hnm : ∀ a, a < N → ∀ b, b < N → a ≠ b → (T a).2.1 ≠ (T b).2.1) (q0 : Nat) (he : (w σ)[q0]? = some (a, .inr (ci, fs))) (hc : vwCl[ci]? = some (Cn, T, N)) (k : Nat) (hk : k < N) (hlink : Cond.fieldLink own index (T k).1 (T k).2.1 (T k).2.2.1 ∈ Ts) (hfin : (T k).2.2.2 = false) (hd : parseFieldDescriptor (T k).2.2.1 = some ty) (hn : narrow ty v = v) (hfit : fits ty v = true) (hl : k < fs.length) (hw : (w σ).set q0 (a, .inr (ci, fs.set k v)) = w σ2) (hdg : decode cc pc = .ok (.putfield index, 3)) (hp : pc + 3 = pc') (kk : VV p l e R s m args below meth c cells slots Q w D A H0 nL σ2 pc' lv st) : VV p l e R s m args below meth c cells slots Q w D A H0 nL σ pc lv (v :: .ref a :: st) := by
  subst hp
  exact fun H locs ls hP hD hS h => va_put C.1.1 C.1.2.1 C.1.2.2.2.2 hin ty0 hty hnm C.1.2.2.2.1 K hP hD hS q0 he hc k hk (C.1.2.2.2.2 _ hlink) (fun x h9 => h9) hfin hd hn hfit hl hdg (fun H1 locs1 hP1 hD1 hS1 => kk H1 locs1 ls (by rw [← hw]; exact hP1) (by rw [← hw]; exact hD1) hS1 h)
theorem v_iald (C : CX p m c cc nL s args Ts own A H0) (K : va_K D vwCl tys s) {a n : Nat} {f : Nat → Int32} {cA : ClassId} (q0 t0 : Nat) (ha : (w σ)[q0]? = some (a, .inl (cA, n, .inl f))) (ht : tys[t0]? = some (cA, .int)) {i : Int32} (j : Nat) (hi : i = nI j) (hj : j < n) (hn : n ≤ 100000) (hdg : decode cc pc = .ok (.iaload, 1)) (hp : pc + 1 = pc') (kk : VV p l e R s m args below meth c cells slots Q w D A H0 nL σ pc' lv (.int (f j) :: st)) : VV p l e R s m args below meth c cells slots Q w D A H0 nL σ pc lv (.int i :: .ref a :: st) := by
  subst hp
  obtain ⟨g1, g2⟩ := i9_in hi hj hn
  exact fun H locs ls hP hD hS h => va_iald C.1.1 C.1.2.1 K hP q0 t0 ha ht g1 hdg (by rw [g2]; exact kk H locs ls hP hD hS h)
theorem v_cald (C : CX p m c cc nL s args Ts own A H0) (K : va_K D vwCl tys s) {a n : Nat} {f : Nat → Int32} {cA : ClassId} (q0 t0 : Nat) (ha : (w σ)[q0]? = some (a, .inl (cA, n, .inl f))) (ht : tys[t0]? = some (cA, .char)) {i : Int32} (j : Nat) (hi : i = nI j) (hj : j < n) (hn : n ≤ 100000) (hdg : decode cc pc = .ok (.caload, 1)) (hp : pc + 1 = pc') (kk : VV p l e R s m args below meth c cells slots Q w D A H0 nL σ pc' lv (.int (f j) :: st)) : VV p l e R s m args below meth c cells slots Q w D A H0 nL σ pc lv (.int i :: .ref a :: st) := by
  subst hp
  obtain ⟨g1, g2⟩ := i9_in hi hj hn
  exact fun H locs ls hP hD hS h => va_cald C.1.1 C.1.2.1 K hP q0 t0 ha ht g1 hdg (by rw [g2]; exact kk H locs ls hP hD hS h)
theorem v_zald (C : CX p m c cc nL s args Ts own A H0) (K : va_K D vwCl tys s) {a n : Nat} {f : Nat → Int32} {cA : ClassId} (q0 t0 : Nat) (ha : (w σ)[q0]? = some (a, .inl (cA, n, .inl f))) (ht : tys[t0]? = some (cA, .boolean)) {i : Int32} (j : Nat) (hi : i = nI j) (hj : j < n) (hn : n ≤ 100000) (hdg : decode cc pc = .ok (.baload, 1)) (hp : pc + 1 = pc') (kk : VV p l e R s m args below meth c cells slots Q w D A H0 nL σ pc' lv (.int (f j) :: st)) : VV p l e R s m args below meth c cells slots Q w D A H0 nL σ pc lv (.int i :: .ref a :: st) := by
  subst hp
  obtain ⟨g1, g2⟩ := i9_in hi hj hn
  exact fun H locs ls hP hD hS h => va_zald C.1.1 C.1.2.1 K hP q0 t0 ha ht g1 hdg (by rw [g2]; exact kk H locs ls hP hD hS h)
theorem v_iast (C : CX p m c cc nL s args Ts own A H0) (K : va_K D vwCl tys s) {a n : Nat} {f : Nat → Int32} {cA : ClassId} (σ2 : τ) (q0 t0 : Nat) (ha : (w σ)[q0]? = some (a, .inl (cA, n, .inl f))) (ht : tys[t0]? = some (cA, .int)) {i x : Int32} (j : Nat) (hi : i = nI j) (hj : j < n) (hn : n ≤ 100000) (hw : (w σ).set q0 (a, .inl (cA, n, .inl (upd f j x))) = w σ2) (hdg : decode cc pc = .ok (.iastore, 1)) (hp : pc + 1 = pc') (kk : VV p l e R s m args below meth c cells slots Q w D A H0 nL σ2 pc' lv st) : VV p l e R s m args below meth c cells slots Q w D A H0 nL σ pc lv (.int x :: .int i :: .ref a :: st) := by
  subst hp
  obtain ⟨g1, g2⟩ := i9_in hi hj hn
  exact fun H locs ls hP hD hS h => va_iast C.1.1 C.1.2.1 K hP hD hS q0 t0 ha ht g1 hdg (fun H1 locs1 hP1 hD1 hS1 => kk H1 locs1 ls (by rw [← hw, ← g2]; exact hP1) (by rw [← hw, ← g2]; exact hD1) hS1 h)
theorem v_cast (C : CX p m c cc nL s args Ts own A H0) (K : va_K D vwCl tys s) {a n : Nat} {f : Nat → Int32} {cA : ClassId} (σ2 : τ) (q0 t0 : Nat) (ha : (w σ)[q0]? = some (a, .inl (cA, n, .inl f))) (ht : tys[t0]? = some (cA, .char)) {i x : Int32} (j : Nat) (hi : i = nI j) (hj : j < n) (hn : n ≤ 100000) (hw : (w σ).set q0 (a, .inl (cA, n, .inl (upd f j (vp_nar .char x)))) = w σ2) (hdg : decode cc pc = .ok (.castore, 1)) (hp : pc + 1 = pc') (kk : VV p l e R s m args below meth c cells slots Q w D A H0 nL σ2 pc' lv st) : VV p l e R s m args below meth c cells slots Q w D A H0 nL σ pc lv (.int x :: .int i :: .ref a :: st) := by
  subst hp
  obtain ⟨g1, g2⟩ := i9_in hi hj hn
  exact fun H locs ls hP hD hS h => va_cast C.1.1 C.1.2.1 K hP hD hS q0 t0 ha ht g1 hdg (fun H1 locs1 hP1 hD1 hS1 => kk H1 locs1 ls (by rw [← hw, ← g2]; exact hP1) (by rw [← hw, ← g2]; exact hD1) hS1 h)
theorem v_zast (C : CX p m c cc nL s args Ts own A H0) (K : va_K D vwCl tys s) {a n : Nat} {f : Nat → Int32} {cA : ClassId} (σ2 : τ) (q0 t0 : Nat) (ha : (w σ)[q0]? = some (a, .inl (cA, n, .inl f))) (ht : tys[t0]? = some (cA, .boolean)) {i x : Int32} (j : Nat) (hi : i = nI j) (hj : j < n) (hn : n ≤ 100000) (hw : (w σ).set q0 (a, .inl (cA, n, .inl (upd f j (vp_nar .boolean x)))) = w σ2) (hdg : decode cc pc = .ok (.bastore, 1)) (hp : pc + 1 = pc') (kk : VV p l e R s m args below meth c cells slots Q w D A H0 nL σ2 pc' lv st) : VV p l e R s m args below meth c cells slots Q w D A H0 nL σ pc lv (.int x :: .int i :: .ref a :: st) := by
  subst hp
  obtain ⟨g1, g2⟩ := i9_in hi hj hn
  exact fun H locs ls hP hD hS h => va_zast C.1.1 C.1.2.1 K hP hD hS q0 t0 ha ht g1 hdg (fun H1 locs1 hP1 hD1 hS1 => kk H1 locs1 ls (by rw [← hw, ← g2]; exact hP1) (by rw [← hw, ← g2]; exact hD1) hS1 h)
theorem v_aald (C : CX p m c cc nL s args Ts own A H0) (K : va_K D vwCl tys s) {a n b : Nat} {f : Nat → Option Nat} {cA : ClassId} {ty : FieldType} (hty : ty.isReference = true) (q0 t0 : Nat) (ha : (w σ)[q0]? = some (a, .inl (cA, n, .inr (.inr (.inr (.inr f)))))) (ht : tys[t0]? = some (cA, ty)) {i : Int32} (j : Nat) (hi : i = nI j) (hj : j < n) (hn : n ≤ 100000) (hf : f j = some b) (hdg : decode cc pc = .ok (.aaload, 1)) (hp : pc + 1 = pc') (kk : VV p l e R s m args below meth c cells slots Q w D A H0 nL σ pc' lv (.ref b :: st)) : VV p l e R s m args below meth c cells slots Q w D A H0 nL σ pc lv (.int i :: .ref a :: st) := by
  subst hp
  obtain ⟨g1, g2⟩ := i9_in hi hj hn
  intro H locs ls hP hD hS h
  refine W.aald (v := .ref b) (ty := ty) C.1.1 C.1.2.1 (hP q0 _ ha) ((K.2 t0 _ ht).1 n (fun j => va_rf (f j))) hty (fun q => by cases q) (by show ¬ (i < 0 ∨ (arrV _ _ _).slots.size ≤ _); rw [arrV_size]; exact g1) ?_ rfl rfl hdg (kk H locs ls hP hD hS h)
  show (arrV _ _ _).slots[_]? = _
  rw [g2, arrV_read _ _ hj, hf]
  rfl
theorem v_mmax (C : CX p m c cc nL s args Ts own A H0) {index : Nat} {x y : Int32} (h1 : Cond.methodLink own index Lib.Math.max.name ∈ Ts) (h2 : Cond.static Lib.Math.max.name ∈ Ts) (h3 : Cond.initialized "java/lang/Math" ∈ Ts) (h4 : Cond.code Lib.Math.max.name Lib.Math.max.code 2 (some .int) ∈ Ts) (hframes : 1 ≤ R.frames) (hlocals : (st.map fun v => v.category).sum + 13 ≤ R.locals) (hcs : cells ≤ R.cells ∧ slots ≤ R.slots) (hdg : decode cc pc = .ok (.invokestatic index, 3)) (hp : pc + 3 = pc') (kk : VV p l e R s m args below meth c cells slots Q w D A H0 nL σ pc' lv (.int (if x < y then y else x) :: st)) : VV p l e R s m args below meth c cells slots Q w D A H0 nL σ pc lv (.int y :: .int x :: st) := by
  subst hp
  exact fun H locs ls hP hD hS h => va_mmax C.1.1 C.1.2.1 (C.1.2.2.1.trans h.1.symm) C.1.2.2.2.1 (C.1.2.2.2.2 _ h1) (C.1.2.2.2.2 _ h2) (C.1.2.2.2.2 _ h3) (C.1.2.2.2.2 _ h4) hframes hlocals hcs.1 hcs.2 hdg (kk H locs ls hP hD hS h)
theorem v_mmin (C : CX p m c cc nL s args Ts own A H0) {index : Nat} {x y : Int32} (h1 : Cond.methodLink own index Lib.Math.min.name ∈ Ts) (h2 : Cond.static Lib.Math.min.name ∈ Ts) (h3 : Cond.initialized "java/lang/Math" ∈ Ts) (h4 : Cond.code Lib.Math.min.name Lib.Math.min.code 2 (some .int) ∈ Ts) (hframes : 1 ≤ R.frames) (hlocals : (st.map fun v => v.category).sum + 13 ≤ R.locals) (hcs : cells ≤ R.cells ∧ slots ≤ R.slots) (hdg : decode cc pc = .ok (.invokestatic index, 3)) (hp : pc + 3 = pc') (kk : VV p l e R s m args below meth c cells slots Q w D A H0 nL σ pc' lv (.int (if y < x then y else x) :: st)) : VV p l e R s m args below meth c cells slots Q w D A H0 nL σ pc lv (.int y :: .int x :: st) := by
  subst hp
  exact fun H locs ls hP hD hS h => va_mmin C.1.1 C.1.2.1 (C.1.2.2.1.trans h.1.symm) C.1.2.2.2.1 (C.1.2.2.2.2 _ h1) (C.1.2.2.2.2 _ h2) (C.1.2.2.2.2 _ h3) (C.1.2.2.2.2 _ h4) hframes hlocals hcs.1 hcs.2 hdg (kk H locs ls hP hD hS h)
theorem v_copyi (C : CX p m c cc nL s args Ts own A H0) (K : va_K D vwCl tys s) {index : Nat} (h1 : Cond.methodLink own index arraycopyName ∈ Ts) (h2 : Cond.native arraycopyName ∈ Ts) (h3 : Cond.static arraycopyName ∈ Ts) (h4 : Cond.initialized "java/lang/System" ∈ Ts) (σ2 : τ) (q0 q1 t0 t1 : Nat) {a a0 : Nat} {c0 c1 : ClassId} {n0 n1 : Nat} {f g : Nat → Int32} (ha0 : (w σ)[q0]? = some (a0, .inl (c0, n0, .inl f))) (ha1 : (w σ)[q1]? = some (a, .inl (c1, n1, .inl g))) (ht0 : tys[t0]? = some (c0, .int)) (ht1 : tys[t1]? = some (c1, .int)) {sp dp n : Int32} (sj dj nj : Nat) (hs : sp = nI sj) (hd : dp = nI dj) (hn : n = nI nj) (h4' : sj + nj ≤ n0) (h5 : dj + nj ≤ n1) (hb : n0 ≤ 100000 ∧ n1 ≤ 100000) (hframes : 1 ≤ R.frames) (hlocals : (st.map fun v => v.category).sum + (nativeFrameWords "java/lang/System" "arraycopy" 5 + 11) ≤ R.locals) (hw : (w σ).set q1 (a, .inl (c1, n1, .inl (va_cpy f g sj dj nj))) = w σ2) (hdg : decode cc pc = .ok (.invokestatic index, 3)) (hp : pc + 3 = pc') (kk : VV p l e R s m args below meth c cells slots Q w D A H0 nL σ2 pc' lv st) : VV p l e R s m args below meth c cells slots Q w D A H0 nL σ pc lv (.int n :: .int dp :: .ref a :: .int sp :: .ref a0 :: st) := by
  subst hp
  subst hs
  subst hd
  subst hn
  have e1 : (nI sj).toNatClampNeg = sj := nI_clamp (by omega)
  have e2 : (nI dj).toNatClampNeg = dj := nI_clamp (by omega)
  have e3 : (nI nj).toNatClampNeg = nj := nI_clamp (by omega)
  intro H locs ls hP hD hS h
  exact va_copyi C.1.1 C.1.2.1 (C.1.2.2.1.trans h.1.symm) C.1.2.2.2.1 (C.1.2.2.2.2 _ h1) (C.1.2.2.2.2 _ h2) (C.1.2.2.2.2 _ h3) (C.1.2.2.2.2 _ h4) K hP hD hS q0 q1 t0 t1 ha0 ha1 ht0 ht1 rfl (nI_pos (by omega)) (nI_pos (by omega)) (nI_pos (by omega)) (by rw [e1, e3]; exact h4') (by rw [e2, e3]; exact h5) (fun i _ => rfl) hframes hlocals hdg (fun H1 locs1 hP1 hD1 hS1 => kk H1 locs1 ls (by rw [← hw, ← e1, ← e2, ← e3]; simpa only [e1, e2, e3] using hP1) (by rw [← hw, ← e1, ← e2, ← e3]; simpa only [e1, e2, e3] using hD1) hS1 h)
theorem v9_F (C : CX p m c cc nL s args Ts own A H0) {H : Heap} {locs : List Loc} (hD : va_D A (w σ)) (hS : va_S A H0 H locs) : ∀ q, va_A (w σ) H.size q → A q := by
  intro q hq
  rcases hq with ⟨k, e, hk⟩ | hle
  · exact hD.2 k (q, e) hk
  · exact C.2 q (Nat.le_trans hS.1 hle)
theorem v_callVi (C : CX p m c cc nL s args Ts own A H0) (K : va_K D vwCl tys s) {y : MethodName} {ws ws' : List Cond} {rm : Room} {bytes : ByteArray} {maxL n index : Nat} {ret : Option FieldType} {As st0 : List Value} {C' : String} {b ci : Nat} {fs : List Value} {q : vw_C} {post : Int32 → τ → Prop} (hM : CMi l w D tys y ws rm (.ref b :: As) σ post) (hG : GoodIn Ts (wsV own index C' y ws)) (hw : ws = Cond.code y bytes maxL ret :: ws') (hd : y.cls = C' ∧ y.cls ≠ "java/lang/invoke/MethodHandle" ∧ y.cls ≠ "java/lang/invoke/VarHandle" ∧ (parseMethodDescriptor y.desc).map (fun d => d.parameters.length) = some n) (hrm : rm.cells = 0 ∧ rm.slots = 0) (hR : rm.frames + 1 ≤ R.frames ∧ 8 + (maxL + 11) + rm.locals ≤ R.locals) (q0 : Nat) (he : (w σ)[q0]? = some (b, .inr (ci, fs))) (hc : vwCl[ci]? = some q) (hq : q.1 = C') (hst : st0 = As.reverse ++ .ref b :: rest) (hn : As.length = n) (hcat : (rest.map fun v => v.category).sum ≤ 8) (hcs : cells ≤ R.cells ∧ slots ≤ R.slots) (hdg : decode cc pc = .ok (.invokevirtual index, 3)) (hp : pc + 3 = pc') (kk : ∀ (r : Int32) (u : τ), post r u → VV p l e R s m args below meth c cells slots Q w D A H0 nL u pc' lv (.int r :: rest)) : VV p l e R s m args below meth c cells slots Q w D A H0 nL σ pc lv st0 := by
  subst hst
  subst hp
  subst hq
  intro H locs ls hP hD hS h
  have hF := v9_F C hD hS
  refine va_calli (va_runV (As := As) (rest := rest) C.1 (hM H.size) (cwV n C.1.2.2.2.2 hG hw hrm.1 hrm.2 hd hR) ⟨v9_blind, va_recv K hP hc he, fun U hU hW => ⟨rfl, by rw [hU], by rw [hU]; exact hP, va_K.moved hW.alike K, hD.weaken (fun _ _ _ _ => trivial)⟩⟩ rfl hn h.1 rfl (lv_room hcat) hdg hcs) hS (fun q _ h => hF q h) hF (fun r u t H1 locs1 ht hvm hq2 hB hz hk hS1 => ?_)
  obtain ⟨hP1, hK1, hD1⟩ := hB
  rw [ht] at hP1
  exact kk r u hq2 H1 locs1 ls hP1 ⟨hD1.1, fun k q hk => hF q.1 (hD1.2 k q hk)⟩ hS1 h
theorem v_callSi (C : CX p m c cc nL s args Ts own A H0) (K : va_K D vwCl tys s) {y : MethodName} {ws ws' : List Cond} {rm : Room} {bytes : ByteArray} {maxL n index : Nat} {ret : Option FieldType} {As st0 : List Value} {post : Int32 → τ → Prop} (hM : CMi l w D tys y ws rm As σ post) (hG : GoodIn Ts (va_wsS own index y ws)) (hw : ws = Cond.code y bytes maxL ret :: ws') (hd : y.cls ≠ "java/lang/invoke/MethodHandle" ∧ y.cls ≠ "java/lang/invoke/VarHandle" ∧ (parseMethodDescriptor y.desc).map (fun d => d.parameters.length) = some n) (hrm : rm.cells = 0 ∧ rm.slots = 0) (hR : rm.frames + 1 ≤ R.frames ∧ 8 + (maxL + 11) + rm.locals ≤ R.locals) (hst : st0 = As.reverse ++ rest) (hn : As.length = n) (hcat : (rest.map fun v => v.category).sum ≤ 8) (hcs : cells ≤ R.cells ∧ slots ≤ R.slots) (hdg : decode cc pc = .ok (.invokestatic index, 3)) (hp : pc + 3 = pc') (kk : ∀ (r : Int32) (u : τ), post r u → VV p l e R s m args below meth c cells slots Q w D A H0 nL u pc' lv (.int r :: rest)) : VV p l e R s m args below meth c cells slots Q w D A H0 nL σ pc lv st0 := by
  subst hst
  subst hp
  intro H locs ls hP hD hS h
  have hF := v9_F C hD hS
  refine va_calli (va_runS (As := As) (rest := rest) C.1 (hM H.size) (va_cwS n C.1.2.2.2.2 hG hw hrm.1 hrm.2 hd hR) ⟨v9_blind, fun U hU hW => ⟨rfl, by rw [hU], by rw [hU]; exact hP, va_K.moved hW.alike K, hD.weaken (fun _ _ _ _ => trivial)⟩⟩ rfl hn h.1 rfl (lv_room hcat) hdg hcs) hS (fun q _ h => hF q h) hF (fun r u t H1 locs1 ht hvm hq2 hB hz hk hS1 => ?_)
  obtain ⟨hP1, hK1, hD1⟩ := hB
  rw [ht] at hP1
  exact kk r u hq2 H1 locs1 ls hP1 ⟨hD1.1, fun k q hk => hF q.1 (hD1.2 k q hk)⟩ hS1 h
theorem v_callVv (C : CX p m c cc nL s args Ts own A H0) (K : va_K D vwCl tys s) {y : MethodName} {ws ws' : List Cond} {rm : Room} {bytes : ByteArray} {maxL n index : Nat} {ret : Option FieldType} {As st0 : List Value} {C' : String} {b ci : Nat} {fs : List Value} {q : vw_C} {post : τ → Prop} (hM : CMv l w D tys y ws rm (.ref b :: As) σ post) (hG : GoodIn Ts (wsV own index C' y ws)) (hw : ws = Cond.code y bytes maxL ret :: ws') (hd : y.cls = C' ∧ y.cls ≠ "java/lang/invoke/MethodHandle" ∧ y.cls ≠ "java/lang/invoke/VarHandle" ∧ (parseMethodDescriptor y.desc).map (fun d => d.parameters.length) = some n) (hrm : rm.cells = 0 ∧ rm.slots = 0) (hR : rm.frames + 1 ≤ R.frames ∧ 8 + (maxL + 11) + rm.locals ≤ R.locals) (q0 : Nat) (he : (w σ)[q0]? = some (b, .inr (ci, fs))) (hc : vwCl[ci]? = some q) (hq : q.1 = C') (hst : st0 = As.reverse ++ .ref b :: rest) (hn : As.length = n) (hcat : (rest.map fun v => v.category).sum ≤ 8) (hcs : cells ≤ R.cells ∧ slots ≤ R.slots) (hdg : decode cc pc = .ok (.invokevirtual index, 3)) (hp : pc + 3 = pc') (kk : ∀ (u : τ), post u → VV p l e R s m args below meth c cells slots Q w D A H0 nL u pc' lv rest) : VV p l e R s m args below meth c cells slots Q w D A H0 nL σ pc lv st0 := by
  subst hst
  subst hp
  subst hq
  intro H locs ls hP hD hS h
  have hF := v9_F C hD hS
  refine va_callv (va_runV (As := As) (rest := rest) C.1 (hM H.size) (cwV n C.1.2.2.2.2 hG hw hrm.1 hrm.2 hd hR) ⟨v9_blind, va_recv K hP hc he, fun U hU hW => ⟨rfl, by rw [hU], by rw [hU]; exact hP, va_K.moved hW.alike K, hD.weaken (fun _ _ _ _ => trivial)⟩⟩ rfl hn h.1 rfl (lv_room hcat) hdg hcs) hS (fun q _ h => hF q h) hF (fun u t H1 locs1 ht hvm hq2 hB hz hk hS1 => ?_)
  obtain ⟨hP1, hK1, hD1⟩ := hB
  rw [ht] at hP1
  exact kk u hq2 H1 locs1 ls hP1 ⟨hD1.1, fun k q hk => hF q.1 (hD1.2 k q hk)⟩ hS1 h
theorem v_callSv (C : CX p m c cc nL s args Ts own A H0) (K : va_K D vwCl tys s) {y : MethodName} {ws ws' : List Cond} {rm : Room} {bytes : ByteArray} {maxL n index : Nat} {ret : Option FieldType} {As st0 : List Value} {post : τ → Prop} (hM : CMv l w D tys y ws rm As σ post) (hG : GoodIn Ts (va_wsS own index y ws)) (hw : ws = Cond.code y bytes maxL ret :: ws') (hd : y.cls ≠ "java/lang/invoke/MethodHandle" ∧ y.cls ≠ "java/lang/invoke/VarHandle" ∧ (parseMethodDescriptor y.desc).map (fun d => d.parameters.length) = some n) (hrm : rm.cells = 0 ∧ rm.slots = 0) (hR : rm.frames + 1 ≤ R.frames ∧ 8 + (maxL + 11) + rm.locals ≤ R.locals) (hst : st0 = As.reverse ++ rest) (hn : As.length = n) (hcat : (rest.map fun v => v.category).sum ≤ 8) (hcs : cells ≤ R.cells ∧ slots ≤ R.slots) (hdg : decode cc pc = .ok (.invokestatic index, 3)) (hp : pc + 3 = pc') (kk : ∀ (u : τ), post u → VV p l e R s m args below meth c cells slots Q w D A H0 nL u pc' lv rest) : VV p l e R s m args below meth c cells slots Q w D A H0 nL σ pc lv st0 := by
  subst hst
  subst hp
  intro H locs ls hP hD hS h
  have hF := v9_F C hD hS
  refine va_callv (va_runS (As := As) (rest := rest) C.1 (hM H.size) (va_cwS n C.1.2.2.2.2 hG hw hrm.1 hrm.2 hd hR) ⟨v9_blind, fun U hU hW => ⟨rfl, by rw [hU], by rw [hU]; exact hP, va_K.moved hW.alike K, hD.weaken (fun _ _ _ _ => trivial)⟩⟩ rfl hn h.1 rfl (lv_room hcat) hdg hcs) hS (fun q _ h => hF q h) hF (fun u t H1 locs1 ht hvm hq2 hB hz hk hS1 => ?_)
  obtain ⟨hP1, hK1, hD1⟩ := hB
  rw [ht] at hP1
  exact kk u hq2 H1 locs1 ls hP1 ⟨hD1.1, fun k q hk => hF q.1 (hD1.2 k q hk)⟩ hS1 h
theorem v_callSp (C : CX p m c cc nL s args Ts own A H0) {y : MethodName} {ws ws' : List Cond} {rm : Room} {bytes : ByteArray} {maxL n index : Nat} {ret : Option FieldType} {As st0 : List Value} {post : Int32 → Prop} (hM : CPi l y ws rm As post) (hG : GoodIn Ts (va_wsS own index y ws)) (hw : ws = Cond.code y bytes maxL ret :: ws') (hd : y.cls ≠ "java/lang/invoke/MethodHandle" ∧ y.cls ≠ "java/lang/invoke/VarHandle" ∧ (parseMethodDescriptor y.desc).map (fun d => d.parameters.length) = some n) (hrm : rm.cells = 0 ∧ rm.slots = 0) (hR : rm.frames + 1 ≤ R.frames ∧ 8 + (maxL + 11) + rm.locals ≤ R.locals) (hst : st0 = As.reverse ++ rest) (hn : As.length = n) (hcat : (rest.map fun v => v.category).sum ≤ 8) (hcs : cells ≤ R.cells ∧ slots ≤ R.slots) (hdg : decode cc pc = .ok (.invokestatic index, 3)) (hp : pc + 3 = pc') (kk : ∀ (r : Int32), post r → VV p l e R s m args below meth c cells slots Q w D A H0 nL σ pc' lv (.int r :: rest)) : VV p l e R s m args below meth c cells slots Q w D A H0 nL σ pc lv st0 := by
  subst hst
  subst hp
  intro H locs ls hP hD hS h
  have hF : ∀ q, va_A [] H.size q → A q := by
    intro q hq
    rcases hq with ⟨k, e, hk⟩ | hle
    · cases hk
    · exact C.2 q (Nat.le_trans hS.1 hle)
  refine va_calli (va_runS (As := As) (rest := rest) C.1 (hM H.size) (va_cwS n C.1.2.2.2.2 hG hw hrm.1 hrm.2 hd hR) ⟨v9_blindP, fun U hU hW => ⟨rfl, by show U.heap.size = H.size; rw [hU]⟩⟩ rfl hn h.1 rfl (lv_room hcat) hdg hcs) hS (fun q _ h => hF q h) hF (fun r u t H1 locs1 ht hvm hq2 hB hz hk hS1 => ?_)
  refine kk r hq2 H1 locs1 ls (hP.kept (fun k q hq => hk q.1 ((hP k q hq).lt) ?_)) hD hS1 h
  rintro (⟨k2, e, h2⟩ | hle)
  · cases h2
  · have := (hP k q hq).lt
    omega
theorem v_iret (C : CX p m c cc nL s args Ts own A H0) (K : va_K D vwCl tys s) {post : Int32 → τ → Prop} {ty : FieldType} {r : Int32} (hr : meth.sig.returnType = some ty) (hlocks : meth.locks = false) (hn : narrow ty (.int r) = .int r) (hpost : post r σ) (hdg : decode cc pc = .ok (.ireturn, 1)) : VV p l e R s m args below meth c 0 0 (MQ below (va_Qi post (v9_world D w tys A) A) args s 0 0 A) w D A s.heap nL σ pc lv [.int r] :=
  fun H locs ls hP hD hS h => W.zret C.1.1 C.1.2.1 hr hn (fun t ht hW => ⟨⟨r, σ, rfl, hpost, by rw [ht]; exact hP, va_K.moved hW.alike K, hD⟩, hS.F ht⟩) hS.2.2 hdg
theorem v_vret (C : CX p m c cc nL s args Ts own A H0) (K : va_K D vwCl tys s) {post : τ → Prop} (hr : meth.sig.returnType = none) (hlocks : meth.locks = false) (hpost : post σ) (hdg : decode cc pc = .ok (.return_, 1)) : VV p l e R s m args below meth c 0 0 (MQ below (va_Qv post (v9_world D w tys A) A) args s 0 0 A) w D A s.heap nL σ pc lv [] :=
  fun H locs ls hP hD hS h => W.vret C.1.1 C.1.2.1 hr (fun t ht hW => ⟨⟨σ, rfl, hpost, by rw [ht]; exact hP, va_K.moved hW.alike K, hD⟩, hS.F ht⟩) hS.2.2 hdg
theorem v_pret (C : CX p m c cc nL s args Ts own A H0) {post : Int32 → Prop} {ty : FieldType} {r : Int32} (hr : meth.sig.returnType = some ty) (hlocks : meth.locks = false) (hn : narrow ty (.int r) = .int r) (hpost : post r) (hdg : decode cc pc = .ok (.ireturn, 1)) : VV p l e R s m args below meth c 0 0 (MQ below (va_Qi (fun r (_ : Unit) => post r) (fun _ _ => True) A) args s 0 0 A) w D A s.heap nL σ pc lv [.int r] :=
  fun H locs ls hP hD hS h => W.zret C.1.1 C.1.2.1 hr hn (fun t ht hW => ⟨⟨r, (), rfl, hpost, trivial⟩, hS.F ht⟩) hS.2.2 hdg
theorem v_starti {y : MethodName} {ws ws' : List Cond} {rm : Room} {ret : Option FieldType} {As : List Value} {post : Int32 → τ → Prop} (hy : plainName y.cls = true) (hw : ws = Cond.code y cc nL ret :: ws') (hlg : (lg_sl As).length ≤ nL)
    (body : ∀ (p : Program) (e : Env) (s : State) (m : MethodId) (args : Array Value) (below : List Frame) (meth : Method) (c : Code) (A : Nat → Prop), CX p m c cc nL s args ws y.cls A s.heap → va_K D vwCl tys s → meth.sig.returnType = ret → meth.locks = false → VV p l e rm s m args below meth c 0 0 (MQ below (va_Qi post (v9_world D w tys A) A) args s 0 0 A) w D A s.heap nL σ 0 (lv_args 0 As) []) : CMi l w D tys y ws rm As σ post := by
  intro sz
  refine Met.ofW (cc := cc) (maxL := nL) (ret := ret) hy hw ?_
  intro p e s m args below meth c s₁ B hml hv
  obtain ⟨rfl, hsz, hP, hK, hD0⟩ := hv
  subst hsz
  have hl := lv_entry As (n := nL) hlg
  rw [lg_entry_eq]
  exact body p e s m As.toArray below meth c (va_A (w σ) s.heap.size) ⟨⟨B.exec, B.bytes, hml, findClass_of_methodNamed B.named, atoms_spec (ws := ws) B.pre⟩, fun q h => Or.inr h⟩ hK B.returns B.notSynchronized s.heap [] _ hP hD0.self va_S.rf hl
theorem v_startv {y : MethodName} {ws ws' : List Cond} {rm : Room} {ret : Option FieldType} {As : List Value} {post : τ → Prop} (hy : plainName y.cls = true) (hw : ws = Cond.code y cc nL ret :: ws') (hlg : (lg_sl As).length ≤ nL)
    (body : ∀ (p : Program) (e : Env) (s : State) (m : MethodId) (args : Array Value) (below : List Frame) (meth : Method) (c : Code) (A : Nat → Prop), CX p m c cc nL s args ws y.cls A s.heap → va_K D vwCl tys s → meth.sig.returnType = ret → meth.locks = false → VV p l e rm s m args below meth c 0 0 (MQ below (va_Qv post (v9_world D w tys A) A) args s 0 0 A) w D A s.heap nL σ 0 (lv_args 0 As) []) : CMv l w D tys y ws rm As σ post := by
  intro sz
  refine Met.ofW (cc := cc) (maxL := nL) (ret := ret) hy hw ?_
  intro p e s m args below meth c s₁ B hml hv
  obtain ⟨rfl, hsz, hP, hK, hD0⟩ := hv
  subst hsz
  have hl := lv_entry As (n := nL) hlg
  rw [lg_entry_eq]
  exact body p e s m As.toArray below meth c (va_A (w σ) s.heap.size) ⟨⟨B.exec, B.bytes, hml, findClass_of_methodNamed B.named, atoms_spec (ws := ws) B.pre⟩, fun q h => Or.inr h⟩ hK B.returns B.notSynchronized s.heap [] _ hP hD0.self va_S.rf hl
theorem v_startP {y : MethodName} {ws ws' : List Cond} {rm : Room} {ret : Option FieldType} {As : List Value} {post : Int32 → Prop} (D : va_G) (hy : plainName y.cls = true) (hw : ws = Cond.code y cc nL ret :: ws') (hlg : (lg_sl As).length ≤ nL)
    (body : ∀ (p : Program) (e : Env) (s : State) (m : MethodId) (args : Array Value) (below : List Frame) (meth : Method) (c : Code) (A : Nat → Prop), CX p m c cc nL s args ws y.cls A s.heap → meth.sig.returnType = ret → meth.locks = false → VV p l e rm s m args below meth c 0 0 (MQ below (va_Qi (fun r (_ : Unit) => post r) (fun _ _ => True) A) args s 0 0 A) (fun _ : Unit => []) D A s.heap nL () 0 (lv_args 0 As) []) : CPi l y ws rm As post := by
  intro sz
  refine Met.ofW (cc := cc) (maxL := nL) (ret := ret) hy hw ?_
  intro p e s m args below meth c s₁ B hml hv
  obtain ⟨rfl, hsz⟩ := hv
  subst hsz
  have hl := lv_entry As (n := nL) hlg
  rw [lg_entry_eq]
  exact body p e s m As.toArray below meth c (va_A [] s.heap.size) ⟨⟨B.exec, B.bytes, hml, findClass_of_methodNamed B.named, atoms_spec (ws := ws) B.pre⟩, fun q h => Or.inr h⟩ B.returns B.notSynchronized s.heap [] _ (fun k q h => by simp at h) ⟨(fun i j p q h => by simp at h), (fun k q h => by simp at h)⟩ va_S.rf hl
end V9
/-- a loop of counted turns, backward: what holds behind the last turn, and each turn -/
theorem lpB9 (V : Nat → Prop) (N : Nat) (hs : ∀ d, d < N → V (d + 1) → V d) (hN : V N) : ∀ d, d ≤ N → V d := by
  intro d hd
  have h : ∀ n d, d + n = N → V d := by
    intro n
    induction n with
    | zero => intro d h; rw [show d = N by omega]; exact hN
    | succ n ih => intro d h; exact hs d (by omega) (ih (d + 1) (by omega))
  exact h (N - d) d (by omega)
end

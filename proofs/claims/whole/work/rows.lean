section
-- ===== PART A: goes FIRST, ahead of the names: the tables' words, and 'selects' of the private methods out of them =====
/-- a private method of a class that the tables say can be made, by its rows of tables_1 -/
def lw_okq (q : MethodName × Nat) : Prop := (q.1.cls ≠ "java/lang/invoke/MethodHandle" ∧ q.1.cls ≠ "java/lang/invoke/VarHandle") ∧ Cond.instantiable q.1.cls q.2 ∈ tables_1 ∧ Cond.privateMethod q.1 ∈ tables_1 ∧ Cond.instanceMethod q.1 ∈ tables_1
theorem lw_p0 : lw_okq (⟨"VillageCinema", "errorOfShow", "(III)I"⟩, 6) := ⟨⟨by decide +kernel, by decide +kernel⟩, List.mem_of_getElem? (i := 10) (by decide +kernel), List.mem_of_getElem? (i := 155) (by decide +kernel), List.mem_of_getElem? (i := 156) (by decide +kernel)⟩
theorem lw_p1 : lw_okq (⟨"VillageCinema", "sumOfFilms", "(I)I"⟩, 6) := ⟨⟨by decide +kernel, by decide +kernel⟩, List.mem_of_getElem? (i := 10) (by decide +kernel), List.mem_of_getElem? (i := 198) (by decide +kernel), List.mem_of_getElem? (i := 199) (by decide +kernel)⟩
theorem lw_p2 : lw_okq (⟨"VillageCinema", "sumOfFilm", "(II)I"⟩, 6) := ⟨⟨by decide +kernel, by decide +kernel⟩, List.mem_of_getElem? (i := 10) (by decide +kernel), List.mem_of_getElem? (i := 202) (by decide +kernel), List.mem_of_getElem? (i := 203) (by decide +kernel)⟩
theorem lw_p3 : lw_okq (⟨"VillageCinema$FilmRun", "followWeek", "(LVillageCinema$Hall;III)I"⟩, 6) := ⟨⟨by decide +kernel, by decide +kernel⟩, List.mem_of_getElem? (i := 34) (by decide +kernel), List.mem_of_getElem? (i := 211) (by decide +kernel), List.mem_of_getElem? (i := 212) (by decide +kernel)⟩
theorem lw_p4 : lw_okq (⟨"VillageCinema$FilmRun", "reckonWeek", "(LVillageCinema$Hall;II)V"⟩, 6) := ⟨⟨by decide +kernel, by decide +kernel⟩, List.mem_of_getElem? (i := 34) (by decide +kernel), List.mem_of_getElem? (i := 236) (by decide +kernel), List.mem_of_getElem? (i := 237) (by decide +kernel)⟩
theorem lw_p5 : lw_okq (⟨"VillageCinema$FilmRun", "shareOfTakings", "(I)I"⟩, 6) := ⟨⟨by decide +kernel, by decide +kernel⟩, List.mem_of_getElem? (i := 34) (by decide +kernel), List.mem_of_getElem? (i := 240) (by decide +kernel), List.mem_of_getElem? (i := 241) (by decide +kernel)⟩
theorem lw_p6 : lw_okq (⟨"VillageCinema", "dropShowsOfDay", "(I)I"⟩, 6) := ⟨⟨by decide +kernel, by decide +kernel⟩, List.mem_of_getElem? (i := 10) (by decide +kernel), List.mem_of_getElem? (i := 257) (by decide +kernel), List.mem_of_getElem? (i := 258) (by decide +kernel)⟩
theorem lw_p7 : lw_okq (⟨"VillageCinema", "putInShowsOfPad", "()I"⟩, 6) := ⟨⟨by decide +kernel, by decide +kernel⟩, List.mem_of_getElem? (i := 10) (by decide +kernel), List.mem_of_getElem? (i := 281) (by decide +kernel), List.mem_of_getElem? (i := 282) (by decide +kernel)⟩
theorem lw_p8 : lw_okq (⟨"VillageCinema$Pad", "characterAt", "(I)C"⟩, 2) := ⟨⟨by decide +kernel, by decide +kernel⟩, List.mem_of_getElem? (i := 59) (by decide +kernel), List.mem_of_getElem? (i := 293) (by decide +kernel), List.mem_of_getElem? (i := 294) (by decide +kernel)⟩
theorem lw_p9 : lw_okq (⟨"VillageCinema", "sumOfFilmsInWeek", "(II)I"⟩, 6) := ⟨⟨by decide +kernel, by decide +kernel⟩, List.mem_of_getElem? (i := 10) (by decide +kernel), List.mem_of_getElem? (i := 360) (by decide +kernel), List.mem_of_getElem? (i := 361) (by decide +kernel)⟩
theorem lw_p10 : lw_okq (⟨"VillageCinema", "fullShows", "()I"⟩, 6) := ⟨⟨by decide +kernel, by decide +kernel⟩, List.mem_of_getElem? (i := 10) (by decide +kernel), List.mem_of_getElem? (i := 381) (by decide +kernel), List.mem_of_getElem? (i := 382) (by decide +kernel)⟩
theorem lw_p11 : lw_okq (⟨"VillageCinema", "gainWith", "(II)I"⟩, 6) := ⟨⟨by decide +kernel, by decide +kernel⟩, List.mem_of_getElem? (i := 10) (by decide +kernel), List.mem_of_getElem? (i := 397) (by decide +kernel), List.mem_of_getElem? (i := 398) (by decide +kernel)⟩
theorem lw_p12 : lw_okq (⟨"VillageCinema", "leftOfFilm", "(I)I"⟩, 6) := ⟨⟨by decide +kernel, by decide +kernel⟩, List.mem_of_getElem? (i := 10) (by decide +kernel), List.mem_of_getElem? (i := 401) (by decide +kernel), List.mem_of_getElem? (i := 402) (by decide +kernel)⟩
theorem lw_p13 : lw_okq (⟨"VillageCinemaModel", "record", "()V"⟩, 18) := ⟨⟨by decide +kernel, by decide +kernel⟩, List.mem_of_getElem? (i := 465) (by decide +kernel), List.mem_of_getElem? (i := 536) (by decide +kernel), List.mem_of_getElem? (i := 537) (by decide +kernel)⟩
theorem lw_p14 : lw_okq (⟨"VillageCinemaModel", "whyNotShown", "(III)I"⟩, 18) := ⟨⟨by decide +kernel, by decide +kernel⟩, List.mem_of_getElem? (i := 465) (by decide +kernel), List.mem_of_getElem? (i := 551) (by decide +kernel), List.mem_of_getElem? (i := 552) (by decide +kernel)⟩
theorem lw_p15 : lw_okq (⟨"VillageCinemaModel", "isFilm", "(I)Z"⟩, 18) := ⟨⟨by decide +kernel, by decide +kernel⟩, List.mem_of_getElem? (i := 465) (by decide +kernel), List.mem_of_getElem? (i := 555) (by decide +kernel), List.mem_of_getElem? (i := 556) (by decide +kernel)⟩
def lw_privs_1 : List (MethodName × Nat) := [(⟨"VillageCinema", "errorOfShow", "(III)I"⟩, 6), (⟨"VillageCinema", "sumOfFilms", "(I)I"⟩, 6), (⟨"VillageCinema", "sumOfFilm", "(II)I"⟩, 6), (⟨"VillageCinema$FilmRun", "followWeek", "(LVillageCinema$Hall;III)I"⟩, 6), (⟨"VillageCinema$FilmRun", "reckonWeek", "(LVillageCinema$Hall;II)V"⟩, 6), (⟨"VillageCinema$FilmRun", "shareOfTakings", "(I)I"⟩, 6), (⟨"VillageCinema", "dropShowsOfDay", "(I)I"⟩, 6), (⟨"VillageCinema", "putInShowsOfPad", "()I"⟩, 6), (⟨"VillageCinema$Pad", "characterAt", "(I)C"⟩, 2), (⟨"VillageCinema", "sumOfFilmsInWeek", "(II)I"⟩, 6), (⟨"VillageCinema", "fullShows", "()I"⟩, 6), (⟨"VillageCinema", "gainWith", "(II)I"⟩, 6), (⟨"VillageCinema", "leftOfFilm", "(I)I"⟩, 6), (⟨"VillageCinemaModel", "record", "()V"⟩, 18), (⟨"VillageCinemaModel", "whyNotShown", "(III)I"⟩, 18), (⟨"VillageCinemaModel", "isFilm", "(I)Z"⟩, 18)]
theorem lw_r1 : ∀ q ∈ lw_privs_1, lw_okq q := List.forall_mem_cons.mpr ⟨lw_p0, List.forall_mem_cons.mpr ⟨lw_p1, List.forall_mem_cons.mpr ⟨lw_p2, List.forall_mem_cons.mpr ⟨lw_p3, List.forall_mem_cons.mpr ⟨lw_p4, List.forall_mem_cons.mpr ⟨lw_p5, List.forall_mem_cons.mpr ⟨lw_p6, List.forall_mem_cons.mpr ⟨lw_p7, List.forall_mem_cons.mpr ⟨lw_p8, List.forall_mem_cons.mpr ⟨lw_p9, List.forall_mem_cons.mpr ⟨lw_p10, List.forall_mem_cons.mpr ⟨lw_p11, List.forall_mem_cons.mpr ⟨lw_p12, List.forall_mem_cons.mpr ⟨lw_p13, List.forall_mem_cons.mpr ⟨lw_p14, List.forall_mem_cons.mpr ⟨lw_p15, fun _ h => absurd h List.not_mem_nil⟩⟩⟩⟩⟩⟩⟩⟩⟩⟩⟩⟩⟩⟩⟩⟩
theorem lw_p16 : lw_okq (⟨"VillageCinemaModel", "canShow", "(II)Z"⟩, 18) := ⟨⟨by decide +kernel, by decide +kernel⟩, List.mem_of_getElem? (i := 465) (by decide +kernel), List.mem_of_getElem? (i := 562) (by decide +kernel), List.mem_of_getElem? (i := 563) (by decide +kernel)⟩
theorem lw_p17 : lw_okq (⟨"VillageCinemaModel", "isLet", "(I)Z"⟩, 18) := ⟨⟨by decide +kernel, by decide +kernel⟩, List.mem_of_getElem? (i := 465) (by decide +kernel), List.mem_of_getElem? (i := 566) (by decide +kernel), List.mem_of_getElem? (i := 567) (by decide +kernel)⟩
theorem lw_p18 : lw_okq (⟨"VillageCinemaModel", "filmPart", "(II)I"⟩, 18) := ⟨⟨by decide +kernel, by decide +kernel⟩, List.mem_of_getElem? (i := 465) (by decide +kernel), List.mem_of_getElem? (i := 570) (by decide +kernel), List.mem_of_getElem? (i := 571) (by decide +kernel)⟩
theorem lw_p19 : lw_okq (⟨"VillageCinemaModel", "showAt", "(II)I"⟩, 18) := ⟨⟨by decide +kernel, by decide +kernel⟩, List.mem_of_getElem? (i := 465) (by decide +kernel), List.mem_of_getElem? (i := 574) (by decide +kernel), List.mem_of_getElem? (i := 575) (by decide +kernel)⟩
theorem lw_p20 : lw_okq (⟨"VillageCinemaModel", "canBe", "(II)Z"⟩, 18) := ⟨⟨by decide +kernel, by decide +kernel⟩, List.mem_of_getElem? (i := 465) (by decide +kernel), List.mem_of_getElem? (i := 586) (by decide +kernel), List.mem_of_getElem? (i := 587) (by decide +kernel)⟩
theorem lw_p21 : lw_okq (⟨"VillageCinemaModel", "leftNow", "()I"⟩, 18) := ⟨⟨by decide +kernel, by decide +kernel⟩, List.mem_of_getElem? (i := 465) (by decide +kernel), List.mem_of_getElem? (i := 590) (by decide +kernel), List.mem_of_getElem? (i := 591) (by decide +kernel)⟩
theorem lw_p22 : lw_okq (⟨"VillageCinemaModel", "reckon", "()V"⟩, 18) := ⟨⟨by decide +kernel, by decide +kernel⟩, List.mem_of_getElem? (i := 465) (by decide +kernel), List.mem_of_getElem? (i := 594) (by decide +kernel), List.mem_of_getElem? (i := 595) (by decide +kernel)⟩
theorem lw_p23 : lw_okq (⟨"VillageCinemaModel", "findPeople", "()V"⟩, 18) := ⟨⟨by decide +kernel, by decide +kernel⟩, List.mem_of_getElem? (i := 465) (by decide +kernel), List.mem_of_getElem? (i := 598) (by decide +kernel), List.mem_of_getElem? (i := 599) (by decide +kernel)⟩
theorem lw_p24 : lw_okq (⟨"VillageCinemaModel", "fade", "(I)V"⟩, 18) := ⟨⟨by decide +kernel, by decide +kernel⟩, List.mem_of_getElem? (i := 465) (by decide +kernel), List.mem_of_getElem? (i := 602) (by decide +kernel), List.mem_of_getElem? (i := 603) (by decide +kernel)⟩
theorem lw_p25 : lw_okq (⟨"VillageCinemaModel", "findTakings", "()V"⟩, 18) := ⟨⟨by decide +kernel, by decide +kernel⟩, List.mem_of_getElem? (i := 465) (by decide +kernel), List.mem_of_getElem? (i := 606) (by decide +kernel), List.mem_of_getElem? (i := 607) (by decide +kernel)⟩
theorem lw_p26 : lw_okq (⟨"VillageCinemaModel", "findDues", "()V"⟩, 18) := ⟨⟨by decide +kernel, by decide +kernel⟩, List.mem_of_getElem? (i := 465) (by decide +kernel), List.mem_of_getElem? (i := 610) (by decide +kernel), List.mem_of_getElem? (i := 611) (by decide +kernel)⟩
theorem lw_p27 : lw_okq (⟨"VillageCinemaModel", "shareOf", "(II)I"⟩, 18) := ⟨⟨by decide +kernel, by decide +kernel⟩, List.mem_of_getElem? (i := 465) (by decide +kernel), List.mem_of_getElem? (i := 614) (by decide +kernel), List.mem_of_getElem? (i := 615) (by decide +kernel)⟩
theorem lw_p28 : lw_okq (⟨"VillageCinemaModel", "shareOfTakings", "(I)I"⟩, 18) := ⟨⟨by decide +kernel, by decide +kernel⟩, List.mem_of_getElem? (i := 465) (by decide +kernel), List.mem_of_getElem? (i := 618) (by decide +kernel), List.mem_of_getElem? (i := 619) (by decide +kernel)⟩
theorem lw_p29 : lw_okq (⟨"VillageCinemaModel", "leftOf", "(I)I"⟩, 18) := ⟨⟨by decide +kernel, by decide +kernel⟩, List.mem_of_getElem? (i := 465) (by decide +kernel), List.mem_of_getElem? (i := 622) (by decide +kernel), List.mem_of_getElem? (i := 623) (by decide +kernel)⟩
theorem lw_p30 : lw_okq (⟨"VillageCinemaModel", "rentsOf", "(I)I"⟩, 18) := ⟨⟨by decide +kernel, by decide +kernel⟩, List.mem_of_getElem? (i := 465) (by decide +kernel), List.mem_of_getElem? (i := 629) (by decide +kernel), List.mem_of_getElem? (i := 630) (by decide +kernel)⟩
theorem lw_p31 : lw_okq (⟨"VillageCinemaModel", "peopleOf", "(I)I"⟩, 18) := ⟨⟨by decide +kernel, by decide +kernel⟩, List.mem_of_getElem? (i := 465) (by decide +kernel), List.mem_of_getElem? (i := 649) (by decide +kernel), List.mem_of_getElem? (i := 650) (by decide +kernel)⟩
def lw_privs_2 : List (MethodName × Nat) := [(⟨"VillageCinemaModel", "canShow", "(II)Z"⟩, 18), (⟨"VillageCinemaModel", "isLet", "(I)Z"⟩, 18), (⟨"VillageCinemaModel", "filmPart", "(II)I"⟩, 18), (⟨"VillageCinemaModel", "showAt", "(II)I"⟩, 18), (⟨"VillageCinemaModel", "canBe", "(II)Z"⟩, 18), (⟨"VillageCinemaModel", "leftNow", "()I"⟩, 18), (⟨"VillageCinemaModel", "reckon", "()V"⟩, 18), (⟨"VillageCinemaModel", "findPeople", "()V"⟩, 18), (⟨"VillageCinemaModel", "fade", "(I)V"⟩, 18), (⟨"VillageCinemaModel", "findTakings", "()V"⟩, 18), (⟨"VillageCinemaModel", "findDues", "()V"⟩, 18), (⟨"VillageCinemaModel", "shareOf", "(II)I"⟩, 18), (⟨"VillageCinemaModel", "shareOfTakings", "(I)I"⟩, 18), (⟨"VillageCinemaModel", "leftOf", "(I)I"⟩, 18), (⟨"VillageCinemaModel", "rentsOf", "(I)I"⟩, 18), (⟨"VillageCinemaModel", "peopleOf", "(I)I"⟩, 18)]
theorem lw_r2 : ∀ q ∈ lw_privs_2, lw_okq q := List.forall_mem_cons.mpr ⟨lw_p16, List.forall_mem_cons.mpr ⟨lw_p17, List.forall_mem_cons.mpr ⟨lw_p18, List.forall_mem_cons.mpr ⟨lw_p19, List.forall_mem_cons.mpr ⟨lw_p20, List.forall_mem_cons.mpr ⟨lw_p21, List.forall_mem_cons.mpr ⟨lw_p22, List.forall_mem_cons.mpr ⟨lw_p23, List.forall_mem_cons.mpr ⟨lw_p24, List.forall_mem_cons.mpr ⟨lw_p25, List.forall_mem_cons.mpr ⟨lw_p26, List.forall_mem_cons.mpr ⟨lw_p27, List.forall_mem_cons.mpr ⟨lw_p28, List.forall_mem_cons.mpr ⟨lw_p29, List.forall_mem_cons.mpr ⟨lw_p30, List.forall_mem_cons.mpr ⟨lw_p31, fun _ h => absurd h List.not_mem_nil⟩⟩⟩⟩⟩⟩⟩⟩⟩⟩⟩⟩⟩⟩⟩⟩
theorem lw_p32 : lw_okq (⟨"VillageCinemaModel", "firstShow", "(I)I"⟩, 18) := ⟨⟨by decide +kernel, by decide +kernel⟩, List.mem_of_getElem? (i := 465) (by decide +kernel), List.mem_of_getElem? (i := 653) (by decide +kernel), List.mem_of_getElem? (i := 654) (by decide +kernel)⟩
theorem lw_p33 : lw_okq (⟨"VillageCinemaModel", "peopleIn", "(I)I"⟩, 18) := ⟨⟨by decide +kernel, by decide +kernel⟩, List.mem_of_getElem? (i := 465) (by decide +kernel), List.mem_of_getElem? (i := 665) (by decide +kernel), List.mem_of_getElem? (i := 666) (by decide +kernel)⟩
theorem lw_p34 : lw_okq (⟨"VillageCinemaModel", "fullShows", "()I"⟩, 18) := ⟨⟨by decide +kernel, by decide +kernel⟩, List.mem_of_getElem? (i := 465) (by decide +kernel), List.mem_of_getElem? (i := 681) (by decide +kernel), List.mem_of_getElem? (i := 682) (by decide +kernel)⟩
theorem lw_p35 : lw_okq (⟨"VillageCinemaModel", "moreWith", "(II)I"⟩, 18) := ⟨⟨by decide +kernel, by decide +kernel⟩, List.mem_of_getElem? (i := 465) (by decide +kernel), List.mem_of_getElem? (i := 689) (by decide +kernel), List.mem_of_getElem? (i := 690) (by decide +kernel)⟩
theorem lw_p36 : lw_okq (⟨"VillageCinemaModel", "findFault", "()I"⟩, 18) := ⟨⟨by decide +kernel, by decide +kernel⟩, List.mem_of_getElem? (i := 465) (by decide +kernel), List.mem_of_getElem? (i := 718) (by decide +kernel), List.mem_of_getElem? (i := 719) (by decide +kernel)⟩
theorem lw_p37 : lw_okq (⟨"VillageCinemaModel", "readsShow", "()Z"⟩, 18) := ⟨⟨by decide +kernel, by decide +kernel⟩, List.mem_of_getElem? (i := 465) (by decide +kernel), List.mem_of_getElem? (i := 722) (by decide +kernel), List.mem_of_getElem? (i := 723) (by decide +kernel)⟩
theorem lw_p38 : lw_okq (⟨"VillageCinemaModel", "takeDigit", "(I)I"⟩, 18) := ⟨⟨by decide +kernel, by decide +kernel⟩, List.mem_of_getElem? (i := 465) (by decide +kernel), List.mem_of_getElem? (i := 726) (by decide +kernel), List.mem_of_getElem? (i := 727) (by decide +kernel)⟩
theorem lw_p39 : lw_okq (⟨"VillageCinemaModel", "character", "(I)I"⟩, 18) := ⟨⟨by decide +kernel, by decide +kernel⟩, List.mem_of_getElem? (i := 465) (by decide +kernel), List.mem_of_getElem? (i := 730) (by decide +kernel), List.mem_of_getElem? (i := 731) (by decide +kernel)⟩
theorem lw_p40 : lw_okq (⟨"VillageCinemaModel", "takePart", "()I"⟩, 18) := ⟨⟨by decide +kernel, by decide +kernel⟩, List.mem_of_getElem? (i := 465) (by decide +kernel), List.mem_of_getElem? (i := 734) (by decide +kernel), List.mem_of_getElem? (i := 735) (by decide +kernel)⟩
theorem lw_p41 : lw_okq (⟨"VillageCinemaModel", "takeDay", "()I"⟩, 18) := ⟨⟨by decide +kernel, by decide +kernel⟩, List.mem_of_getElem? (i := 465) (by decide +kernel), List.mem_of_getElem? (i := 738) (by decide +kernel), List.mem_of_getElem? (i := 739) (by decide +kernel)⟩
theorem lw_p42 : lw_okq (⟨"VillageCinemaModel", "isNext", "()Z"⟩, 18) := ⟨⟨by decide +kernel, by decide +kernel⟩, List.mem_of_getElem? (i := 465) (by decide +kernel), List.mem_of_getElem? (i := 742) (by decide +kernel), List.mem_of_getElem? (i := 743) (by decide +kernel)⟩
theorem lw_p43 : lw_okq (⟨"VillageCinemaModel", "showsMany", "()I"⟩, 18) := ⟨⟨by decide +kernel, by decide +kernel⟩, List.mem_of_getElem? (i := 465) (by decide +kernel), List.mem_of_getElem? (i := 758) (by decide +kernel), List.mem_of_getElem? (i := 759) (by decide +kernel)⟩
def lw_privs_3 : List (MethodName × Nat) := [(⟨"VillageCinemaModel", "firstShow", "(I)I"⟩, 18), (⟨"VillageCinemaModel", "peopleIn", "(I)I"⟩, 18), (⟨"VillageCinemaModel", "fullShows", "()I"⟩, 18), (⟨"VillageCinemaModel", "moreWith", "(II)I"⟩, 18), (⟨"VillageCinemaModel", "findFault", "()I"⟩, 18), (⟨"VillageCinemaModel", "readsShow", "()Z"⟩, 18), (⟨"VillageCinemaModel", "takeDigit", "(I)I"⟩, 18), (⟨"VillageCinemaModel", "character", "(I)I"⟩, 18), (⟨"VillageCinemaModel", "takePart", "()I"⟩, 18), (⟨"VillageCinemaModel", "takeDay", "()I"⟩, 18), (⟨"VillageCinemaModel", "isNext", "()Z"⟩, 18), (⟨"VillageCinemaModel", "showsMany", "()I"⟩, 18)]
theorem lw_r3 : ∀ q ∈ lw_privs_3, lw_okq q := List.forall_mem_cons.mpr ⟨lw_p32, List.forall_mem_cons.mpr ⟨lw_p33, List.forall_mem_cons.mpr ⟨lw_p34, List.forall_mem_cons.mpr ⟨lw_p35, List.forall_mem_cons.mpr ⟨lw_p36, List.forall_mem_cons.mpr ⟨lw_p37, List.forall_mem_cons.mpr ⟨lw_p38, List.forall_mem_cons.mpr ⟨lw_p39, List.forall_mem_cons.mpr ⟨lw_p40, List.forall_mem_cons.mpr ⟨lw_p41, List.forall_mem_cons.mpr ⟨lw_p42, List.forall_mem_cons.mpr ⟨lw_p43, fun _ h => absurd h List.not_mem_nil⟩⟩⟩⟩⟩⟩⟩⟩⟩⟩⟩⟩
def lw_privs : List (MethodName × Nat) := lw_privs_1 ++ (lw_privs_2 ++ (lw_privs_3))
def lw_tbl : List Cond := k2_sels lw_privs ++ tables_1
theorem lw_privs_ok : ∀ q ∈ lw_privs, lw_okq q := by
  show ∀ q ∈ lw_privs_1 ++ (lw_privs_2 ++ (lw_privs_3)), lw_okq q
  exact List.forall_mem_append.mpr ⟨lw_r1, List.forall_mem_append.mpr ⟨lw_r2, lw_r3⟩⟩
end
section
/-! ===== BEGIN words of one list among another's, by their places ===== -/
theorem goodIn_r {big : List Cond} (ws : List Cond) (ps : List Nat) (hp : ws = ps.filterMap (fun i => big[i]?)) (h : ws.all goodWord = true) : GoodIn big ws := by
  intro w hw
  have h1 := List.all_eq_true.mp h w hw
  rw [hp] at hw
  obtain ⟨i, -, hi⟩ := List.mem_filterMap.mp hw
  have hm : w ∈ big := by first | exact List.mem_of_getElem? hi | exact List.getElem?_mem hi
  exact ⟨hm, good_of_word h1⟩
theorem goodIn_app {big a b : List Cond} (ha : GoodIn big a) (hb : GoodIn big b) : GoodIn big (a ++ b) := fun w h => (List.mem_append.mp h).elim (ha w) (hb w)
theorem goodIn_ca {big a b : List Cond} {c : Cond} (ha : GoodIn big (c :: a)) (hb : GoodIn big b) : GoodIn big (c :: (a ++ b)) := fun w h => (List.mem_cons.mp h).elim (fun e => ha w (List.mem_cons.mpr (Or.inl e))) (fun h => (List.mem_append.mp h).elim (fun h => ha w (List.mem_cons.mpr (Or.inr h))) (hb w))
theorem goodIn_sub {big ws : List Cond} (hm : ∀ w ∈ ws, w ∈ big) (h : ws.all goodWord = true) : GoodIn big ws := fun w hw => ⟨hm w hw, good_of_word (List.all_eq_true.mp h w hw)⟩
/-! ===== END ===== -/


/-! ===== BEGIN printed: names, fields, word lists, decode rows ===== -/
def RX0 : String := "VillageCinema$FilmRun"
def TX0 : u_T := fun k => match k with
  | 0 => ("VillageCinema$FilmRun", "peopleAt", "[I", true)
  | 1 => ("VillageCinema$FilmRun", "leftBehind", "[I", true)
  | 2 => ("VillageCinema$FilmRun", "sums", "[I", true)
  | 3 => ("VillageCinema$FilmRun", "shares", "[I", true)
  | 4 => ("VillageCinema$FilmRun", "fullShows", "I", false)
  | _ => ("VillageCinema$FilmRun", "leftAtEnd", "I", false)
def tyX0 : Nat → FieldType := fun k => match k with
  | 0 => .array .int
  | 1 => .array .int
  | 2 => .array .int
  | 3 => .array .int
  | 4 => .int
  | _ => .int
abbrev wsX00 : List Cond := u_ws RX0 TX0 6
theorem nmX0 : ∀ a, a < 6 → ∀ b, b < 6 → a ≠ b → (TX0 a).2.1 ≠ (TX0 b).2.1 := by decide +kernel
theorem tyX0_ok : ∀ k, k < 6 → parseFieldDescriptor (TX0 k).2.2.1 = some (tyX0 k) := by decide +kernel
abbrev cX0_init : ByteArray := prog_2_method_1_code
def yX0_init : MethodName := ⟨RX0, "<init>", "()V"⟩
abbrev cX0_follow : ByteArray := prog_2_method_2_code
def yX0_follow : MethodName := ⟨RX0, "follow", "(LVillageCinema$Hall;I)V"⟩
abbrev cX0_followWeek : ByteArray := prog_2_method_3_code
def yX0_followWeek : MethodName := ⟨RX0, "followWeek", "(LVillageCinema$Hall;III)I"⟩
abbrev cX0_peopleOf : ByteArray := prog_2_method_4_code
def yX0_peopleOf : MethodName := ⟨RX0, "peopleOf", "(LVillageCinema$Hall;II)I"⟩
abbrev cX0_nextShare : ByteArray := prog_2_method_5_code
def yX0_nextShare : MethodName := ⟨RX0, "nextShare", "(IIZ)I"⟩
abbrev cX0_reckonWeek : ByteArray := prog_2_method_6_code
def yX0_reckonWeek : MethodName := ⟨RX0, "reckonWeek", "(LVillageCinema$Hall;II)V"⟩
abbrev cX0_shareOfTakings : ByteArray := prog_2_method_7_code
def yX0_shareOfTakings : MethodName := ⟨RX0, "shareOfTakings", "(I)I"⟩
abbrev cX0_dueAboveShare : ByteArray := prog_2_method_8_code
def yX0_dueAboveShare : MethodName := ⟨RX0, "dueAboveShare", "(I)I"⟩
abbrev cX0_sumOfWeek : ByteArray := prog_2_method_9_code
def yX0_sumOfWeek : MethodName := ⟨RX0, "sumOfWeek", "(II)I"⟩
abbrev cX0_sum : ByteArray := prog_2_method_10_code
def yX0_sum : MethodName := ⟨RX0, "sum", "(I)I"⟩
abbrev cX0_shareIn : ByteArray := prog_2_method_11_code
def yX0_shareIn : MethodName := ⟨RX0, "shareIn", "(I)I"⟩
abbrev cX0_peopleAt : ByteArray := prog_2_method_12_code
def yX0_peopleAt : MethodName := ⟨RX0, "peopleAt", "(I)I"⟩
abbrev cX0_leftBehind : ByteArray := prog_2_method_13_code
def yX0_leftBehind : MethodName := ⟨RX0, "leftBehind", "(I)I"⟩
abbrev cX0_fullShows : ByteArray := prog_2_method_14_code
def yX0_fullShows : MethodName := ⟨RX0, "fullShows", "()I"⟩
abbrev cX0_leftAtEnd : ByteArray := prog_2_method_15_code
def yX0_leftAtEnd : MethodName := ⟨RX0, "leftAtEnd", "()I"⟩
def RX1 : String := "VillageCinema$Hall"
def TX1 : u_T := fun k => match k with
  | _ => ("VillageCinema$Hall", "row", "[I", true)
def tyX1 : Nat → FieldType := fun k => match k with
  | _ => .array .int
abbrev wsX10 : List Cond := u_ws RX1 TX1 1
theorem nmX1 : ∀ a, a < 1 → ∀ b, b < 1 → a ≠ b → (TX1 a).2.1 ≠ (TX1 b).2.1 := by decide +kernel
theorem tyX1_ok : ∀ k, k < 1 → parseFieldDescriptor (TX1 k).2.2.1 = some (tyX1 k) := by decide +kernel
abbrev cX1_init : ByteArray := prog_3_method_1_code
def yX1_init : MethodName := ⟨RX1, "<init>", "()V"⟩
abbrev cX1_copyTo : ByteArray := prog_3_method_2_code
def yX1_copyTo : MethodName := ⟨RX1, "copyTo", "([I)V"⟩
abbrev cX1_copyFrom : ByteArray := prog_3_method_3_code
def yX1_copyFrom : MethodName := ⟨RX1, "copyFrom", "([I)V"⟩
abbrev cX1_setting : ByteArray := prog_3_method_4_code
def yX1_setting : MethodName := ⟨RX1, "setting", "(I)I"⟩
abbrev cX1_changeSetting : ByteArray := prog_3_method_5_code
def yX1_changeSetting : MethodName := ⟨RX1, "changeSetting", "(II)I"⟩
abbrev cX1_films : ByteArray := prog_3_method_6_code
def yX1_films : MethodName := ⟨RX1, "films", "()I"⟩
abbrev cX1_hasFilm : ByteArray := prog_3_method_7_code
def yX1_hasFilm : MethodName := ⟨RX1, "hasFilm", "(I)Z"⟩
abbrev cX1_addFilm : ByteArray := prog_3_method_8_code
def yX1_addFilm : MethodName := ⟨RX1, "addFilm", "(IIIII)I"⟩
abbrev cX1_fact : ByteArray := prog_3_method_9_code
def yX1_fact : MethodName := ⟨RX1, "fact", "(II)I"⟩
abbrev cX1_showAt : ByteArray := prog_3_method_10_code
def yX1_showAt : MethodName := ⟨RX1, "showAt", "(I)I"⟩
abbrev cX1_replaceShow : ByteArray := prog_3_method_11_code
def yX1_replaceShow : MethodName := ⟨RX1, "replaceShow", "(II)I"⟩
abbrev cX1_canHold : ByteArray := prog_3_method_12_code
def yX1_canHold : MethodName := ⟨RX1, "canHold", "(II)Z"⟩
abbrev cX1_shows : ByteArray := prog_3_method_13_code
def yX1_shows : MethodName := ⟨RX1, "shows", "()I"⟩
abbrev cX1_firstDayShown : ByteArray := prog_3_method_14_code
def yX1_firstDayShown : MethodName := ⟨RX1, "firstDayShown", "(I)I"⟩
abbrev cX1_rentOf : ByteArray := prog_3_method_15_code
def yX1_rentOf : MethodName := ⟨RX1, "rentOf", "(I)I"⟩
abbrev cX1_changeRent : ByteArray := prog_3_method_16_code
def yX1_changeRent : MethodName := ⟨RX1, "changeRent", "(II)V"⟩
abbrev cX1_rentsOf : ByteArray := prog_3_method_17_code
def yX1_rentsOf : MethodName := ⟨RX1, "rentsOf", "(II)I"⟩
def RX2 : String := "VillageCinema$History"
def TX2 : u_T := fun k => match k with
  | 0 => ("VillageCinema$History", "states", "[[I", true)
  | 1 => ("VillageCinema$History", "oldest", "I", false)
  | _ => ("VillageCinema$History", "size", "I", false)
def tyX2 : Nat → FieldType := fun k => match k with
  | 0 => .array (.array .int)
  | 1 => .int
  | _ => .int
abbrev wsX20 : List Cond := u_ws RX2 TX2 3
theorem nmX2 : ∀ a, a < 3 → ∀ b, b < 3 → a ≠ b → (TX2 a).2.1 ≠ (TX2 b).2.1 := by decide +kernel
theorem tyX2_ok : ∀ k, k < 3 → parseFieldDescriptor (TX2 k).2.2.1 = some (tyX2 k) := by decide +kernel
abbrev cX2_init : ByteArray := prog_4_method_1_code
def yX2_init : MethodName := ⟨RX2, "<init>", "()V"⟩
abbrev cX2_size : ByteArray := prog_4_method_2_code
def yX2_size : MethodName := ⟨RX2, "size", "()I"⟩
abbrev cX2_record : ByteArray := prog_4_method_3_code
def yX2_record : MethodName := ⟨RX2, "record", "(LVillageCinema$Hall;)V"⟩
abbrev cX2_takeBack : ByteArray := prog_4_method_4_code
def yX2_takeBack : MethodName := ⟨RX2, "takeBack", "(LVillageCinema$Hall;)V"⟩
def RX3 : String := "VillageCinema$Pad"
def TX3 : u_T := fun k => match k with
  | 0 => ("VillageCinema$Pad", "text", "[C", true)
  | _ => ("VillageCinema$Pad", "length", "I", false)
def tyX3 : Nat → FieldType := fun k => match k with
  | 0 => .array .char
  | _ => .int
abbrev wsX30 : List Cond := u_ws RX3 TX3 2
theorem nmX3 : ∀ a, a < 2 → ∀ b, b < 2 → a ≠ b → (TX3 a).2.1 ≠ (TX3 b).2.1 := by decide +kernel
theorem tyX3_ok : ∀ k, k < 2 → parseFieldDescriptor (TX3 k).2.2.1 = some (tyX3 k) := by decide +kernel
abbrev cX3_init : ByteArray := prog_5_method_1_code
def yX3_init : MethodName := ⟨RX3, "<init>", "()V"⟩
abbrev cX3_length : ByteArray := prog_5_method_2_code
def yX3_length : MethodName := ⟨RX3, "length", "()I"⟩
abbrev cX3_empty : ByteArray := prog_5_method_3_code
def yX3_empty : MethodName := ⟨RX3, "empty", "()V"⟩
abbrev cX3_append : ByteArray := prog_5_method_4_code
def yX3_append : MethodName := ⟨RX3, "append", "(J)I"⟩
abbrev cX3_charactersIn : ByteArray := prog_5_method_5_code
def yX3_charactersIn : MethodName := ⟨RX3, "charactersIn", "(J)I"⟩
abbrev cX3_firstFault : ByteArray := prog_5_method_6_code
def yX3_firstFault : MethodName := ⟨RX3, "firstFault", "()I"⟩
abbrev cX3_behind : ByteArray := prog_5_method_7_code
def yX3_behind : MethodName := ⟨RX3, "behind", "(IC)I"⟩
abbrev cX3_behindFirstDigit : ByteArray := prog_5_method_8_code
def yX3_behindFirstDigit : MethodName := ⟨RX3, "behindFirstDigit", "(C)I"⟩
abbrev cX3_behindDay : ByteArray := prog_5_method_9_code
def yX3_behindDay : MethodName := ⟨RX3, "behindDay", "(C)I"⟩
abbrev cX3_isBetween : ByteArray := prog_5_method_10_code
def yX3_isBetween : MethodName := ⟨RX3, "isBetween", "(CCC)Z"⟩
abbrev cX3_characterAt : ByteArray := prog_5_method_11_code
def yX3_characterAt : MethodName := ⟨RX3, "characterAt", "(I)C"⟩
abbrev cX3_endOfShow : ByteArray := prog_5_method_12_code
def yX3_endOfShow : MethodName := ⟨RX3, "endOfShow", "(I)I"⟩
abbrev cX3_filmAt : ByteArray := prog_5_method_13_code
def yX3_filmAt : MethodName := ⟨RX3, "filmAt", "(I)I"⟩
abbrev cX3_partAt : ByteArray := prog_5_method_14_code
def yX3_partAt : MethodName := ⟨RX3, "partAt", "(I)I"⟩
abbrev cX3_dayAt : ByteArray := prog_5_method_15_code
def yX3_dayAt : MethodName := ⟨RX3, "dayAt", "(II)I"⟩
def RX4 : String := "VillageCinema"
def TX4 : u_T := fun k => match k with
  | 0 => ("VillageCinema", "hall", "LVillageCinema$Hall;", true)
  | 1 => ("VillageCinema", "run", "LVillageCinema$FilmRun;", true)
  | 2 => ("VillageCinema", "pad", "LVillageCinema$Pad;", true)
  | 3 => ("VillageCinema", "history", "LVillageCinema$History;", true)
  | 4 => ("VillageCinema", "slots", "[[I", true)
  | _ => ("VillageCinema", "saved", "[Z", true)
def tyX4 : Nat → FieldType := fun k => match k with
  | 0 => .object "VillageCinema$Hall"
  | 1 => .object "VillageCinema$FilmRun"
  | 2 => .object "VillageCinema$Pad"
  | 3 => .object "VillageCinema$History"
  | 4 => .array (.array .int)
  | _ => .array .boolean
abbrev wsX40 : List Cond := u_ws RX4 TX4 6
theorem nmX4 : ∀ a, a < 6 → ∀ b, b < 6 → a ≠ b → (TX4 a).2.1 ≠ (TX4 b).2.1 := by decide +kernel
theorem tyX4_ok : ∀ k, k < 6 → parseFieldDescriptor (TX4 k).2.2.1 = some (tyX4 k) := by decide +kernel
abbrev cX4_init : ByteArray := prog_1_method_1_code
def yX4_init : MethodName := ⟨RX4, "<init>", "()V"⟩
abbrev cX4_set : ByteArray := prog_1_method_2_code
def yX4_set : MethodName := ⟨RX4, "set", "(II)I"⟩
abbrev cX4_film : ByteArray := prog_1_method_3_code
def yX4_film : MethodName := ⟨RX4, "film", "(IIIII)I"⟩
abbrev cX4_show : ByteArray := prog_1_method_4_code
def yX4_show : MethodName := ⟨RX4, "show", "(III)I"⟩
abbrev cX4_drop : ByteArray := prog_1_method_5_code
def yX4_drop : MethodName := ⟨RX4, "drop", "(II)I"⟩
abbrev cX4_exchange : ByteArray := prog_1_method_6_code
def yX4_exchange : MethodName := ⟨RX4, "exchange", "(IIII)I"⟩
abbrev cX4_let : ByteArray := prog_1_method_7_code
def yX4_let : MethodName := ⟨RX4, "let", "(II)I"⟩
abbrev cX4_carryOut : ByteArray := prog_1_method_8_code
def yX4_carryOut : MethodName := ⟨RX4, "carryOut", "()I"⟩
abbrev cX4_at : ByteArray := prog_1_method_9_code
def yX4_at : MethodName := ⟨RX4, "at", "(III)I"⟩
abbrev cX4_of : ByteArray := prog_1_method_10_code
def yX4_of : MethodName := ⟨RX4, "of", "(II)I"⟩
abbrev cX4_inWeek : ByteArray := prog_1_method_11_code
def yX4_inWeek : MethodName := ⟨RX4, "inWeek", "(III)I"⟩
abbrev cX4_week : ByteArray := prog_1_method_12_code
def yX4_week : MethodName := ⟨RX4, "week", "(II)I"⟩
abbrev cX4_distributor : ByteArray := prog_1_method_13_code
def yX4_distributor : MethodName := ⟨RX4, "distributor", "(II)I"⟩
abbrev cX4_rent : ByteArray := prog_1_method_14_code
def yX4_rent : MethodName := ⟨RX4, "rent", "(I)I"⟩
abbrev cX4_count : ByteArray := prog_1_method_15_code
def yX4_count : MethodName := ⟨RX4, "count", "(I)I"⟩
abbrev cX4_ifShown : ByteArray := prog_1_method_16_code
def yX4_ifShown : MethodName := ⟨RX4, "ifShown", "(III)I"⟩
abbrev cX4_bestFilm : ByteArray := prog_1_method_17_code
def yX4_bestFilm : MethodName := ⟨RX4, "bestFilm", "(III)I"⟩
abbrev cX4_worstShow : ByteArray := prog_1_method_18_code
def yX4_worstShow : MethodName := ⟨RX4, "worstShow", "(I)I"⟩
abbrev cX4_priceFor : ByteArray := prog_1_method_19_code
def yX4_priceFor : MethodName := ⟨RX4, "priceFor", "(III)I"⟩
abbrev cX4_put : ByteArray := prog_1_method_20_code
def yX4_put : MethodName := ⟨RX4, "put", "(J)I"⟩
abbrev cX4_wipe : ByteArray := prog_1_method_21_code
def yX4_wipe : MethodName := ⟨RX4, "wipe", "()I"⟩
abbrev cX4_fault : ByteArray := prog_1_method_22_code
def yX4_fault : MethodName := ⟨RX4, "fault", "()I"⟩
abbrev cX4_undo : ByteArray := prog_1_method_23_code
def yX4_undo : MethodName := ⟨RX4, "undo", "()I"⟩
abbrev cX4_save : ByteArray := prog_1_method_24_code
def yX4_save : MethodName := ⟨RX4, "save", "(I)I"⟩
abbrev cX4_restore : ByteArray := prog_1_method_25_code
def yX4_restore : MethodName := ⟨RX4, "restore", "(I)I"⟩
abbrev cX4_isWithin : ByteArray := prog_1_method_26_code
def yX4_isWithin : MethodName := ⟨RX4, "isWithin", "(III)Z"⟩
abbrev cX4_isDay : ByteArray := prog_1_method_27_code
def yX4_isDay : MethodName := ⟨RX4, "isDay", "(I)Z"⟩
abbrev cX4_isWeek : ByteArray := prog_1_method_28_code
def yX4_isWeek : MethodName := ⟨RX4, "isWeek", "(I)Z"⟩
abbrev cX4_isPlace : ByteArray := prog_1_method_29_code
def yX4_isPlace : MethodName := ⟨RX4, "isPlace", "(II)Z"⟩
abbrev cX4_placeOf : ByteArray := prog_1_method_30_code
def yX4_placeOf : MethodName := ⟨RX4, "placeOf", "(II)I"⟩
abbrev cX4_errorOfShow : ByteArray := prog_1_method_31_code
def yX4_errorOfShow : MethodName := ⟨RX4, "errorOfShow", "(III)I"⟩
abbrev cX4_dropShowsOfDay : ByteArray := prog_1_method_32_code
def yX4_dropShowsOfDay : MethodName := ⟨RX4, "dropShowsOfDay", "(I)I"⟩
abbrev cX4_putInShowsOfPad : ByteArray := prog_1_method_33_code
def yX4_putInShowsOfPad : MethodName := ⟨RX4, "putInShowsOfPad", "()I"⟩
abbrev cX4_sumOfFilm : ByteArray := prog_1_method_34_code
def yX4_sumOfFilm : MethodName := ⟨RX4, "sumOfFilm", "(II)I"⟩
abbrev cX4_sumOfFilms : ByteArray := prog_1_method_35_code
def yX4_sumOfFilms : MethodName := ⟨RX4, "sumOfFilms", "(I)I"⟩
abbrev cX4_sumOfFilmsInWeek : ByteArray := prog_1_method_36_code
def yX4_sumOfFilmsInWeek : MethodName := ⟨RX4, "sumOfFilmsInWeek", "(II)I"⟩
abbrev cX4_fullShows : ByteArray := prog_1_method_37_code
def yX4_fullShows : MethodName := ⟨RX4, "fullShows", "()I"⟩
abbrev cX4_leftOfFilm : ByteArray := prog_1_method_38_code
def yX4_leftOfFilm : MethodName := ⟨RX4, "leftOfFilm", "(I)I"⟩
abbrev cX4_gainWith : ByteArray := prog_1_method_39_code
def yX4_gainWith : MethodName := ⟨RX4, "gainWith", "(II)I"⟩
def RX5 : String := "VillageCinemaModel"
def TX5 : u_T := fun k => match k with
  | 0 => ("VillageCinemaModel", "state", "[I", true)
  | 1 => ("VillageCinemaModel", "history", "[I", true)
  | 2 => ("VillageCinemaModel", "recorded", "I", false)
  | 3 => ("VillageCinemaModel", "slots", "[I", true)
  | 4 => ("VillageCinemaModel", "isSaved", "[I", true)
  | 5 => ("VillageCinemaModel", "pad", "[I", true)
  | 6 => ("VillageCinemaModel", "padLength", "I", false)
  | 7 => ("VillageCinemaModel", "people", "[I", true)
  | 8 => ("VillageCinemaModel", "behind", "[I", true)
  | 9 => ("VillageCinemaModel", "left", "[I", true)
  | 10 => ("VillageCinemaModel", "shows", "[I", true)
  | 11 => ("VillageCinemaModel", "takings", "[I", true)
  | 12 => ("VillageCinemaModel", "shares", "[I", true)
  | 13 => ("VillageCinemaModel", "dues", "[I", true)
  | 14 => ("VillageCinemaModel", "at", "I", false)
  | 15 => ("VillageCinemaModel", "film", "I", false)
  | 16 => ("VillageCinemaModel", "part", "I", false)
  | _ => ("VillageCinemaModel", "day", "I", false)
def tyX5 : Nat → FieldType := fun k => match k with
  | 0 => .array .int
  | 1 => .array .int
  | 2 => .int
  | 3 => .array .int
  | 4 => .array .int
  | 5 => .array .int
  | 6 => .int
  | 7 => .array .int
  | 8 => .array .int
  | 9 => .array .int
  | 10 => .array .int
  | 11 => .array .int
  | 12 => .array .int
  | 13 => .array .int
  | 14 => .int
  | 15 => .int
  | 16 => .int
  | _ => .int
abbrev wsX50 : List Cond := u_ws RX5 TX5 18
theorem nmX5 : ∀ a, a < 18 → ∀ b, b < 18 → a ≠ b → (TX5 a).2.1 ≠ (TX5 b).2.1 := by decide +kernel
theorem tyX5_ok : ∀ k, k < 18 → parseFieldDescriptor (TX5 k).2.2.1 = some (tyX5 k) := by decide +kernel
abbrev cX5_init : ByteArray := prog_7_method_1_code
def yX5_init : MethodName := ⟨RX5, "<init>", "()V"⟩
abbrev cX5_moves : ByteArray := prog_7_method_3_code
def yX5_moves : MethodName := ⟨RX5, "moves", "([II[II)V"⟩
abbrev cX5_within : ByteArray := prog_7_method_4_code
def yX5_within : MethodName := ⟨RX5, "within", "(III)Z"⟩
abbrev cX5_record : ByteArray := prog_7_method_5_code
def yX5_record : MethodName := ⟨RX5, "record", "()V"⟩
abbrev cX5_isFilm : ByteArray := prog_7_method_6_code
def yX5_isFilm : MethodName := ⟨RX5, "isFilm", "(I)Z"⟩
abbrev cX5_filmPart : ByteArray := prog_7_method_7_code
def yX5_filmPart : MethodName := ⟨RX5, "filmPart", "(II)I"⟩
abbrev cX5_isPart : ByteArray := prog_7_method_8_code
def yX5_isPart : MethodName := ⟨RX5, "isPart", "(II)Z"⟩
abbrev cX5_showAt : ByteArray := prog_7_method_9_code
def yX5_showAt : MethodName := ⟨RX5, "showAt", "(II)I"⟩
abbrev cX5_isLet : ByteArray := prog_7_method_10_code
def yX5_isLet : MethodName := ⟨RX5, "isLet", "(I)Z"⟩
abbrev cX5_fade : ByteArray := prog_7_method_11_code
def yX5_fade : MethodName := ⟨RX5, "fade", "(I)V"⟩
abbrev cX5_findPeople : ByteArray := prog_7_method_12_code
def yX5_findPeople : MethodName := ⟨RX5, "findPeople", "()V"⟩
abbrev cX5_findTakings : ByteArray := prog_7_method_13_code
def yX5_findTakings : MethodName := ⟨RX5, "findTakings", "()V"⟩
abbrev cX5_shareOf : ByteArray := prog_7_method_14_code
def yX5_shareOf : MethodName := ⟨RX5, "shareOf", "(II)I"⟩
abbrev cX5_shareOfTakings : ByteArray := prog_7_method_15_code
def yX5_shareOfTakings : MethodName := ⟨RX5, "shareOfTakings", "(I)I"⟩
abbrev cX5_findDues : ByteArray := prog_7_method_16_code
def yX5_findDues : MethodName := ⟨RX5, "findDues", "()V"⟩
abbrev cX5_reckon : ByteArray := prog_7_method_17_code
def yX5_reckon : MethodName := ⟨RX5, "reckon", "()V"⟩
abbrev cX5_sumOf : ByteArray := prog_7_method_18_code
def yX5_sumOf : MethodName := ⟨RX5, "sumOf", "([II)I"⟩
abbrev cX5_sumOfFilm : ByteArray := prog_7_method_19_code
def yX5_sumOfFilm : MethodName := ⟨RX5, "sumOfFilm", "([II)I"⟩
abbrev cX5_rentsOf : ByteArray := prog_7_method_20_code
def yX5_rentsOf : MethodName := ⟨RX5, "rentsOf", "(I)I"⟩
abbrev cX5_peopleIn : ByteArray := prog_7_method_21_code
def yX5_peopleIn : MethodName := ⟨RX5, "peopleIn", "(I)I"⟩
abbrev cX5_leftOf : ByteArray := prog_7_method_22_code
def yX5_leftOf : MethodName := ⟨RX5, "leftOf", "(I)I"⟩
abbrev cX5_leftNow : ByteArray := prog_7_method_23_code
def yX5_leftNow : MethodName := ⟨RX5, "leftNow", "()I"⟩
abbrev cX5_isValue : ByteArray := prog_7_method_24_code
def yX5_isValue : MethodName := ⟨RX5, "isValue", "(II)Z"⟩
abbrev cX5_set : ByteArray := prog_7_method_25_code
def yX5_set : MethodName := ⟨RX5, "set", "(II)I"⟩
abbrev cX5_film : ByteArray := prog_7_method_26_code
def yX5_film : MethodName := ⟨RX5, "film", "(IIIII)I"⟩
abbrev cX5_canShow : ByteArray := prog_7_method_27_code
def yX5_canShow : MethodName := ⟨RX5, "canShow", "(II)Z"⟩
abbrev cX5_whyNotShown : ByteArray := prog_7_method_28_code
def yX5_whyNotShown : MethodName := ⟨RX5, "whyNotShown", "(III)I"⟩
abbrev cX5_show : ByteArray := prog_7_method_29_code
def yX5_show : MethodName := ⟨RX5, "show", "(III)I"⟩
abbrev cX5_drop : ByteArray := prog_7_method_30_code
def yX5_drop : MethodName := ⟨RX5, "drop", "(II)I"⟩
abbrev cX5_canBe : ByteArray := prog_7_method_31_code
def yX5_canBe : MethodName := ⟨RX5, "canBe", "(II)Z"⟩
abbrev cX5_exchange : ByteArray := prog_7_method_32_code
def yX5_exchange : MethodName := ⟨RX5, "exchange", "(IIII)I"⟩
abbrev cX5_let : ByteArray := prog_7_method_33_code
def yX5_let : MethodName := ⟨RX5, "let", "(II)I"⟩
abbrev cX5_at : ByteArray := prog_7_method_34_code
def yX5_at : MethodName := ⟨RX5, "at", "(III)I"⟩
abbrev cX5_peopleOf : ByteArray := prog_7_method_35_code
def yX5_peopleOf : MethodName := ⟨RX5, "peopleOf", "(I)I"⟩
abbrev cX5_firstShow : ByteArray := prog_7_method_36_code
def yX5_firstShow : MethodName := ⟨RX5, "firstShow", "(I)I"⟩
abbrev cX5_of : ByteArray := prog_7_method_37_code
def yX5_of : MethodName := ⟨RX5, "of", "(II)I"⟩
abbrev cX5_inWeek : ByteArray := prog_7_method_38_code
def yX5_inWeek : MethodName := ⟨RX5, "inWeek", "(III)I"⟩
abbrev cX5_week : ByteArray := prog_7_method_39_code
def yX5_week : MethodName := ⟨RX5, "week", "(II)I"⟩
abbrev cX5_distributor : ByteArray := prog_7_method_40_code
def yX5_distributor : MethodName := ⟨RX5, "distributor", "(II)I"⟩
abbrev cX5_rent : ByteArray := prog_7_method_41_code
def yX5_rent : MethodName := ⟨RX5, "rent", "(I)I"⟩
abbrev cX5_fullShows : ByteArray := prog_7_method_42_code
def yX5_fullShows : MethodName := ⟨RX5, "fullShows", "()I"⟩
abbrev cX5_count : ByteArray := prog_7_method_43_code
def yX5_count : MethodName := ⟨RX5, "count", "(I)I"⟩
abbrev cX5_moreWith : ByteArray := prog_7_method_44_code
def yX5_moreWith : MethodName := ⟨RX5, "moreWith", "(II)I"⟩
abbrev cX5_ifShown : ByteArray := prog_7_method_45_code
def yX5_ifShown : MethodName := ⟨RX5, "ifShown", "(III)I"⟩
abbrev cX5_bestFilm : ByteArray := prog_7_method_46_code
def yX5_bestFilm : MethodName := ⟨RX5, "bestFilm", "(III)I"⟩
abbrev cX5_worstShow : ByteArray := prog_7_method_47_code
def yX5_worstShow : MethodName := ⟨RX5, "worstShow", "(I)I"⟩
abbrev cX5_priceFor : ByteArray := prog_7_method_48_code
def yX5_priceFor : MethodName := ⟨RX5, "priceFor", "(III)I"⟩
abbrev cX5_put : ByteArray := prog_7_method_49_code
def yX5_put : MethodName := ⟨RX5, "put", "(J)I"⟩
abbrev cX5_wipe : ByteArray := prog_7_method_50_code
def yX5_wipe : MethodName := ⟨RX5, "wipe", "()I"⟩
abbrev cX5_character : ByteArray := prog_7_method_51_code
def yX5_character : MethodName := ⟨RX5, "character", "(I)I"⟩
abbrev cX5_takeDigit : ByteArray := prog_7_method_52_code
def yX5_takeDigit : MethodName := ⟨RX5, "takeDigit", "(I)I"⟩
abbrev cX5_takePart : ByteArray := prog_7_method_53_code
def yX5_takePart : MethodName := ⟨RX5, "takePart", "()I"⟩
abbrev cX5_takeDay : ByteArray := prog_7_method_54_code
def yX5_takeDay : MethodName := ⟨RX5, "takeDay", "()I"⟩
abbrev cX5_readsShow : ByteArray := prog_7_method_55_code
def yX5_readsShow : MethodName := ⟨RX5, "readsShow", "()Z"⟩
abbrev cX5_isNext : ByteArray := prog_7_method_56_code
def yX5_isNext : MethodName := ⟨RX5, "isNext", "()Z"⟩
abbrev cX5_findFault : ByteArray := prog_7_method_57_code
def yX5_findFault : MethodName := ⟨RX5, "findFault", "()I"⟩
abbrev cX5_fault : ByteArray := prog_7_method_58_code
def yX5_fault : MethodName := ⟨RX5, "fault", "()I"⟩
abbrev cX5_carryOut : ByteArray := prog_7_method_59_code
def yX5_carryOut : MethodName := ⟨RX5, "carryOut", "()I"⟩
abbrev cX5_undo : ByteArray := prog_7_method_60_code
def yX5_undo : MethodName := ⟨RX5, "undo", "()I"⟩
abbrev cX5_showsMany : ByteArray := prog_7_method_61_code
def yX5_showsMany : MethodName := ⟨RX5, "showsMany", "()I"⟩
abbrev cX5_save : ByteArray := prog_7_method_62_code
def yX5_save : MethodName := ⟨RX5, "save", "(I)I"⟩
abbrev cX5_restore : ByteArray := prog_7_method_63_code
def yX5_restore : MethodName := ⟨RX5, "restore", "(I)I"⟩
def RJ9 : String := "java/lang/Math"
def TJ9 : u_T := fun k => match k with
  | _ => ("", "", "", false)
def tyJ9 : Nat → FieldType := fun k => match k with
  | _ => .int
abbrev wsJ90 : List Cond := u_ws RJ9 TJ9 0
theorem nmJ9 : ∀ a, a < 0 → ∀ b, b < 0 → a ≠ b → (TJ9 a).2.1 ≠ (TJ9 b).2.1 := by decide +kernel
theorem tyJ9_ok : ∀ k, k < 0 → parseFieldDescriptor (TJ9 k).2.2.1 = some (tyJ9 k) := by decide +kernel
abbrev cJ9_max_7cf53 : ByteArray := prog_8_method_65_code
def yJ9_max_7cf53 : MethodName := ⟨RJ9, "max", "(II)I"⟩
abbrev cJ9_min_7cf53 : ByteArray := prog_8_method_69_code
def yJ9_min_7cf53 : MethodName := ⟨RJ9, "min", "(II)I"⟩
def RJ10 : String := "java/lang/System"
def TJ10 : u_T := fun k => match k with
  | _ => ("", "", "", false)
def tyJ10 : Nat → FieldType := fun k => match k with
  | _ => .int
abbrev wsJ100 : List Cond := u_ws RJ10 TJ10 0
theorem nmJ10 : ∀ a, a < 0 → ∀ b, b < 0 → a ≠ b → (TJ10 a).2.1 ≠ (TJ10 b).2.1 := by decide +kernel
theorem tyJ10_ok : ∀ k, k < 0 → parseFieldDescriptor (TJ10 k).2.2.1 = some (tyJ10 k) := by decide +kernel
def RL : String := "VillageCinemaLaw"
abbrev cL_law : ByteArray := code
def yL_law : MethodName := ⟨RL, "law", "([I)Z"⟩
abbrev vwCl : List vw_C := [(RX0, TX0, 6), (RX1, TX1, 1), (RX2, TX2, 3), (RX3, TX3, 2), (RX4, TX4, 6), (RX5, TX5, 18)]
end
section
def wsX0_init : List Cond := .code yX0_init cX0_init 1 none :: ([.methodLink RX0 3 objectInit, .instanceMethod objectInit, .code objectInit ⟨#[0xb1]⟩ 1 none, .arrayClass .int, .fieldLink RX0 9 "VillageCinema$FilmRun" "peopleAt" "[I", .fieldLink RX0 15 "VillageCinema$FilmRun" "leftBehind" "[I", .fieldLink RX0 18 "VillageCinema$FilmRun" "sums" "[I", .fieldLink RX0 21 "VillageCinema$FilmRun" "shares" "[I"] ++ wsX00)
def wsX1_fact : List Cond := .code yX1_fact cX1_fact 3 (some .int) :: ([.fieldLink RX1 11 "VillageCinema$Hall" "row" "[I"] ++ wsX10)
def wsX1_showAt : List Cond := .code yX1_showAt cX1_showAt 2 (some .int) :: ([.fieldLink RX1 11 "VillageCinema$Hall" "row" "[I"] ++ wsX10)
def wsX1_setting : List Cond := .code yX1_setting cX1_setting 2 (some .int) :: ([.fieldLink RX1 11 "VillageCinema$Hall" "row" "[I"] ++ wsX10)
def wsX0_peopleOf : List Cond := .code yX0_peopleOf cX0_peopleOf 4 (some .int) :: ([.methodLink RX0 63 Lib.Math.min.name, .static Lib.Math.min.name, .initialized "java/lang/Math", .code Lib.Math.min.name Lib.Math.min.code 2 (some .int), .methodLink RX0 60 yX1_setting, .instanceMethod yX1_setting, .selects RX1 yX1_setting yX1_setting, .initialized RX1, .code yX1_setting cX1_setting 2 (some .int), .fieldLink RX1 11 "VillageCinema$Hall" "row" "[I"] ++ wsX10)
def wsX0_followWeek : List Cond := .code yX0_followWeek cX0_followWeek 10 (some .int) :: ([.fieldLink RX0 9 "VillageCinema$FilmRun" "peopleAt" "[I", .fieldLink RX0 15 "VillageCinema$FilmRun" "leftBehind" "[I", .fieldLink RX0 30 "VillageCinema$FilmRun" "fullShows" "I", .fieldLink RX0 18 "VillageCinema$FilmRun" "sums" "[I", .methodLink RX0 52 yX1_showAt, .instanceMethod yX1_showAt, .selects RX1 yX1_showAt yX1_showAt, .initialized RX1, .code yX1_showAt cX1_showAt 2 (some .int), .fieldLink RX1 11 "VillageCinema$Hall" "row" "[I", .methodLink RX0 56 yX0_peopleOf, .static yX0_peopleOf, .initialized RX0, .code yX0_peopleOf cX0_peopleOf 4 (some .int), .methodLink RX0 63 Lib.Math.min.name, .static Lib.Math.min.name, .initialized "java/lang/Math", .code Lib.Math.min.name Lib.Math.min.code 2 (some .int), .methodLink RX0 60 yX1_setting, .instanceMethod yX1_setting, .selects RX1 yX1_setting yX1_setting, .code yX1_setting cX1_setting 2 (some .int)] ++ wsX00 ++ wsX10)
def wsX0_sumOfWeek : List Cond := .code yX0_sumOfWeek cX0_sumOfWeek 3 (some .int) :: ([.fieldLink RX0 18 "VillageCinema$FilmRun" "sums" "[I"] ++ wsX00)
def wsX0_nextShare : List Cond := .code yX0_nextShare cX0_nextShare 3 (some .int) :: ([.methodLink RX0 68 Lib.Math.max.name, .static Lib.Math.max.name, .initialized "java/lang/Math", .code Lib.Math.max.name Lib.Math.max.code 2 (some .int)])
def wsX0_shareOfTakings : List Cond := .code yX0_shareOfTakings cX0_shareOfTakings 2 (some .int) :: ([.fieldLink RX0 21 "VillageCinema$FilmRun" "shares" "[I", .methodLink RX0 38 yX0_sumOfWeek, .instanceMethod yX0_sumOfWeek, .selects RX0 yX0_sumOfWeek yX0_sumOfWeek, .initialized RX0, .code yX0_sumOfWeek cX0_sumOfWeek 3 (some .int), .fieldLink RX0 18 "VillageCinema$FilmRun" "sums" "[I"] ++ wsX00)
def wsX0_reckonWeek : List Cond := .code yX0_reckonWeek cX0_reckonWeek 7 none :: ([.fieldLink RX0 18 "VillageCinema$FilmRun" "sums" "[I", .methodLink RX0 68 Lib.Math.max.name, .static Lib.Math.max.name, .initialized "java/lang/Math", .code Lib.Math.max.name Lib.Math.max.code 2 (some .int), .methodLink RX0 38 yX0_sumOfWeek, .instanceMethod yX0_sumOfWeek, .selects RX0 yX0_sumOfWeek yX0_sumOfWeek, .initialized RX0, .code yX0_sumOfWeek cX0_sumOfWeek 3 (some .int), .methodLink RX0 60 yX1_setting, .instanceMethod yX1_setting, .selects RX1 yX1_setting yX1_setting, .initialized RX1, .code yX1_setting cX1_setting 2 (some .int), .fieldLink RX1 11 "VillageCinema$Hall" "row" "[I", .methodLink RX0 71 yX0_shareOfTakings, .instanceMethod yX0_shareOfTakings, .selects RX0 yX0_shareOfTakings yX0_shareOfTakings, .code yX0_shareOfTakings cX0_shareOfTakings 2 (some .int), .fieldLink RX0 21 "VillageCinema$FilmRun" "shares" "[I"] ++ wsX00 ++ wsX10)
def wsX0_follow_r1 : List Cond := [Cond.fieldLink RX0 30 "VillageCinema$FilmRun" "fullShows" "I", Cond.fieldLink RX0 21 "VillageCinema$FilmRun" "shares" "[I", Cond.fieldLink RX0 49 "VillageCinema$FilmRun" "leftAtEnd" "I", Cond.methodLink RX0 24 yX1_fact, Cond.instanceMethod yX1_fact, Cond.selects RX1 yX1_fact yX1_fact, Cond.initialized RX1, Cond.code yX1_fact cX1_fact 3 (some .int), Cond.fieldLink RX1 11 "VillageCinema$Hall" "row" "[I", Cond.methodLink RX0 34 yX0_followWeek, Cond.instanceMethod yX0_followWeek, Cond.selects RX0 yX0_followWeek yX0_followWeek, Cond.initialized RX0, Cond.code yX0_followWeek cX0_followWeek 10 (some .int), Cond.fieldLink RX0 9 "VillageCinema$FilmRun" "peopleAt" "[I", Cond.fieldLink RX0 15 "VillageCinema$FilmRun" "leftBehind" "[I", Cond.fieldLink RX0 18 "VillageCinema$FilmRun" "sums" "[I", Cond.methodLink RX0 52 yX1_showAt, Cond.instanceMethod yX1_showAt, Cond.selects RX1 yX1_showAt yX1_showAt, Cond.code yX1_showAt cX1_showAt 2 (some .int), Cond.methodLink RX0 56 yX0_peopleOf, Cond.static yX0_peopleOf, Cond.code yX0_peopleOf cX0_peopleOf 4 (some .int)]
def wsX0_follow_r2 : List Cond := [Cond.methodLink RX0 63 Lib.Math.min.name, Cond.static Lib.Math.min.name, Cond.initialized "java/lang/Math", Cond.code Lib.Math.min.name Lib.Math.min.code 2 (some .int), Cond.methodLink RX0 60 yX1_setting, Cond.instanceMethod yX1_setting, Cond.selects RX1 yX1_setting yX1_setting, Cond.code yX1_setting cX1_setting 2 (some .int), Cond.methodLink RX0 38 yX0_sumOfWeek, Cond.instanceMethod yX0_sumOfWeek, Cond.selects RX0 yX0_sumOfWeek yX0_sumOfWeek, Cond.code yX0_sumOfWeek cX0_sumOfWeek 3 (some .int), Cond.methodLink RX0 41 yX0_nextShare, Cond.static yX0_nextShare, Cond.code yX0_nextShare cX0_nextShare 3 (some .int), Cond.methodLink RX0 68 Lib.Math.max.name, Cond.static Lib.Math.max.name, Cond.code Lib.Math.max.name Lib.Math.max.code 2 (some .int), Cond.methodLink RX0 45 yX0_reckonWeek, Cond.instanceMethod yX0_reckonWeek, Cond.selects RX0 yX0_reckonWeek yX0_reckonWeek, Cond.code yX0_reckonWeek cX0_reckonWeek 7 none, Cond.methodLink RX0 71 yX0_shareOfTakings, Cond.instanceMethod yX0_shareOfTakings]
def wsX0_follow_r3 : List Cond := [Cond.selects RX0 yX0_shareOfTakings yX0_shareOfTakings, Cond.code yX0_shareOfTakings cX0_shareOfTakings 2 (some .int)]
def wsX0_follow : List Cond := .code yX0_follow cX0_follow 7 none :: ((wsX0_follow_r1 ++ (wsX0_follow_r2 ++ wsX0_follow_r3)) ++ wsX00 ++ wsX10)
def wsX0_dueAboveShare : List Cond := .code yX0_dueAboveShare cX0_dueAboveShare 2 (some .int) :: ([.methodLink RX0 38 yX0_sumOfWeek, .instanceMethod yX0_sumOfWeek, .selects RX0 yX0_sumOfWeek yX0_sumOfWeek, .initialized RX0, .code yX0_sumOfWeek cX0_sumOfWeek 3 (some .int), .fieldLink RX0 18 "VillageCinema$FilmRun" "sums" "[I", .methodLink RX0 71 yX0_shareOfTakings, .instanceMethod yX0_shareOfTakings, .selects RX0 yX0_shareOfTakings yX0_shareOfTakings, .code yX0_shareOfTakings cX0_shareOfTakings 2 (some .int), .fieldLink RX0 21 "VillageCinema$FilmRun" "shares" "[I"] ++ wsX00)
def wsX0_sum : List Cond := .code yX0_sum cX0_sum 4 (some .int) :: ([.methodLink RX0 38 yX0_sumOfWeek, .instanceMethod yX0_sumOfWeek, .selects RX0 yX0_sumOfWeek yX0_sumOfWeek, .initialized RX0, .code yX0_sumOfWeek cX0_sumOfWeek 3 (some .int), .fieldLink RX0 18 "VillageCinema$FilmRun" "sums" "[I"] ++ wsX00)
def wsX0_shareIn : List Cond := .code yX0_shareIn cX0_shareIn 2 (some .int) :: ([.fieldLink RX0 21 "VillageCinema$FilmRun" "shares" "[I"] ++ wsX00)
def wsX0_peopleAt : List Cond := .code yX0_peopleAt cX0_peopleAt 2 (some .int) :: ([.fieldLink RX0 9 "VillageCinema$FilmRun" "peopleAt" "[I"] ++ wsX00)
def wsX0_leftBehind : List Cond := .code yX0_leftBehind cX0_leftBehind 2 (some .int) :: ([.fieldLink RX0 15 "VillageCinema$FilmRun" "leftBehind" "[I"] ++ wsX00)
def wsX0_fullShows : List Cond := .code yX0_fullShows cX0_fullShows 1 (some .int) :: ([.fieldLink RX0 30 "VillageCinema$FilmRun" "fullShows" "I"] ++ wsX00)
def wsX0_leftAtEnd : List Cond := .code yX0_leftAtEnd cX0_leftAtEnd 1 (some .int) :: ([.fieldLink RX0 49 "VillageCinema$FilmRun" "leftAtEnd" "I"] ++ wsX00)
def wsX1_init : List Cond := .code yX1_init cX1_init 2 none :: ([.methodLink RX1 5 objectInit, .instanceMethod objectInit, .code objectInit ⟨#[0xb1]⟩ 1 none, .arrayClass .int, .fieldLink RX1 11 "VillageCinema$Hall" "row" "[I", .methodLink RX1 18 arraycopyName, .native arraycopyName, .static arraycopyName, .initialized "java/lang/System"] ++ wsX10)
def wsX1_copyTo : List Cond := .code yX1_copyTo cX1_copyTo 2 none :: ([.fieldLink RX1 11 "VillageCinema$Hall" "row" "[I", .methodLink RX1 18 arraycopyName, .native arraycopyName, .static arraycopyName, .initialized "java/lang/System"] ++ wsX10)
def wsX1_copyFrom : List Cond := .code yX1_copyFrom cX1_copyFrom 2 none :: ([.fieldLink RX1 11 "VillageCinema$Hall" "row" "[I", .methodLink RX1 18 arraycopyName, .native arraycopyName, .static arraycopyName, .initialized "java/lang/System"] ++ wsX10)
def wsX1_changeSetting : List Cond := .code yX1_changeSetting cX1_changeSetting 4 (some .int) :: ([.fieldLink RX1 11 "VillageCinema$Hall" "row" "[I"] ++ wsX10)
def wsX1_films : List Cond := .code yX1_films cX1_films 1 (some .int) :: ([.fieldLink RX1 11 "VillageCinema$Hall" "row" "[I"] ++ wsX10)
def wsX1_hasFilm : List Cond := .code yX1_hasFilm cX1_hasFilm 2 (some .boolean) :: ([.methodLink RX1 24 yX1_films, .instanceMethod yX1_films, .selects RX1 yX1_films yX1_films, .initialized RX1, .code yX1_films cX1_films 1 (some .int), .fieldLink RX1 11 "VillageCinema$Hall" "row" "[I"] ++ wsX10)
def wsX1_addFilm : List Cond := .code yX1_addFilm cX1_addFilm 8 (some .int) :: ([.fieldLink RX1 11 "VillageCinema$Hall" "row" "[I", .methodLink RX1 24 yX1_films, .instanceMethod yX1_films, .selects RX1 yX1_films yX1_films, .initialized RX1, .code yX1_films cX1_films 1 (some .int)] ++ wsX10)
def wsX1_replaceShow : List Cond := .code yX1_replaceShow cX1_replaceShow 4 (some .int) :: ([.fieldLink RX1 11 "VillageCinema$Hall" "row" "[I"] ++ wsX10)
def wsX1_rentOf : List Cond := .code yX1_rentOf cX1_rentOf 2 (some .int) :: ([.fieldLink RX1 11 "VillageCinema$Hall" "row" "[I"] ++ wsX10)
def wsX1_canHold : List Cond := .code yX1_canHold cX1_canHold 3 (some .boolean) :: ([.methodLink RX1 28 yX1_rentOf, .instanceMethod yX1_rentOf, .selects RX1 yX1_rentOf yX1_rentOf, .initialized RX1, .code yX1_rentOf cX1_rentOf 2 (some .int), .fieldLink RX1 11 "VillageCinema$Hall" "row" "[I", .methodLink RX1 32 yX1_hasFilm, .instanceMethod yX1_hasFilm, .selects RX1 yX1_hasFilm yX1_hasFilm, .code yX1_hasFilm cX1_hasFilm 2 (some .boolean), .methodLink RX1 24 yX1_films, .instanceMethod yX1_films, .selects RX1 yX1_films yX1_films, .code yX1_films cX1_films 1 (some .int), .methodLink RX1 36 yX1_fact, .instanceMethod yX1_fact, .selects RX1 yX1_fact yX1_fact, .code yX1_fact cX1_fact 3 (some .int)] ++ wsX10)
def wsX1_shows : List Cond := .code yX1_shows cX1_shows 3 (some .int) :: ([.methodLink RX1 40 yX1_showAt, .instanceMethod yX1_showAt, .selects RX1 yX1_showAt yX1_showAt, .initialized RX1, .code yX1_showAt cX1_showAt 2 (some .int), .fieldLink RX1 11 "VillageCinema$Hall" "row" "[I"] ++ wsX10)
def wsX1_firstDayShown : List Cond := .code yX1_firstDayShown cX1_firstDayShown 3 (some .int) :: ([.methodLink RX1 40 yX1_showAt, .instanceMethod yX1_showAt, .selects RX1 yX1_showAt yX1_showAt, .initialized RX1, .code yX1_showAt cX1_showAt 2 (some .int), .fieldLink RX1 11 "VillageCinema$Hall" "row" "[I"] ++ wsX10)
def wsX1_changeRent : List Cond := .code yX1_changeRent cX1_changeRent 3 none :: ([.fieldLink RX1 11 "VillageCinema$Hall" "row" "[I"] ++ wsX10)
def wsX1_rentsOf : List Cond := .code yX1_rentsOf cX1_rentsOf 5 (some .int) :: ([.methodLink RX1 28 yX1_rentOf, .instanceMethod yX1_rentOf, .selects RX1 yX1_rentOf yX1_rentOf, .initialized RX1, .code yX1_rentOf cX1_rentOf 2 (some .int), .fieldLink RX1 11 "VillageCinema$Hall" "row" "[I"] ++ wsX10)
def wsX2_init : List Cond := .code yX2_init cX2_init 1 none :: ([.methodLink RX2 1 objectInit, .instanceMethod objectInit, .code objectInit ⟨#[0xb1]⟩ 1 none, .classLink RX2 11 "[[I", .arrayClass .int, .fieldLink RX2 13 "VillageCinema$History" "states" "[[I"] ++ wsX20)
def wsX2_size : List Cond := .code yX2_size cX2_size 1 (some .int) :: ([.fieldLink RX2 16 "VillageCinema$History" "size" "I"] ++ wsX20)
def wsX2_record : List Cond := .code yX2_record cX2_record 2 none :: ([.fieldLink RX2 13 "VillageCinema$History" "states" "[[I", .fieldLink RX2 20 "VillageCinema$History" "oldest" "I", .fieldLink RX2 16 "VillageCinema$History" "size" "I", .methodLink RX2 23 yX1_copyTo, .instanceMethod yX1_copyTo, .selects RX1 yX1_copyTo yX1_copyTo, .initialized RX1, .code yX1_copyTo cX1_copyTo 2 none, .fieldLink RX1 11 "VillageCinema$Hall" "row" "[I", .methodLink RX1 18 arraycopyName, .native arraycopyName, .static arraycopyName, .initialized "java/lang/System"] ++ wsX20 ++ wsX10)
def wsX2_takeBack : List Cond := .code yX2_takeBack cX2_takeBack 2 none :: ([.fieldLink RX2 16 "VillageCinema$History" "size" "I", .fieldLink RX2 13 "VillageCinema$History" "states" "[[I", .fieldLink RX2 20 "VillageCinema$History" "oldest" "I", .methodLink RX2 27 yX1_copyFrom, .instanceMethod yX1_copyFrom, .selects RX1 yX1_copyFrom yX1_copyFrom, .initialized RX1, .code yX1_copyFrom cX1_copyFrom 2 none, .fieldLink RX1 11 "VillageCinema$Hall" "row" "[I", .methodLink RX1 18 arraycopyName, .native arraycopyName, .static arraycopyName, .initialized "java/lang/System"] ++ wsX20 ++ wsX10)
def wsX3_init : List Cond := .code yX3_init cX3_init 1 none :: ([.methodLink RX3 3 objectInit, .instanceMethod objectInit, .code objectInit ⟨#[0xb1]⟩ 1 none, .arrayClass .char, .fieldLink RX3 11 "VillageCinema$Pad" "text" "[C"] ++ wsX30)
def wsX3_length : List Cond := .code yX3_length cX3_length 1 (some .int) :: ([.fieldLink RX3 15 "VillageCinema$Pad" "length" "I"] ++ wsX30)
def wsX3_empty : List Cond := .code yX3_empty cX3_empty 1 none :: ([.fieldLink RX3 15 "VillageCinema$Pad" "length" "I"] ++ wsX30)
def wsX3_charactersIn : List Cond := .code yX3_charactersIn cX3_charactersIn 7 (some .int) :: ([.constantLong RX3 23 (255), .constantLong RX3 25 (33), .constantLong RX3 27 (126)])
def wsX3_append : List Cond := .code yX3_append cX3_append 5 (some .int) :: ([.fieldLink RX3 15 "VillageCinema$Pad" "length" "I", .fieldLink RX3 11 "VillageCinema$Pad" "text" "[C", .constantLong RX3 23 (255), .methodLink RX3 19 yX3_charactersIn, .static yX3_charactersIn, .initialized RX3, .code yX3_charactersIn cX3_charactersIn 7 (some .int), .constantLong RX3 25 (33), .constantLong RX3 27 (126)] ++ wsX30)
def wsX3_isBetween : List Cond := .code yX3_isBetween cX3_isBetween 3 (some .boolean) :: ([])
def wsX3_behindFirstDigit : List Cond := .code yX3_behindFirstDigit cX3_behindFirstDigit 1 (some .int) :: ([.methodLink RX3 33 yX3_isBetween, .static yX3_isBetween, .initialized RX3, .code yX3_isBetween cX3_isBetween 3 (some .boolean)])
def wsX3_behindDay : List Cond := .code yX3_behindDay cX3_behindDay 1 (some .int) :: ([])
def wsX3_behind : List Cond := .code yX3_behind cX3_behind 2 (some .int) :: ([.methodLink RX3 33 yX3_isBetween, .static yX3_isBetween, .initialized RX3, .code yX3_isBetween cX3_isBetween 3 (some .boolean), .methodLink RX3 37 yX3_behindFirstDigit, .static yX3_behindFirstDigit, .code yX3_behindFirstDigit cX3_behindFirstDigit 1 (some .int), .methodLink RX3 41 yX3_behindDay, .static yX3_behindDay, .code yX3_behindDay cX3_behindDay 1 (some .int)])
def wsX3_firstFault : List Cond := .code yX3_firstFault cX3_firstFault 3 (some .int) :: ([.fieldLink RX3 15 "VillageCinema$Pad" "length" "I", .fieldLink RX3 11 "VillageCinema$Pad" "text" "[C", .methodLink RX3 29 yX3_behind, .static yX3_behind, .initialized RX3, .code yX3_behind cX3_behind 2 (some .int), .methodLink RX3 33 yX3_isBetween, .static yX3_isBetween, .code yX3_isBetween cX3_isBetween 3 (some .boolean), .methodLink RX3 37 yX3_behindFirstDigit, .static yX3_behindFirstDigit, .code yX3_behindFirstDigit cX3_behindFirstDigit 1 (some .int), .methodLink RX3 41 yX3_behindDay, .static yX3_behindDay, .code yX3_behindDay cX3_behindDay 1 (some .int)] ++ wsX30)
def wsX3_characterAt : List Cond := .code yX3_characterAt cX3_characterAt 2 (some .char) :: ([.fieldLink RX3 15 "VillageCinema$Pad" "length" "I", .fieldLink RX3 11 "VillageCinema$Pad" "text" "[C"] ++ wsX30)
def wsX3_endOfShow : List Cond := .code yX3_endOfShow cX3_endOfShow 3 (some .int) :: ([.fieldLink RX3 15 "VillageCinema$Pad" "length" "I", .methodLink RX3 44 yX3_characterAt, .instanceMethod yX3_characterAt, .selects RX3 yX3_characterAt yX3_characterAt, .initialized RX3, .code yX3_characterAt cX3_characterAt 2 (some .char), .fieldLink RX3 11 "VillageCinema$Pad" "text" "[C"] ++ wsX30)
def wsX3_filmAt : List Cond := .code yX3_filmAt cX3_filmAt 2 (some .int) :: ([.methodLink RX3 44 yX3_characterAt, .instanceMethod yX3_characterAt, .selects RX3 yX3_characterAt yX3_characterAt, .initialized RX3, .code yX3_characterAt cX3_characterAt 2 (some .char), .fieldLink RX3 15 "VillageCinema$Pad" "length" "I", .fieldLink RX3 11 "VillageCinema$Pad" "text" "[C"] ++ wsX30)
def wsX3_partAt : List Cond := .code yX3_partAt cX3_partAt 2 (some .int) :: ([.methodLink RX3 44 yX3_characterAt, .instanceMethod yX3_characterAt, .selects RX3 yX3_characterAt yX3_characterAt, .initialized RX3, .code yX3_characterAt cX3_characterAt 2 (some .char), .fieldLink RX3 15 "VillageCinema$Pad" "length" "I", .fieldLink RX3 11 "VillageCinema$Pad" "text" "[C"] ++ wsX30)
def wsX3_dayAt : List Cond := .code yX3_dayAt cX3_dayAt 5 (some .int) :: ([.methodLink RX3 44 yX3_characterAt, .instanceMethod yX3_characterAt, .selects RX3 yX3_characterAt yX3_characterAt, .initialized RX3, .code yX3_characterAt cX3_characterAt 2 (some .char), .fieldLink RX3 15 "VillageCinema$Pad" "length" "I", .fieldLink RX3 11 "VillageCinema$Pad" "text" "[C"] ++ wsX30)
def wsX4_init_r1 : List Cond := [Cond.methodLink RX4 3 objectInit, Cond.instanceMethod objectInit, Cond.code objectInit ⟨#[0xb1]⟩ 1 none, Cond.classLink RX4 9 RX1, Cond.instantiable RX1 1, Cond.initialized RX1, Cond.fieldLink RX4 12 "VillageCinema" "hall" "LVillageCinema$Hall;", Cond.classLink RX4 16 RX0, Cond.instantiable RX0 6, Cond.initialized RX0, Cond.fieldLink RX4 19 "VillageCinema" "run" "LVillageCinema$FilmRun;", Cond.classLink RX4 23 RX3, Cond.instantiable RX3 2, Cond.initialized RX3, Cond.fieldLink RX4 26 "VillageCinema" "pad" "LVillageCinema$Pad;", Cond.classLink RX4 30 RX2, Cond.instantiable RX2 3, Cond.initialized RX2, Cond.fieldLink RX4 33 "VillageCinema" "history" "LVillageCinema$History;", Cond.classLink RX4 37 "[[I", Cond.arrayClass .int, Cond.fieldLink RX4 39 "VillageCinema" "slots" "[[I", Cond.arrayClass .boolean, Cond.fieldLink RX4 42 "VillageCinema" "saved" "[Z"]
def wsX4_init_r2 : List Cond := [Cond.methodLink RX4 11 yX1_init, Cond.instanceMethod yX1_init, Cond.code yX1_init cX1_init 2 none, Cond.methodLink RX1 5 objectInit, Cond.fieldLink RX1 11 "VillageCinema$Hall" "row" "[I", Cond.methodLink RX1 18 arraycopyName, Cond.native arraycopyName, Cond.static arraycopyName, Cond.initialized "java/lang/System", Cond.instanceMethod yX0_init, Cond.code yX0_init cX0_init 1 none, Cond.methodLink RX0 3 objectInit, Cond.fieldLink RX0 9 "VillageCinema$FilmRun" "peopleAt" "[I", Cond.fieldLink RX0 15 "VillageCinema$FilmRun" "leftBehind" "[I", Cond.fieldLink RX0 18 "VillageCinema$FilmRun" "sums" "[I", Cond.fieldLink RX0 21 "VillageCinema$FilmRun" "shares" "[I", Cond.instanceMethod yX3_init, Cond.code yX3_init cX3_init 1 none, Cond.methodLink RX3 3 objectInit, Cond.arrayClass .char, Cond.fieldLink RX3 11 "VillageCinema$Pad" "text" "[C", Cond.instanceMethod yX2_init, Cond.code yX2_init cX2_init 1 none, Cond.methodLink RX2 1 objectInit]
def wsX4_init_r3 : List Cond := [Cond.classLink RX2 11 "[[I", Cond.fieldLink RX2 13 "VillageCinema$History" "states" "[[I"]
def wsX4_init : List Cond := .code yX4_init cX4_init 1 none :: ((wsX4_init_r1 ++ (wsX4_init_r2 ++ wsX4_init_r3)) ++ wsX10 ++ wsX40 ++ wsX00 ++ wsX30 ++ wsX20)
def wsX4_isWithin : List Cond := .code yX4_isWithin cX4_isWithin 3 (some .boolean) :: ([])
def wsX4_set_r1 : List Cond := [Cond.fieldLink RX4 50 "VillageCinema" "LEAST_SETTING" "[I", Cond.fieldLink RX4 54 "VillageCinema" "MOST_SETTING" "[I", Cond.fieldLink RX4 33 "VillageCinema" "history" "LVillageCinema$History;", Cond.fieldLink RX4 12 "VillageCinema" "hall" "LVillageCinema$Hall;", Cond.methodLink RX4 46 yX4_isWithin, Cond.static yX4_isWithin, Cond.initialized RX4, Cond.code yX4_isWithin cX4_isWithin 3 (some .boolean), Cond.methodLink RX4 57 yX2_record, Cond.instanceMethod yX2_record, Cond.selects RX2 yX2_record yX2_record, Cond.initialized RX2, Cond.code yX2_record cX2_record 2 none, Cond.fieldLink RX2 13 "VillageCinema$History" "states" "[[I", Cond.fieldLink RX2 20 "VillageCinema$History" "oldest" "I", Cond.fieldLink RX2 16 "VillageCinema$History" "size" "I", Cond.methodLink RX2 23 yX1_copyTo, Cond.instanceMethod yX1_copyTo, Cond.selects RX1 yX1_copyTo yX1_copyTo, Cond.initialized RX1, Cond.code yX1_copyTo cX1_copyTo 2 none, Cond.fieldLink RX1 11 "VillageCinema$Hall" "row" "[I", Cond.methodLink RX1 18 arraycopyName, Cond.native arraycopyName]
def wsX4_set_r2 : List Cond := [Cond.static arraycopyName, Cond.initialized "java/lang/System", Cond.methodLink RX4 61 yX1_changeSetting, Cond.instanceMethod yX1_changeSetting, Cond.selects RX1 yX1_changeSetting yX1_changeSetting, Cond.code yX1_changeSetting cX1_changeSetting 4 (some .int)]
def wsX4_set : List Cond := .code yX4_set cX4_set 3 (some .int) :: ((wsX4_set_r1 ++ wsX4_set_r2) ++ wsX40 ++ wsX20 ++ wsX10)
def wsX4_isDay : List Cond := .code yX4_isDay cX4_isDay 1 (some .boolean) :: ([.methodLink RX4 46 yX4_isWithin, .static yX4_isWithin, .initialized RX4, .code yX4_isWithin cX4_isWithin 3 (some .boolean)])
def wsX4_film_r1 : List Cond := [Cond.fieldLink RX4 12 "VillageCinema" "hall" "LVillageCinema$Hall;", Cond.fieldLink RX4 33 "VillageCinema" "history" "LVillageCinema$History;", Cond.methodLink RX4 46 yX4_isWithin, Cond.static yX4_isWithin, Cond.initialized RX4, Cond.code yX4_isWithin cX4_isWithin 3 (some .boolean), Cond.methodLink RX4 65 yX4_isDay, Cond.static yX4_isDay, Cond.code yX4_isDay cX4_isDay 1 (some .boolean), Cond.methodLink RX4 69 yX1_films, Cond.instanceMethod yX1_films, Cond.selects RX1 yX1_films yX1_films, Cond.initialized RX1, Cond.code yX1_films cX1_films 1 (some .int), Cond.fieldLink RX1 11 "VillageCinema$Hall" "row" "[I", Cond.methodLink RX4 57 yX2_record, Cond.instanceMethod yX2_record, Cond.selects RX2 yX2_record yX2_record, Cond.initialized RX2, Cond.code yX2_record cX2_record 2 none, Cond.fieldLink RX2 13 "VillageCinema$History" "states" "[[I", Cond.fieldLink RX2 20 "VillageCinema$History" "oldest" "I", Cond.fieldLink RX2 16 "VillageCinema$History" "size" "I", Cond.methodLink RX2 23 yX1_copyTo]
def wsX4_film_r2 : List Cond := [Cond.instanceMethod yX1_copyTo, Cond.selects RX1 yX1_copyTo yX1_copyTo, Cond.code yX1_copyTo cX1_copyTo 2 none, Cond.methodLink RX1 18 arraycopyName, Cond.native arraycopyName, Cond.static arraycopyName, Cond.initialized "java/lang/System", Cond.methodLink RX4 73 yX1_addFilm, Cond.instanceMethod yX1_addFilm, Cond.selects RX1 yX1_addFilm yX1_addFilm, Cond.code yX1_addFilm cX1_addFilm 8 (some .int), Cond.methodLink RX1 24 yX1_films]
def wsX4_film : List Cond := .code yX4_film cX4_film 6 (some .int) :: ((wsX4_film_r1 ++ wsX4_film_r2) ++ wsX40 ++ wsX10 ++ wsX20)
def wsX4_isPlace : List Cond := .code yX4_isPlace cX4_isPlace 2 (some .boolean) :: ([.methodLink RX4 65 yX4_isDay, .static yX4_isDay, .initialized RX4, .code yX4_isDay cX4_isDay 1 (some .boolean), .methodLink RX4 46 yX4_isWithin, .static yX4_isWithin, .code yX4_isWithin cX4_isWithin 3 (some .boolean)])
def wsX4_errorOfShow_r1 : List Cond := [Cond.fieldLink RX4 12 "VillageCinema" "hall" "LVillageCinema$Hall;", Cond.methodLink RX4 118 yX1_hasFilm, Cond.instanceMethod yX1_hasFilm, Cond.selects RX1 yX1_hasFilm yX1_hasFilm, Cond.initialized RX1, Cond.code yX1_hasFilm cX1_hasFilm 2 (some .boolean), Cond.methodLink RX1 24 yX1_films, Cond.instanceMethod yX1_films, Cond.selects RX1 yX1_films yX1_films, Cond.code yX1_films cX1_films 1 (some .int), Cond.fieldLink RX1 11 "VillageCinema$Hall" "row" "[I", Cond.methodLink RX4 87 yX4_isPlace, Cond.static yX4_isPlace, Cond.initialized RX4, Cond.code yX4_isPlace cX4_isPlace 2 (some .boolean), Cond.methodLink RX4 65 yX4_isDay, Cond.static yX4_isDay, Cond.code yX4_isDay cX4_isDay 1 (some .boolean), Cond.methodLink RX4 46 yX4_isWithin, Cond.static yX4_isWithin, Cond.code yX4_isWithin cX4_isWithin 3 (some .boolean), Cond.methodLink RX4 95 yX1_canHold, Cond.instanceMethod yX1_canHold, Cond.selects RX1 yX1_canHold yX1_canHold]
def wsX4_errorOfShow_r2 : List Cond := [Cond.code yX1_canHold cX1_canHold 3 (some .boolean), Cond.methodLink RX1 28 yX1_rentOf, Cond.instanceMethod yX1_rentOf, Cond.selects RX1 yX1_rentOf yX1_rentOf, Cond.code yX1_rentOf cX1_rentOf 2 (some .int), Cond.methodLink RX1 32 yX1_hasFilm, Cond.methodLink RX1 36 yX1_fact, Cond.instanceMethod yX1_fact, Cond.selects RX1 yX1_fact yX1_fact, Cond.code yX1_fact cX1_fact 3 (some .int)]
def wsX4_errorOfShow : List Cond := .code yX4_errorOfShow cX4_errorOfShow 4 (some .int) :: ((wsX4_errorOfShow_r1 ++ wsX4_errorOfShow_r2) ++ wsX40 ++ wsX10)
def wsX4_placeOf : List Cond := .code yX4_placeOf cX4_placeOf 2 (some .int) :: ([])
def wsX4_show_r1 : List Cond := [Cond.fieldLink RX4 33 "VillageCinema" "history" "LVillageCinema$History;", Cond.fieldLink RX4 12 "VillageCinema" "hall" "LVillageCinema$Hall;", Cond.methodLink RX4 77 yX4_errorOfShow, Cond.instanceMethod yX4_errorOfShow, Cond.selects RX4 yX4_errorOfShow yX4_errorOfShow, Cond.initialized RX4, Cond.code yX4_errorOfShow cX4_errorOfShow 4 (some .int), Cond.methodLink RX4 118 yX1_hasFilm, Cond.instanceMethod yX1_hasFilm, Cond.selects RX1 yX1_hasFilm yX1_hasFilm, Cond.initialized RX1, Cond.code yX1_hasFilm cX1_hasFilm 2 (some .boolean), Cond.methodLink RX1 24 yX1_films, Cond.instanceMethod yX1_films, Cond.selects RX1 yX1_films yX1_films, Cond.code yX1_films cX1_films 1 (some .int), Cond.fieldLink RX1 11 "VillageCinema$Hall" "row" "[I", Cond.methodLink RX4 87 yX4_isPlace, Cond.static yX4_isPlace, Cond.code yX4_isPlace cX4_isPlace 2 (some .boolean), Cond.methodLink RX4 65 yX4_isDay, Cond.static yX4_isDay, Cond.code yX4_isDay cX4_isDay 1 (some .boolean), Cond.methodLink RX4 46 yX4_isWithin]
def wsX4_show_r2 : List Cond := [Cond.static yX4_isWithin, Cond.code yX4_isWithin cX4_isWithin 3 (some .boolean), Cond.methodLink RX4 95 yX1_canHold, Cond.instanceMethod yX1_canHold, Cond.selects RX1 yX1_canHold yX1_canHold, Cond.code yX1_canHold cX1_canHold 3 (some .boolean), Cond.methodLink RX1 28 yX1_rentOf, Cond.instanceMethod yX1_rentOf, Cond.selects RX1 yX1_rentOf yX1_rentOf, Cond.code yX1_rentOf cX1_rentOf 2 (some .int), Cond.methodLink RX1 32 yX1_hasFilm, Cond.methodLink RX1 36 yX1_fact, Cond.instanceMethod yX1_fact, Cond.selects RX1 yX1_fact yX1_fact, Cond.code yX1_fact cX1_fact 3 (some .int), Cond.methodLink RX4 57 yX2_record, Cond.instanceMethod yX2_record, Cond.selects RX2 yX2_record yX2_record, Cond.initialized RX2, Cond.code yX2_record cX2_record 2 none, Cond.fieldLink RX2 13 "VillageCinema$History" "states" "[[I", Cond.fieldLink RX2 20 "VillageCinema$History" "oldest" "I", Cond.fieldLink RX2 16 "VillageCinema$History" "size" "I", Cond.methodLink RX2 23 yX1_copyTo]
def wsX4_show_r3 : List Cond := [Cond.instanceMethod yX1_copyTo, Cond.selects RX1 yX1_copyTo yX1_copyTo, Cond.code yX1_copyTo cX1_copyTo 2 none, Cond.methodLink RX1 18 arraycopyName, Cond.native arraycopyName, Cond.static arraycopyName, Cond.initialized "java/lang/System", Cond.methodLink RX4 81 yX4_placeOf, Cond.static yX4_placeOf, Cond.code yX4_placeOf cX4_placeOf 2 (some .int), Cond.methodLink RX4 84 yX1_replaceShow, Cond.instanceMethod yX1_replaceShow, Cond.selects RX1 yX1_replaceShow yX1_replaceShow, Cond.code yX1_replaceShow cX1_replaceShow 4 (some .int)]
def wsX4_show : List Cond := .code yX4_show cX4_show 5 (some .int) :: ((wsX4_show_r1 ++ (wsX4_show_r2 ++ wsX4_show_r3)) ++ wsX40 ++ wsX10 ++ wsX20)
def wsX4_drop_r1 : List Cond := [Cond.fieldLink RX4 12 "VillageCinema" "hall" "LVillageCinema$Hall;", Cond.fieldLink RX4 33 "VillageCinema" "history" "LVillageCinema$History;", Cond.methodLink RX4 87 yX4_isPlace, Cond.static yX4_isPlace, Cond.initialized RX4, Cond.code yX4_isPlace cX4_isPlace 2 (some .boolean), Cond.methodLink RX4 65 yX4_isDay, Cond.static yX4_isDay, Cond.code yX4_isDay cX4_isDay 1 (some .boolean), Cond.methodLink RX4 46 yX4_isWithin, Cond.static yX4_isWithin, Cond.code yX4_isWithin cX4_isWithin 3 (some .boolean), Cond.methodLink RX4 81 yX4_placeOf, Cond.static yX4_placeOf, Cond.code yX4_placeOf cX4_placeOf 2 (some .int), Cond.methodLink RX4 91 yX1_showAt, Cond.instanceMethod yX1_showAt, Cond.selects RX1 yX1_showAt yX1_showAt, Cond.initialized RX1, Cond.code yX1_showAt cX1_showAt 2 (some .int), Cond.fieldLink RX1 11 "VillageCinema$Hall" "row" "[I", Cond.methodLink RX4 57 yX2_record, Cond.instanceMethod yX2_record, Cond.selects RX2 yX2_record yX2_record]
def wsX4_drop_r2 : List Cond := [Cond.initialized RX2, Cond.code yX2_record cX2_record 2 none, Cond.fieldLink RX2 13 "VillageCinema$History" "states" "[[I", Cond.fieldLink RX2 20 "VillageCinema$History" "oldest" "I", Cond.fieldLink RX2 16 "VillageCinema$History" "size" "I", Cond.methodLink RX2 23 yX1_copyTo, Cond.instanceMethod yX1_copyTo, Cond.selects RX1 yX1_copyTo yX1_copyTo, Cond.code yX1_copyTo cX1_copyTo 2 none, Cond.methodLink RX1 18 arraycopyName, Cond.native arraycopyName, Cond.static arraycopyName, Cond.initialized "java/lang/System", Cond.methodLink RX4 84 yX1_replaceShow, Cond.instanceMethod yX1_replaceShow, Cond.selects RX1 yX1_replaceShow yX1_replaceShow, Cond.code yX1_replaceShow cX1_replaceShow 4 (some .int)]
def wsX4_drop : List Cond := .code yX4_drop cX4_drop 4 (some .int) :: ((wsX4_drop_r1 ++ wsX4_drop_r2) ++ wsX40 ++ wsX10 ++ wsX20)
def wsX4_sumOfFilm_r1 : List Cond := [Cond.fieldLink RX4 19 "VillageCinema" "run" "LVillageCinema$FilmRun;", Cond.fieldLink RX4 12 "VillageCinema" "hall" "LVillageCinema$Hall;", Cond.methodLink RX4 121 yX0_follow, Cond.instanceMethod yX0_follow, Cond.selects RX0 yX0_follow yX0_follow, Cond.initialized RX0, Cond.code yX0_follow cX0_follow 7 none, Cond.fieldLink RX0 30 "VillageCinema$FilmRun" "fullShows" "I", Cond.fieldLink RX0 21 "VillageCinema$FilmRun" "shares" "[I", Cond.fieldLink RX0 49 "VillageCinema$FilmRun" "leftAtEnd" "I", Cond.methodLink RX0 24 yX1_fact, Cond.instanceMethod yX1_fact, Cond.selects RX1 yX1_fact yX1_fact, Cond.initialized RX1, Cond.code yX1_fact cX1_fact 3 (some .int), Cond.fieldLink RX1 11 "VillageCinema$Hall" "row" "[I", Cond.methodLink RX0 34 yX0_followWeek, Cond.instanceMethod yX0_followWeek, Cond.selects RX0 yX0_followWeek yX0_followWeek, Cond.code yX0_followWeek cX0_followWeek 10 (some .int), Cond.fieldLink RX0 9 "VillageCinema$FilmRun" "peopleAt" "[I", Cond.fieldLink RX0 15 "VillageCinema$FilmRun" "leftBehind" "[I", Cond.fieldLink RX0 18 "VillageCinema$FilmRun" "sums" "[I", Cond.methodLink RX0 52 yX1_showAt]
def wsX4_sumOfFilm_r2 : List Cond := [Cond.instanceMethod yX1_showAt, Cond.selects RX1 yX1_showAt yX1_showAt, Cond.code yX1_showAt cX1_showAt 2 (some .int), Cond.methodLink RX0 56 yX0_peopleOf, Cond.static yX0_peopleOf, Cond.code yX0_peopleOf cX0_peopleOf 4 (some .int), Cond.methodLink RX0 63 Lib.Math.min.name, Cond.static Lib.Math.min.name, Cond.initialized "java/lang/Math", Cond.code Lib.Math.min.name Lib.Math.min.code 2 (some .int), Cond.methodLink RX0 60 yX1_setting, Cond.instanceMethod yX1_setting, Cond.selects RX1 yX1_setting yX1_setting, Cond.code yX1_setting cX1_setting 2 (some .int), Cond.methodLink RX0 38 yX0_sumOfWeek, Cond.instanceMethod yX0_sumOfWeek, Cond.selects RX0 yX0_sumOfWeek yX0_sumOfWeek, Cond.code yX0_sumOfWeek cX0_sumOfWeek 3 (some .int), Cond.methodLink RX0 41 yX0_nextShare, Cond.static yX0_nextShare, Cond.code yX0_nextShare cX0_nextShare 3 (some .int), Cond.methodLink RX0 68 Lib.Math.max.name, Cond.static Lib.Math.max.name, Cond.code Lib.Math.max.name Lib.Math.max.code 2 (some .int)]
def wsX4_sumOfFilm_r3 : List Cond := [Cond.methodLink RX0 45 yX0_reckonWeek, Cond.instanceMethod yX0_reckonWeek, Cond.selects RX0 yX0_reckonWeek yX0_reckonWeek, Cond.code yX0_reckonWeek cX0_reckonWeek 7 none, Cond.methodLink RX0 71 yX0_shareOfTakings, Cond.instanceMethod yX0_shareOfTakings, Cond.selects RX0 yX0_shareOfTakings yX0_shareOfTakings, Cond.code yX0_shareOfTakings cX0_shareOfTakings 2 (some .int), Cond.methodLink RX4 143 yX0_sum, Cond.instanceMethod yX0_sum, Cond.selects RX0 yX0_sum yX0_sum, Cond.code yX0_sum cX0_sum 4 (some .int)]
def wsX4_sumOfFilm : List Cond := .code yX4_sumOfFilm cX4_sumOfFilm 3 (some .int) :: ((wsX4_sumOfFilm_r1 ++ (wsX4_sumOfFilm_r2 ++ wsX4_sumOfFilm_r3)) ++ wsX40 ++ wsX00 ++ wsX10)
def wsX4_sumOfFilms_r1 : List Cond := [Cond.fieldLink RX4 12 "VillageCinema" "hall" "LVillageCinema$Hall;", Cond.methodLink RX4 69 yX1_films, Cond.instanceMethod yX1_films, Cond.selects RX1 yX1_films yX1_films, Cond.initialized RX1, Cond.code yX1_films cX1_films 1 (some .int), Cond.fieldLink RX1 11 "VillageCinema$Hall" "row" "[I", Cond.methodLink RX4 164 yX4_sumOfFilm, Cond.instanceMethod yX4_sumOfFilm, Cond.selects RX4 yX4_sumOfFilm yX4_sumOfFilm, Cond.initialized RX4, Cond.code yX4_sumOfFilm cX4_sumOfFilm 3 (some .int), Cond.fieldLink RX4 19 "VillageCinema" "run" "LVillageCinema$FilmRun;", Cond.methodLink RX4 121 yX0_follow, Cond.instanceMethod yX0_follow, Cond.selects RX0 yX0_follow yX0_follow, Cond.initialized RX0, Cond.code yX0_follow cX0_follow 7 none, Cond.fieldLink RX0 30 "VillageCinema$FilmRun" "fullShows" "I", Cond.fieldLink RX0 21 "VillageCinema$FilmRun" "shares" "[I", Cond.fieldLink RX0 49 "VillageCinema$FilmRun" "leftAtEnd" "I", Cond.methodLink RX0 24 yX1_fact, Cond.instanceMethod yX1_fact, Cond.selects RX1 yX1_fact yX1_fact]
def wsX4_sumOfFilms_r2 : List Cond := [Cond.code yX1_fact cX1_fact 3 (some .int), Cond.methodLink RX0 34 yX0_followWeek, Cond.instanceMethod yX0_followWeek, Cond.selects RX0 yX0_followWeek yX0_followWeek, Cond.code yX0_followWeek cX0_followWeek 10 (some .int), Cond.fieldLink RX0 9 "VillageCinema$FilmRun" "peopleAt" "[I", Cond.fieldLink RX0 15 "VillageCinema$FilmRun" "leftBehind" "[I", Cond.fieldLink RX0 18 "VillageCinema$FilmRun" "sums" "[I", Cond.methodLink RX0 52 yX1_showAt, Cond.instanceMethod yX1_showAt, Cond.selects RX1 yX1_showAt yX1_showAt, Cond.code yX1_showAt cX1_showAt 2 (some .int), Cond.methodLink RX0 56 yX0_peopleOf, Cond.static yX0_peopleOf, Cond.code yX0_peopleOf cX0_peopleOf 4 (some .int), Cond.methodLink RX0 63 Lib.Math.min.name, Cond.static Lib.Math.min.name, Cond.initialized "java/lang/Math", Cond.code Lib.Math.min.name Lib.Math.min.code 2 (some .int), Cond.methodLink RX0 60 yX1_setting, Cond.instanceMethod yX1_setting, Cond.selects RX1 yX1_setting yX1_setting, Cond.code yX1_setting cX1_setting 2 (some .int), Cond.methodLink RX0 38 yX0_sumOfWeek]
def wsX4_sumOfFilms_r3 : List Cond := [Cond.instanceMethod yX0_sumOfWeek, Cond.selects RX0 yX0_sumOfWeek yX0_sumOfWeek, Cond.code yX0_sumOfWeek cX0_sumOfWeek 3 (some .int), Cond.methodLink RX0 41 yX0_nextShare, Cond.static yX0_nextShare, Cond.code yX0_nextShare cX0_nextShare 3 (some .int), Cond.methodLink RX0 68 Lib.Math.max.name, Cond.static Lib.Math.max.name, Cond.code Lib.Math.max.name Lib.Math.max.code 2 (some .int), Cond.methodLink RX0 45 yX0_reckonWeek, Cond.instanceMethod yX0_reckonWeek, Cond.selects RX0 yX0_reckonWeek yX0_reckonWeek, Cond.code yX0_reckonWeek cX0_reckonWeek 7 none, Cond.methodLink RX0 71 yX0_shareOfTakings, Cond.instanceMethod yX0_shareOfTakings, Cond.selects RX0 yX0_shareOfTakings yX0_shareOfTakings, Cond.code yX0_shareOfTakings cX0_shareOfTakings 2 (some .int), Cond.methodLink RX4 143 yX0_sum, Cond.instanceMethod yX0_sum, Cond.selects RX0 yX0_sum yX0_sum, Cond.code yX0_sum cX0_sum 4 (some .int)]
def wsX4_sumOfFilms : List Cond := .code yX4_sumOfFilms cX4_sumOfFilms 4 (some .int) :: ((wsX4_sumOfFilms_r1 ++ (wsX4_sumOfFilms_r2 ++ wsX4_sumOfFilms_r3)) ++ wsX40 ++ wsX10 ++ wsX00)
def wsX4_exchange_r1 : List Cond := [Cond.fieldLink RX4 12 "VillageCinema" "hall" "LVillageCinema$Hall;", Cond.fieldLink RX4 33 "VillageCinema" "history" "LVillageCinema$History;", Cond.constant RX4 101 (1000000), Cond.methodLink RX4 87 yX4_isPlace, Cond.static yX4_isPlace, Cond.initialized RX4, Cond.code yX4_isPlace cX4_isPlace 2 (some .boolean), Cond.methodLink RX4 65 yX4_isDay, Cond.static yX4_isDay, Cond.code yX4_isDay cX4_isDay 1 (some .boolean), Cond.methodLink RX4 46 yX4_isWithin, Cond.static yX4_isWithin, Cond.code yX4_isWithin cX4_isWithin 3 (some .boolean), Cond.methodLink RX4 81 yX4_placeOf, Cond.static yX4_placeOf, Cond.code yX4_placeOf cX4_placeOf 2 (some .int), Cond.methodLink RX4 91 yX1_showAt, Cond.instanceMethod yX1_showAt, Cond.selects RX1 yX1_showAt yX1_showAt, Cond.initialized RX1, Cond.code yX1_showAt cX1_showAt 2 (some .int), Cond.fieldLink RX1 11 "VillageCinema$Hall" "row" "[I", Cond.methodLink RX4 95 yX1_canHold, Cond.instanceMethod yX1_canHold]
def wsX4_exchange_r2 : List Cond := [Cond.selects RX1 yX1_canHold yX1_canHold, Cond.code yX1_canHold cX1_canHold 3 (some .boolean), Cond.methodLink RX1 28 yX1_rentOf, Cond.instanceMethod yX1_rentOf, Cond.selects RX1 yX1_rentOf yX1_rentOf, Cond.code yX1_rentOf cX1_rentOf 2 (some .int), Cond.methodLink RX1 32 yX1_hasFilm, Cond.instanceMethod yX1_hasFilm, Cond.selects RX1 yX1_hasFilm yX1_hasFilm, Cond.code yX1_hasFilm cX1_hasFilm 2 (some .boolean), Cond.methodLink RX1 24 yX1_films, Cond.instanceMethod yX1_films, Cond.selects RX1 yX1_films yX1_films, Cond.code yX1_films cX1_films 1 (some .int), Cond.methodLink RX1 36 yX1_fact, Cond.instanceMethod yX1_fact, Cond.selects RX1 yX1_fact yX1_fact, Cond.code yX1_fact cX1_fact 3 (some .int), Cond.methodLink RX4 98 yX4_sumOfFilms, Cond.instanceMethod yX4_sumOfFilms, Cond.selects RX4 yX4_sumOfFilms yX4_sumOfFilms, Cond.code yX4_sumOfFilms cX4_sumOfFilms 4 (some .int), Cond.methodLink RX4 69 yX1_films, Cond.methodLink RX4 164 yX4_sumOfFilm]
def wsX4_exchange_r3 : List Cond := [Cond.instanceMethod yX4_sumOfFilm, Cond.selects RX4 yX4_sumOfFilm yX4_sumOfFilm, Cond.code yX4_sumOfFilm cX4_sumOfFilm 3 (some .int), Cond.fieldLink RX4 19 "VillageCinema" "run" "LVillageCinema$FilmRun;", Cond.methodLink RX4 121 yX0_follow, Cond.instanceMethod yX0_follow, Cond.selects RX0 yX0_follow yX0_follow, Cond.initialized RX0, Cond.code yX0_follow cX0_follow 7 none, Cond.fieldLink RX0 30 "VillageCinema$FilmRun" "fullShows" "I", Cond.fieldLink RX0 21 "VillageCinema$FilmRun" "shares" "[I", Cond.fieldLink RX0 49 "VillageCinema$FilmRun" "leftAtEnd" "I", Cond.methodLink RX0 24 yX1_fact, Cond.methodLink RX0 34 yX0_followWeek, Cond.instanceMethod yX0_followWeek, Cond.selects RX0 yX0_followWeek yX0_followWeek, Cond.code yX0_followWeek cX0_followWeek 10 (some .int), Cond.fieldLink RX0 9 "VillageCinema$FilmRun" "peopleAt" "[I", Cond.fieldLink RX0 15 "VillageCinema$FilmRun" "leftBehind" "[I", Cond.fieldLink RX0 18 "VillageCinema$FilmRun" "sums" "[I", Cond.methodLink RX0 52 yX1_showAt, Cond.methodLink RX0 56 yX0_peopleOf, Cond.static yX0_peopleOf, Cond.code yX0_peopleOf cX0_peopleOf 4 (some .int)]
def wsX4_exchange_r4 : List Cond := [Cond.methodLink RX0 63 Lib.Math.min.name, Cond.static Lib.Math.min.name, Cond.initialized "java/lang/Math", Cond.code Lib.Math.min.name Lib.Math.min.code 2 (some .int), Cond.methodLink RX0 60 yX1_setting, Cond.instanceMethod yX1_setting, Cond.selects RX1 yX1_setting yX1_setting, Cond.code yX1_setting cX1_setting 2 (some .int), Cond.methodLink RX0 38 yX0_sumOfWeek, Cond.instanceMethod yX0_sumOfWeek, Cond.selects RX0 yX0_sumOfWeek yX0_sumOfWeek, Cond.code yX0_sumOfWeek cX0_sumOfWeek 3 (some .int), Cond.methodLink RX0 41 yX0_nextShare, Cond.static yX0_nextShare, Cond.code yX0_nextShare cX0_nextShare 3 (some .int), Cond.methodLink RX0 68 Lib.Math.max.name, Cond.static Lib.Math.max.name, Cond.code Lib.Math.max.name Lib.Math.max.code 2 (some .int), Cond.methodLink RX0 45 yX0_reckonWeek, Cond.instanceMethod yX0_reckonWeek, Cond.selects RX0 yX0_reckonWeek yX0_reckonWeek, Cond.code yX0_reckonWeek cX0_reckonWeek 7 none, Cond.methodLink RX0 71 yX0_shareOfTakings, Cond.instanceMethod yX0_shareOfTakings]
def wsX4_exchange_r5 : List Cond := [Cond.selects RX0 yX0_shareOfTakings yX0_shareOfTakings, Cond.code yX0_shareOfTakings cX0_shareOfTakings 2 (some .int), Cond.methodLink RX4 143 yX0_sum, Cond.instanceMethod yX0_sum, Cond.selects RX0 yX0_sum yX0_sum, Cond.code yX0_sum cX0_sum 4 (some .int), Cond.methodLink RX4 57 yX2_record, Cond.instanceMethod yX2_record, Cond.selects RX2 yX2_record yX2_record, Cond.initialized RX2, Cond.code yX2_record cX2_record 2 none, Cond.fieldLink RX2 13 "VillageCinema$History" "states" "[[I", Cond.fieldLink RX2 20 "VillageCinema$History" "oldest" "I", Cond.fieldLink RX2 16 "VillageCinema$History" "size" "I", Cond.methodLink RX2 23 yX1_copyTo, Cond.instanceMethod yX1_copyTo, Cond.selects RX1 yX1_copyTo yX1_copyTo, Cond.code yX1_copyTo cX1_copyTo 2 none, Cond.methodLink RX1 18 arraycopyName, Cond.native arraycopyName, Cond.static arraycopyName, Cond.initialized "java/lang/System", Cond.methodLink RX4 84 yX1_replaceShow, Cond.instanceMethod yX1_replaceShow]
def wsX4_exchange_r6 : List Cond := [Cond.selects RX1 yX1_replaceShow yX1_replaceShow, Cond.code yX1_replaceShow cX1_replaceShow 4 (some .int)]
def wsX4_exchange : List Cond := .code yX4_exchange cX4_exchange 9 (some .int) :: ((wsX4_exchange_r1 ++ (wsX4_exchange_r2 ++ (wsX4_exchange_r3 ++ (wsX4_exchange_r4 ++ (wsX4_exchange_r5 ++ wsX4_exchange_r6))))) ++ wsX40 ++ wsX10 ++ wsX00 ++ wsX20)
def wsX4_dropShowsOfDay : List Cond := .code yX4_dropShowsOfDay cX4_dropShowsOfDay 4 (some .int) :: ([.fieldLink RX4 12 "VillageCinema" "hall" "LVillageCinema$Hall;", .methodLink RX4 81 yX4_placeOf, .static yX4_placeOf, .initialized RX4, .code yX4_placeOf cX4_placeOf 2 (some .int), .methodLink RX4 84 yX1_replaceShow, .instanceMethod yX1_replaceShow, .selects RX1 yX1_replaceShow yX1_replaceShow, .initialized RX1, .code yX1_replaceShow cX1_replaceShow 4 (some .int), .fieldLink RX1 11 "VillageCinema$Hall" "row" "[I"] ++ wsX40 ++ wsX10)
def wsX4_let_r1 : List Cond := [Cond.fieldLink RX4 33 "VillageCinema" "history" "LVillageCinema$History;", Cond.fieldLink RX4 12 "VillageCinema" "hall" "LVillageCinema$Hall;", Cond.methodLink RX4 65 yX4_isDay, Cond.static yX4_isDay, Cond.initialized RX4, Cond.code yX4_isDay cX4_isDay 1 (some .boolean), Cond.methodLink RX4 46 yX4_isWithin, Cond.static yX4_isWithin, Cond.code yX4_isWithin cX4_isWithin 3 (some .boolean), Cond.methodLink RX4 57 yX2_record, Cond.instanceMethod yX2_record, Cond.selects RX2 yX2_record yX2_record, Cond.initialized RX2, Cond.code yX2_record cX2_record 2 none, Cond.fieldLink RX2 13 "VillageCinema$History" "states" "[[I", Cond.fieldLink RX2 20 "VillageCinema$History" "oldest" "I", Cond.fieldLink RX2 16 "VillageCinema$History" "size" "I", Cond.methodLink RX2 23 yX1_copyTo, Cond.instanceMethod yX1_copyTo, Cond.selects RX1 yX1_copyTo yX1_copyTo, Cond.initialized RX1, Cond.code yX1_copyTo cX1_copyTo 2 none, Cond.fieldLink RX1 11 "VillageCinema$Hall" "row" "[I", Cond.methodLink RX1 18 arraycopyName]
def wsX4_let_r2 : List Cond := [Cond.native arraycopyName, Cond.static arraycopyName, Cond.initialized "java/lang/System", Cond.methodLink RX4 102 yX1_changeRent, Cond.instanceMethod yX1_changeRent, Cond.selects RX1 yX1_changeRent yX1_changeRent, Cond.code yX1_changeRent cX1_changeRent 3 none, Cond.methodLink RX4 106 yX4_dropShowsOfDay, Cond.instanceMethod yX4_dropShowsOfDay, Cond.selects RX4 yX4_dropShowsOfDay yX4_dropShowsOfDay, Cond.code yX4_dropShowsOfDay cX4_dropShowsOfDay 4 (some .int), Cond.methodLink RX4 81 yX4_placeOf, Cond.static yX4_placeOf, Cond.code yX4_placeOf cX4_placeOf 2 (some .int), Cond.methodLink RX4 84 yX1_replaceShow, Cond.instanceMethod yX1_replaceShow, Cond.selects RX1 yX1_replaceShow yX1_replaceShow, Cond.code yX1_replaceShow cX1_replaceShow 4 (some .int)]
def wsX4_let : List Cond := .code yX4_let cX4_let 3 (some .int) :: ((wsX4_let_r1 ++ wsX4_let_r2) ++ wsX40 ++ wsX20 ++ wsX10)
def wsX4_putInShowsOfPad_r1 : List Cond := [Cond.fieldLink RX4 26 "VillageCinema" "pad" "LVillageCinema$Pad;", Cond.fieldLink RX4 12 "VillageCinema" "hall" "LVillageCinema$Hall;", Cond.methodLink RX4 173 yX3_length, Cond.instanceMethod yX3_length, Cond.selects RX3 yX3_length yX3_length, Cond.initialized RX3, Cond.code yX3_length cX3_length 1 (some .int), Cond.fieldLink RX3 15 "VillageCinema$Pad" "length" "I", Cond.methodLink RX4 199 yX3_endOfShow, Cond.instanceMethod yX3_endOfShow, Cond.selects RX3 yX3_endOfShow yX3_endOfShow, Cond.code yX3_endOfShow cX3_endOfShow 3 (some .int), Cond.methodLink RX3 44 yX3_characterAt, Cond.instanceMethod yX3_characterAt, Cond.selects RX3 yX3_characterAt yX3_characterAt, Cond.code yX3_characterAt cX3_characterAt 2 (some .char), Cond.fieldLink RX3 11 "VillageCinema$Pad" "text" "[C", Cond.methodLink RX4 202 yX3_filmAt, Cond.instanceMethod yX3_filmAt, Cond.selects RX3 yX3_filmAt yX3_filmAt, Cond.code yX3_filmAt cX3_filmAt 2 (some .int), Cond.methodLink RX4 205 yX3_partAt, Cond.instanceMethod yX3_partAt, Cond.selects RX3 yX3_partAt yX3_partAt]
def wsX4_putInShowsOfPad_r2 : List Cond := [Cond.code yX3_partAt cX3_partAt 2 (some .int), Cond.methodLink RX4 208 yX3_dayAt, Cond.instanceMethod yX3_dayAt, Cond.selects RX3 yX3_dayAt yX3_dayAt, Cond.code yX3_dayAt cX3_dayAt 5 (some .int), Cond.methodLink RX4 77 yX4_errorOfShow, Cond.instanceMethod yX4_errorOfShow, Cond.selects RX4 yX4_errorOfShow yX4_errorOfShow, Cond.initialized RX4, Cond.code yX4_errorOfShow cX4_errorOfShow 4 (some .int), Cond.methodLink RX4 118 yX1_hasFilm, Cond.instanceMethod yX1_hasFilm, Cond.selects RX1 yX1_hasFilm yX1_hasFilm, Cond.initialized RX1, Cond.code yX1_hasFilm cX1_hasFilm 2 (some .boolean), Cond.methodLink RX1 24 yX1_films, Cond.instanceMethod yX1_films, Cond.selects RX1 yX1_films yX1_films, Cond.code yX1_films cX1_films 1 (some .int), Cond.fieldLink RX1 11 "VillageCinema$Hall" "row" "[I", Cond.methodLink RX4 87 yX4_isPlace, Cond.static yX4_isPlace, Cond.code yX4_isPlace cX4_isPlace 2 (some .boolean), Cond.methodLink RX4 65 yX4_isDay]
def wsX4_putInShowsOfPad_r3 : List Cond := [Cond.static yX4_isDay, Cond.code yX4_isDay cX4_isDay 1 (some .boolean), Cond.methodLink RX4 46 yX4_isWithin, Cond.static yX4_isWithin, Cond.code yX4_isWithin cX4_isWithin 3 (some .boolean), Cond.methodLink RX4 95 yX1_canHold, Cond.instanceMethod yX1_canHold, Cond.selects RX1 yX1_canHold yX1_canHold, Cond.code yX1_canHold cX1_canHold 3 (some .boolean), Cond.methodLink RX1 28 yX1_rentOf, Cond.instanceMethod yX1_rentOf, Cond.selects RX1 yX1_rentOf yX1_rentOf, Cond.code yX1_rentOf cX1_rentOf 2 (some .int), Cond.methodLink RX1 32 yX1_hasFilm, Cond.methodLink RX1 36 yX1_fact, Cond.instanceMethod yX1_fact, Cond.selects RX1 yX1_fact yX1_fact, Cond.code yX1_fact cX1_fact 3 (some .int), Cond.methodLink RX4 81 yX4_placeOf, Cond.static yX4_placeOf, Cond.code yX4_placeOf cX4_placeOf 2 (some .int), Cond.methodLink RX4 84 yX1_replaceShow, Cond.instanceMethod yX1_replaceShow, Cond.selects RX1 yX1_replaceShow yX1_replaceShow]
def wsX4_putInShowsOfPad_r4 : List Cond := [Cond.code yX1_replaceShow cX1_replaceShow 4 (some .int)]
def wsX4_putInShowsOfPad : List Cond := .code yX4_putInShowsOfPad cX4_putInShowsOfPad 7 (some .int) :: ((wsX4_putInShowsOfPad_r1 ++ (wsX4_putInShowsOfPad_r2 ++ (wsX4_putInShowsOfPad_r3 ++ wsX4_putInShowsOfPad_r4))) ++ wsX40 ++ wsX30 ++ wsX10)
def wsX4_carryOut_r1 : List Cond := [Cond.fieldLink RX4 26 "VillageCinema" "pad" "LVillageCinema$Pad;", Cond.fieldLink RX4 33 "VillageCinema" "history" "LVillageCinema$History;", Cond.fieldLink RX4 12 "VillageCinema" "hall" "LVillageCinema$Hall;", Cond.methodLink RX4 109 yX3_firstFault, Cond.instanceMethod yX3_firstFault, Cond.selects RX3 yX3_firstFault yX3_firstFault, Cond.initialized RX3, Cond.code yX3_firstFault cX3_firstFault 3 (some .int), Cond.fieldLink RX3 15 "VillageCinema$Pad" "length" "I", Cond.fieldLink RX3 11 "VillageCinema$Pad" "text" "[C", Cond.methodLink RX3 29 yX3_behind, Cond.static yX3_behind, Cond.code yX3_behind cX3_behind 2 (some .int), Cond.methodLink RX3 33 yX3_isBetween, Cond.static yX3_isBetween, Cond.code yX3_isBetween cX3_isBetween 3 (some .boolean), Cond.methodLink RX3 37 yX3_behindFirstDigit, Cond.static yX3_behindFirstDigit, Cond.code yX3_behindFirstDigit cX3_behindFirstDigit 1 (some .int), Cond.methodLink RX3 41 yX3_behindDay, Cond.static yX3_behindDay, Cond.code yX3_behindDay cX3_behindDay 1 (some .int), Cond.methodLink RX4 57 yX2_record, Cond.instanceMethod yX2_record]
def wsX4_carryOut_r2 : List Cond := [Cond.selects RX2 yX2_record yX2_record, Cond.initialized RX2, Cond.code yX2_record cX2_record 2 none, Cond.fieldLink RX2 13 "VillageCinema$History" "states" "[[I", Cond.fieldLink RX2 20 "VillageCinema$History" "oldest" "I", Cond.fieldLink RX2 16 "VillageCinema$History" "size" "I", Cond.methodLink RX2 23 yX1_copyTo, Cond.instanceMethod yX1_copyTo, Cond.selects RX1 yX1_copyTo yX1_copyTo, Cond.initialized RX1, Cond.code yX1_copyTo cX1_copyTo 2 none, Cond.fieldLink RX1 11 "VillageCinema$Hall" "row" "[I", Cond.methodLink RX1 18 arraycopyName, Cond.native arraycopyName, Cond.static arraycopyName, Cond.initialized "java/lang/System", Cond.methodLink RX4 112 yX4_putInShowsOfPad, Cond.instanceMethod yX4_putInShowsOfPad, Cond.selects RX4 yX4_putInShowsOfPad yX4_putInShowsOfPad, Cond.initialized RX4, Cond.code yX4_putInShowsOfPad cX4_putInShowsOfPad 7 (some .int), Cond.methodLink RX4 173 yX3_length, Cond.instanceMethod yX3_length, Cond.selects RX3 yX3_length yX3_length]
def wsX4_carryOut_r3 : List Cond := [Cond.code yX3_length cX3_length 1 (some .int), Cond.methodLink RX4 199 yX3_endOfShow, Cond.instanceMethod yX3_endOfShow, Cond.selects RX3 yX3_endOfShow yX3_endOfShow, Cond.code yX3_endOfShow cX3_endOfShow 3 (some .int), Cond.methodLink RX3 44 yX3_characterAt, Cond.instanceMethod yX3_characterAt, Cond.selects RX3 yX3_characterAt yX3_characterAt, Cond.code yX3_characterAt cX3_characterAt 2 (some .char), Cond.methodLink RX4 202 yX3_filmAt, Cond.instanceMethod yX3_filmAt, Cond.selects RX3 yX3_filmAt yX3_filmAt, Cond.code yX3_filmAt cX3_filmAt 2 (some .int), Cond.methodLink RX4 205 yX3_partAt, Cond.instanceMethod yX3_partAt, Cond.selects RX3 yX3_partAt yX3_partAt, Cond.code yX3_partAt cX3_partAt 2 (some .int), Cond.methodLink RX4 208 yX3_dayAt, Cond.instanceMethod yX3_dayAt, Cond.selects RX3 yX3_dayAt yX3_dayAt, Cond.code yX3_dayAt cX3_dayAt 5 (some .int), Cond.methodLink RX4 77 yX4_errorOfShow, Cond.instanceMethod yX4_errorOfShow, Cond.selects RX4 yX4_errorOfShow yX4_errorOfShow]
def wsX4_carryOut_r4 : List Cond := [Cond.code yX4_errorOfShow cX4_errorOfShow 4 (some .int), Cond.methodLink RX4 118 yX1_hasFilm, Cond.instanceMethod yX1_hasFilm, Cond.selects RX1 yX1_hasFilm yX1_hasFilm, Cond.code yX1_hasFilm cX1_hasFilm 2 (some .boolean), Cond.methodLink RX1 24 yX1_films, Cond.instanceMethod yX1_films, Cond.selects RX1 yX1_films yX1_films, Cond.code yX1_films cX1_films 1 (some .int), Cond.methodLink RX4 87 yX4_isPlace, Cond.static yX4_isPlace, Cond.code yX4_isPlace cX4_isPlace 2 (some .boolean), Cond.methodLink RX4 65 yX4_isDay, Cond.static yX4_isDay, Cond.code yX4_isDay cX4_isDay 1 (some .boolean), Cond.methodLink RX4 46 yX4_isWithin, Cond.static yX4_isWithin, Cond.code yX4_isWithin cX4_isWithin 3 (some .boolean), Cond.methodLink RX4 95 yX1_canHold, Cond.instanceMethod yX1_canHold, Cond.selects RX1 yX1_canHold yX1_canHold, Cond.code yX1_canHold cX1_canHold 3 (some .boolean), Cond.methodLink RX1 28 yX1_rentOf, Cond.instanceMethod yX1_rentOf]
def wsX4_carryOut_r5 : List Cond := [Cond.selects RX1 yX1_rentOf yX1_rentOf, Cond.code yX1_rentOf cX1_rentOf 2 (some .int), Cond.methodLink RX1 32 yX1_hasFilm, Cond.methodLink RX1 36 yX1_fact, Cond.instanceMethod yX1_fact, Cond.selects RX1 yX1_fact yX1_fact, Cond.code yX1_fact cX1_fact 3 (some .int), Cond.methodLink RX4 81 yX4_placeOf, Cond.static yX4_placeOf, Cond.code yX4_placeOf cX4_placeOf 2 (some .int), Cond.methodLink RX4 84 yX1_replaceShow, Cond.instanceMethod yX1_replaceShow, Cond.selects RX1 yX1_replaceShow yX1_replaceShow, Cond.code yX1_replaceShow cX1_replaceShow 4 (some .int), Cond.methodLink RX4 115 yX3_empty, Cond.instanceMethod yX3_empty, Cond.selects RX3 yX3_empty yX3_empty, Cond.code yX3_empty cX3_empty 1 none]
def wsX4_carryOut : List Cond := .code yX4_carryOut cX4_carryOut 2 (some .int) :: ((wsX4_carryOut_r1 ++ (wsX4_carryOut_r2 ++ (wsX4_carryOut_r3 ++ (wsX4_carryOut_r4 ++ wsX4_carryOut_r5)))) ++ wsX40 ++ wsX30 ++ wsX20 ++ wsX10)
def wsX4_at_r1 : List Cond := [Cond.fieldLink RX4 12 "VillageCinema" "hall" "LVillageCinema$Hall;", Cond.fieldLink RX4 19 "VillageCinema" "run" "LVillageCinema$FilmRun;", Cond.methodLink RX4 87 yX4_isPlace, Cond.static yX4_isPlace, Cond.initialized RX4, Cond.code yX4_isPlace cX4_isPlace 2 (some .boolean), Cond.methodLink RX4 65 yX4_isDay, Cond.static yX4_isDay, Cond.code yX4_isDay cX4_isDay 1 (some .boolean), Cond.methodLink RX4 46 yX4_isWithin, Cond.static yX4_isWithin, Cond.code yX4_isWithin cX4_isWithin 3 (some .boolean), Cond.methodLink RX4 81 yX4_placeOf, Cond.static yX4_placeOf, Cond.code yX4_placeOf cX4_placeOf 2 (some .int), Cond.methodLink RX4 91 yX1_showAt, Cond.instanceMethod yX1_showAt, Cond.selects RX1 yX1_showAt yX1_showAt, Cond.initialized RX1, Cond.code yX1_showAt cX1_showAt 2 (some .int), Cond.fieldLink RX1 11 "VillageCinema$Hall" "row" "[I", Cond.methodLink RX4 118 yX1_hasFilm, Cond.instanceMethod yX1_hasFilm, Cond.selects RX1 yX1_hasFilm yX1_hasFilm]
def wsX4_at_r2 : List Cond := [Cond.code yX1_hasFilm cX1_hasFilm 2 (some .boolean), Cond.methodLink RX1 24 yX1_films, Cond.instanceMethod yX1_films, Cond.selects RX1 yX1_films yX1_films, Cond.code yX1_films cX1_films 1 (some .int), Cond.methodLink RX4 121 yX0_follow, Cond.instanceMethod yX0_follow, Cond.selects RX0 yX0_follow yX0_follow, Cond.initialized RX0, Cond.code yX0_follow cX0_follow 7 none, Cond.fieldLink RX0 30 "VillageCinema$FilmRun" "fullShows" "I", Cond.fieldLink RX0 21 "VillageCinema$FilmRun" "shares" "[I", Cond.fieldLink RX0 49 "VillageCinema$FilmRun" "leftAtEnd" "I", Cond.methodLink RX0 24 yX1_fact, Cond.instanceMethod yX1_fact, Cond.selects RX1 yX1_fact yX1_fact, Cond.code yX1_fact cX1_fact 3 (some .int), Cond.methodLink RX0 34 yX0_followWeek, Cond.instanceMethod yX0_followWeek, Cond.selects RX0 yX0_followWeek yX0_followWeek, Cond.code yX0_followWeek cX0_followWeek 10 (some .int), Cond.fieldLink RX0 9 "VillageCinema$FilmRun" "peopleAt" "[I", Cond.fieldLink RX0 15 "VillageCinema$FilmRun" "leftBehind" "[I", Cond.fieldLink RX0 18 "VillageCinema$FilmRun" "sums" "[I"]
def wsX4_at_r3 : List Cond := [Cond.methodLink RX0 52 yX1_showAt, Cond.methodLink RX0 56 yX0_peopleOf, Cond.static yX0_peopleOf, Cond.code yX0_peopleOf cX0_peopleOf 4 (some .int), Cond.methodLink RX0 63 Lib.Math.min.name, Cond.static Lib.Math.min.name, Cond.initialized "java/lang/Math", Cond.code Lib.Math.min.name Lib.Math.min.code 2 (some .int), Cond.methodLink RX0 60 yX1_setting, Cond.instanceMethod yX1_setting, Cond.selects RX1 yX1_setting yX1_setting, Cond.code yX1_setting cX1_setting 2 (some .int), Cond.methodLink RX0 38 yX0_sumOfWeek, Cond.instanceMethod yX0_sumOfWeek, Cond.selects RX0 yX0_sumOfWeek yX0_sumOfWeek, Cond.code yX0_sumOfWeek cX0_sumOfWeek 3 (some .int), Cond.methodLink RX0 41 yX0_nextShare, Cond.static yX0_nextShare, Cond.code yX0_nextShare cX0_nextShare 3 (some .int), Cond.methodLink RX0 68 Lib.Math.max.name, Cond.static Lib.Math.max.name, Cond.code Lib.Math.max.name Lib.Math.max.code 2 (some .int), Cond.methodLink RX0 45 yX0_reckonWeek, Cond.instanceMethod yX0_reckonWeek]
def wsX4_at_r4 : List Cond := [Cond.selects RX0 yX0_reckonWeek yX0_reckonWeek, Cond.code yX0_reckonWeek cX0_reckonWeek 7 none, Cond.methodLink RX0 71 yX0_shareOfTakings, Cond.instanceMethod yX0_shareOfTakings, Cond.selects RX0 yX0_shareOfTakings yX0_shareOfTakings, Cond.code yX0_shareOfTakings cX0_shareOfTakings 2 (some .int), Cond.methodLink RX4 125 yX0_peopleAt, Cond.instanceMethod yX0_peopleAt, Cond.selects RX0 yX0_peopleAt yX0_peopleAt, Cond.code yX0_peopleAt cX0_peopleAt 2 (some .int), Cond.methodLink RX4 128 yX1_setting, Cond.methodLink RX4 131 yX0_leftBehind, Cond.instanceMethod yX0_leftBehind, Cond.selects RX0 yX0_leftBehind yX0_leftBehind, Cond.code yX0_leftBehind cX0_leftBehind 2 (some .int)]
def wsX4_at : List Cond := .code yX4_at cX4_at 6 (some .int) :: ((wsX4_at_r1 ++ (wsX4_at_r2 ++ (wsX4_at_r3 ++ wsX4_at_r4))) ++ wsX40 ++ wsX10 ++ wsX00)
def wsX4_of_r1 : List Cond := [Cond.fieldLink RX4 12 "VillageCinema" "hall" "LVillageCinema$Hall;", Cond.fieldLink RX4 19 "VillageCinema" "run" "LVillageCinema$FilmRun;", Cond.methodLink RX4 118 yX1_hasFilm, Cond.instanceMethod yX1_hasFilm, Cond.selects RX1 yX1_hasFilm yX1_hasFilm, Cond.initialized RX1, Cond.code yX1_hasFilm cX1_hasFilm 2 (some .boolean), Cond.methodLink RX1 24 yX1_films, Cond.instanceMethod yX1_films, Cond.selects RX1 yX1_films yX1_films, Cond.code yX1_films cX1_films 1 (some .int), Cond.fieldLink RX1 11 "VillageCinema$Hall" "row" "[I", Cond.methodLink RX4 46 yX4_isWithin, Cond.static yX4_isWithin, Cond.initialized RX4, Cond.code yX4_isWithin cX4_isWithin 3 (some .boolean), Cond.methodLink RX4 134 yX1_fact, Cond.instanceMethod yX1_fact, Cond.selects RX1 yX1_fact yX1_fact, Cond.code yX1_fact cX1_fact 3 (some .int), Cond.methodLink RX4 137 yX1_firstDayShown, Cond.instanceMethod yX1_firstDayShown, Cond.selects RX1 yX1_firstDayShown yX1_firstDayShown, Cond.code yX1_firstDayShown cX1_firstDayShown 3 (some .int)]
def wsX4_of_r2 : List Cond := [Cond.methodLink RX1 40 yX1_showAt, Cond.instanceMethod yX1_showAt, Cond.selects RX1 yX1_showAt yX1_showAt, Cond.code yX1_showAt cX1_showAt 2 (some .int), Cond.methodLink RX4 121 yX0_follow, Cond.instanceMethod yX0_follow, Cond.selects RX0 yX0_follow yX0_follow, Cond.initialized RX0, Cond.code yX0_follow cX0_follow 7 none, Cond.fieldLink RX0 30 "VillageCinema$FilmRun" "fullShows" "I", Cond.fieldLink RX0 21 "VillageCinema$FilmRun" "shares" "[I", Cond.fieldLink RX0 49 "VillageCinema$FilmRun" "leftAtEnd" "I", Cond.methodLink RX0 24 yX1_fact, Cond.methodLink RX0 34 yX0_followWeek, Cond.instanceMethod yX0_followWeek, Cond.selects RX0 yX0_followWeek yX0_followWeek, Cond.code yX0_followWeek cX0_followWeek 10 (some .int), Cond.fieldLink RX0 9 "VillageCinema$FilmRun" "peopleAt" "[I", Cond.fieldLink RX0 15 "VillageCinema$FilmRun" "leftBehind" "[I", Cond.fieldLink RX0 18 "VillageCinema$FilmRun" "sums" "[I", Cond.methodLink RX0 52 yX1_showAt, Cond.methodLink RX0 56 yX0_peopleOf, Cond.static yX0_peopleOf, Cond.code yX0_peopleOf cX0_peopleOf 4 (some .int)]
def wsX4_of_r3 : List Cond := [Cond.methodLink RX0 63 Lib.Math.min.name, Cond.static Lib.Math.min.name, Cond.initialized "java/lang/Math", Cond.code Lib.Math.min.name Lib.Math.min.code 2 (some .int), Cond.methodLink RX0 60 yX1_setting, Cond.instanceMethod yX1_setting, Cond.selects RX1 yX1_setting yX1_setting, Cond.code yX1_setting cX1_setting 2 (some .int), Cond.methodLink RX0 38 yX0_sumOfWeek, Cond.instanceMethod yX0_sumOfWeek, Cond.selects RX0 yX0_sumOfWeek yX0_sumOfWeek, Cond.code yX0_sumOfWeek cX0_sumOfWeek 3 (some .int), Cond.methodLink RX0 41 yX0_nextShare, Cond.static yX0_nextShare, Cond.code yX0_nextShare cX0_nextShare 3 (some .int), Cond.methodLink RX0 68 Lib.Math.max.name, Cond.static Lib.Math.max.name, Cond.code Lib.Math.max.name Lib.Math.max.code 2 (some .int), Cond.methodLink RX0 45 yX0_reckonWeek, Cond.instanceMethod yX0_reckonWeek, Cond.selects RX0 yX0_reckonWeek yX0_reckonWeek, Cond.code yX0_reckonWeek cX0_reckonWeek 7 none, Cond.methodLink RX0 71 yX0_shareOfTakings, Cond.instanceMethod yX0_shareOfTakings]
def wsX4_of_r4 : List Cond := [Cond.selects RX0 yX0_shareOfTakings yX0_shareOfTakings, Cond.code yX0_shareOfTakings cX0_shareOfTakings 2 (some .int), Cond.methodLink RX4 140 yX0_leftAtEnd, Cond.instanceMethod yX0_leftAtEnd, Cond.selects RX0 yX0_leftAtEnd yX0_leftAtEnd, Cond.code yX0_leftAtEnd cX0_leftAtEnd 1 (some .int), Cond.methodLink RX4 143 yX0_sum, Cond.instanceMethod yX0_sum, Cond.selects RX0 yX0_sum yX0_sum, Cond.code yX0_sum cX0_sum 4 (some .int)]
def wsX4_of : List Cond := .code yX4_of cX4_of 3 (some .int) :: ((wsX4_of_r1 ++ (wsX4_of_r2 ++ (wsX4_of_r3 ++ wsX4_of_r4))) ++ wsX40 ++ wsX10 ++ wsX00)
def wsX4_isWeek : List Cond := .code yX4_isWeek cX4_isWeek 1 (some .boolean) :: ([.methodLink RX4 46 yX4_isWithin, .static yX4_isWithin, .initialized RX4, .code yX4_isWithin cX4_isWithin 3 (some .boolean)])
def wsX4_inWeek_r1 : List Cond := [Cond.fieldLink RX4 12 "VillageCinema" "hall" "LVillageCinema$Hall;", Cond.fieldLink RX4 19 "VillageCinema" "run" "LVillageCinema$FilmRun;", Cond.methodLink RX4 118 yX1_hasFilm, Cond.instanceMethod yX1_hasFilm, Cond.selects RX1 yX1_hasFilm yX1_hasFilm, Cond.initialized RX1, Cond.code yX1_hasFilm cX1_hasFilm 2 (some .boolean), Cond.methodLink RX1 24 yX1_films, Cond.instanceMethod yX1_films, Cond.selects RX1 yX1_films yX1_films, Cond.code yX1_films cX1_films 1 (some .int), Cond.fieldLink RX1 11 "VillageCinema$Hall" "row" "[I", Cond.methodLink RX4 146 yX4_isWeek, Cond.static yX4_isWeek, Cond.initialized RX4, Cond.code yX4_isWeek cX4_isWeek 1 (some .boolean), Cond.methodLink RX4 46 yX4_isWithin, Cond.static yX4_isWithin, Cond.code yX4_isWithin cX4_isWithin 3 (some .boolean), Cond.methodLink RX4 121 yX0_follow, Cond.instanceMethod yX0_follow, Cond.selects RX0 yX0_follow yX0_follow, Cond.initialized RX0, Cond.code yX0_follow cX0_follow 7 none]
def wsX4_inWeek_r2 : List Cond := [Cond.fieldLink RX0 30 "VillageCinema$FilmRun" "fullShows" "I", Cond.fieldLink RX0 21 "VillageCinema$FilmRun" "shares" "[I", Cond.fieldLink RX0 49 "VillageCinema$FilmRun" "leftAtEnd" "I", Cond.methodLink RX0 24 yX1_fact, Cond.instanceMethod yX1_fact, Cond.selects RX1 yX1_fact yX1_fact, Cond.code yX1_fact cX1_fact 3 (some .int), Cond.methodLink RX0 34 yX0_followWeek, Cond.instanceMethod yX0_followWeek, Cond.selects RX0 yX0_followWeek yX0_followWeek, Cond.code yX0_followWeek cX0_followWeek 10 (some .int), Cond.fieldLink RX0 9 "VillageCinema$FilmRun" "peopleAt" "[I", Cond.fieldLink RX0 15 "VillageCinema$FilmRun" "leftBehind" "[I", Cond.fieldLink RX0 18 "VillageCinema$FilmRun" "sums" "[I", Cond.methodLink RX0 52 yX1_showAt, Cond.instanceMethod yX1_showAt, Cond.selects RX1 yX1_showAt yX1_showAt, Cond.code yX1_showAt cX1_showAt 2 (some .int), Cond.methodLink RX0 56 yX0_peopleOf, Cond.static yX0_peopleOf, Cond.code yX0_peopleOf cX0_peopleOf 4 (some .int), Cond.methodLink RX0 63 Lib.Math.min.name, Cond.static Lib.Math.min.name, Cond.initialized "java/lang/Math"]
def wsX4_inWeek_r3 : List Cond := [Cond.code Lib.Math.min.name Lib.Math.min.code 2 (some .int), Cond.methodLink RX0 60 yX1_setting, Cond.instanceMethod yX1_setting, Cond.selects RX1 yX1_setting yX1_setting, Cond.code yX1_setting cX1_setting 2 (some .int), Cond.methodLink RX0 38 yX0_sumOfWeek, Cond.instanceMethod yX0_sumOfWeek, Cond.selects RX0 yX0_sumOfWeek yX0_sumOfWeek, Cond.code yX0_sumOfWeek cX0_sumOfWeek 3 (some .int), Cond.methodLink RX0 41 yX0_nextShare, Cond.static yX0_nextShare, Cond.code yX0_nextShare cX0_nextShare 3 (some .int), Cond.methodLink RX0 68 Lib.Math.max.name, Cond.static Lib.Math.max.name, Cond.code Lib.Math.max.name Lib.Math.max.code 2 (some .int), Cond.methodLink RX0 45 yX0_reckonWeek, Cond.instanceMethod yX0_reckonWeek, Cond.selects RX0 yX0_reckonWeek yX0_reckonWeek, Cond.code yX0_reckonWeek cX0_reckonWeek 7 none, Cond.methodLink RX0 71 yX0_shareOfTakings, Cond.instanceMethod yX0_shareOfTakings, Cond.selects RX0 yX0_shareOfTakings yX0_shareOfTakings, Cond.code yX0_shareOfTakings cX0_shareOfTakings 2 (some .int), Cond.methodLink RX4 149 yX0_sumOfWeek]
def wsX4_inWeek_r4 : List Cond := [Cond.methodLink RX4 152 yX0_shareIn, Cond.instanceMethod yX0_shareIn, Cond.selects RX0 yX0_shareIn yX0_shareIn, Cond.code yX0_shareIn cX0_shareIn 2 (some .int), Cond.methodLink RX4 155 yX0_dueAboveShare, Cond.instanceMethod yX0_dueAboveShare, Cond.selects RX0 yX0_dueAboveShare yX0_dueAboveShare, Cond.code yX0_dueAboveShare cX0_dueAboveShare 2 (some .int)]
def wsX4_inWeek : List Cond := .code yX4_inWeek cX4_inWeek 4 (some .int) :: ((wsX4_inWeek_r1 ++ (wsX4_inWeek_r2 ++ (wsX4_inWeek_r3 ++ wsX4_inWeek_r4))) ++ wsX40 ++ wsX10 ++ wsX00)
def wsX4_sumOfFilmsInWeek_r1 : List Cond := [Cond.fieldLink RX4 12 "VillageCinema" "hall" "LVillageCinema$Hall;", Cond.fieldLink RX4 19 "VillageCinema" "run" "LVillageCinema$FilmRun;", Cond.methodLink RX4 69 yX1_films, Cond.instanceMethod yX1_films, Cond.selects RX1 yX1_films yX1_films, Cond.initialized RX1, Cond.code yX1_films cX1_films 1 (some .int), Cond.fieldLink RX1 11 "VillageCinema$Hall" "row" "[I", Cond.methodLink RX4 121 yX0_follow, Cond.instanceMethod yX0_follow, Cond.selects RX0 yX0_follow yX0_follow, Cond.initialized RX0, Cond.code yX0_follow cX0_follow 7 none, Cond.fieldLink RX0 30 "VillageCinema$FilmRun" "fullShows" "I", Cond.fieldLink RX0 21 "VillageCinema$FilmRun" "shares" "[I", Cond.fieldLink RX0 49 "VillageCinema$FilmRun" "leftAtEnd" "I", Cond.methodLink RX0 24 yX1_fact, Cond.instanceMethod yX1_fact, Cond.selects RX1 yX1_fact yX1_fact, Cond.code yX1_fact cX1_fact 3 (some .int), Cond.methodLink RX0 34 yX0_followWeek, Cond.instanceMethod yX0_followWeek, Cond.selects RX0 yX0_followWeek yX0_followWeek, Cond.code yX0_followWeek cX0_followWeek 10 (some .int)]
def wsX4_sumOfFilmsInWeek_r2 : List Cond := [Cond.fieldLink RX0 9 "VillageCinema$FilmRun" "peopleAt" "[I", Cond.fieldLink RX0 15 "VillageCinema$FilmRun" "leftBehind" "[I", Cond.fieldLink RX0 18 "VillageCinema$FilmRun" "sums" "[I", Cond.methodLink RX0 52 yX1_showAt, Cond.instanceMethod yX1_showAt, Cond.selects RX1 yX1_showAt yX1_showAt, Cond.code yX1_showAt cX1_showAt 2 (some .int), Cond.methodLink RX0 56 yX0_peopleOf, Cond.static yX0_peopleOf, Cond.code yX0_peopleOf cX0_peopleOf 4 (some .int), Cond.methodLink RX0 63 Lib.Math.min.name, Cond.static Lib.Math.min.name, Cond.initialized "java/lang/Math", Cond.code Lib.Math.min.name Lib.Math.min.code 2 (some .int), Cond.methodLink RX0 60 yX1_setting, Cond.instanceMethod yX1_setting, Cond.selects RX1 yX1_setting yX1_setting, Cond.code yX1_setting cX1_setting 2 (some .int), Cond.methodLink RX0 38 yX0_sumOfWeek, Cond.instanceMethod yX0_sumOfWeek, Cond.selects RX0 yX0_sumOfWeek yX0_sumOfWeek, Cond.code yX0_sumOfWeek cX0_sumOfWeek 3 (some .int), Cond.methodLink RX0 41 yX0_nextShare, Cond.static yX0_nextShare]
def wsX4_sumOfFilmsInWeek_r3 : List Cond := [Cond.code yX0_nextShare cX0_nextShare 3 (some .int), Cond.methodLink RX0 68 Lib.Math.max.name, Cond.static Lib.Math.max.name, Cond.code Lib.Math.max.name Lib.Math.max.code 2 (some .int), Cond.methodLink RX0 45 yX0_reckonWeek, Cond.instanceMethod yX0_reckonWeek, Cond.selects RX0 yX0_reckonWeek yX0_reckonWeek, Cond.code yX0_reckonWeek cX0_reckonWeek 7 none, Cond.methodLink RX0 71 yX0_shareOfTakings, Cond.instanceMethod yX0_shareOfTakings, Cond.selects RX0 yX0_shareOfTakings yX0_shareOfTakings, Cond.code yX0_shareOfTakings cX0_shareOfTakings 2 (some .int), Cond.methodLink RX4 149 yX0_sumOfWeek]
def wsX4_sumOfFilmsInWeek : List Cond := .code yX4_sumOfFilmsInWeek cX4_sumOfFilmsInWeek 5 (some .int) :: ((wsX4_sumOfFilmsInWeek_r1 ++ (wsX4_sumOfFilmsInWeek_r2 ++ wsX4_sumOfFilmsInWeek_r3)) ++ wsX40 ++ wsX10 ++ wsX00)
def wsX4_week_r1 : List Cond := [Cond.fieldLink RX4 12 "VillageCinema" "hall" "LVillageCinema$Hall;", Cond.constant RX4 101 (1000000), Cond.methodLink RX4 146 yX4_isWeek, Cond.static yX4_isWeek, Cond.initialized RX4, Cond.code yX4_isWeek cX4_isWeek 1 (some .boolean), Cond.methodLink RX4 46 yX4_isWithin, Cond.static yX4_isWithin, Cond.code yX4_isWithin cX4_isWithin 3 (some .boolean), Cond.methodLink RX4 158 yX4_sumOfFilmsInWeek, Cond.instanceMethod yX4_sumOfFilmsInWeek, Cond.selects RX4 yX4_sumOfFilmsInWeek yX4_sumOfFilmsInWeek, Cond.code yX4_sumOfFilmsInWeek cX4_sumOfFilmsInWeek 5 (some .int), Cond.fieldLink RX4 19 "VillageCinema" "run" "LVillageCinema$FilmRun;", Cond.methodLink RX4 69 yX1_films, Cond.instanceMethod yX1_films, Cond.selects RX1 yX1_films yX1_films, Cond.initialized RX1, Cond.code yX1_films cX1_films 1 (some .int), Cond.fieldLink RX1 11 "VillageCinema$Hall" "row" "[I", Cond.methodLink RX4 121 yX0_follow, Cond.instanceMethod yX0_follow, Cond.selects RX0 yX0_follow yX0_follow, Cond.initialized RX0]
def wsX4_week_r2 : List Cond := [Cond.code yX0_follow cX0_follow 7 none, Cond.fieldLink RX0 30 "VillageCinema$FilmRun" "fullShows" "I", Cond.fieldLink RX0 21 "VillageCinema$FilmRun" "shares" "[I", Cond.fieldLink RX0 49 "VillageCinema$FilmRun" "leftAtEnd" "I", Cond.methodLink RX0 24 yX1_fact, Cond.instanceMethod yX1_fact, Cond.selects RX1 yX1_fact yX1_fact, Cond.code yX1_fact cX1_fact 3 (some .int), Cond.methodLink RX0 34 yX0_followWeek, Cond.instanceMethod yX0_followWeek, Cond.selects RX0 yX0_followWeek yX0_followWeek, Cond.code yX0_followWeek cX0_followWeek 10 (some .int), Cond.fieldLink RX0 9 "VillageCinema$FilmRun" "peopleAt" "[I", Cond.fieldLink RX0 15 "VillageCinema$FilmRun" "leftBehind" "[I", Cond.fieldLink RX0 18 "VillageCinema$FilmRun" "sums" "[I", Cond.methodLink RX0 52 yX1_showAt, Cond.instanceMethod yX1_showAt, Cond.selects RX1 yX1_showAt yX1_showAt, Cond.code yX1_showAt cX1_showAt 2 (some .int), Cond.methodLink RX0 56 yX0_peopleOf, Cond.static yX0_peopleOf, Cond.code yX0_peopleOf cX0_peopleOf 4 (some .int), Cond.methodLink RX0 63 Lib.Math.min.name, Cond.static Lib.Math.min.name]
def wsX4_week_r3 : List Cond := [Cond.initialized "java/lang/Math", Cond.code Lib.Math.min.name Lib.Math.min.code 2 (some .int), Cond.methodLink RX0 60 yX1_setting, Cond.instanceMethod yX1_setting, Cond.selects RX1 yX1_setting yX1_setting, Cond.code yX1_setting cX1_setting 2 (some .int), Cond.methodLink RX0 38 yX0_sumOfWeek, Cond.instanceMethod yX0_sumOfWeek, Cond.selects RX0 yX0_sumOfWeek yX0_sumOfWeek, Cond.code yX0_sumOfWeek cX0_sumOfWeek 3 (some .int), Cond.methodLink RX0 41 yX0_nextShare, Cond.static yX0_nextShare, Cond.code yX0_nextShare cX0_nextShare 3 (some .int), Cond.methodLink RX0 68 Lib.Math.max.name, Cond.static Lib.Math.max.name, Cond.code Lib.Math.max.name Lib.Math.max.code 2 (some .int), Cond.methodLink RX0 45 yX0_reckonWeek, Cond.instanceMethod yX0_reckonWeek, Cond.selects RX0 yX0_reckonWeek yX0_reckonWeek, Cond.code yX0_reckonWeek cX0_reckonWeek 7 none, Cond.methodLink RX0 71 yX0_shareOfTakings, Cond.instanceMethod yX0_shareOfTakings, Cond.selects RX0 yX0_shareOfTakings yX0_shareOfTakings, Cond.code yX0_shareOfTakings cX0_shareOfTakings 2 (some .int)]
def wsX4_week_r4 : List Cond := [Cond.methodLink RX4 149 yX0_sumOfWeek, Cond.methodLink RX4 161 yX1_rentsOf, Cond.instanceMethod yX1_rentsOf, Cond.selects RX1 yX1_rentsOf yX1_rentsOf, Cond.code yX1_rentsOf cX1_rentsOf 5 (some .int), Cond.methodLink RX1 28 yX1_rentOf, Cond.instanceMethod yX1_rentOf, Cond.selects RX1 yX1_rentOf yX1_rentOf, Cond.code yX1_rentOf cX1_rentOf 2 (some .int)]
def wsX4_week : List Cond := .code yX4_week cX4_week 5 (some .int) :: ((wsX4_week_r1 ++ (wsX4_week_r2 ++ (wsX4_week_r3 ++ wsX4_week_r4))) ++ wsX40 ++ wsX10 ++ wsX00)
def wsX4_distributor_r1 : List Cond := [Cond.fieldLink RX4 12 "VillageCinema" "hall" "LVillageCinema$Hall;", Cond.methodLink RX4 46 yX4_isWithin, Cond.static yX4_isWithin, Cond.initialized RX4, Cond.code yX4_isWithin cX4_isWithin 3 (some .boolean), Cond.methodLink RX4 69 yX1_films, Cond.instanceMethod yX1_films, Cond.selects RX1 yX1_films yX1_films, Cond.initialized RX1, Cond.code yX1_films cX1_films 1 (some .int), Cond.fieldLink RX1 11 "VillageCinema$Hall" "row" "[I", Cond.methodLink RX4 134 yX1_fact, Cond.instanceMethod yX1_fact, Cond.selects RX1 yX1_fact yX1_fact, Cond.code yX1_fact cX1_fact 3 (some .int), Cond.methodLink RX4 164 yX4_sumOfFilm, Cond.instanceMethod yX4_sumOfFilm, Cond.selects RX4 yX4_sumOfFilm yX4_sumOfFilm, Cond.code yX4_sumOfFilm cX4_sumOfFilm 3 (some .int), Cond.fieldLink RX4 19 "VillageCinema" "run" "LVillageCinema$FilmRun;", Cond.methodLink RX4 121 yX0_follow, Cond.instanceMethod yX0_follow, Cond.selects RX0 yX0_follow yX0_follow, Cond.initialized RX0]
def wsX4_distributor_r2 : List Cond := [Cond.code yX0_follow cX0_follow 7 none, Cond.fieldLink RX0 30 "VillageCinema$FilmRun" "fullShows" "I", Cond.fieldLink RX0 21 "VillageCinema$FilmRun" "shares" "[I", Cond.fieldLink RX0 49 "VillageCinema$FilmRun" "leftAtEnd" "I", Cond.methodLink RX0 24 yX1_fact, Cond.methodLink RX0 34 yX0_followWeek, Cond.instanceMethod yX0_followWeek, Cond.selects RX0 yX0_followWeek yX0_followWeek, Cond.code yX0_followWeek cX0_followWeek 10 (some .int), Cond.fieldLink RX0 9 "VillageCinema$FilmRun" "peopleAt" "[I", Cond.fieldLink RX0 15 "VillageCinema$FilmRun" "leftBehind" "[I", Cond.fieldLink RX0 18 "VillageCinema$FilmRun" "sums" "[I", Cond.methodLink RX0 52 yX1_showAt, Cond.instanceMethod yX1_showAt, Cond.selects RX1 yX1_showAt yX1_showAt, Cond.code yX1_showAt cX1_showAt 2 (some .int), Cond.methodLink RX0 56 yX0_peopleOf, Cond.static yX0_peopleOf, Cond.code yX0_peopleOf cX0_peopleOf 4 (some .int), Cond.methodLink RX0 63 Lib.Math.min.name, Cond.static Lib.Math.min.name, Cond.initialized "java/lang/Math", Cond.code Lib.Math.min.name Lib.Math.min.code 2 (some .int), Cond.methodLink RX0 60 yX1_setting]
def wsX4_distributor_r3 : List Cond := [Cond.instanceMethod yX1_setting, Cond.selects RX1 yX1_setting yX1_setting, Cond.code yX1_setting cX1_setting 2 (some .int), Cond.methodLink RX0 38 yX0_sumOfWeek, Cond.instanceMethod yX0_sumOfWeek, Cond.selects RX0 yX0_sumOfWeek yX0_sumOfWeek, Cond.code yX0_sumOfWeek cX0_sumOfWeek 3 (some .int), Cond.methodLink RX0 41 yX0_nextShare, Cond.static yX0_nextShare, Cond.code yX0_nextShare cX0_nextShare 3 (some .int), Cond.methodLink RX0 68 Lib.Math.max.name, Cond.static Lib.Math.max.name, Cond.code Lib.Math.max.name Lib.Math.max.code 2 (some .int), Cond.methodLink RX0 45 yX0_reckonWeek, Cond.instanceMethod yX0_reckonWeek, Cond.selects RX0 yX0_reckonWeek yX0_reckonWeek, Cond.code yX0_reckonWeek cX0_reckonWeek 7 none, Cond.methodLink RX0 71 yX0_shareOfTakings, Cond.instanceMethod yX0_shareOfTakings, Cond.selects RX0 yX0_shareOfTakings yX0_shareOfTakings, Cond.code yX0_shareOfTakings cX0_shareOfTakings 2 (some .int), Cond.methodLink RX4 143 yX0_sum, Cond.instanceMethod yX0_sum, Cond.selects RX0 yX0_sum yX0_sum]
def wsX4_distributor_r4 : List Cond := [Cond.code yX0_sum cX0_sum 4 (some .int)]
def wsX4_distributor : List Cond := .code yX4_distributor cX4_distributor 5 (some .int) :: ((wsX4_distributor_r1 ++ (wsX4_distributor_r2 ++ (wsX4_distributor_r3 ++ wsX4_distributor_r4))) ++ wsX40 ++ wsX10 ++ wsX00)
def wsX4_rent : List Cond := .code yX4_rent cX4_rent 2 (some .int) :: ([.fieldLink RX4 12 "VillageCinema" "hall" "LVillageCinema$Hall;", .methodLink RX4 65 yX4_isDay, .static yX4_isDay, .initialized RX4, .code yX4_isDay cX4_isDay 1 (some .boolean), .methodLink RX4 46 yX4_isWithin, .static yX4_isWithin, .code yX4_isWithin cX4_isWithin 3 (some .boolean), .methodLink RX4 167 yX1_rentOf, .instanceMethod yX1_rentOf, .selects RX1 yX1_rentOf yX1_rentOf, .initialized RX1, .code yX1_rentOf cX1_rentOf 2 (some .int), .fieldLink RX1 11 "VillageCinema$Hall" "row" "[I"] ++ wsX40 ++ wsX10)
def wsX4_fullShows_r1 : List Cond := [Cond.fieldLink RX4 12 "VillageCinema" "hall" "LVillageCinema$Hall;", Cond.fieldLink RX4 19 "VillageCinema" "run" "LVillageCinema$FilmRun;", Cond.methodLink RX4 69 yX1_films, Cond.instanceMethod yX1_films, Cond.selects RX1 yX1_films yX1_films, Cond.initialized RX1, Cond.code yX1_films cX1_films 1 (some .int), Cond.fieldLink RX1 11 "VillageCinema$Hall" "row" "[I", Cond.methodLink RX4 121 yX0_follow, Cond.instanceMethod yX0_follow, Cond.selects RX0 yX0_follow yX0_follow, Cond.initialized RX0, Cond.code yX0_follow cX0_follow 7 none, Cond.fieldLink RX0 30 "VillageCinema$FilmRun" "fullShows" "I", Cond.fieldLink RX0 21 "VillageCinema$FilmRun" "shares" "[I", Cond.fieldLink RX0 49 "VillageCinema$FilmRun" "leftAtEnd" "I", Cond.methodLink RX0 24 yX1_fact, Cond.instanceMethod yX1_fact, Cond.selects RX1 yX1_fact yX1_fact, Cond.code yX1_fact cX1_fact 3 (some .int), Cond.methodLink RX0 34 yX0_followWeek, Cond.instanceMethod yX0_followWeek, Cond.selects RX0 yX0_followWeek yX0_followWeek, Cond.code yX0_followWeek cX0_followWeek 10 (some .int)]
def wsX4_fullShows_r2 : List Cond := [Cond.fieldLink RX0 9 "VillageCinema$FilmRun" "peopleAt" "[I", Cond.fieldLink RX0 15 "VillageCinema$FilmRun" "leftBehind" "[I", Cond.fieldLink RX0 18 "VillageCinema$FilmRun" "sums" "[I", Cond.methodLink RX0 52 yX1_showAt, Cond.instanceMethod yX1_showAt, Cond.selects RX1 yX1_showAt yX1_showAt, Cond.code yX1_showAt cX1_showAt 2 (some .int), Cond.methodLink RX0 56 yX0_peopleOf, Cond.static yX0_peopleOf, Cond.code yX0_peopleOf cX0_peopleOf 4 (some .int), Cond.methodLink RX0 63 Lib.Math.min.name, Cond.static Lib.Math.min.name, Cond.initialized "java/lang/Math", Cond.code Lib.Math.min.name Lib.Math.min.code 2 (some .int), Cond.methodLink RX0 60 yX1_setting, Cond.instanceMethod yX1_setting, Cond.selects RX1 yX1_setting yX1_setting, Cond.code yX1_setting cX1_setting 2 (some .int), Cond.methodLink RX0 38 yX0_sumOfWeek, Cond.instanceMethod yX0_sumOfWeek, Cond.selects RX0 yX0_sumOfWeek yX0_sumOfWeek, Cond.code yX0_sumOfWeek cX0_sumOfWeek 3 (some .int), Cond.methodLink RX0 41 yX0_nextShare, Cond.static yX0_nextShare]
def wsX4_fullShows_r3 : List Cond := [Cond.code yX0_nextShare cX0_nextShare 3 (some .int), Cond.methodLink RX0 68 Lib.Math.max.name, Cond.static Lib.Math.max.name, Cond.code Lib.Math.max.name Lib.Math.max.code 2 (some .int), Cond.methodLink RX0 45 yX0_reckonWeek, Cond.instanceMethod yX0_reckonWeek, Cond.selects RX0 yX0_reckonWeek yX0_reckonWeek, Cond.code yX0_reckonWeek cX0_reckonWeek 7 none, Cond.methodLink RX0 71 yX0_shareOfTakings, Cond.instanceMethod yX0_shareOfTakings, Cond.selects RX0 yX0_shareOfTakings yX0_shareOfTakings, Cond.code yX0_shareOfTakings cX0_shareOfTakings 2 (some .int), Cond.methodLink RX4 211 yX0_fullShows, Cond.instanceMethod yX0_fullShows, Cond.selects RX0 yX0_fullShows yX0_fullShows, Cond.code yX0_fullShows cX0_fullShows 1 (some .int)]
def wsX4_fullShows : List Cond := .code yX4_fullShows cX4_fullShows 3 (some .int) :: ((wsX4_fullShows_r1 ++ (wsX4_fullShows_r2 ++ wsX4_fullShows_r3)) ++ wsX40 ++ wsX10 ++ wsX00)
def wsX4_count_r1 : List Cond := [Cond.fieldLink RX4 12 "VillageCinema" "hall" "LVillageCinema$Hall;", Cond.constant RX4 101 (1000000), Cond.fieldLink RX4 26 "VillageCinema" "pad" "LVillageCinema$Pad;", Cond.fieldLink RX4 33 "VillageCinema" "history" "LVillageCinema$History;", Cond.methodLink RX4 46 yX4_isWithin, Cond.static yX4_isWithin, Cond.initialized RX4, Cond.code yX4_isWithin cX4_isWithin 3 (some .boolean), Cond.methodLink RX4 128 yX1_setting, Cond.instanceMethod yX1_setting, Cond.selects RX1 yX1_setting yX1_setting, Cond.initialized RX1, Cond.code yX1_setting cX1_setting 2 (some .int), Cond.fieldLink RX1 11 "VillageCinema$Hall" "row" "[I", Cond.methodLink RX4 69 yX1_films, Cond.instanceMethod yX1_films, Cond.selects RX1 yX1_films yX1_films, Cond.code yX1_films cX1_films 1 (some .int), Cond.methodLink RX4 98 yX4_sumOfFilms, Cond.instanceMethod yX4_sumOfFilms, Cond.selects RX4 yX4_sumOfFilms yX4_sumOfFilms, Cond.code yX4_sumOfFilms cX4_sumOfFilms 4 (some .int), Cond.methodLink RX4 164 yX4_sumOfFilm, Cond.instanceMethod yX4_sumOfFilm]
def wsX4_count_r2 : List Cond := [Cond.selects RX4 yX4_sumOfFilm yX4_sumOfFilm, Cond.code yX4_sumOfFilm cX4_sumOfFilm 3 (some .int), Cond.fieldLink RX4 19 "VillageCinema" "run" "LVillageCinema$FilmRun;", Cond.methodLink RX4 121 yX0_follow, Cond.instanceMethod yX0_follow, Cond.selects RX0 yX0_follow yX0_follow, Cond.initialized RX0, Cond.code yX0_follow cX0_follow 7 none, Cond.fieldLink RX0 30 "VillageCinema$FilmRun" "fullShows" "I", Cond.fieldLink RX0 21 "VillageCinema$FilmRun" "shares" "[I", Cond.fieldLink RX0 49 "VillageCinema$FilmRun" "leftAtEnd" "I", Cond.methodLink RX0 24 yX1_fact, Cond.instanceMethod yX1_fact, Cond.selects RX1 yX1_fact yX1_fact, Cond.code yX1_fact cX1_fact 3 (some .int), Cond.methodLink RX0 34 yX0_followWeek, Cond.instanceMethod yX0_followWeek, Cond.selects RX0 yX0_followWeek yX0_followWeek, Cond.code yX0_followWeek cX0_followWeek 10 (some .int), Cond.fieldLink RX0 9 "VillageCinema$FilmRun" "peopleAt" "[I", Cond.fieldLink RX0 15 "VillageCinema$FilmRun" "leftBehind" "[I", Cond.fieldLink RX0 18 "VillageCinema$FilmRun" "sums" "[I", Cond.methodLink RX0 52 yX1_showAt, Cond.instanceMethod yX1_showAt]
def wsX4_count_r3 : List Cond := [Cond.selects RX1 yX1_showAt yX1_showAt, Cond.code yX1_showAt cX1_showAt 2 (some .int), Cond.methodLink RX0 56 yX0_peopleOf, Cond.static yX0_peopleOf, Cond.code yX0_peopleOf cX0_peopleOf 4 (some .int), Cond.methodLink RX0 63 Lib.Math.min.name, Cond.static Lib.Math.min.name, Cond.initialized "java/lang/Math", Cond.code Lib.Math.min.name Lib.Math.min.code 2 (some .int), Cond.methodLink RX0 60 yX1_setting, Cond.methodLink RX0 38 yX0_sumOfWeek, Cond.instanceMethod yX0_sumOfWeek, Cond.selects RX0 yX0_sumOfWeek yX0_sumOfWeek, Cond.code yX0_sumOfWeek cX0_sumOfWeek 3 (some .int), Cond.methodLink RX0 41 yX0_nextShare, Cond.static yX0_nextShare, Cond.code yX0_nextShare cX0_nextShare 3 (some .int), Cond.methodLink RX0 68 Lib.Math.max.name, Cond.static Lib.Math.max.name, Cond.code Lib.Math.max.name Lib.Math.max.code 2 (some .int), Cond.methodLink RX0 45 yX0_reckonWeek, Cond.instanceMethod yX0_reckonWeek, Cond.selects RX0 yX0_reckonWeek yX0_reckonWeek, Cond.code yX0_reckonWeek cX0_reckonWeek 7 none]
def wsX4_count_r4 : List Cond := [Cond.methodLink RX0 71 yX0_shareOfTakings, Cond.instanceMethod yX0_shareOfTakings, Cond.selects RX0 yX0_shareOfTakings yX0_shareOfTakings, Cond.code yX0_shareOfTakings cX0_shareOfTakings 2 (some .int), Cond.methodLink RX4 143 yX0_sum, Cond.instanceMethod yX0_sum, Cond.selects RX0 yX0_sum yX0_sum, Cond.code yX0_sum cX0_sum 4 (some .int), Cond.methodLink RX4 161 yX1_rentsOf, Cond.instanceMethod yX1_rentsOf, Cond.selects RX1 yX1_rentsOf yX1_rentsOf, Cond.code yX1_rentsOf cX1_rentsOf 5 (some .int), Cond.methodLink RX1 28 yX1_rentOf, Cond.instanceMethod yX1_rentOf, Cond.selects RX1 yX1_rentOf yX1_rentOf, Cond.code yX1_rentOf cX1_rentOf 2 (some .int), Cond.methodLink RX4 170 yX4_fullShows, Cond.instanceMethod yX4_fullShows, Cond.selects RX4 yX4_fullShows yX4_fullShows, Cond.code yX4_fullShows cX4_fullShows 3 (some .int), Cond.methodLink RX4 211 yX0_fullShows, Cond.instanceMethod yX0_fullShows, Cond.selects RX0 yX0_fullShows yX0_fullShows, Cond.code yX0_fullShows cX0_fullShows 1 (some .int)]
def wsX4_count_r5 : List Cond := [Cond.methodLink RX4 173 yX3_length, Cond.instanceMethod yX3_length, Cond.selects RX3 yX3_length yX3_length, Cond.initialized RX3, Cond.code yX3_length cX3_length 1 (some .int), Cond.fieldLink RX3 15 "VillageCinema$Pad" "length" "I", Cond.methodLink RX4 176 yX2_size, Cond.instanceMethod yX2_size, Cond.selects RX2 yX2_size yX2_size, Cond.initialized RX2, Cond.code yX2_size cX2_size 1 (some .int), Cond.fieldLink RX2 16 "VillageCinema$History" "size" "I"]
def wsX4_count : List Cond := .code yX4_count cX4_count 2 (some .int) :: ((wsX4_count_r1 ++ (wsX4_count_r2 ++ (wsX4_count_r3 ++ (wsX4_count_r4 ++ wsX4_count_r5)))) ++ wsX40 ++ wsX10 ++ wsX00 ++ wsX30 ++ wsX20)
def wsX4_leftOfFilm_r1 : List Cond := [Cond.fieldLink RX4 12 "VillageCinema" "hall" "LVillageCinema$Hall;", Cond.fieldLink RX4 19 "VillageCinema" "run" "LVillageCinema$FilmRun;", Cond.methodLink RX4 118 yX1_hasFilm, Cond.instanceMethod yX1_hasFilm, Cond.selects RX1 yX1_hasFilm yX1_hasFilm, Cond.initialized RX1, Cond.code yX1_hasFilm cX1_hasFilm 2 (some .boolean), Cond.methodLink RX1 24 yX1_films, Cond.instanceMethod yX1_films, Cond.selects RX1 yX1_films yX1_films, Cond.code yX1_films cX1_films 1 (some .int), Cond.fieldLink RX1 11 "VillageCinema$Hall" "row" "[I", Cond.methodLink RX4 121 yX0_follow, Cond.instanceMethod yX0_follow, Cond.selects RX0 yX0_follow yX0_follow, Cond.initialized RX0, Cond.code yX0_follow cX0_follow 7 none, Cond.fieldLink RX0 30 "VillageCinema$FilmRun" "fullShows" "I", Cond.fieldLink RX0 21 "VillageCinema$FilmRun" "shares" "[I", Cond.fieldLink RX0 49 "VillageCinema$FilmRun" "leftAtEnd" "I", Cond.methodLink RX0 24 yX1_fact, Cond.instanceMethod yX1_fact, Cond.selects RX1 yX1_fact yX1_fact, Cond.code yX1_fact cX1_fact 3 (some .int)]
def wsX4_leftOfFilm_r2 : List Cond := [Cond.methodLink RX0 34 yX0_followWeek, Cond.instanceMethod yX0_followWeek, Cond.selects RX0 yX0_followWeek yX0_followWeek, Cond.code yX0_followWeek cX0_followWeek 10 (some .int), Cond.fieldLink RX0 9 "VillageCinema$FilmRun" "peopleAt" "[I", Cond.fieldLink RX0 15 "VillageCinema$FilmRun" "leftBehind" "[I", Cond.fieldLink RX0 18 "VillageCinema$FilmRun" "sums" "[I", Cond.methodLink RX0 52 yX1_showAt, Cond.instanceMethod yX1_showAt, Cond.selects RX1 yX1_showAt yX1_showAt, Cond.code yX1_showAt cX1_showAt 2 (some .int), Cond.methodLink RX0 56 yX0_peopleOf, Cond.static yX0_peopleOf, Cond.code yX0_peopleOf cX0_peopleOf 4 (some .int), Cond.methodLink RX0 63 Lib.Math.min.name, Cond.static Lib.Math.min.name, Cond.initialized "java/lang/Math", Cond.code Lib.Math.min.name Lib.Math.min.code 2 (some .int), Cond.methodLink RX0 60 yX1_setting, Cond.instanceMethod yX1_setting, Cond.selects RX1 yX1_setting yX1_setting, Cond.code yX1_setting cX1_setting 2 (some .int), Cond.methodLink RX0 38 yX0_sumOfWeek, Cond.instanceMethod yX0_sumOfWeek]
def wsX4_leftOfFilm_r3 : List Cond := [Cond.selects RX0 yX0_sumOfWeek yX0_sumOfWeek, Cond.code yX0_sumOfWeek cX0_sumOfWeek 3 (some .int), Cond.methodLink RX0 41 yX0_nextShare, Cond.static yX0_nextShare, Cond.code yX0_nextShare cX0_nextShare 3 (some .int), Cond.methodLink RX0 68 Lib.Math.max.name, Cond.static Lib.Math.max.name, Cond.code Lib.Math.max.name Lib.Math.max.code 2 (some .int), Cond.methodLink RX0 45 yX0_reckonWeek, Cond.instanceMethod yX0_reckonWeek, Cond.selects RX0 yX0_reckonWeek yX0_reckonWeek, Cond.code yX0_reckonWeek cX0_reckonWeek 7 none, Cond.methodLink RX0 71 yX0_shareOfTakings, Cond.instanceMethod yX0_shareOfTakings, Cond.selects RX0 yX0_shareOfTakings yX0_shareOfTakings, Cond.code yX0_shareOfTakings cX0_shareOfTakings 2 (some .int), Cond.methodLink RX4 143 yX0_sum, Cond.instanceMethod yX0_sum, Cond.selects RX0 yX0_sum yX0_sum, Cond.code yX0_sum cX0_sum 4 (some .int)]
def wsX4_leftOfFilm : List Cond := .code yX4_leftOfFilm cX4_leftOfFilm 2 (some .int) :: ((wsX4_leftOfFilm_r1 ++ (wsX4_leftOfFilm_r2 ++ wsX4_leftOfFilm_r3)) ++ wsX40 ++ wsX10 ++ wsX00)
def wsX4_gainWith_r1 : List Cond := [Cond.fieldLink RX4 12 "VillageCinema" "hall" "LVillageCinema$Hall;", Cond.methodLink RX4 91 yX1_showAt, Cond.instanceMethod yX1_showAt, Cond.selects RX1 yX1_showAt yX1_showAt, Cond.initialized RX1, Cond.code yX1_showAt cX1_showAt 2 (some .int), Cond.fieldLink RX1 11 "VillageCinema$Hall" "row" "[I", Cond.methodLink RX4 212 yX4_leftOfFilm, Cond.instanceMethod yX4_leftOfFilm, Cond.selects RX4 yX4_leftOfFilm yX4_leftOfFilm, Cond.initialized RX4, Cond.code yX4_leftOfFilm cX4_leftOfFilm 2 (some .int), Cond.fieldLink RX4 19 "VillageCinema" "run" "LVillageCinema$FilmRun;", Cond.methodLink RX4 118 yX1_hasFilm, Cond.instanceMethod yX1_hasFilm, Cond.selects RX1 yX1_hasFilm yX1_hasFilm, Cond.code yX1_hasFilm cX1_hasFilm 2 (some .boolean), Cond.methodLink RX1 24 yX1_films, Cond.instanceMethod yX1_films, Cond.selects RX1 yX1_films yX1_films, Cond.code yX1_films cX1_films 1 (some .int), Cond.methodLink RX4 121 yX0_follow, Cond.instanceMethod yX0_follow, Cond.selects RX0 yX0_follow yX0_follow]
def wsX4_gainWith_r2 : List Cond := [Cond.initialized RX0, Cond.code yX0_follow cX0_follow 7 none, Cond.fieldLink RX0 30 "VillageCinema$FilmRun" "fullShows" "I", Cond.fieldLink RX0 21 "VillageCinema$FilmRun" "shares" "[I", Cond.fieldLink RX0 49 "VillageCinema$FilmRun" "leftAtEnd" "I", Cond.methodLink RX0 24 yX1_fact, Cond.instanceMethod yX1_fact, Cond.selects RX1 yX1_fact yX1_fact, Cond.code yX1_fact cX1_fact 3 (some .int), Cond.methodLink RX0 34 yX0_followWeek, Cond.instanceMethod yX0_followWeek, Cond.selects RX0 yX0_followWeek yX0_followWeek, Cond.code yX0_followWeek cX0_followWeek 10 (some .int), Cond.fieldLink RX0 9 "VillageCinema$FilmRun" "peopleAt" "[I", Cond.fieldLink RX0 15 "VillageCinema$FilmRun" "leftBehind" "[I", Cond.fieldLink RX0 18 "VillageCinema$FilmRun" "sums" "[I", Cond.methodLink RX0 52 yX1_showAt, Cond.methodLink RX0 56 yX0_peopleOf, Cond.static yX0_peopleOf, Cond.code yX0_peopleOf cX0_peopleOf 4 (some .int), Cond.methodLink RX0 63 Lib.Math.min.name, Cond.static Lib.Math.min.name, Cond.initialized "java/lang/Math", Cond.code Lib.Math.min.name Lib.Math.min.code 2 (some .int)]
def wsX4_gainWith_r3 : List Cond := [Cond.methodLink RX0 60 yX1_setting, Cond.instanceMethod yX1_setting, Cond.selects RX1 yX1_setting yX1_setting, Cond.code yX1_setting cX1_setting 2 (some .int), Cond.methodLink RX0 38 yX0_sumOfWeek, Cond.instanceMethod yX0_sumOfWeek, Cond.selects RX0 yX0_sumOfWeek yX0_sumOfWeek, Cond.code yX0_sumOfWeek cX0_sumOfWeek 3 (some .int), Cond.methodLink RX0 41 yX0_nextShare, Cond.static yX0_nextShare, Cond.code yX0_nextShare cX0_nextShare 3 (some .int), Cond.methodLink RX0 68 Lib.Math.max.name, Cond.static Lib.Math.max.name, Cond.code Lib.Math.max.name Lib.Math.max.code 2 (some .int), Cond.methodLink RX0 45 yX0_reckonWeek, Cond.instanceMethod yX0_reckonWeek, Cond.selects RX0 yX0_reckonWeek yX0_reckonWeek, Cond.code yX0_reckonWeek cX0_reckonWeek 7 none, Cond.methodLink RX0 71 yX0_shareOfTakings, Cond.instanceMethod yX0_shareOfTakings, Cond.selects RX0 yX0_shareOfTakings yX0_shareOfTakings, Cond.code yX0_shareOfTakings cX0_shareOfTakings 2 (some .int), Cond.methodLink RX4 143 yX0_sum, Cond.instanceMethod yX0_sum]
def wsX4_gainWith_r4 : List Cond := [Cond.selects RX0 yX0_sum yX0_sum, Cond.code yX0_sum cX0_sum 4 (some .int), Cond.methodLink RX4 84 yX1_replaceShow, Cond.instanceMethod yX1_replaceShow, Cond.selects RX1 yX1_replaceShow yX1_replaceShow, Cond.code yX1_replaceShow cX1_replaceShow 4 (some .int)]
def wsX4_gainWith : List Cond := .code yX4_gainWith cX4_gainWith 6 (some .int) :: ((wsX4_gainWith_r1 ++ (wsX4_gainWith_r2 ++ (wsX4_gainWith_r3 ++ wsX4_gainWith_r4))) ++ wsX40 ++ wsX10 ++ wsX00)
def wsX4_ifShown_r1 : List Cond := [Cond.constant RX4 101 (1000000), Cond.methodLink RX4 77 yX4_errorOfShow, Cond.instanceMethod yX4_errorOfShow, Cond.selects RX4 yX4_errorOfShow yX4_errorOfShow, Cond.initialized RX4, Cond.code yX4_errorOfShow cX4_errorOfShow 4 (some .int), Cond.fieldLink RX4 12 "VillageCinema" "hall" "LVillageCinema$Hall;", Cond.methodLink RX4 118 yX1_hasFilm, Cond.instanceMethod yX1_hasFilm, Cond.selects RX1 yX1_hasFilm yX1_hasFilm, Cond.initialized RX1, Cond.code yX1_hasFilm cX1_hasFilm 2 (some .boolean), Cond.methodLink RX1 24 yX1_films, Cond.instanceMethod yX1_films, Cond.selects RX1 yX1_films yX1_films, Cond.code yX1_films cX1_films 1 (some .int), Cond.fieldLink RX1 11 "VillageCinema$Hall" "row" "[I", Cond.methodLink RX4 87 yX4_isPlace, Cond.static yX4_isPlace, Cond.code yX4_isPlace cX4_isPlace 2 (some .boolean), Cond.methodLink RX4 65 yX4_isDay, Cond.static yX4_isDay, Cond.code yX4_isDay cX4_isDay 1 (some .boolean), Cond.methodLink RX4 46 yX4_isWithin]
def wsX4_ifShown_r2 : List Cond := [Cond.static yX4_isWithin, Cond.code yX4_isWithin cX4_isWithin 3 (some .boolean), Cond.methodLink RX4 95 yX1_canHold, Cond.instanceMethod yX1_canHold, Cond.selects RX1 yX1_canHold yX1_canHold, Cond.code yX1_canHold cX1_canHold 3 (some .boolean), Cond.methodLink RX1 28 yX1_rentOf, Cond.instanceMethod yX1_rentOf, Cond.selects RX1 yX1_rentOf yX1_rentOf, Cond.code yX1_rentOf cX1_rentOf 2 (some .int), Cond.methodLink RX1 32 yX1_hasFilm, Cond.methodLink RX1 36 yX1_fact, Cond.instanceMethod yX1_fact, Cond.selects RX1 yX1_fact yX1_fact, Cond.code yX1_fact cX1_fact 3 (some .int), Cond.methodLink RX4 81 yX4_placeOf, Cond.static yX4_placeOf, Cond.code yX4_placeOf cX4_placeOf 2 (some .int), Cond.methodLink RX4 179 yX4_gainWith, Cond.instanceMethod yX4_gainWith, Cond.selects RX4 yX4_gainWith yX4_gainWith, Cond.code yX4_gainWith cX4_gainWith 6 (some .int), Cond.methodLink RX4 91 yX1_showAt, Cond.instanceMethod yX1_showAt]
def wsX4_ifShown_r3 : List Cond := [Cond.selects RX1 yX1_showAt yX1_showAt, Cond.code yX1_showAt cX1_showAt 2 (some .int), Cond.methodLink RX4 212 yX4_leftOfFilm, Cond.instanceMethod yX4_leftOfFilm, Cond.selects RX4 yX4_leftOfFilm yX4_leftOfFilm, Cond.code yX4_leftOfFilm cX4_leftOfFilm 2 (some .int), Cond.fieldLink RX4 19 "VillageCinema" "run" "LVillageCinema$FilmRun;", Cond.methodLink RX4 121 yX0_follow, Cond.instanceMethod yX0_follow, Cond.selects RX0 yX0_follow yX0_follow, Cond.initialized RX0, Cond.code yX0_follow cX0_follow 7 none, Cond.fieldLink RX0 30 "VillageCinema$FilmRun" "fullShows" "I", Cond.fieldLink RX0 21 "VillageCinema$FilmRun" "shares" "[I", Cond.fieldLink RX0 49 "VillageCinema$FilmRun" "leftAtEnd" "I", Cond.methodLink RX0 24 yX1_fact, Cond.methodLink RX0 34 yX0_followWeek, Cond.instanceMethod yX0_followWeek, Cond.selects RX0 yX0_followWeek yX0_followWeek, Cond.code yX0_followWeek cX0_followWeek 10 (some .int), Cond.fieldLink RX0 9 "VillageCinema$FilmRun" "peopleAt" "[I", Cond.fieldLink RX0 15 "VillageCinema$FilmRun" "leftBehind" "[I", Cond.fieldLink RX0 18 "VillageCinema$FilmRun" "sums" "[I", Cond.methodLink RX0 52 yX1_showAt]
def wsX4_ifShown_r4 : List Cond := [Cond.methodLink RX0 56 yX0_peopleOf, Cond.static yX0_peopleOf, Cond.code yX0_peopleOf cX0_peopleOf 4 (some .int), Cond.methodLink RX0 63 Lib.Math.min.name, Cond.static Lib.Math.min.name, Cond.initialized "java/lang/Math", Cond.code Lib.Math.min.name Lib.Math.min.code 2 (some .int), Cond.methodLink RX0 60 yX1_setting, Cond.instanceMethod yX1_setting, Cond.selects RX1 yX1_setting yX1_setting, Cond.code yX1_setting cX1_setting 2 (some .int), Cond.methodLink RX0 38 yX0_sumOfWeek, Cond.instanceMethod yX0_sumOfWeek, Cond.selects RX0 yX0_sumOfWeek yX0_sumOfWeek, Cond.code yX0_sumOfWeek cX0_sumOfWeek 3 (some .int), Cond.methodLink RX0 41 yX0_nextShare, Cond.static yX0_nextShare, Cond.code yX0_nextShare cX0_nextShare 3 (some .int), Cond.methodLink RX0 68 Lib.Math.max.name, Cond.static Lib.Math.max.name, Cond.code Lib.Math.max.name Lib.Math.max.code 2 (some .int), Cond.methodLink RX0 45 yX0_reckonWeek, Cond.instanceMethod yX0_reckonWeek, Cond.selects RX0 yX0_reckonWeek yX0_reckonWeek]
def wsX4_ifShown_r5 : List Cond := [Cond.code yX0_reckonWeek cX0_reckonWeek 7 none, Cond.methodLink RX0 71 yX0_shareOfTakings, Cond.instanceMethod yX0_shareOfTakings, Cond.selects RX0 yX0_shareOfTakings yX0_shareOfTakings, Cond.code yX0_shareOfTakings cX0_shareOfTakings 2 (some .int), Cond.methodLink RX4 143 yX0_sum, Cond.instanceMethod yX0_sum, Cond.selects RX0 yX0_sum yX0_sum, Cond.code yX0_sum cX0_sum 4 (some .int), Cond.methodLink RX4 84 yX1_replaceShow, Cond.instanceMethod yX1_replaceShow, Cond.selects RX1 yX1_replaceShow yX1_replaceShow, Cond.code yX1_replaceShow cX1_replaceShow 4 (some .int)]
def wsX4_ifShown : List Cond := .code yX4_ifShown cX4_ifShown 5 (some .int) :: ((wsX4_ifShown_r1 ++ (wsX4_ifShown_r2 ++ (wsX4_ifShown_r3 ++ (wsX4_ifShown_r4 ++ wsX4_ifShown_r5)))) ++ wsX40 ++ wsX10 ++ wsX00)
def wsX4_bestFilm_r1 : List Cond := [Cond.fieldLink RX4 12 "VillageCinema" "hall" "LVillageCinema$Hall;", Cond.constant RX4 101 (1000000), Cond.methodLink RX4 87 yX4_isPlace, Cond.static yX4_isPlace, Cond.initialized RX4, Cond.code yX4_isPlace cX4_isPlace 2 (some .boolean), Cond.methodLink RX4 65 yX4_isDay, Cond.static yX4_isDay, Cond.code yX4_isDay cX4_isDay 1 (some .boolean), Cond.methodLink RX4 46 yX4_isWithin, Cond.static yX4_isWithin, Cond.code yX4_isWithin cX4_isWithin 3 (some .boolean), Cond.methodLink RX4 167 yX1_rentOf, Cond.instanceMethod yX1_rentOf, Cond.selects RX1 yX1_rentOf yX1_rentOf, Cond.initialized RX1, Cond.code yX1_rentOf cX1_rentOf 2 (some .int), Cond.fieldLink RX1 11 "VillageCinema$Hall" "row" "[I", Cond.methodLink RX4 69 yX1_films, Cond.instanceMethod yX1_films, Cond.selects RX1 yX1_films yX1_films, Cond.code yX1_films cX1_films 1 (some .int), Cond.methodLink RX4 95 yX1_canHold, Cond.instanceMethod yX1_canHold]
def wsX4_bestFilm_r2 : List Cond := [Cond.selects RX1 yX1_canHold yX1_canHold, Cond.code yX1_canHold cX1_canHold 3 (some .boolean), Cond.methodLink RX1 28 yX1_rentOf, Cond.methodLink RX1 32 yX1_hasFilm, Cond.instanceMethod yX1_hasFilm, Cond.selects RX1 yX1_hasFilm yX1_hasFilm, Cond.code yX1_hasFilm cX1_hasFilm 2 (some .boolean), Cond.methodLink RX1 24 yX1_films, Cond.methodLink RX1 36 yX1_fact, Cond.instanceMethod yX1_fact, Cond.selects RX1 yX1_fact yX1_fact, Cond.code yX1_fact cX1_fact 3 (some .int), Cond.methodLink RX4 81 yX4_placeOf, Cond.static yX4_placeOf, Cond.code yX4_placeOf cX4_placeOf 2 (some .int), Cond.methodLink RX4 179 yX4_gainWith, Cond.instanceMethod yX4_gainWith, Cond.selects RX4 yX4_gainWith yX4_gainWith, Cond.code yX4_gainWith cX4_gainWith 6 (some .int), Cond.methodLink RX4 91 yX1_showAt, Cond.instanceMethod yX1_showAt, Cond.selects RX1 yX1_showAt yX1_showAt, Cond.code yX1_showAt cX1_showAt 2 (some .int), Cond.methodLink RX4 212 yX4_leftOfFilm]
def wsX4_bestFilm_r3 : List Cond := [Cond.instanceMethod yX4_leftOfFilm, Cond.selects RX4 yX4_leftOfFilm yX4_leftOfFilm, Cond.code yX4_leftOfFilm cX4_leftOfFilm 2 (some .int), Cond.fieldLink RX4 19 "VillageCinema" "run" "LVillageCinema$FilmRun;", Cond.methodLink RX4 118 yX1_hasFilm, Cond.methodLink RX4 121 yX0_follow, Cond.instanceMethod yX0_follow, Cond.selects RX0 yX0_follow yX0_follow, Cond.initialized RX0, Cond.code yX0_follow cX0_follow 7 none, Cond.fieldLink RX0 30 "VillageCinema$FilmRun" "fullShows" "I", Cond.fieldLink RX0 21 "VillageCinema$FilmRun" "shares" "[I", Cond.fieldLink RX0 49 "VillageCinema$FilmRun" "leftAtEnd" "I", Cond.methodLink RX0 24 yX1_fact, Cond.methodLink RX0 34 yX0_followWeek, Cond.instanceMethod yX0_followWeek, Cond.selects RX0 yX0_followWeek yX0_followWeek, Cond.code yX0_followWeek cX0_followWeek 10 (some .int), Cond.fieldLink RX0 9 "VillageCinema$FilmRun" "peopleAt" "[I", Cond.fieldLink RX0 15 "VillageCinema$FilmRun" "leftBehind" "[I", Cond.fieldLink RX0 18 "VillageCinema$FilmRun" "sums" "[I", Cond.methodLink RX0 52 yX1_showAt, Cond.methodLink RX0 56 yX0_peopleOf, Cond.static yX0_peopleOf]
def wsX4_bestFilm_r4 : List Cond := [Cond.code yX0_peopleOf cX0_peopleOf 4 (some .int), Cond.methodLink RX0 63 Lib.Math.min.name, Cond.static Lib.Math.min.name, Cond.initialized "java/lang/Math", Cond.code Lib.Math.min.name Lib.Math.min.code 2 (some .int), Cond.methodLink RX0 60 yX1_setting, Cond.instanceMethod yX1_setting, Cond.selects RX1 yX1_setting yX1_setting, Cond.code yX1_setting cX1_setting 2 (some .int), Cond.methodLink RX0 38 yX0_sumOfWeek, Cond.instanceMethod yX0_sumOfWeek, Cond.selects RX0 yX0_sumOfWeek yX0_sumOfWeek, Cond.code yX0_sumOfWeek cX0_sumOfWeek 3 (some .int), Cond.methodLink RX0 41 yX0_nextShare, Cond.static yX0_nextShare, Cond.code yX0_nextShare cX0_nextShare 3 (some .int), Cond.methodLink RX0 68 Lib.Math.max.name, Cond.static Lib.Math.max.name, Cond.code Lib.Math.max.name Lib.Math.max.code 2 (some .int), Cond.methodLink RX0 45 yX0_reckonWeek, Cond.instanceMethod yX0_reckonWeek, Cond.selects RX0 yX0_reckonWeek yX0_reckonWeek, Cond.code yX0_reckonWeek cX0_reckonWeek 7 none, Cond.methodLink RX0 71 yX0_shareOfTakings]
def wsX4_bestFilm_r5 : List Cond := [Cond.instanceMethod yX0_shareOfTakings, Cond.selects RX0 yX0_shareOfTakings yX0_shareOfTakings, Cond.code yX0_shareOfTakings cX0_shareOfTakings 2 (some .int), Cond.methodLink RX4 143 yX0_sum, Cond.instanceMethod yX0_sum, Cond.selects RX0 yX0_sum yX0_sum, Cond.code yX0_sum cX0_sum 4 (some .int), Cond.methodLink RX4 84 yX1_replaceShow, Cond.instanceMethod yX1_replaceShow, Cond.selects RX1 yX1_replaceShow yX1_replaceShow, Cond.code yX1_replaceShow cX1_replaceShow 4 (some .int)]
def wsX4_bestFilm : List Cond := .code yX4_bestFilm cX4_bestFilm 8 (some .int) :: ((wsX4_bestFilm_r1 ++ (wsX4_bestFilm_r2 ++ (wsX4_bestFilm_r3 ++ (wsX4_bestFilm_r4 ++ wsX4_bestFilm_r5)))) ++ wsX40 ++ wsX10 ++ wsX00)
def wsX4_worstShow_r1 : List Cond := [Cond.fieldLink RX4 12 "VillageCinema" "hall" "LVillageCinema$Hall;", Cond.constant RX4 101 (1000000), Cond.methodLink RX4 46 yX4_isWithin, Cond.static yX4_isWithin, Cond.initialized RX4, Cond.code yX4_isWithin cX4_isWithin 3 (some .boolean), Cond.methodLink RX4 91 yX1_showAt, Cond.instanceMethod yX1_showAt, Cond.selects RX1 yX1_showAt yX1_showAt, Cond.initialized RX1, Cond.code yX1_showAt cX1_showAt 2 (some .int), Cond.fieldLink RX1 11 "VillageCinema$Hall" "row" "[I", Cond.methodLink RX4 179 yX4_gainWith, Cond.instanceMethod yX4_gainWith, Cond.selects RX4 yX4_gainWith yX4_gainWith, Cond.code yX4_gainWith cX4_gainWith 6 (some .int), Cond.methodLink RX4 212 yX4_leftOfFilm, Cond.instanceMethod yX4_leftOfFilm, Cond.selects RX4 yX4_leftOfFilm yX4_leftOfFilm, Cond.code yX4_leftOfFilm cX4_leftOfFilm 2 (some .int), Cond.fieldLink RX4 19 "VillageCinema" "run" "LVillageCinema$FilmRun;", Cond.methodLink RX4 118 yX1_hasFilm, Cond.instanceMethod yX1_hasFilm, Cond.selects RX1 yX1_hasFilm yX1_hasFilm]
def wsX4_worstShow_r2 : List Cond := [Cond.code yX1_hasFilm cX1_hasFilm 2 (some .boolean), Cond.methodLink RX1 24 yX1_films, Cond.instanceMethod yX1_films, Cond.selects RX1 yX1_films yX1_films, Cond.code yX1_films cX1_films 1 (some .int), Cond.methodLink RX4 121 yX0_follow, Cond.instanceMethod yX0_follow, Cond.selects RX0 yX0_follow yX0_follow, Cond.initialized RX0, Cond.code yX0_follow cX0_follow 7 none, Cond.fieldLink RX0 30 "VillageCinema$FilmRun" "fullShows" "I", Cond.fieldLink RX0 21 "VillageCinema$FilmRun" "shares" "[I", Cond.fieldLink RX0 49 "VillageCinema$FilmRun" "leftAtEnd" "I", Cond.methodLink RX0 24 yX1_fact, Cond.instanceMethod yX1_fact, Cond.selects RX1 yX1_fact yX1_fact, Cond.code yX1_fact cX1_fact 3 (some .int), Cond.methodLink RX0 34 yX0_followWeek, Cond.instanceMethod yX0_followWeek, Cond.selects RX0 yX0_followWeek yX0_followWeek, Cond.code yX0_followWeek cX0_followWeek 10 (some .int), Cond.fieldLink RX0 9 "VillageCinema$FilmRun" "peopleAt" "[I", Cond.fieldLink RX0 15 "VillageCinema$FilmRun" "leftBehind" "[I", Cond.fieldLink RX0 18 "VillageCinema$FilmRun" "sums" "[I"]
def wsX4_worstShow_r3 : List Cond := [Cond.methodLink RX0 52 yX1_showAt, Cond.methodLink RX0 56 yX0_peopleOf, Cond.static yX0_peopleOf, Cond.code yX0_peopleOf cX0_peopleOf 4 (some .int), Cond.methodLink RX0 63 Lib.Math.min.name, Cond.static Lib.Math.min.name, Cond.initialized "java/lang/Math", Cond.code Lib.Math.min.name Lib.Math.min.code 2 (some .int), Cond.methodLink RX0 60 yX1_setting, Cond.instanceMethod yX1_setting, Cond.selects RX1 yX1_setting yX1_setting, Cond.code yX1_setting cX1_setting 2 (some .int), Cond.methodLink RX0 38 yX0_sumOfWeek, Cond.instanceMethod yX0_sumOfWeek, Cond.selects RX0 yX0_sumOfWeek yX0_sumOfWeek, Cond.code yX0_sumOfWeek cX0_sumOfWeek 3 (some .int), Cond.methodLink RX0 41 yX0_nextShare, Cond.static yX0_nextShare, Cond.code yX0_nextShare cX0_nextShare 3 (some .int), Cond.methodLink RX0 68 Lib.Math.max.name, Cond.static Lib.Math.max.name, Cond.code Lib.Math.max.name Lib.Math.max.code 2 (some .int), Cond.methodLink RX0 45 yX0_reckonWeek, Cond.instanceMethod yX0_reckonWeek]
def wsX4_worstShow_r4 : List Cond := [Cond.selects RX0 yX0_reckonWeek yX0_reckonWeek, Cond.code yX0_reckonWeek cX0_reckonWeek 7 none, Cond.methodLink RX0 71 yX0_shareOfTakings, Cond.instanceMethod yX0_shareOfTakings, Cond.selects RX0 yX0_shareOfTakings yX0_shareOfTakings, Cond.code yX0_shareOfTakings cX0_shareOfTakings 2 (some .int), Cond.methodLink RX4 143 yX0_sum, Cond.instanceMethod yX0_sum, Cond.selects RX0 yX0_sum yX0_sum, Cond.code yX0_sum cX0_sum 4 (some .int), Cond.methodLink RX4 84 yX1_replaceShow, Cond.instanceMethod yX1_replaceShow, Cond.selects RX1 yX1_replaceShow yX1_replaceShow, Cond.code yX1_replaceShow cX1_replaceShow 4 (some .int)]
def wsX4_worstShow : List Cond := .code yX4_worstShow cX4_worstShow 6 (some .int) :: ((wsX4_worstShow_r1 ++ (wsX4_worstShow_r2 ++ (wsX4_worstShow_r3 ++ wsX4_worstShow_r4))) ++ wsX40 ++ wsX10 ++ wsX00)
def wsX4_priceFor_r1 : List Cond := [Cond.fieldLink RX4 12 "VillageCinema" "hall" "LVillageCinema$Hall;", Cond.fieldLink RX4 19 "VillageCinema" "run" "LVillageCinema$FilmRun;", Cond.fieldLink RX4 50 "VillageCinema" "LEAST_SETTING" "[I", Cond.fieldLink RX4 54 "VillageCinema" "MOST_SETTING" "[I", Cond.methodLink RX4 87 yX4_isPlace, Cond.static yX4_isPlace, Cond.initialized RX4, Cond.code yX4_isPlace cX4_isPlace 2 (some .boolean), Cond.methodLink RX4 65 yX4_isDay, Cond.static yX4_isDay, Cond.code yX4_isDay cX4_isDay 1 (some .boolean), Cond.methodLink RX4 46 yX4_isWithin, Cond.static yX4_isWithin, Cond.code yX4_isWithin cX4_isWithin 3 (some .boolean), Cond.methodLink RX4 81 yX4_placeOf, Cond.static yX4_placeOf, Cond.code yX4_placeOf cX4_placeOf 2 (some .int), Cond.methodLink RX4 91 yX1_showAt, Cond.instanceMethod yX1_showAt, Cond.selects RX1 yX1_showAt yX1_showAt, Cond.initialized RX1, Cond.code yX1_showAt cX1_showAt 2 (some .int), Cond.fieldLink RX1 11 "VillageCinema$Hall" "row" "[I", Cond.methodLink RX4 118 yX1_hasFilm]
def wsX4_priceFor_r2 : List Cond := [Cond.instanceMethod yX1_hasFilm, Cond.selects RX1 yX1_hasFilm yX1_hasFilm, Cond.code yX1_hasFilm cX1_hasFilm 2 (some .boolean), Cond.methodLink RX1 24 yX1_films, Cond.instanceMethod yX1_films, Cond.selects RX1 yX1_films yX1_films, Cond.code yX1_films cX1_films 1 (some .int), Cond.methodLink RX4 121 yX0_follow, Cond.instanceMethod yX0_follow, Cond.selects RX0 yX0_follow yX0_follow, Cond.initialized RX0, Cond.code yX0_follow cX0_follow 7 none, Cond.fieldLink RX0 30 "VillageCinema$FilmRun" "fullShows" "I", Cond.fieldLink RX0 21 "VillageCinema$FilmRun" "shares" "[I", Cond.fieldLink RX0 49 "VillageCinema$FilmRun" "leftAtEnd" "I", Cond.methodLink RX0 24 yX1_fact, Cond.instanceMethod yX1_fact, Cond.selects RX1 yX1_fact yX1_fact, Cond.code yX1_fact cX1_fact 3 (some .int), Cond.methodLink RX0 34 yX0_followWeek, Cond.instanceMethod yX0_followWeek, Cond.selects RX0 yX0_followWeek yX0_followWeek, Cond.code yX0_followWeek cX0_followWeek 10 (some .int), Cond.fieldLink RX0 9 "VillageCinema$FilmRun" "peopleAt" "[I"]
def wsX4_priceFor_r3 : List Cond := [Cond.fieldLink RX0 15 "VillageCinema$FilmRun" "leftBehind" "[I", Cond.fieldLink RX0 18 "VillageCinema$FilmRun" "sums" "[I", Cond.methodLink RX0 52 yX1_showAt, Cond.methodLink RX0 56 yX0_peopleOf, Cond.static yX0_peopleOf, Cond.code yX0_peopleOf cX0_peopleOf 4 (some .int), Cond.methodLink RX0 63 Lib.Math.min.name, Cond.static Lib.Math.min.name, Cond.initialized "java/lang/Math", Cond.code Lib.Math.min.name Lib.Math.min.code 2 (some .int), Cond.methodLink RX0 60 yX1_setting, Cond.instanceMethod yX1_setting, Cond.selects RX1 yX1_setting yX1_setting, Cond.code yX1_setting cX1_setting 2 (some .int), Cond.methodLink RX0 38 yX0_sumOfWeek, Cond.instanceMethod yX0_sumOfWeek, Cond.selects RX0 yX0_sumOfWeek yX0_sumOfWeek, Cond.code yX0_sumOfWeek cX0_sumOfWeek 3 (some .int), Cond.methodLink RX0 41 yX0_nextShare, Cond.static yX0_nextShare, Cond.code yX0_nextShare cX0_nextShare 3 (some .int), Cond.methodLink RX0 68 Lib.Math.max.name, Cond.static Lib.Math.max.name, Cond.code Lib.Math.max.name Lib.Math.max.code 2 (some .int)]
def wsX4_priceFor_r4 : List Cond := [Cond.methodLink RX0 45 yX0_reckonWeek, Cond.instanceMethod yX0_reckonWeek, Cond.selects RX0 yX0_reckonWeek yX0_reckonWeek, Cond.code yX0_reckonWeek cX0_reckonWeek 7 none, Cond.methodLink RX0 71 yX0_shareOfTakings, Cond.instanceMethod yX0_shareOfTakings, Cond.selects RX0 yX0_shareOfTakings yX0_shareOfTakings, Cond.code yX0_shareOfTakings cX0_shareOfTakings 2 (some .int), Cond.methodLink RX4 125 yX0_peopleAt, Cond.instanceMethod yX0_peopleAt, Cond.selects RX0 yX0_peopleAt yX0_peopleAt, Cond.code yX0_peopleAt cX0_peopleAt 2 (some .int)]
def wsX4_priceFor : List Cond := .code yX4_priceFor cX4_priceFor 7 (some .int) :: ((wsX4_priceFor_r1 ++ (wsX4_priceFor_r2 ++ (wsX4_priceFor_r3 ++ wsX4_priceFor_r4))) ++ wsX40 ++ wsX10 ++ wsX00)
def wsX4_put : List Cond := .code yX4_put cX4_put 3 (some .int) :: ([.fieldLink RX4 26 "VillageCinema" "pad" "LVillageCinema$Pad;", .methodLink RX4 182 yX3_append, .instanceMethod yX3_append, .selects RX3 yX3_append yX3_append, .initialized RX3, .code yX3_append cX3_append 5 (some .int), .fieldLink RX3 15 "VillageCinema$Pad" "length" "I", .fieldLink RX3 11 "VillageCinema$Pad" "text" "[C", .constantLong RX3 23 (255), .methodLink RX3 19 yX3_charactersIn, .static yX3_charactersIn, .code yX3_charactersIn cX3_charactersIn 7 (some .int), .constantLong RX3 25 (33), .constantLong RX3 27 (126)] ++ wsX40 ++ wsX30)
def wsX4_wipe : List Cond := .code yX4_wipe cX4_wipe 2 (some .int) :: ([.fieldLink RX4 26 "VillageCinema" "pad" "LVillageCinema$Pad;", .methodLink RX4 173 yX3_length, .instanceMethod yX3_length, .selects RX3 yX3_length yX3_length, .initialized RX3, .code yX3_length cX3_length 1 (some .int), .fieldLink RX3 15 "VillageCinema$Pad" "length" "I", .methodLink RX4 115 yX3_empty, .instanceMethod yX3_empty, .selects RX3 yX3_empty yX3_empty, .code yX3_empty cX3_empty 1 none] ++ wsX40 ++ wsX30)
def wsX4_fault : List Cond := .code yX4_fault cX4_fault 1 (some .int) :: ([.fieldLink RX4 26 "VillageCinema" "pad" "LVillageCinema$Pad;", .methodLink RX4 109 yX3_firstFault, .instanceMethod yX3_firstFault, .selects RX3 yX3_firstFault yX3_firstFault, .initialized RX3, .code yX3_firstFault cX3_firstFault 3 (some .int), .fieldLink RX3 15 "VillageCinema$Pad" "length" "I", .fieldLink RX3 11 "VillageCinema$Pad" "text" "[C", .methodLink RX3 29 yX3_behind, .static yX3_behind, .code yX3_behind cX3_behind 2 (some .int), .methodLink RX3 33 yX3_isBetween, .static yX3_isBetween, .code yX3_isBetween cX3_isBetween 3 (some .boolean), .methodLink RX3 37 yX3_behindFirstDigit, .static yX3_behindFirstDigit, .code yX3_behindFirstDigit cX3_behindFirstDigit 1 (some .int), .methodLink RX3 41 yX3_behindDay, .static yX3_behindDay, .code yX3_behindDay cX3_behindDay 1 (some .int)] ++ wsX40 ++ wsX30)
def wsX4_undo : List Cond := .code yX4_undo cX4_undo 1 (some .int) :: ([.fieldLink RX4 33 "VillageCinema" "history" "LVillageCinema$History;", .fieldLink RX4 12 "VillageCinema" "hall" "LVillageCinema$Hall;", .methodLink RX4 176 yX2_size, .instanceMethod yX2_size, .selects RX2 yX2_size yX2_size, .initialized RX2, .code yX2_size cX2_size 1 (some .int), .fieldLink RX2 16 "VillageCinema$History" "size" "I", .methodLink RX4 186 yX2_takeBack, .instanceMethod yX2_takeBack, .selects RX2 yX2_takeBack yX2_takeBack, .code yX2_takeBack cX2_takeBack 2 none, .fieldLink RX2 13 "VillageCinema$History" "states" "[[I", .fieldLink RX2 20 "VillageCinema$History" "oldest" "I", .methodLink RX2 27 yX1_copyFrom, .instanceMethod yX1_copyFrom, .selects RX1 yX1_copyFrom yX1_copyFrom, .initialized RX1, .code yX1_copyFrom cX1_copyFrom 2 none, .fieldLink RX1 11 "VillageCinema$Hall" "row" "[I", .methodLink RX1 18 arraycopyName, .native arraycopyName, .static arraycopyName, .initialized "java/lang/System"] ++ wsX40 ++ wsX20 ++ wsX10)
def wsX4_save_r1 : List Cond := [Cond.fieldLink RX4 12 "VillageCinema" "hall" "LVillageCinema$Hall;", Cond.fieldLink RX4 39 "VillageCinema" "slots" "[[I", Cond.fieldLink RX4 42 "VillageCinema" "saved" "[Z", Cond.methodLink RX4 46 yX4_isWithin, Cond.static yX4_isWithin, Cond.initialized RX4, Cond.code yX4_isWithin cX4_isWithin 3 (some .boolean), Cond.methodLink RX4 189 yX1_copyTo, Cond.instanceMethod yX1_copyTo, Cond.selects RX1 yX1_copyTo yX1_copyTo, Cond.initialized RX1, Cond.code yX1_copyTo cX1_copyTo 2 none, Cond.fieldLink RX1 11 "VillageCinema$Hall" "row" "[I", Cond.methodLink RX1 18 arraycopyName, Cond.native arraycopyName, Cond.static arraycopyName, Cond.initialized "java/lang/System", Cond.methodLink RX4 193 yX1_shows, Cond.instanceMethod yX1_shows, Cond.selects RX1 yX1_shows yX1_shows, Cond.code yX1_shows cX1_shows 3 (some .int), Cond.methodLink RX1 40 yX1_showAt, Cond.instanceMethod yX1_showAt, Cond.selects RX1 yX1_showAt yX1_showAt]
def wsX4_save_r2 : List Cond := [Cond.code yX1_showAt cX1_showAt 2 (some .int)]
def wsX4_save : List Cond := .code yX4_save cX4_save 2 (some .int) :: ((wsX4_save_r1 ++ wsX4_save_r2) ++ wsX40 ++ wsX10)
def wsX4_restore_r1 : List Cond := [Cond.fieldLink RX4 42 "VillageCinema" "saved" "[Z", Cond.fieldLink RX4 33 "VillageCinema" "history" "LVillageCinema$History;", Cond.fieldLink RX4 12 "VillageCinema" "hall" "LVillageCinema$Hall;", Cond.fieldLink RX4 39 "VillageCinema" "slots" "[[I", Cond.methodLink RX4 46 yX4_isWithin, Cond.static yX4_isWithin, Cond.initialized RX4, Cond.code yX4_isWithin cX4_isWithin 3 (some .boolean), Cond.methodLink RX4 57 yX2_record, Cond.instanceMethod yX2_record, Cond.selects RX2 yX2_record yX2_record, Cond.initialized RX2, Cond.code yX2_record cX2_record 2 none, Cond.fieldLink RX2 13 "VillageCinema$History" "states" "[[I", Cond.fieldLink RX2 20 "VillageCinema$History" "oldest" "I", Cond.fieldLink RX2 16 "VillageCinema$History" "size" "I", Cond.methodLink RX2 23 yX1_copyTo, Cond.instanceMethod yX1_copyTo, Cond.selects RX1 yX1_copyTo yX1_copyTo, Cond.initialized RX1, Cond.code yX1_copyTo cX1_copyTo 2 none, Cond.fieldLink RX1 11 "VillageCinema$Hall" "row" "[I", Cond.methodLink RX1 18 arraycopyName, Cond.native arraycopyName]
def wsX4_restore_r2 : List Cond := [Cond.static arraycopyName, Cond.initialized "java/lang/System", Cond.methodLink RX4 196 yX1_copyFrom, Cond.instanceMethod yX1_copyFrom, Cond.selects RX1 yX1_copyFrom yX1_copyFrom, Cond.code yX1_copyFrom cX1_copyFrom 2 none, Cond.methodLink RX4 193 yX1_shows, Cond.instanceMethod yX1_shows, Cond.selects RX1 yX1_shows yX1_shows, Cond.code yX1_shows cX1_shows 3 (some .int), Cond.methodLink RX1 40 yX1_showAt, Cond.instanceMethod yX1_showAt, Cond.selects RX1 yX1_showAt yX1_showAt, Cond.code yX1_showAt cX1_showAt 2 (some .int)]
def wsX4_restore : List Cond := .code yX4_restore cX4_restore 2 (some .int) :: ((wsX4_restore_r1 ++ wsX4_restore_r2) ++ wsX40 ++ wsX20 ++ wsX10)
def wsX5_init : List Cond := .code yX5_init cX5_init 2 none :: ([.methodLink RX5 1 objectInit, .instanceMethod objectInit, .code objectInit ⟨#[0xb1]⟩ 1 none, .arrayClass .int, .fieldLink RX5 7 "VillageCinemaModel" "state" "[I", .fieldLink RX5 13 "VillageCinemaModel" "history" "[I", .fieldLink RX5 16 "VillageCinemaModel" "slots" "[I", .fieldLink RX5 19 "VillageCinemaModel" "isSaved" "[I", .fieldLink RX5 22 "VillageCinemaModel" "pad" "[I", .fieldLink RX5 25 "VillageCinemaModel" "people" "[I", .fieldLink RX5 28 "VillageCinemaModel" "behind" "[I", .fieldLink RX5 31 "VillageCinemaModel" "left" "[I", .fieldLink RX5 34 "VillageCinemaModel" "shows" "[I", .fieldLink RX5 37 "VillageCinemaModel" "takings" "[I", .fieldLink RX5 40 "VillageCinemaModel" "shares" "[I", .fieldLink RX5 43 "VillageCinemaModel" "dues" "[I"] ++ wsX50)
def wsX5_moves : List Cond := .code yX5_moves cX5_moves 5 none :: ([])
def wsX5_within : List Cond := .code yX5_within cX5_within 3 (some .boolean) :: ([])
def wsX5_record : List Cond := .code yX5_record cX5_record 2 none :: ([.fieldLink RX5 46 "VillageCinemaModel" "recorded" "I", .fieldLink RX5 13 "VillageCinemaModel" "history" "[I", .fieldLink RX5 7 "VillageCinemaModel" "state" "[I", .methodLink RX5 50 yX5_moves, .static yX5_moves, .initialized RX5, .code yX5_moves cX5_moves 5 none] ++ wsX50)
def wsX5_isFilm : List Cond := .code yX5_isFilm cX5_isFilm 2 (some .boolean) :: ([.fieldLink RX5 7 "VillageCinemaModel" "state" "[I", .methodLink RX5 54 yX5_within, .static yX5_within, .initialized RX5, .code yX5_within cX5_within 3 (some .boolean)] ++ wsX50)
def wsX5_filmPart : List Cond := .code yX5_filmPart cX5_filmPart 3 (some .int) :: ([.fieldLink RX5 7 "VillageCinemaModel" "state" "[I"] ++ wsX50)
def wsX5_isPart : List Cond := .code yX5_isPart cX5_isPart 2 (some .boolean) :: ([.methodLink RX5 54 yX5_within, .static yX5_within, .initialized RX5, .code yX5_within cX5_within 3 (some .boolean)])
def wsX5_showAt : List Cond := .code yX5_showAt cX5_showAt 3 (some .int) :: ([.fieldLink RX5 7 "VillageCinemaModel" "state" "[I"] ++ wsX50)
def wsX5_isLet : List Cond := .code yX5_isLet cX5_isLet 2 (some .boolean) :: ([.fieldLink RX5 7 "VillageCinemaModel" "state" "[I"] ++ wsX50)
def wsX5_fade : List Cond := .code yX5_fade cX5_fade 3 none :: ([.fieldLink RX5 7 "VillageCinemaModel" "state" "[I", .fieldLink RX5 31 "VillageCinemaModel" "left" "[I", .methodLink RX5 58 yX5_filmPart, .instanceMethod yX5_filmPart, .selects RX5 yX5_filmPart yX5_filmPart, .initialized RX5, .code yX5_filmPart cX5_filmPart 3 (some .int)] ++ wsX50)
def wsX5_findPeople : List Cond := .code yX5_findPeople cX5_findPeople 4 none :: ([.fieldLink RX5 31 "VillageCinemaModel" "left" "[I", .fieldLink RX5 7 "VillageCinemaModel" "state" "[I", .fieldLink RX5 25 "VillageCinemaModel" "people" "[I", .fieldLink RX5 28 "VillageCinemaModel" "behind" "[I", .methodLink RX5 58 yX5_filmPart, .instanceMethod yX5_filmPart, .selects RX5 yX5_filmPart yX5_filmPart, .initialized RX5, .code yX5_filmPart cX5_filmPart 3 (some .int), .methodLink RX5 62 yX5_fade, .instanceMethod yX5_fade, .selects RX5 yX5_fade yX5_fade, .code yX5_fade cX5_fade 3 none] ++ wsX50)
def wsX5_findTakings : List Cond := .code yX5_findTakings cX5_findTakings 3 none :: ([.fieldLink RX5 34 "VillageCinemaModel" "shows" "[I", .fieldLink RX5 37 "VillageCinemaModel" "takings" "[I", .fieldLink RX5 7 "VillageCinemaModel" "state" "[I", .fieldLink RX5 25 "VillageCinemaModel" "people" "[I"] ++ wsX50)
def wsX5_shareOf : List Cond := .code yX5_shareOf cX5_shareOf 4 (some .int) :: ([.methodLink RX5 58 yX5_filmPart, .instanceMethod yX5_filmPart, .selects RX5 yX5_filmPart yX5_filmPart, .initialized RX5, .code yX5_filmPart cX5_filmPart 3 (some .int), .fieldLink RX5 7 "VillageCinemaModel" "state" "[I"] ++ wsX50)
def wsX5_shareOfTakings : List Cond := .code yX5_shareOfTakings cX5_shareOfTakings 2 (some .int) :: ([.fieldLink RX5 40 "VillageCinemaModel" "shares" "[I", .fieldLink RX5 37 "VillageCinemaModel" "takings" "[I"] ++ wsX50)
def wsX5_findDues : List Cond := .code yX5_findDues cX5_findDues 6 none :: ([.fieldLink RX5 34 "VillageCinemaModel" "shows" "[I", .fieldLink RX5 40 "VillageCinemaModel" "shares" "[I", .fieldLink RX5 43 "VillageCinemaModel" "dues" "[I", .methodLink RX5 66 yX5_shareOf, .instanceMethod yX5_shareOf, .selects RX5 yX5_shareOf yX5_shareOf, .initialized RX5, .code yX5_shareOf cX5_shareOf 4 (some .int), .methodLink RX5 58 yX5_filmPart, .instanceMethod yX5_filmPart, .selects RX5 yX5_filmPart yX5_filmPart, .code yX5_filmPart cX5_filmPart 3 (some .int), .fieldLink RX5 7 "VillageCinemaModel" "state" "[I", .methodLink RX5 69 yX5_shareOfTakings, .instanceMethod yX5_shareOfTakings, .selects RX5 yX5_shareOfTakings yX5_shareOfTakings, .code yX5_shareOfTakings cX5_shareOfTakings 2 (some .int), .fieldLink RX5 37 "VillageCinemaModel" "takings" "[I"] ++ wsX50)
def wsX5_reckon_r1 : List Cond := [Cond.methodLink RX5 73 yX5_findPeople, Cond.instanceMethod yX5_findPeople, Cond.selects RX5 yX5_findPeople yX5_findPeople, Cond.initialized RX5, Cond.code yX5_findPeople cX5_findPeople 4 none, Cond.fieldLink RX5 31 "VillageCinemaModel" "left" "[I", Cond.fieldLink RX5 7 "VillageCinemaModel" "state" "[I", Cond.fieldLink RX5 25 "VillageCinemaModel" "people" "[I", Cond.fieldLink RX5 28 "VillageCinemaModel" "behind" "[I", Cond.methodLink RX5 58 yX5_filmPart, Cond.instanceMethod yX5_filmPart, Cond.selects RX5 yX5_filmPart yX5_filmPart, Cond.code yX5_filmPart cX5_filmPart 3 (some .int), Cond.methodLink RX5 62 yX5_fade, Cond.instanceMethod yX5_fade, Cond.selects RX5 yX5_fade yX5_fade, Cond.code yX5_fade cX5_fade 3 none, Cond.methodLink RX5 76 yX5_findTakings, Cond.instanceMethod yX5_findTakings, Cond.selects RX5 yX5_findTakings yX5_findTakings, Cond.code yX5_findTakings cX5_findTakings 3 none, Cond.fieldLink RX5 34 "VillageCinemaModel" "shows" "[I", Cond.fieldLink RX5 37 "VillageCinemaModel" "takings" "[I", Cond.methodLink RX5 79 yX5_findDues]
def wsX5_reckon_r2 : List Cond := [Cond.instanceMethod yX5_findDues, Cond.selects RX5 yX5_findDues yX5_findDues, Cond.code yX5_findDues cX5_findDues 6 none, Cond.fieldLink RX5 40 "VillageCinemaModel" "shares" "[I", Cond.fieldLink RX5 43 "VillageCinemaModel" "dues" "[I", Cond.methodLink RX5 66 yX5_shareOf, Cond.instanceMethod yX5_shareOf, Cond.selects RX5 yX5_shareOf yX5_shareOf, Cond.code yX5_shareOf cX5_shareOf 4 (some .int), Cond.methodLink RX5 69 yX5_shareOfTakings, Cond.instanceMethod yX5_shareOfTakings, Cond.selects RX5 yX5_shareOfTakings yX5_shareOfTakings, Cond.code yX5_shareOfTakings cX5_shareOfTakings 2 (some .int)]
def wsX5_reckon : List Cond := .code yX5_reckon cX5_reckon 1 none :: ((wsX5_reckon_r1 ++ wsX5_reckon_r2) ++ wsX50)
def wsX5_sumOf : List Cond := .code yX5_sumOf cX5_sumOf 4 (some .int) :: ([])
def wsX5_sumOfFilm : List Cond := .code yX5_sumOfFilm cX5_sumOfFilm 4 (some .int) :: ([])
def wsX5_rentsOf : List Cond := .code yX5_rentsOf cX5_rentsOf 4 (some .int) :: ([.fieldLink RX5 7 "VillageCinemaModel" "state" "[I"] ++ wsX50)
def wsX5_peopleIn : List Cond := .code yX5_peopleIn cX5_peopleIn 4 (some .int) :: ([.fieldLink RX5 25 "VillageCinemaModel" "people" "[I"] ++ wsX50)
def wsX5_leftOf : List Cond := .code yX5_leftOf cX5_leftOf 2 (some .int) :: ([.fieldLink RX5 37 "VillageCinemaModel" "takings" "[I", .fieldLink RX5 43 "VillageCinemaModel" "dues" "[I", .fieldLink RX5 7 "VillageCinemaModel" "state" "[I", .fieldLink RX5 34 "VillageCinemaModel" "shows" "[I", .methodLink RX5 82 yX5_sumOf, .static yX5_sumOf, .initialized RX5, .code yX5_sumOf cX5_sumOf 4 (some .int), .methodLink RX5 86 yX5_rentsOf, .instanceMethod yX5_rentsOf, .selects RX5 yX5_rentsOf yX5_rentsOf, .code yX5_rentsOf cX5_rentsOf 4 (some .int)] ++ wsX50)
def wsX5_leftNow_r1 : List Cond := [Cond.methodLink RX5 89 yX5_reckon, Cond.instanceMethod yX5_reckon, Cond.selects RX5 yX5_reckon yX5_reckon, Cond.initialized RX5, Cond.code yX5_reckon cX5_reckon 1 none, Cond.methodLink RX5 73 yX5_findPeople, Cond.instanceMethod yX5_findPeople, Cond.selects RX5 yX5_findPeople yX5_findPeople, Cond.code yX5_findPeople cX5_findPeople 4 none, Cond.fieldLink RX5 31 "VillageCinemaModel" "left" "[I", Cond.fieldLink RX5 7 "VillageCinemaModel" "state" "[I", Cond.fieldLink RX5 25 "VillageCinemaModel" "people" "[I", Cond.fieldLink RX5 28 "VillageCinemaModel" "behind" "[I", Cond.methodLink RX5 58 yX5_filmPart, Cond.instanceMethod yX5_filmPart, Cond.selects RX5 yX5_filmPart yX5_filmPart, Cond.code yX5_filmPart cX5_filmPart 3 (some .int), Cond.methodLink RX5 62 yX5_fade, Cond.instanceMethod yX5_fade, Cond.selects RX5 yX5_fade yX5_fade, Cond.code yX5_fade cX5_fade 3 none, Cond.methodLink RX5 76 yX5_findTakings, Cond.instanceMethod yX5_findTakings, Cond.selects RX5 yX5_findTakings yX5_findTakings]
def wsX5_leftNow_r2 : List Cond := [Cond.code yX5_findTakings cX5_findTakings 3 none, Cond.fieldLink RX5 34 "VillageCinemaModel" "shows" "[I", Cond.fieldLink RX5 37 "VillageCinemaModel" "takings" "[I", Cond.methodLink RX5 79 yX5_findDues, Cond.instanceMethod yX5_findDues, Cond.selects RX5 yX5_findDues yX5_findDues, Cond.code yX5_findDues cX5_findDues 6 none, Cond.fieldLink RX5 40 "VillageCinemaModel" "shares" "[I", Cond.fieldLink RX5 43 "VillageCinemaModel" "dues" "[I", Cond.methodLink RX5 66 yX5_shareOf, Cond.instanceMethod yX5_shareOf, Cond.selects RX5 yX5_shareOf yX5_shareOf, Cond.code yX5_shareOf cX5_shareOf 4 (some .int), Cond.methodLink RX5 69 yX5_shareOfTakings, Cond.instanceMethod yX5_shareOfTakings, Cond.selects RX5 yX5_shareOfTakings yX5_shareOfTakings, Cond.code yX5_shareOfTakings cX5_shareOfTakings 2 (some .int), Cond.methodLink RX5 92 yX5_leftOf, Cond.instanceMethod yX5_leftOf, Cond.selects RX5 yX5_leftOf yX5_leftOf, Cond.code yX5_leftOf cX5_leftOf 2 (some .int), Cond.methodLink RX5 82 yX5_sumOf, Cond.static yX5_sumOf, Cond.code yX5_sumOf cX5_sumOf 4 (some .int)]
def wsX5_leftNow_r3 : List Cond := [Cond.methodLink RX5 86 yX5_rentsOf, Cond.instanceMethod yX5_rentsOf, Cond.selects RX5 yX5_rentsOf yX5_rentsOf, Cond.code yX5_rentsOf cX5_rentsOf 4 (some .int)]
def wsX5_leftNow : List Cond := .code yX5_leftNow cX5_leftNow 1 (some .int) :: ((wsX5_leftNow_r1 ++ (wsX5_leftNow_r2 ++ wsX5_leftNow_r3)) ++ wsX50)
def wsX5_isValue : List Cond := .code yX5_isValue cX5_isValue 2 (some .boolean) :: ([.methodLink RX5 54 yX5_within, .static yX5_within, .initialized RX5, .code yX5_within cX5_within 3 (some .boolean)])
def wsX5_set : List Cond := .code yX5_set cX5_set 4 (some .int) :: ([.fieldLink RX5 7 "VillageCinemaModel" "state" "[I", .methodLink RX5 95 yX5_isValue, .static yX5_isValue, .initialized RX5, .code yX5_isValue cX5_isValue 2 (some .boolean), .methodLink RX5 54 yX5_within, .static yX5_within, .code yX5_within cX5_within 3 (some .boolean), .methodLink RX5 99 yX5_record, .instanceMethod yX5_record, .selects RX5 yX5_record yX5_record, .code yX5_record cX5_record 2 none, .fieldLink RX5 46 "VillageCinemaModel" "recorded" "I", .fieldLink RX5 13 "VillageCinemaModel" "history" "[I", .methodLink RX5 50 yX5_moves, .static yX5_moves, .code yX5_moves cX5_moves 5 none] ++ wsX50)
def wsX5_film : List Cond := .code yX5_film cX5_film 7 (some .int) :: ([.fieldLink RX5 7 "VillageCinemaModel" "state" "[I", .methodLink RX5 54 yX5_within, .static yX5_within, .initialized RX5, .code yX5_within cX5_within 3 (some .boolean), .methodLink RX5 99 yX5_record, .instanceMethod yX5_record, .selects RX5 yX5_record yX5_record, .code yX5_record cX5_record 2 none, .fieldLink RX5 46 "VillageCinemaModel" "recorded" "I", .fieldLink RX5 13 "VillageCinemaModel" "history" "[I", .methodLink RX5 50 yX5_moves, .static yX5_moves, .code yX5_moves cX5_moves 5 none] ++ wsX50)
def wsX5_canShow : List Cond := .code yX5_canShow cX5_canShow 3 (some .boolean) :: ([.methodLink RX5 102 yX5_isLet, .instanceMethod yX5_isLet, .selects RX5 yX5_isLet yX5_isLet, .initialized RX5, .code yX5_isLet cX5_isLet 2 (some .boolean), .fieldLink RX5 7 "VillageCinemaModel" "state" "[I", .methodLink RX5 58 yX5_filmPart, .instanceMethod yX5_filmPart, .selects RX5 yX5_filmPart yX5_filmPart, .code yX5_filmPart cX5_filmPart 3 (some .int)] ++ wsX50)
def wsX5_whyNotShown : List Cond := .code yX5_whyNotShown cX5_whyNotShown 4 (some .int) :: ([.methodLink RX5 106 yX5_isFilm, .instanceMethod yX5_isFilm, .selects RX5 yX5_isFilm yX5_isFilm, .initialized RX5, .code yX5_isFilm cX5_isFilm 2 (some .boolean), .fieldLink RX5 7 "VillageCinemaModel" "state" "[I", .methodLink RX5 54 yX5_within, .static yX5_within, .code yX5_within cX5_within 3 (some .boolean), .methodLink RX5 109 yX5_isPart, .static yX5_isPart, .code yX5_isPart cX5_isPart 2 (some .boolean), .methodLink RX5 112 yX5_canShow, .instanceMethod yX5_canShow, .selects RX5 yX5_canShow yX5_canShow, .code yX5_canShow cX5_canShow 3 (some .boolean), .methodLink RX5 102 yX5_isLet, .instanceMethod yX5_isLet, .selects RX5 yX5_isLet yX5_isLet, .code yX5_isLet cX5_isLet 2 (some .boolean), .methodLink RX5 58 yX5_filmPart, .instanceMethod yX5_filmPart, .selects RX5 yX5_filmPart yX5_filmPart, .code yX5_filmPart cX5_filmPart 3 (some .int)] ++ wsX50)
def wsX5_show_r1 : List Cond := [Cond.fieldLink RX5 7 "VillageCinemaModel" "state" "[I", Cond.methodLink RX5 115 yX5_whyNotShown, Cond.instanceMethod yX5_whyNotShown, Cond.selects RX5 yX5_whyNotShown yX5_whyNotShown, Cond.initialized RX5, Cond.code yX5_whyNotShown cX5_whyNotShown 4 (some .int), Cond.methodLink RX5 106 yX5_isFilm, Cond.instanceMethod yX5_isFilm, Cond.selects RX5 yX5_isFilm yX5_isFilm, Cond.code yX5_isFilm cX5_isFilm 2 (some .boolean), Cond.methodLink RX5 54 yX5_within, Cond.static yX5_within, Cond.code yX5_within cX5_within 3 (some .boolean), Cond.methodLink RX5 109 yX5_isPart, Cond.static yX5_isPart, Cond.code yX5_isPart cX5_isPart 2 (some .boolean), Cond.methodLink RX5 112 yX5_canShow, Cond.instanceMethod yX5_canShow, Cond.selects RX5 yX5_canShow yX5_canShow, Cond.code yX5_canShow cX5_canShow 3 (some .boolean), Cond.methodLink RX5 102 yX5_isLet, Cond.instanceMethod yX5_isLet, Cond.selects RX5 yX5_isLet yX5_isLet, Cond.code yX5_isLet cX5_isLet 2 (some .boolean)]
def wsX5_show_r2 : List Cond := [Cond.methodLink RX5 58 yX5_filmPart, Cond.instanceMethod yX5_filmPart, Cond.selects RX5 yX5_filmPart yX5_filmPart, Cond.code yX5_filmPart cX5_filmPart 3 (some .int), Cond.methodLink RX5 99 yX5_record, Cond.instanceMethod yX5_record, Cond.selects RX5 yX5_record yX5_record, Cond.code yX5_record cX5_record 2 none, Cond.fieldLink RX5 46 "VillageCinemaModel" "recorded" "I", Cond.fieldLink RX5 13 "VillageCinemaModel" "history" "[I", Cond.methodLink RX5 50 yX5_moves, Cond.static yX5_moves, Cond.code yX5_moves cX5_moves 5 none, Cond.methodLink RX5 119 yX5_showAt, Cond.instanceMethod yX5_showAt, Cond.selects RX5 yX5_showAt yX5_showAt, Cond.code yX5_showAt cX5_showAt 3 (some .int)]
def wsX5_show : List Cond := .code yX5_show cX5_show 6 (some .int) :: ((wsX5_show_r1 ++ wsX5_show_r2) ++ wsX50)
def wsX5_drop : List Cond := .code yX5_drop cX5_drop 4 (some .int) :: ([.fieldLink RX5 7 "VillageCinemaModel" "state" "[I", .methodLink RX5 109 yX5_isPart, .static yX5_isPart, .initialized RX5, .code yX5_isPart cX5_isPart 2 (some .boolean), .methodLink RX5 54 yX5_within, .static yX5_within, .code yX5_within cX5_within 3 (some .boolean), .methodLink RX5 119 yX5_showAt, .instanceMethod yX5_showAt, .selects RX5 yX5_showAt yX5_showAt, .code yX5_showAt cX5_showAt 3 (some .int), .methodLink RX5 99 yX5_record, .instanceMethod yX5_record, .selects RX5 yX5_record yX5_record, .code yX5_record cX5_record 2 none, .fieldLink RX5 46 "VillageCinemaModel" "recorded" "I", .fieldLink RX5 13 "VillageCinemaModel" "history" "[I", .methodLink RX5 50 yX5_moves, .static yX5_moves, .code yX5_moves cX5_moves 5 none] ++ wsX50)
def wsX5_canBe : List Cond := .code yX5_canBe cX5_canBe 3 (some .boolean) :: ([.methodLink RX5 102 yX5_isLet, .instanceMethod yX5_isLet, .selects RX5 yX5_isLet yX5_isLet, .initialized RX5, .code yX5_isLet cX5_isLet 2 (some .boolean), .fieldLink RX5 7 "VillageCinemaModel" "state" "[I", .methodLink RX5 58 yX5_filmPart, .instanceMethod yX5_filmPart, .selects RX5 yX5_filmPart yX5_filmPart, .code yX5_filmPart cX5_filmPart 3 (some .int)] ++ wsX50)
def wsX5_exchange_r1 : List Cond := [Cond.fieldLink RX5 7 "VillageCinemaModel" "state" "[I", Cond.constant RX5 129 (1000000), Cond.methodLink RX5 109 yX5_isPart, Cond.static yX5_isPart, Cond.initialized RX5, Cond.code yX5_isPart cX5_isPart 2 (some .boolean), Cond.methodLink RX5 54 yX5_within, Cond.static yX5_within, Cond.code yX5_within cX5_within 3 (some .boolean), Cond.methodLink RX5 119 yX5_showAt, Cond.instanceMethod yX5_showAt, Cond.selects RX5 yX5_showAt yX5_showAt, Cond.code yX5_showAt cX5_showAt 3 (some .int), Cond.methodLink RX5 122 yX5_canBe, Cond.instanceMethod yX5_canBe, Cond.selects RX5 yX5_canBe yX5_canBe, Cond.code yX5_canBe cX5_canBe 3 (some .boolean), Cond.methodLink RX5 102 yX5_isLet, Cond.instanceMethod yX5_isLet, Cond.selects RX5 yX5_isLet yX5_isLet, Cond.code yX5_isLet cX5_isLet 2 (some .boolean), Cond.methodLink RX5 58 yX5_filmPart, Cond.instanceMethod yX5_filmPart, Cond.selects RX5 yX5_filmPart yX5_filmPart]
def wsX5_exchange_r2 : List Cond := [Cond.code yX5_filmPart cX5_filmPart 3 (some .int), Cond.methodLink RX5 99 yX5_record, Cond.instanceMethod yX5_record, Cond.selects RX5 yX5_record yX5_record, Cond.code yX5_record cX5_record 2 none, Cond.fieldLink RX5 46 "VillageCinemaModel" "recorded" "I", Cond.fieldLink RX5 13 "VillageCinemaModel" "history" "[I", Cond.methodLink RX5 50 yX5_moves, Cond.static yX5_moves, Cond.code yX5_moves cX5_moves 5 none, Cond.methodLink RX5 125 yX5_leftNow, Cond.instanceMethod yX5_leftNow, Cond.selects RX5 yX5_leftNow yX5_leftNow, Cond.code yX5_leftNow cX5_leftNow 1 (some .int), Cond.methodLink RX5 89 yX5_reckon, Cond.instanceMethod yX5_reckon, Cond.selects RX5 yX5_reckon yX5_reckon, Cond.code yX5_reckon cX5_reckon 1 none, Cond.methodLink RX5 73 yX5_findPeople, Cond.instanceMethod yX5_findPeople, Cond.selects RX5 yX5_findPeople yX5_findPeople, Cond.code yX5_findPeople cX5_findPeople 4 none, Cond.fieldLink RX5 31 "VillageCinemaModel" "left" "[I", Cond.fieldLink RX5 25 "VillageCinemaModel" "people" "[I"]
def wsX5_exchange_r3 : List Cond := [Cond.fieldLink RX5 28 "VillageCinemaModel" "behind" "[I", Cond.methodLink RX5 62 yX5_fade, Cond.instanceMethod yX5_fade, Cond.selects RX5 yX5_fade yX5_fade, Cond.code yX5_fade cX5_fade 3 none, Cond.methodLink RX5 76 yX5_findTakings, Cond.instanceMethod yX5_findTakings, Cond.selects RX5 yX5_findTakings yX5_findTakings, Cond.code yX5_findTakings cX5_findTakings 3 none, Cond.fieldLink RX5 34 "VillageCinemaModel" "shows" "[I", Cond.fieldLink RX5 37 "VillageCinemaModel" "takings" "[I", Cond.methodLink RX5 79 yX5_findDues, Cond.instanceMethod yX5_findDues, Cond.selects RX5 yX5_findDues yX5_findDues, Cond.code yX5_findDues cX5_findDues 6 none, Cond.fieldLink RX5 40 "VillageCinemaModel" "shares" "[I", Cond.fieldLink RX5 43 "VillageCinemaModel" "dues" "[I", Cond.methodLink RX5 66 yX5_shareOf, Cond.instanceMethod yX5_shareOf, Cond.selects RX5 yX5_shareOf yX5_shareOf, Cond.code yX5_shareOf cX5_shareOf 4 (some .int), Cond.methodLink RX5 69 yX5_shareOfTakings, Cond.instanceMethod yX5_shareOfTakings, Cond.selects RX5 yX5_shareOfTakings yX5_shareOfTakings]
def wsX5_exchange_r4 : List Cond := [Cond.code yX5_shareOfTakings cX5_shareOfTakings 2 (some .int), Cond.methodLink RX5 92 yX5_leftOf, Cond.instanceMethod yX5_leftOf, Cond.selects RX5 yX5_leftOf yX5_leftOf, Cond.code yX5_leftOf cX5_leftOf 2 (some .int), Cond.methodLink RX5 82 yX5_sumOf, Cond.static yX5_sumOf, Cond.code yX5_sumOf cX5_sumOf 4 (some .int), Cond.methodLink RX5 86 yX5_rentsOf, Cond.instanceMethod yX5_rentsOf, Cond.selects RX5 yX5_rentsOf yX5_rentsOf, Cond.code yX5_rentsOf cX5_rentsOf 4 (some .int)]
def wsX5_exchange : List Cond := .code yX5_exchange cX5_exchange 8 (some .int) :: ((wsX5_exchange_r1 ++ (wsX5_exchange_r2 ++ (wsX5_exchange_r3 ++ wsX5_exchange_r4))) ++ wsX50)
def wsX5_let : List Cond := .code yX5_let cX5_let 5 (some .int) :: ([.fieldLink RX5 7 "VillageCinemaModel" "state" "[I", .methodLink RX5 54 yX5_within, .static yX5_within, .initialized RX5, .code yX5_within cX5_within 3 (some .boolean), .methodLink RX5 99 yX5_record, .instanceMethod yX5_record, .selects RX5 yX5_record yX5_record, .code yX5_record cX5_record 2 none, .fieldLink RX5 46 "VillageCinemaModel" "recorded" "I", .fieldLink RX5 13 "VillageCinemaModel" "history" "[I", .methodLink RX5 50 yX5_moves, .static yX5_moves, .code yX5_moves cX5_moves 5 none, .methodLink RX5 119 yX5_showAt, .instanceMethod yX5_showAt, .selects RX5 yX5_showAt yX5_showAt, .code yX5_showAt cX5_showAt 3 (some .int)] ++ wsX50)
def wsX5_at_r1 : List Cond := [Cond.fieldLink RX5 7 "VillageCinemaModel" "state" "[I", Cond.fieldLink RX5 25 "VillageCinemaModel" "people" "[I", Cond.fieldLink RX5 28 "VillageCinemaModel" "behind" "[I", Cond.methodLink RX5 109 yX5_isPart, Cond.static yX5_isPart, Cond.initialized RX5, Cond.code yX5_isPart cX5_isPart 2 (some .boolean), Cond.methodLink RX5 54 yX5_within, Cond.static yX5_within, Cond.code yX5_within cX5_within 3 (some .boolean), Cond.methodLink RX5 89 yX5_reckon, Cond.instanceMethod yX5_reckon, Cond.selects RX5 yX5_reckon yX5_reckon, Cond.code yX5_reckon cX5_reckon 1 none, Cond.methodLink RX5 73 yX5_findPeople, Cond.instanceMethod yX5_findPeople, Cond.selects RX5 yX5_findPeople yX5_findPeople, Cond.code yX5_findPeople cX5_findPeople 4 none, Cond.fieldLink RX5 31 "VillageCinemaModel" "left" "[I", Cond.methodLink RX5 58 yX5_filmPart, Cond.instanceMethod yX5_filmPart, Cond.selects RX5 yX5_filmPart yX5_filmPart, Cond.code yX5_filmPart cX5_filmPart 3 (some .int), Cond.methodLink RX5 62 yX5_fade]
def wsX5_at_r2 : List Cond := [Cond.instanceMethod yX5_fade, Cond.selects RX5 yX5_fade yX5_fade, Cond.code yX5_fade cX5_fade 3 none, Cond.methodLink RX5 76 yX5_findTakings, Cond.instanceMethod yX5_findTakings, Cond.selects RX5 yX5_findTakings yX5_findTakings, Cond.code yX5_findTakings cX5_findTakings 3 none, Cond.fieldLink RX5 34 "VillageCinemaModel" "shows" "[I", Cond.fieldLink RX5 37 "VillageCinemaModel" "takings" "[I", Cond.methodLink RX5 79 yX5_findDues, Cond.instanceMethod yX5_findDues, Cond.selects RX5 yX5_findDues yX5_findDues, Cond.code yX5_findDues cX5_findDues 6 none, Cond.fieldLink RX5 40 "VillageCinemaModel" "shares" "[I", Cond.fieldLink RX5 43 "VillageCinemaModel" "dues" "[I", Cond.methodLink RX5 66 yX5_shareOf, Cond.instanceMethod yX5_shareOf, Cond.selects RX5 yX5_shareOf yX5_shareOf, Cond.code yX5_shareOf cX5_shareOf 4 (some .int), Cond.methodLink RX5 69 yX5_shareOfTakings, Cond.instanceMethod yX5_shareOfTakings, Cond.selects RX5 yX5_shareOfTakings yX5_shareOfTakings, Cond.code yX5_shareOfTakings cX5_shareOfTakings 2 (some .int)]
def wsX5_at : List Cond := .code yX5_at cX5_at 5 (some .int) :: ((wsX5_at_r1 ++ wsX5_at_r2) ++ wsX50)
def wsX5_peopleOf : List Cond := .code yX5_peopleOf cX5_peopleOf 4 (some .int) :: ([.fieldLink RX5 7 "VillageCinemaModel" "state" "[I", .fieldLink RX5 25 "VillageCinemaModel" "people" "[I"] ++ wsX50)
def wsX5_firstShow : List Cond := .code yX5_firstShow cX5_firstShow 4 (some .int) :: ([.fieldLink RX5 7 "VillageCinemaModel" "state" "[I"] ++ wsX50)
def wsX5_of_r1 : List Cond := [Cond.fieldLink RX5 34 "VillageCinemaModel" "shows" "[I", Cond.fieldLink RX5 37 "VillageCinemaModel" "takings" "[I", Cond.fieldLink RX5 43 "VillageCinemaModel" "dues" "[I", Cond.fieldLink RX5 31 "VillageCinemaModel" "left" "[I", Cond.methodLink RX5 106 yX5_isFilm, Cond.instanceMethod yX5_isFilm, Cond.selects RX5 yX5_isFilm yX5_isFilm, Cond.initialized RX5, Cond.code yX5_isFilm cX5_isFilm 2 (some .boolean), Cond.fieldLink RX5 7 "VillageCinemaModel" "state" "[I", Cond.methodLink RX5 54 yX5_within, Cond.static yX5_within, Cond.code yX5_within cX5_within 3 (some .boolean), Cond.methodLink RX5 89 yX5_reckon, Cond.instanceMethod yX5_reckon, Cond.selects RX5 yX5_reckon yX5_reckon, Cond.code yX5_reckon cX5_reckon 1 none, Cond.methodLink RX5 73 yX5_findPeople, Cond.instanceMethod yX5_findPeople, Cond.selects RX5 yX5_findPeople yX5_findPeople, Cond.code yX5_findPeople cX5_findPeople 4 none, Cond.fieldLink RX5 25 "VillageCinemaModel" "people" "[I", Cond.fieldLink RX5 28 "VillageCinemaModel" "behind" "[I", Cond.methodLink RX5 58 yX5_filmPart]
def wsX5_of_r2 : List Cond := [Cond.instanceMethod yX5_filmPart, Cond.selects RX5 yX5_filmPart yX5_filmPart, Cond.code yX5_filmPart cX5_filmPart 3 (some .int), Cond.methodLink RX5 62 yX5_fade, Cond.instanceMethod yX5_fade, Cond.selects RX5 yX5_fade yX5_fade, Cond.code yX5_fade cX5_fade 3 none, Cond.methodLink RX5 76 yX5_findTakings, Cond.instanceMethod yX5_findTakings, Cond.selects RX5 yX5_findTakings yX5_findTakings, Cond.code yX5_findTakings cX5_findTakings 3 none, Cond.methodLink RX5 79 yX5_findDues, Cond.instanceMethod yX5_findDues, Cond.selects RX5 yX5_findDues yX5_findDues, Cond.code yX5_findDues cX5_findDues 6 none, Cond.fieldLink RX5 40 "VillageCinemaModel" "shares" "[I", Cond.methodLink RX5 66 yX5_shareOf, Cond.instanceMethod yX5_shareOf, Cond.selects RX5 yX5_shareOf yX5_shareOf, Cond.code yX5_shareOf cX5_shareOf 4 (some .int), Cond.methodLink RX5 69 yX5_shareOfTakings, Cond.instanceMethod yX5_shareOfTakings, Cond.selects RX5 yX5_shareOfTakings yX5_shareOfTakings, Cond.code yX5_shareOfTakings cX5_shareOfTakings 2 (some .int)]
def wsX5_of_r3 : List Cond := [Cond.methodLink RX5 130 yX5_sumOfFilm, Cond.static yX5_sumOfFilm, Cond.code yX5_sumOfFilm cX5_sumOfFilm 4 (some .int), Cond.methodLink RX5 133 yX5_peopleOf, Cond.instanceMethod yX5_peopleOf, Cond.selects RX5 yX5_peopleOf yX5_peopleOf, Cond.code yX5_peopleOf cX5_peopleOf 4 (some .int), Cond.methodLink RX5 136 yX5_firstShow, Cond.instanceMethod yX5_firstShow, Cond.selects RX5 yX5_firstShow yX5_firstShow, Cond.code yX5_firstShow cX5_firstShow 4 (some .int)]
def wsX5_of : List Cond := .code yX5_of cX5_of 3 (some .int) :: ((wsX5_of_r1 ++ (wsX5_of_r2 ++ wsX5_of_r3)) ++ wsX50)
def wsX5_inWeek_r1 : List Cond := [Cond.fieldLink RX5 37 "VillageCinemaModel" "takings" "[I", Cond.fieldLink RX5 40 "VillageCinemaModel" "shares" "[I", Cond.fieldLink RX5 43 "VillageCinemaModel" "dues" "[I", Cond.methodLink RX5 106 yX5_isFilm, Cond.instanceMethod yX5_isFilm, Cond.selects RX5 yX5_isFilm yX5_isFilm, Cond.initialized RX5, Cond.code yX5_isFilm cX5_isFilm 2 (some .boolean), Cond.fieldLink RX5 7 "VillageCinemaModel" "state" "[I", Cond.methodLink RX5 54 yX5_within, Cond.static yX5_within, Cond.code yX5_within cX5_within 3 (some .boolean), Cond.methodLink RX5 89 yX5_reckon, Cond.instanceMethod yX5_reckon, Cond.selects RX5 yX5_reckon yX5_reckon, Cond.code yX5_reckon cX5_reckon 1 none, Cond.methodLink RX5 73 yX5_findPeople, Cond.instanceMethod yX5_findPeople, Cond.selects RX5 yX5_findPeople yX5_findPeople, Cond.code yX5_findPeople cX5_findPeople 4 none, Cond.fieldLink RX5 31 "VillageCinemaModel" "left" "[I", Cond.fieldLink RX5 25 "VillageCinemaModel" "people" "[I", Cond.fieldLink RX5 28 "VillageCinemaModel" "behind" "[I", Cond.methodLink RX5 58 yX5_filmPart]
def wsX5_inWeek_r2 : List Cond := [Cond.instanceMethod yX5_filmPart, Cond.selects RX5 yX5_filmPart yX5_filmPart, Cond.code yX5_filmPart cX5_filmPart 3 (some .int), Cond.methodLink RX5 62 yX5_fade, Cond.instanceMethod yX5_fade, Cond.selects RX5 yX5_fade yX5_fade, Cond.code yX5_fade cX5_fade 3 none, Cond.methodLink RX5 76 yX5_findTakings, Cond.instanceMethod yX5_findTakings, Cond.selects RX5 yX5_findTakings yX5_findTakings, Cond.code yX5_findTakings cX5_findTakings 3 none, Cond.fieldLink RX5 34 "VillageCinemaModel" "shows" "[I", Cond.methodLink RX5 79 yX5_findDues, Cond.instanceMethod yX5_findDues, Cond.selects RX5 yX5_findDues yX5_findDues, Cond.code yX5_findDues cX5_findDues 6 none, Cond.methodLink RX5 66 yX5_shareOf, Cond.instanceMethod yX5_shareOf, Cond.selects RX5 yX5_shareOf yX5_shareOf, Cond.code yX5_shareOf cX5_shareOf 4 (some .int), Cond.methodLink RX5 69 yX5_shareOfTakings, Cond.instanceMethod yX5_shareOfTakings, Cond.selects RX5 yX5_shareOfTakings yX5_shareOfTakings, Cond.code yX5_shareOfTakings cX5_shareOfTakings 2 (some .int)]
def wsX5_inWeek : List Cond := .code yX5_inWeek cX5_inWeek 5 (some .int) :: ((wsX5_inWeek_r1 ++ wsX5_inWeek_r2) ++ wsX50)
def wsX5_week_r1 : List Cond := [Cond.fieldLink RX5 34 "VillageCinemaModel" "shows" "[I", Cond.fieldLink RX5 37 "VillageCinemaModel" "takings" "[I", Cond.fieldLink RX5 43 "VillageCinemaModel" "dues" "[I", Cond.constant RX5 129 (1000000), Cond.methodLink RX5 54 yX5_within, Cond.static yX5_within, Cond.initialized RX5, Cond.code yX5_within cX5_within 3 (some .boolean), Cond.methodLink RX5 89 yX5_reckon, Cond.instanceMethod yX5_reckon, Cond.selects RX5 yX5_reckon yX5_reckon, Cond.code yX5_reckon cX5_reckon 1 none, Cond.methodLink RX5 73 yX5_findPeople, Cond.instanceMethod yX5_findPeople, Cond.selects RX5 yX5_findPeople yX5_findPeople, Cond.code yX5_findPeople cX5_findPeople 4 none, Cond.fieldLink RX5 31 "VillageCinemaModel" "left" "[I", Cond.fieldLink RX5 7 "VillageCinemaModel" "state" "[I", Cond.fieldLink RX5 25 "VillageCinemaModel" "people" "[I", Cond.fieldLink RX5 28 "VillageCinemaModel" "behind" "[I", Cond.methodLink RX5 58 yX5_filmPart, Cond.instanceMethod yX5_filmPart, Cond.selects RX5 yX5_filmPart yX5_filmPart, Cond.code yX5_filmPart cX5_filmPart 3 (some .int)]
def wsX5_week_r2 : List Cond := [Cond.methodLink RX5 62 yX5_fade, Cond.instanceMethod yX5_fade, Cond.selects RX5 yX5_fade yX5_fade, Cond.code yX5_fade cX5_fade 3 none, Cond.methodLink RX5 76 yX5_findTakings, Cond.instanceMethod yX5_findTakings, Cond.selects RX5 yX5_findTakings yX5_findTakings, Cond.code yX5_findTakings cX5_findTakings 3 none, Cond.methodLink RX5 79 yX5_findDues, Cond.instanceMethod yX5_findDues, Cond.selects RX5 yX5_findDues yX5_findDues, Cond.code yX5_findDues cX5_findDues 6 none, Cond.fieldLink RX5 40 "VillageCinemaModel" "shares" "[I", Cond.methodLink RX5 66 yX5_shareOf, Cond.instanceMethod yX5_shareOf, Cond.selects RX5 yX5_shareOf yX5_shareOf, Cond.code yX5_shareOf cX5_shareOf 4 (some .int), Cond.methodLink RX5 69 yX5_shareOfTakings, Cond.instanceMethod yX5_shareOfTakings, Cond.selects RX5 yX5_shareOfTakings yX5_shareOfTakings, Cond.code yX5_shareOfTakings cX5_shareOfTakings 2 (some .int), Cond.methodLink RX5 82 yX5_sumOf, Cond.static yX5_sumOf, Cond.code yX5_sumOf cX5_sumOf 4 (some .int)]
def wsX5_week_r3 : List Cond := [Cond.methodLink RX5 139 yX5_peopleIn, Cond.instanceMethod yX5_peopleIn, Cond.selects RX5 yX5_peopleIn yX5_peopleIn, Cond.code yX5_peopleIn cX5_peopleIn 4 (some .int), Cond.methodLink RX5 92 yX5_leftOf, Cond.instanceMethod yX5_leftOf, Cond.selects RX5 yX5_leftOf yX5_leftOf, Cond.code yX5_leftOf cX5_leftOf 2 (some .int), Cond.methodLink RX5 86 yX5_rentsOf, Cond.instanceMethod yX5_rentsOf, Cond.selects RX5 yX5_rentsOf yX5_rentsOf, Cond.code yX5_rentsOf cX5_rentsOf 4 (some .int)]
def wsX5_week : List Cond := .code yX5_week cX5_week 3 (some .int) :: ((wsX5_week_r1 ++ (wsX5_week_r2 ++ wsX5_week_r3)) ++ wsX50)
def wsX5_distributor_r1 : List Cond := [Cond.fieldLink RX5 7 "VillageCinemaModel" "state" "[I", Cond.fieldLink RX5 34 "VillageCinemaModel" "shows" "[I", Cond.fieldLink RX5 43 "VillageCinemaModel" "dues" "[I", Cond.methodLink RX5 54 yX5_within, Cond.static yX5_within, Cond.initialized RX5, Cond.code yX5_within cX5_within 3 (some .boolean), Cond.methodLink RX5 89 yX5_reckon, Cond.instanceMethod yX5_reckon, Cond.selects RX5 yX5_reckon yX5_reckon, Cond.code yX5_reckon cX5_reckon 1 none, Cond.methodLink RX5 73 yX5_findPeople, Cond.instanceMethod yX5_findPeople, Cond.selects RX5 yX5_findPeople yX5_findPeople, Cond.code yX5_findPeople cX5_findPeople 4 none, Cond.fieldLink RX5 31 "VillageCinemaModel" "left" "[I", Cond.fieldLink RX5 25 "VillageCinemaModel" "people" "[I", Cond.fieldLink RX5 28 "VillageCinemaModel" "behind" "[I", Cond.methodLink RX5 58 yX5_filmPart, Cond.instanceMethod yX5_filmPart, Cond.selects RX5 yX5_filmPart yX5_filmPart, Cond.code yX5_filmPart cX5_filmPart 3 (some .int), Cond.methodLink RX5 62 yX5_fade, Cond.instanceMethod yX5_fade]
def wsX5_distributor_r2 : List Cond := [Cond.selects RX5 yX5_fade yX5_fade, Cond.code yX5_fade cX5_fade 3 none, Cond.methodLink RX5 76 yX5_findTakings, Cond.instanceMethod yX5_findTakings, Cond.selects RX5 yX5_findTakings yX5_findTakings, Cond.code yX5_findTakings cX5_findTakings 3 none, Cond.fieldLink RX5 37 "VillageCinemaModel" "takings" "[I", Cond.methodLink RX5 79 yX5_findDues, Cond.instanceMethod yX5_findDues, Cond.selects RX5 yX5_findDues yX5_findDues, Cond.code yX5_findDues cX5_findDues 6 none, Cond.fieldLink RX5 40 "VillageCinemaModel" "shares" "[I", Cond.methodLink RX5 66 yX5_shareOf, Cond.instanceMethod yX5_shareOf, Cond.selects RX5 yX5_shareOf yX5_shareOf, Cond.code yX5_shareOf cX5_shareOf 4 (some .int), Cond.methodLink RX5 69 yX5_shareOfTakings, Cond.instanceMethod yX5_shareOfTakings, Cond.selects RX5 yX5_shareOfTakings yX5_shareOfTakings, Cond.code yX5_shareOfTakings cX5_shareOfTakings 2 (some .int), Cond.methodLink RX5 130 yX5_sumOfFilm, Cond.static yX5_sumOfFilm, Cond.code yX5_sumOfFilm cX5_sumOfFilm 4 (some .int)]
def wsX5_distributor : List Cond := .code yX5_distributor cX5_distributor 6 (some .int) :: ((wsX5_distributor_r1 ++ wsX5_distributor_r2) ++ wsX50)
def wsX5_rent : List Cond := .code yX5_rent cX5_rent 2 (some .int) :: ([.fieldLink RX5 7 "VillageCinemaModel" "state" "[I", .methodLink RX5 54 yX5_within, .static yX5_within, .initialized RX5, .code yX5_within cX5_within 3 (some .boolean)] ++ wsX50)
def wsX5_fullShows : List Cond := .code yX5_fullShows cX5_fullShows 3 (some .int) :: ([.fieldLink RX5 7 "VillageCinemaModel" "state" "[I", .fieldLink RX5 25 "VillageCinemaModel" "people" "[I"] ++ wsX50)
def wsX5_count_r1 : List Cond := [Cond.fieldLink RX5 7 "VillageCinemaModel" "state" "[I", Cond.fieldLink RX5 34 "VillageCinemaModel" "shows" "[I", Cond.fieldLink RX5 37 "VillageCinemaModel" "takings" "[I", Cond.fieldLink RX5 43 "VillageCinemaModel" "dues" "[I", Cond.constant RX5 129 (1000000), Cond.fieldLink RX5 145 "VillageCinemaModel" "padLength" "I", Cond.fieldLink RX5 46 "VillageCinemaModel" "recorded" "I", Cond.methodLink RX5 89 yX5_reckon, Cond.instanceMethod yX5_reckon, Cond.selects RX5 yX5_reckon yX5_reckon, Cond.initialized RX5, Cond.code yX5_reckon cX5_reckon 1 none, Cond.methodLink RX5 73 yX5_findPeople, Cond.instanceMethod yX5_findPeople, Cond.selects RX5 yX5_findPeople yX5_findPeople, Cond.code yX5_findPeople cX5_findPeople 4 none, Cond.fieldLink RX5 31 "VillageCinemaModel" "left" "[I", Cond.fieldLink RX5 25 "VillageCinemaModel" "people" "[I", Cond.fieldLink RX5 28 "VillageCinemaModel" "behind" "[I", Cond.methodLink RX5 58 yX5_filmPart, Cond.instanceMethod yX5_filmPart, Cond.selects RX5 yX5_filmPart yX5_filmPart, Cond.code yX5_filmPart cX5_filmPart 3 (some .int), Cond.methodLink RX5 62 yX5_fade]
def wsX5_count_r2 : List Cond := [Cond.instanceMethod yX5_fade, Cond.selects RX5 yX5_fade yX5_fade, Cond.code yX5_fade cX5_fade 3 none, Cond.methodLink RX5 76 yX5_findTakings, Cond.instanceMethod yX5_findTakings, Cond.selects RX5 yX5_findTakings yX5_findTakings, Cond.code yX5_findTakings cX5_findTakings 3 none, Cond.methodLink RX5 79 yX5_findDues, Cond.instanceMethod yX5_findDues, Cond.selects RX5 yX5_findDues yX5_findDues, Cond.code yX5_findDues cX5_findDues 6 none, Cond.fieldLink RX5 40 "VillageCinemaModel" "shares" "[I", Cond.methodLink RX5 66 yX5_shareOf, Cond.instanceMethod yX5_shareOf, Cond.selects RX5 yX5_shareOf yX5_shareOf, Cond.code yX5_shareOf cX5_shareOf 4 (some .int), Cond.methodLink RX5 69 yX5_shareOfTakings, Cond.instanceMethod yX5_shareOfTakings, Cond.selects RX5 yX5_shareOfTakings yX5_shareOfTakings, Cond.code yX5_shareOfTakings cX5_shareOfTakings 2 (some .int), Cond.methodLink RX5 82 yX5_sumOf, Cond.static yX5_sumOf, Cond.code yX5_sumOf cX5_sumOf 4 (some .int), Cond.methodLink RX5 139 yX5_peopleIn]
def wsX5_count_r3 : List Cond := [Cond.instanceMethod yX5_peopleIn, Cond.selects RX5 yX5_peopleIn yX5_peopleIn, Cond.code yX5_peopleIn cX5_peopleIn 4 (some .int), Cond.methodLink RX5 92 yX5_leftOf, Cond.instanceMethod yX5_leftOf, Cond.selects RX5 yX5_leftOf yX5_leftOf, Cond.code yX5_leftOf cX5_leftOf 2 (some .int), Cond.methodLink RX5 86 yX5_rentsOf, Cond.instanceMethod yX5_rentsOf, Cond.selects RX5 yX5_rentsOf yX5_rentsOf, Cond.code yX5_rentsOf cX5_rentsOf 4 (some .int), Cond.methodLink RX5 142 yX5_fullShows, Cond.instanceMethod yX5_fullShows, Cond.selects RX5 yX5_fullShows yX5_fullShows, Cond.code yX5_fullShows cX5_fullShows 3 (some .int)]
def wsX5_count : List Cond := .code yX5_count cX5_count 2 (some .int) :: ((wsX5_count_r1 ++ (wsX5_count_r2 ++ wsX5_count_r3)) ++ wsX50)
def wsX5_moreWith_r1 : List Cond := [Cond.fieldLink RX5 7 "VillageCinemaModel" "state" "[I", Cond.methodLink RX5 125 yX5_leftNow, Cond.instanceMethod yX5_leftNow, Cond.selects RX5 yX5_leftNow yX5_leftNow, Cond.initialized RX5, Cond.code yX5_leftNow cX5_leftNow 1 (some .int), Cond.methodLink RX5 89 yX5_reckon, Cond.instanceMethod yX5_reckon, Cond.selects RX5 yX5_reckon yX5_reckon, Cond.code yX5_reckon cX5_reckon 1 none, Cond.methodLink RX5 73 yX5_findPeople, Cond.instanceMethod yX5_findPeople, Cond.selects RX5 yX5_findPeople yX5_findPeople, Cond.code yX5_findPeople cX5_findPeople 4 none, Cond.fieldLink RX5 31 "VillageCinemaModel" "left" "[I", Cond.fieldLink RX5 25 "VillageCinemaModel" "people" "[I", Cond.fieldLink RX5 28 "VillageCinemaModel" "behind" "[I", Cond.methodLink RX5 58 yX5_filmPart, Cond.instanceMethod yX5_filmPart, Cond.selects RX5 yX5_filmPart yX5_filmPart, Cond.code yX5_filmPart cX5_filmPart 3 (some .int), Cond.methodLink RX5 62 yX5_fade, Cond.instanceMethod yX5_fade, Cond.selects RX5 yX5_fade yX5_fade]
def wsX5_moreWith_r2 : List Cond := [Cond.code yX5_fade cX5_fade 3 none, Cond.methodLink RX5 76 yX5_findTakings, Cond.instanceMethod yX5_findTakings, Cond.selects RX5 yX5_findTakings yX5_findTakings, Cond.code yX5_findTakings cX5_findTakings 3 none, Cond.fieldLink RX5 34 "VillageCinemaModel" "shows" "[I", Cond.fieldLink RX5 37 "VillageCinemaModel" "takings" "[I", Cond.methodLink RX5 79 yX5_findDues, Cond.instanceMethod yX5_findDues, Cond.selects RX5 yX5_findDues yX5_findDues, Cond.code yX5_findDues cX5_findDues 6 none, Cond.fieldLink RX5 40 "VillageCinemaModel" "shares" "[I", Cond.fieldLink RX5 43 "VillageCinemaModel" "dues" "[I", Cond.methodLink RX5 66 yX5_shareOf, Cond.instanceMethod yX5_shareOf, Cond.selects RX5 yX5_shareOf yX5_shareOf, Cond.code yX5_shareOf cX5_shareOf 4 (some .int), Cond.methodLink RX5 69 yX5_shareOfTakings, Cond.instanceMethod yX5_shareOfTakings, Cond.selects RX5 yX5_shareOfTakings yX5_shareOfTakings, Cond.code yX5_shareOfTakings cX5_shareOfTakings 2 (some .int), Cond.methodLink RX5 92 yX5_leftOf, Cond.instanceMethod yX5_leftOf, Cond.selects RX5 yX5_leftOf yX5_leftOf]
def wsX5_moreWith_r3 : List Cond := [Cond.code yX5_leftOf cX5_leftOf 2 (some .int), Cond.methodLink RX5 82 yX5_sumOf, Cond.static yX5_sumOf, Cond.code yX5_sumOf cX5_sumOf 4 (some .int), Cond.methodLink RX5 86 yX5_rentsOf, Cond.instanceMethod yX5_rentsOf, Cond.selects RX5 yX5_rentsOf yX5_rentsOf, Cond.code yX5_rentsOf cX5_rentsOf 4 (some .int)]
def wsX5_moreWith : List Cond := .code yX5_moreWith cX5_moreWith 6 (some .int) :: ((wsX5_moreWith_r1 ++ (wsX5_moreWith_r2 ++ wsX5_moreWith_r3)) ++ wsX50)
def wsX5_ifShown_r1 : List Cond := [Cond.constant RX5 129 (1000000), Cond.methodLink RX5 115 yX5_whyNotShown, Cond.instanceMethod yX5_whyNotShown, Cond.selects RX5 yX5_whyNotShown yX5_whyNotShown, Cond.initialized RX5, Cond.code yX5_whyNotShown cX5_whyNotShown 4 (some .int), Cond.methodLink RX5 106 yX5_isFilm, Cond.instanceMethod yX5_isFilm, Cond.selects RX5 yX5_isFilm yX5_isFilm, Cond.code yX5_isFilm cX5_isFilm 2 (some .boolean), Cond.fieldLink RX5 7 "VillageCinemaModel" "state" "[I", Cond.methodLink RX5 54 yX5_within, Cond.static yX5_within, Cond.code yX5_within cX5_within 3 (some .boolean), Cond.methodLink RX5 109 yX5_isPart, Cond.static yX5_isPart, Cond.code yX5_isPart cX5_isPart 2 (some .boolean), Cond.methodLink RX5 112 yX5_canShow, Cond.instanceMethod yX5_canShow, Cond.selects RX5 yX5_canShow yX5_canShow, Cond.code yX5_canShow cX5_canShow 3 (some .boolean), Cond.methodLink RX5 102 yX5_isLet, Cond.instanceMethod yX5_isLet, Cond.selects RX5 yX5_isLet yX5_isLet]
def wsX5_ifShown_r2 : List Cond := [Cond.code yX5_isLet cX5_isLet 2 (some .boolean), Cond.methodLink RX5 58 yX5_filmPart, Cond.instanceMethod yX5_filmPart, Cond.selects RX5 yX5_filmPart yX5_filmPart, Cond.code yX5_filmPart cX5_filmPart 3 (some .int), Cond.methodLink RX5 148 yX5_moreWith, Cond.instanceMethod yX5_moreWith, Cond.selects RX5 yX5_moreWith yX5_moreWith, Cond.code yX5_moreWith cX5_moreWith 6 (some .int), Cond.methodLink RX5 125 yX5_leftNow, Cond.instanceMethod yX5_leftNow, Cond.selects RX5 yX5_leftNow yX5_leftNow, Cond.code yX5_leftNow cX5_leftNow 1 (some .int), Cond.methodLink RX5 89 yX5_reckon, Cond.instanceMethod yX5_reckon, Cond.selects RX5 yX5_reckon yX5_reckon, Cond.code yX5_reckon cX5_reckon 1 none, Cond.methodLink RX5 73 yX5_findPeople, Cond.instanceMethod yX5_findPeople, Cond.selects RX5 yX5_findPeople yX5_findPeople, Cond.code yX5_findPeople cX5_findPeople 4 none, Cond.fieldLink RX5 31 "VillageCinemaModel" "left" "[I", Cond.fieldLink RX5 25 "VillageCinemaModel" "people" "[I", Cond.fieldLink RX5 28 "VillageCinemaModel" "behind" "[I"]
def wsX5_ifShown_r3 : List Cond := [Cond.methodLink RX5 62 yX5_fade, Cond.instanceMethod yX5_fade, Cond.selects RX5 yX5_fade yX5_fade, Cond.code yX5_fade cX5_fade 3 none, Cond.methodLink RX5 76 yX5_findTakings, Cond.instanceMethod yX5_findTakings, Cond.selects RX5 yX5_findTakings yX5_findTakings, Cond.code yX5_findTakings cX5_findTakings 3 none, Cond.fieldLink RX5 34 "VillageCinemaModel" "shows" "[I", Cond.fieldLink RX5 37 "VillageCinemaModel" "takings" "[I", Cond.methodLink RX5 79 yX5_findDues, Cond.instanceMethod yX5_findDues, Cond.selects RX5 yX5_findDues yX5_findDues, Cond.code yX5_findDues cX5_findDues 6 none, Cond.fieldLink RX5 40 "VillageCinemaModel" "shares" "[I", Cond.fieldLink RX5 43 "VillageCinemaModel" "dues" "[I", Cond.methodLink RX5 66 yX5_shareOf, Cond.instanceMethod yX5_shareOf, Cond.selects RX5 yX5_shareOf yX5_shareOf, Cond.code yX5_shareOf cX5_shareOf 4 (some .int), Cond.methodLink RX5 69 yX5_shareOfTakings, Cond.instanceMethod yX5_shareOfTakings, Cond.selects RX5 yX5_shareOfTakings yX5_shareOfTakings, Cond.code yX5_shareOfTakings cX5_shareOfTakings 2 (some .int)]
def wsX5_ifShown_r4 : List Cond := [Cond.methodLink RX5 92 yX5_leftOf, Cond.instanceMethod yX5_leftOf, Cond.selects RX5 yX5_leftOf yX5_leftOf, Cond.code yX5_leftOf cX5_leftOf 2 (some .int), Cond.methodLink RX5 82 yX5_sumOf, Cond.static yX5_sumOf, Cond.code yX5_sumOf cX5_sumOf 4 (some .int), Cond.methodLink RX5 86 yX5_rentsOf, Cond.instanceMethod yX5_rentsOf, Cond.selects RX5 yX5_rentsOf yX5_rentsOf, Cond.code yX5_rentsOf cX5_rentsOf 4 (some .int)]
def wsX5_ifShown : List Cond := .code yX5_ifShown cX5_ifShown 5 (some .int) :: ((wsX5_ifShown_r1 ++ (wsX5_ifShown_r2 ++ (wsX5_ifShown_r3 ++ wsX5_ifShown_r4))) ++ wsX50)
def wsX5_bestFilm_r1 : List Cond := [Cond.fieldLink RX5 7 "VillageCinemaModel" "state" "[I", Cond.constant RX5 129 (1000000), Cond.methodLink RX5 109 yX5_isPart, Cond.static yX5_isPart, Cond.initialized RX5, Cond.code yX5_isPart cX5_isPart 2 (some .boolean), Cond.methodLink RX5 54 yX5_within, Cond.static yX5_within, Cond.code yX5_within cX5_within 3 (some .boolean), Cond.methodLink RX5 102 yX5_isLet, Cond.instanceMethod yX5_isLet, Cond.selects RX5 yX5_isLet yX5_isLet, Cond.code yX5_isLet cX5_isLet 2 (some .boolean), Cond.methodLink RX5 112 yX5_canShow, Cond.instanceMethod yX5_canShow, Cond.selects RX5 yX5_canShow yX5_canShow, Cond.code yX5_canShow cX5_canShow 3 (some .boolean), Cond.methodLink RX5 58 yX5_filmPart, Cond.instanceMethod yX5_filmPart, Cond.selects RX5 yX5_filmPart yX5_filmPart, Cond.code yX5_filmPart cX5_filmPart 3 (some .int), Cond.methodLink RX5 148 yX5_moreWith, Cond.instanceMethod yX5_moreWith, Cond.selects RX5 yX5_moreWith yX5_moreWith]
def wsX5_bestFilm_r2 : List Cond := [Cond.code yX5_moreWith cX5_moreWith 6 (some .int), Cond.methodLink RX5 125 yX5_leftNow, Cond.instanceMethod yX5_leftNow, Cond.selects RX5 yX5_leftNow yX5_leftNow, Cond.code yX5_leftNow cX5_leftNow 1 (some .int), Cond.methodLink RX5 89 yX5_reckon, Cond.instanceMethod yX5_reckon, Cond.selects RX5 yX5_reckon yX5_reckon, Cond.code yX5_reckon cX5_reckon 1 none, Cond.methodLink RX5 73 yX5_findPeople, Cond.instanceMethod yX5_findPeople, Cond.selects RX5 yX5_findPeople yX5_findPeople, Cond.code yX5_findPeople cX5_findPeople 4 none, Cond.fieldLink RX5 31 "VillageCinemaModel" "left" "[I", Cond.fieldLink RX5 25 "VillageCinemaModel" "people" "[I", Cond.fieldLink RX5 28 "VillageCinemaModel" "behind" "[I", Cond.methodLink RX5 62 yX5_fade, Cond.instanceMethod yX5_fade, Cond.selects RX5 yX5_fade yX5_fade, Cond.code yX5_fade cX5_fade 3 none, Cond.methodLink RX5 76 yX5_findTakings, Cond.instanceMethod yX5_findTakings, Cond.selects RX5 yX5_findTakings yX5_findTakings, Cond.code yX5_findTakings cX5_findTakings 3 none]
def wsX5_bestFilm_r3 : List Cond := [Cond.fieldLink RX5 34 "VillageCinemaModel" "shows" "[I", Cond.fieldLink RX5 37 "VillageCinemaModel" "takings" "[I", Cond.methodLink RX5 79 yX5_findDues, Cond.instanceMethod yX5_findDues, Cond.selects RX5 yX5_findDues yX5_findDues, Cond.code yX5_findDues cX5_findDues 6 none, Cond.fieldLink RX5 40 "VillageCinemaModel" "shares" "[I", Cond.fieldLink RX5 43 "VillageCinemaModel" "dues" "[I", Cond.methodLink RX5 66 yX5_shareOf, Cond.instanceMethod yX5_shareOf, Cond.selects RX5 yX5_shareOf yX5_shareOf, Cond.code yX5_shareOf cX5_shareOf 4 (some .int), Cond.methodLink RX5 69 yX5_shareOfTakings, Cond.instanceMethod yX5_shareOfTakings, Cond.selects RX5 yX5_shareOfTakings yX5_shareOfTakings, Cond.code yX5_shareOfTakings cX5_shareOfTakings 2 (some .int), Cond.methodLink RX5 92 yX5_leftOf, Cond.instanceMethod yX5_leftOf, Cond.selects RX5 yX5_leftOf yX5_leftOf, Cond.code yX5_leftOf cX5_leftOf 2 (some .int), Cond.methodLink RX5 82 yX5_sumOf, Cond.static yX5_sumOf, Cond.code yX5_sumOf cX5_sumOf 4 (some .int), Cond.methodLink RX5 86 yX5_rentsOf]
def wsX5_bestFilm_r4 : List Cond := [Cond.instanceMethod yX5_rentsOf, Cond.selects RX5 yX5_rentsOf yX5_rentsOf, Cond.code yX5_rentsOf cX5_rentsOf 4 (some .int)]
def wsX5_bestFilm : List Cond := .code yX5_bestFilm cX5_bestFilm 9 (some .int) :: ((wsX5_bestFilm_r1 ++ (wsX5_bestFilm_r2 ++ (wsX5_bestFilm_r3 ++ wsX5_bestFilm_r4))) ++ wsX50)
def wsX5_worstShow_r1 : List Cond := [Cond.fieldLink RX5 7 "VillageCinemaModel" "state" "[I", Cond.constant RX5 129 (1000000), Cond.methodLink RX5 54 yX5_within, Cond.static yX5_within, Cond.initialized RX5, Cond.code yX5_within cX5_within 3 (some .boolean), Cond.methodLink RX5 148 yX5_moreWith, Cond.instanceMethod yX5_moreWith, Cond.selects RX5 yX5_moreWith yX5_moreWith, Cond.code yX5_moreWith cX5_moreWith 6 (some .int), Cond.methodLink RX5 125 yX5_leftNow, Cond.instanceMethod yX5_leftNow, Cond.selects RX5 yX5_leftNow yX5_leftNow, Cond.code yX5_leftNow cX5_leftNow 1 (some .int), Cond.methodLink RX5 89 yX5_reckon, Cond.instanceMethod yX5_reckon, Cond.selects RX5 yX5_reckon yX5_reckon, Cond.code yX5_reckon cX5_reckon 1 none, Cond.methodLink RX5 73 yX5_findPeople, Cond.instanceMethod yX5_findPeople, Cond.selects RX5 yX5_findPeople yX5_findPeople, Cond.code yX5_findPeople cX5_findPeople 4 none, Cond.fieldLink RX5 31 "VillageCinemaModel" "left" "[I", Cond.fieldLink RX5 25 "VillageCinemaModel" "people" "[I"]
def wsX5_worstShow_r2 : List Cond := [Cond.fieldLink RX5 28 "VillageCinemaModel" "behind" "[I", Cond.methodLink RX5 58 yX5_filmPart, Cond.instanceMethod yX5_filmPart, Cond.selects RX5 yX5_filmPart yX5_filmPart, Cond.code yX5_filmPart cX5_filmPart 3 (some .int), Cond.methodLink RX5 62 yX5_fade, Cond.instanceMethod yX5_fade, Cond.selects RX5 yX5_fade yX5_fade, Cond.code yX5_fade cX5_fade 3 none, Cond.methodLink RX5 76 yX5_findTakings, Cond.instanceMethod yX5_findTakings, Cond.selects RX5 yX5_findTakings yX5_findTakings, Cond.code yX5_findTakings cX5_findTakings 3 none, Cond.fieldLink RX5 34 "VillageCinemaModel" "shows" "[I", Cond.fieldLink RX5 37 "VillageCinemaModel" "takings" "[I", Cond.methodLink RX5 79 yX5_findDues, Cond.instanceMethod yX5_findDues, Cond.selects RX5 yX5_findDues yX5_findDues, Cond.code yX5_findDues cX5_findDues 6 none, Cond.fieldLink RX5 40 "VillageCinemaModel" "shares" "[I", Cond.fieldLink RX5 43 "VillageCinemaModel" "dues" "[I", Cond.methodLink RX5 66 yX5_shareOf, Cond.instanceMethod yX5_shareOf, Cond.selects RX5 yX5_shareOf yX5_shareOf]
def wsX5_worstShow_r3 : List Cond := [Cond.code yX5_shareOf cX5_shareOf 4 (some .int), Cond.methodLink RX5 69 yX5_shareOfTakings, Cond.instanceMethod yX5_shareOfTakings, Cond.selects RX5 yX5_shareOfTakings yX5_shareOfTakings, Cond.code yX5_shareOfTakings cX5_shareOfTakings 2 (some .int), Cond.methodLink RX5 92 yX5_leftOf, Cond.instanceMethod yX5_leftOf, Cond.selects RX5 yX5_leftOf yX5_leftOf, Cond.code yX5_leftOf cX5_leftOf 2 (some .int), Cond.methodLink RX5 82 yX5_sumOf, Cond.static yX5_sumOf, Cond.code yX5_sumOf cX5_sumOf 4 (some .int), Cond.methodLink RX5 86 yX5_rentsOf, Cond.instanceMethod yX5_rentsOf, Cond.selects RX5 yX5_rentsOf yX5_rentsOf, Cond.code yX5_rentsOf cX5_rentsOf 4 (some .int)]
def wsX5_worstShow : List Cond := .code yX5_worstShow cX5_worstShow 7 (some .int) :: ((wsX5_worstShow_r1 ++ (wsX5_worstShow_r2 ++ wsX5_worstShow_r3)) ++ wsX50)
def wsX5_priceFor_r1 : List Cond := [Cond.fieldLink RX5 25 "VillageCinemaModel" "people" "[I", Cond.methodLink RX5 109 yX5_isPart, Cond.static yX5_isPart, Cond.initialized RX5, Cond.code yX5_isPart cX5_isPart 2 (some .boolean), Cond.methodLink RX5 54 yX5_within, Cond.static yX5_within, Cond.code yX5_within cX5_within 3 (some .boolean), Cond.methodLink RX5 119 yX5_showAt, Cond.instanceMethod yX5_showAt, Cond.selects RX5 yX5_showAt yX5_showAt, Cond.code yX5_showAt cX5_showAt 3 (some .int), Cond.fieldLink RX5 7 "VillageCinemaModel" "state" "[I", Cond.methodLink RX5 89 yX5_reckon, Cond.instanceMethod yX5_reckon, Cond.selects RX5 yX5_reckon yX5_reckon, Cond.code yX5_reckon cX5_reckon 1 none, Cond.methodLink RX5 73 yX5_findPeople, Cond.instanceMethod yX5_findPeople, Cond.selects RX5 yX5_findPeople yX5_findPeople, Cond.code yX5_findPeople cX5_findPeople 4 none, Cond.fieldLink RX5 31 "VillageCinemaModel" "left" "[I", Cond.fieldLink RX5 28 "VillageCinemaModel" "behind" "[I", Cond.methodLink RX5 58 yX5_filmPart]
def wsX5_priceFor_r2 : List Cond := [Cond.instanceMethod yX5_filmPart, Cond.selects RX5 yX5_filmPart yX5_filmPart, Cond.code yX5_filmPart cX5_filmPart 3 (some .int), Cond.methodLink RX5 62 yX5_fade, Cond.instanceMethod yX5_fade, Cond.selects RX5 yX5_fade yX5_fade, Cond.code yX5_fade cX5_fade 3 none, Cond.methodLink RX5 76 yX5_findTakings, Cond.instanceMethod yX5_findTakings, Cond.selects RX5 yX5_findTakings yX5_findTakings, Cond.code yX5_findTakings cX5_findTakings 3 none, Cond.fieldLink RX5 34 "VillageCinemaModel" "shows" "[I", Cond.fieldLink RX5 37 "VillageCinemaModel" "takings" "[I", Cond.methodLink RX5 79 yX5_findDues, Cond.instanceMethod yX5_findDues, Cond.selects RX5 yX5_findDues yX5_findDues, Cond.code yX5_findDues cX5_findDues 6 none, Cond.fieldLink RX5 40 "VillageCinemaModel" "shares" "[I", Cond.fieldLink RX5 43 "VillageCinemaModel" "dues" "[I", Cond.methodLink RX5 66 yX5_shareOf, Cond.instanceMethod yX5_shareOf, Cond.selects RX5 yX5_shareOf yX5_shareOf, Cond.code yX5_shareOf cX5_shareOf 4 (some .int), Cond.methodLink RX5 69 yX5_shareOfTakings]
def wsX5_priceFor_r3 : List Cond := [Cond.instanceMethod yX5_shareOfTakings, Cond.selects RX5 yX5_shareOfTakings yX5_shareOfTakings, Cond.code yX5_shareOfTakings cX5_shareOfTakings 2 (some .int)]
def wsX5_priceFor : List Cond := .code yX5_priceFor cX5_priceFor 6 (some .int) :: ((wsX5_priceFor_r1 ++ (wsX5_priceFor_r2 ++ wsX5_priceFor_r3)) ++ wsX50)
def wsX5_put : List Cond := .code yX5_put cX5_put 8 (some .int) :: ([.constantLong RX5 151 (255), .fieldLink RX5 145 "VillageCinemaModel" "padLength" "I", .fieldLink RX5 22 "VillageCinemaModel" "pad" "[I", .methodLink RX5 54 yX5_within, .static yX5_within, .initialized RX5, .code yX5_within cX5_within 3 (some .boolean)] ++ wsX50)
def wsX5_wipe : List Cond := .code yX5_wipe cX5_wipe 2 (some .int) :: ([.fieldLink RX5 145 "VillageCinemaModel" "padLength" "I"] ++ wsX50)
def wsX5_character : List Cond := .code yX5_character cX5_character 2 (some .int) :: ([.fieldLink RX5 145 "VillageCinemaModel" "padLength" "I", .fieldLink RX5 22 "VillageCinemaModel" "pad" "[I"] ++ wsX50)
def wsX5_takeDigit : List Cond := .code yX5_takeDigit cX5_takeDigit 3 (some .int) :: ([.fieldLink RX5 153 "VillageCinemaModel" "at" "I", .methodLink RX5 156 yX5_character, .instanceMethod yX5_character, .selects RX5 yX5_character yX5_character, .initialized RX5, .code yX5_character cX5_character 2 (some .int), .fieldLink RX5 145 "VillageCinemaModel" "padLength" "I", .fieldLink RX5 22 "VillageCinemaModel" "pad" "[I", .methodLink RX5 54 yX5_within, .static yX5_within, .code yX5_within cX5_within 3 (some .boolean)] ++ wsX50)
def wsX5_takePart : List Cond := .code yX5_takePart cX5_takePart 2 (some .int) :: ([.fieldLink RX5 153 "VillageCinemaModel" "at" "I", .methodLink RX5 156 yX5_character, .instanceMethod yX5_character, .selects RX5 yX5_character yX5_character, .initialized RX5, .code yX5_character cX5_character 2 (some .int), .fieldLink RX5 145 "VillageCinemaModel" "padLength" "I", .fieldLink RX5 22 "VillageCinemaModel" "pad" "[I"] ++ wsX50)
def wsX5_takeDay : List Cond := .code yX5_takeDay cX5_takeDay 3 (some .int) :: ([.fieldLink RX5 153 "VillageCinemaModel" "at" "I", .methodLink RX5 159 yX5_takeDigit, .instanceMethod yX5_takeDigit, .selects RX5 yX5_takeDigit yX5_takeDigit, .initialized RX5, .code yX5_takeDigit cX5_takeDigit 3 (some .int), .methodLink RX5 156 yX5_character, .instanceMethod yX5_character, .selects RX5 yX5_character yX5_character, .code yX5_character cX5_character 2 (some .int), .fieldLink RX5 145 "VillageCinemaModel" "padLength" "I", .fieldLink RX5 22 "VillageCinemaModel" "pad" "[I", .methodLink RX5 54 yX5_within, .static yX5_within, .code yX5_within cX5_within 3 (some .boolean)] ++ wsX50)
def wsX5_readsShow_r1 : List Cond := [Cond.fieldLink RX5 162 "VillageCinemaModel" "film" "I", Cond.fieldLink RX5 168 "VillageCinemaModel" "part" "I", Cond.fieldLink RX5 174 "VillageCinemaModel" "day" "I", Cond.methodLink RX5 159 yX5_takeDigit, Cond.instanceMethod yX5_takeDigit, Cond.selects RX5 yX5_takeDigit yX5_takeDigit, Cond.initialized RX5, Cond.code yX5_takeDigit cX5_takeDigit 3 (some .int), Cond.fieldLink RX5 153 "VillageCinemaModel" "at" "I", Cond.methodLink RX5 156 yX5_character, Cond.instanceMethod yX5_character, Cond.selects RX5 yX5_character yX5_character, Cond.code yX5_character cX5_character 2 (some .int), Cond.fieldLink RX5 145 "VillageCinemaModel" "padLength" "I", Cond.fieldLink RX5 22 "VillageCinemaModel" "pad" "[I", Cond.methodLink RX5 54 yX5_within, Cond.static yX5_within, Cond.code yX5_within cX5_within 3 (some .boolean), Cond.methodLink RX5 165 yX5_takePart, Cond.instanceMethod yX5_takePart, Cond.selects RX5 yX5_takePart yX5_takePart, Cond.code yX5_takePart cX5_takePart 2 (some .int), Cond.methodLink RX5 171 yX5_takeDay, Cond.instanceMethod yX5_takeDay]
def wsX5_readsShow_r2 : List Cond := [Cond.selects RX5 yX5_takeDay yX5_takeDay, Cond.code yX5_takeDay cX5_takeDay 3 (some .int)]
def wsX5_readsShow : List Cond := .code yX5_readsShow cX5_readsShow 1 (some .boolean) :: ((wsX5_readsShow_r1 ++ wsX5_readsShow_r2) ++ wsX50)
def wsX5_isNext : List Cond := .code yX5_isNext cX5_isNext 2 (some .boolean) :: ([.fieldLink RX5 153 "VillageCinemaModel" "at" "I", .methodLink RX5 156 yX5_character, .instanceMethod yX5_character, .selects RX5 yX5_character yX5_character, .initialized RX5, .code yX5_character cX5_character 2 (some .int), .fieldLink RX5 145 "VillageCinemaModel" "padLength" "I", .fieldLink RX5 22 "VillageCinemaModel" "pad" "[I"] ++ wsX50)
def wsX5_findFault_r1 : List Cond := [Cond.fieldLink RX5 153 "VillageCinemaModel" "at" "I", Cond.fieldLink RX5 145 "VillageCinemaModel" "padLength" "I", Cond.methodLink RX5 177 yX5_readsShow, Cond.instanceMethod yX5_readsShow, Cond.selects RX5 yX5_readsShow yX5_readsShow, Cond.initialized RX5, Cond.code yX5_readsShow cX5_readsShow 1 (some .boolean), Cond.fieldLink RX5 162 "VillageCinemaModel" "film" "I", Cond.fieldLink RX5 168 "VillageCinemaModel" "part" "I", Cond.fieldLink RX5 174 "VillageCinemaModel" "day" "I", Cond.methodLink RX5 159 yX5_takeDigit, Cond.instanceMethod yX5_takeDigit, Cond.selects RX5 yX5_takeDigit yX5_takeDigit, Cond.code yX5_takeDigit cX5_takeDigit 3 (some .int), Cond.methodLink RX5 156 yX5_character, Cond.instanceMethod yX5_character, Cond.selects RX5 yX5_character yX5_character, Cond.code yX5_character cX5_character 2 (some .int), Cond.fieldLink RX5 22 "VillageCinemaModel" "pad" "[I", Cond.methodLink RX5 54 yX5_within, Cond.static yX5_within, Cond.code yX5_within cX5_within 3 (some .boolean), Cond.methodLink RX5 165 yX5_takePart, Cond.instanceMethod yX5_takePart]
def wsX5_findFault_r2 : List Cond := [Cond.selects RX5 yX5_takePart yX5_takePart, Cond.code yX5_takePart cX5_takePart 2 (some .int), Cond.methodLink RX5 171 yX5_takeDay, Cond.instanceMethod yX5_takeDay, Cond.selects RX5 yX5_takeDay yX5_takeDay, Cond.code yX5_takeDay cX5_takeDay 3 (some .int), Cond.methodLink RX5 181 yX5_isNext, Cond.instanceMethod yX5_isNext, Cond.selects RX5 yX5_isNext yX5_isNext, Cond.code yX5_isNext cX5_isNext 2 (some .boolean)]
def wsX5_findFault : List Cond := .code yX5_findFault cX5_findFault 1 (some .int) :: ((wsX5_findFault_r1 ++ wsX5_findFault_r2) ++ wsX50)
def wsX5_fault_r1 : List Cond := [Cond.methodLink RX5 184 yX5_findFault, Cond.instanceMethod yX5_findFault, Cond.selects RX5 yX5_findFault yX5_findFault, Cond.initialized RX5, Cond.code yX5_findFault cX5_findFault 1 (some .int), Cond.fieldLink RX5 153 "VillageCinemaModel" "at" "I", Cond.fieldLink RX5 145 "VillageCinemaModel" "padLength" "I", Cond.methodLink RX5 177 yX5_readsShow, Cond.instanceMethod yX5_readsShow, Cond.selects RX5 yX5_readsShow yX5_readsShow, Cond.code yX5_readsShow cX5_readsShow 1 (some .boolean), Cond.fieldLink RX5 162 "VillageCinemaModel" "film" "I", Cond.fieldLink RX5 168 "VillageCinemaModel" "part" "I", Cond.fieldLink RX5 174 "VillageCinemaModel" "day" "I", Cond.methodLink RX5 159 yX5_takeDigit, Cond.instanceMethod yX5_takeDigit, Cond.selects RX5 yX5_takeDigit yX5_takeDigit, Cond.code yX5_takeDigit cX5_takeDigit 3 (some .int), Cond.methodLink RX5 156 yX5_character, Cond.instanceMethod yX5_character, Cond.selects RX5 yX5_character yX5_character, Cond.code yX5_character cX5_character 2 (some .int), Cond.fieldLink RX5 22 "VillageCinemaModel" "pad" "[I", Cond.methodLink RX5 54 yX5_within]
def wsX5_fault_r2 : List Cond := [Cond.static yX5_within, Cond.code yX5_within cX5_within 3 (some .boolean), Cond.methodLink RX5 165 yX5_takePart, Cond.instanceMethod yX5_takePart, Cond.selects RX5 yX5_takePart yX5_takePart, Cond.code yX5_takePart cX5_takePart 2 (some .int), Cond.methodLink RX5 171 yX5_takeDay, Cond.instanceMethod yX5_takeDay, Cond.selects RX5 yX5_takeDay yX5_takeDay, Cond.code yX5_takeDay cX5_takeDay 3 (some .int), Cond.methodLink RX5 181 yX5_isNext, Cond.instanceMethod yX5_isNext, Cond.selects RX5 yX5_isNext yX5_isNext, Cond.code yX5_isNext cX5_isNext 2 (some .boolean)]
def wsX5_fault : List Cond := .code yX5_fault cX5_fault 1 (some .int) :: ((wsX5_fault_r1 ++ wsX5_fault_r2) ++ wsX50)
def wsX5_carryOut_r1 : List Cond := [Cond.fieldLink RX5 153 "VillageCinemaModel" "at" "I", Cond.fieldLink RX5 145 "VillageCinemaModel" "padLength" "I", Cond.fieldLink RX5 162 "VillageCinemaModel" "film" "I", Cond.fieldLink RX5 174 "VillageCinemaModel" "day" "I", Cond.fieldLink RX5 168 "VillageCinemaModel" "part" "I", Cond.fieldLink RX5 7 "VillageCinemaModel" "state" "[I", Cond.methodLink RX5 184 yX5_findFault, Cond.instanceMethod yX5_findFault, Cond.selects RX5 yX5_findFault yX5_findFault, Cond.initialized RX5, Cond.code yX5_findFault cX5_findFault 1 (some .int), Cond.methodLink RX5 177 yX5_readsShow, Cond.instanceMethod yX5_readsShow, Cond.selects RX5 yX5_readsShow yX5_readsShow, Cond.code yX5_readsShow cX5_readsShow 1 (some .boolean), Cond.methodLink RX5 159 yX5_takeDigit, Cond.instanceMethod yX5_takeDigit, Cond.selects RX5 yX5_takeDigit yX5_takeDigit, Cond.code yX5_takeDigit cX5_takeDigit 3 (some .int), Cond.methodLink RX5 156 yX5_character, Cond.instanceMethod yX5_character, Cond.selects RX5 yX5_character yX5_character, Cond.code yX5_character cX5_character 2 (some .int), Cond.fieldLink RX5 22 "VillageCinemaModel" "pad" "[I"]
def wsX5_carryOut_r2 : List Cond := [Cond.methodLink RX5 54 yX5_within, Cond.static yX5_within, Cond.code yX5_within cX5_within 3 (some .boolean), Cond.methodLink RX5 165 yX5_takePart, Cond.instanceMethod yX5_takePart, Cond.selects RX5 yX5_takePart yX5_takePart, Cond.code yX5_takePart cX5_takePart 2 (some .int), Cond.methodLink RX5 171 yX5_takeDay, Cond.instanceMethod yX5_takeDay, Cond.selects RX5 yX5_takeDay yX5_takeDay, Cond.code yX5_takeDay cX5_takeDay 3 (some .int), Cond.methodLink RX5 181 yX5_isNext, Cond.instanceMethod yX5_isNext, Cond.selects RX5 yX5_isNext yX5_isNext, Cond.code yX5_isNext cX5_isNext 2 (some .boolean), Cond.methodLink RX5 99 yX5_record, Cond.instanceMethod yX5_record, Cond.selects RX5 yX5_record yX5_record, Cond.code yX5_record cX5_record 2 none, Cond.fieldLink RX5 46 "VillageCinemaModel" "recorded" "I", Cond.fieldLink RX5 13 "VillageCinemaModel" "history" "[I", Cond.methodLink RX5 50 yX5_moves, Cond.static yX5_moves, Cond.code yX5_moves cX5_moves 5 none]
def wsX5_carryOut_r3 : List Cond := [Cond.methodLink RX5 115 yX5_whyNotShown, Cond.instanceMethod yX5_whyNotShown, Cond.selects RX5 yX5_whyNotShown yX5_whyNotShown, Cond.code yX5_whyNotShown cX5_whyNotShown 4 (some .int), Cond.methodLink RX5 106 yX5_isFilm, Cond.instanceMethod yX5_isFilm, Cond.selects RX5 yX5_isFilm yX5_isFilm, Cond.code yX5_isFilm cX5_isFilm 2 (some .boolean), Cond.methodLink RX5 109 yX5_isPart, Cond.static yX5_isPart, Cond.code yX5_isPart cX5_isPart 2 (some .boolean), Cond.methodLink RX5 112 yX5_canShow, Cond.instanceMethod yX5_canShow, Cond.selects RX5 yX5_canShow yX5_canShow, Cond.code yX5_canShow cX5_canShow 3 (some .boolean), Cond.methodLink RX5 102 yX5_isLet, Cond.instanceMethod yX5_isLet, Cond.selects RX5 yX5_isLet yX5_isLet, Cond.code yX5_isLet cX5_isLet 2 (some .boolean), Cond.methodLink RX5 58 yX5_filmPart, Cond.instanceMethod yX5_filmPart, Cond.selects RX5 yX5_filmPart yX5_filmPart, Cond.code yX5_filmPart cX5_filmPart 3 (some .int)]
def wsX5_carryOut : List Cond := .code yX5_carryOut cX5_carryOut 3 (some .int) :: ((wsX5_carryOut_r1 ++ (wsX5_carryOut_r2 ++ wsX5_carryOut_r3)) ++ wsX50)
def wsX5_undo : List Cond := .code yX5_undo cX5_undo 1 (some .int) :: ([.fieldLink RX5 46 "VillageCinemaModel" "recorded" "I", .fieldLink RX5 13 "VillageCinemaModel" "history" "[I", .fieldLink RX5 7 "VillageCinemaModel" "state" "[I", .methodLink RX5 50 yX5_moves, .static yX5_moves, .initialized RX5, .code yX5_moves cX5_moves 5 none] ++ wsX50)
def wsX5_showsMany : List Cond := .code yX5_showsMany cX5_showsMany 3 (some .int) :: ([.fieldLink RX5 7 "VillageCinemaModel" "state" "[I"] ++ wsX50)
def wsX5_save : List Cond := .code yX5_save cX5_save 2 (some .int) :: ([.fieldLink RX5 7 "VillageCinemaModel" "state" "[I", .fieldLink RX5 16 "VillageCinemaModel" "slots" "[I", .fieldLink RX5 19 "VillageCinemaModel" "isSaved" "[I", .methodLink RX5 54 yX5_within, .static yX5_within, .initialized RX5, .code yX5_within cX5_within 3 (some .boolean), .methodLink RX5 50 yX5_moves, .static yX5_moves, .code yX5_moves cX5_moves 5 none, .methodLink RX5 187 yX5_showsMany, .instanceMethod yX5_showsMany, .selects RX5 yX5_showsMany yX5_showsMany, .code yX5_showsMany cX5_showsMany 3 (some .int)] ++ wsX50)
def wsX5_restore : List Cond := .code yX5_restore cX5_restore 2 (some .int) :: ([.fieldLink RX5 19 "VillageCinemaModel" "isSaved" "[I", .fieldLink RX5 16 "VillageCinemaModel" "slots" "[I", .fieldLink RX5 7 "VillageCinemaModel" "state" "[I", .methodLink RX5 54 yX5_within, .static yX5_within, .initialized RX5, .code yX5_within cX5_within 3 (some .boolean), .methodLink RX5 99 yX5_record, .instanceMethod yX5_record, .selects RX5 yX5_record yX5_record, .code yX5_record cX5_record 2 none, .fieldLink RX5 46 "VillageCinemaModel" "recorded" "I", .fieldLink RX5 13 "VillageCinemaModel" "history" "[I", .methodLink RX5 50 yX5_moves, .static yX5_moves, .code yX5_moves cX5_moves 5 none, .methodLink RX5 187 yX5_showsMany, .instanceMethod yX5_showsMany, .selects RX5 yX5_showsMany yX5_showsMany, .code yX5_showsMany cX5_showsMany 3 (some .int)] ++ wsX50)
def wsJ9_max_7cf53 : List Cond := .code yJ9_max_7cf53 cJ9_max_7cf53 2 (some .int) :: ([])
def wsJ9_min_7cf53 : List Cond := .code yJ9_min_7cf53 cJ9_min_7cf53 2 (some .int) :: ([])
def wsL_law_r1 : List Cond := [Cond.classLink RL 7 RX4, Cond.instantiable RX4 6, Cond.initialized RX4, Cond.classLink RL 10 RX5, Cond.instantiable RX5 18, Cond.initialized RX5, Cond.constantLong RL 91 (4294967295), Cond.methodLink RL 9 yX4_init, Cond.instanceMethod yX4_init, Cond.code yX4_init cX4_init 1 none, Cond.methodLink RX4 3 objectInit, Cond.instanceMethod objectInit, Cond.code objectInit ⟨#[0xb1]⟩ 1 none, Cond.classLink RX4 9 RX1, Cond.instantiable RX1 1, Cond.initialized RX1, Cond.fieldLink RX4 12 "VillageCinema" "hall" "LVillageCinema$Hall;", Cond.classLink RX4 16 RX0, Cond.instantiable RX0 6, Cond.initialized RX0, Cond.fieldLink RX4 19 "VillageCinema" "run" "LVillageCinema$FilmRun;", Cond.classLink RX4 23 RX3, Cond.instantiable RX3 2, Cond.initialized RX3]
def wsL_law_r2 : List Cond := [Cond.fieldLink RX4 26 "VillageCinema" "pad" "LVillageCinema$Pad;", Cond.classLink RX4 30 RX2, Cond.instantiable RX2 3, Cond.initialized RX2, Cond.fieldLink RX4 33 "VillageCinema" "history" "LVillageCinema$History;", Cond.classLink RX4 37 "[[I", Cond.arrayClass .int, Cond.fieldLink RX4 39 "VillageCinema" "slots" "[[I", Cond.arrayClass .boolean, Cond.fieldLink RX4 42 "VillageCinema" "saved" "[Z", Cond.methodLink RX4 11 yX1_init, Cond.instanceMethod yX1_init, Cond.code yX1_init cX1_init 2 none, Cond.methodLink RX1 5 objectInit, Cond.fieldLink RX1 11 "VillageCinema$Hall" "row" "[I", Cond.methodLink RX1 18 arraycopyName, Cond.native arraycopyName, Cond.static arraycopyName, Cond.initialized "java/lang/System", Cond.instanceMethod yX0_init, Cond.code yX0_init cX0_init 1 none, Cond.methodLink RX0 3 objectInit, Cond.fieldLink RX0 9 "VillageCinema$FilmRun" "peopleAt" "[I", Cond.fieldLink RX0 15 "VillageCinema$FilmRun" "leftBehind" "[I"]
def wsL_law_r3 : List Cond := [Cond.fieldLink RX0 18 "VillageCinema$FilmRun" "sums" "[I", Cond.fieldLink RX0 21 "VillageCinema$FilmRun" "shares" "[I", Cond.instanceMethod yX3_init, Cond.code yX3_init cX3_init 1 none, Cond.methodLink RX3 3 objectInit, Cond.arrayClass .char, Cond.fieldLink RX3 11 "VillageCinema$Pad" "text" "[C", Cond.instanceMethod yX2_init, Cond.code yX2_init cX2_init 1 none, Cond.methodLink RX2 1 objectInit, Cond.classLink RX2 11 "[[I", Cond.fieldLink RX2 13 "VillageCinema$History" "states" "[[I", Cond.methodLink RL 12 yX5_init, Cond.instanceMethod yX5_init, Cond.code yX5_init cX5_init 2 none, Cond.methodLink RX5 1 objectInit, Cond.fieldLink RX5 7 "VillageCinemaModel" "state" "[I", Cond.fieldLink RX5 13 "VillageCinemaModel" "history" "[I", Cond.fieldLink RX5 16 "VillageCinemaModel" "slots" "[I", Cond.fieldLink RX5 19 "VillageCinemaModel" "isSaved" "[I", Cond.fieldLink RX5 22 "VillageCinemaModel" "pad" "[I", Cond.fieldLink RX5 25 "VillageCinemaModel" "people" "[I", Cond.fieldLink RX5 28 "VillageCinemaModel" "behind" "[I", Cond.fieldLink RX5 31 "VillageCinemaModel" "left" "[I"]
def wsL_law_r4 : List Cond := [Cond.fieldLink RX5 34 "VillageCinemaModel" "shows" "[I", Cond.fieldLink RX5 37 "VillageCinemaModel" "takings" "[I", Cond.fieldLink RX5 40 "VillageCinemaModel" "shares" "[I", Cond.fieldLink RX5 43 "VillageCinemaModel" "dues" "[I", Cond.methodLink RL 13 yX4_set, Cond.instanceMethod yX4_set, Cond.selects RX4 yX4_set yX4_set, Cond.code yX4_set cX4_set 3 (some .int), Cond.fieldLink RX4 50 "VillageCinema" "LEAST_SETTING" "[I", Cond.fieldLink RX4 54 "VillageCinema" "MOST_SETTING" "[I", Cond.methodLink RX4 46 yX4_isWithin, Cond.static yX4_isWithin, Cond.code yX4_isWithin cX4_isWithin 3 (some .boolean), Cond.methodLink RX4 57 yX2_record, Cond.instanceMethod yX2_record, Cond.selects RX2 yX2_record yX2_record, Cond.code yX2_record cX2_record 2 none, Cond.fieldLink RX2 20 "VillageCinema$History" "oldest" "I", Cond.fieldLink RX2 16 "VillageCinema$History" "size" "I", Cond.methodLink RX2 23 yX1_copyTo, Cond.instanceMethod yX1_copyTo, Cond.selects RX1 yX1_copyTo yX1_copyTo, Cond.code yX1_copyTo cX1_copyTo 2 none, Cond.methodLink RX4 61 yX1_changeSetting]
def wsL_law_r5 : List Cond := [Cond.instanceMethod yX1_changeSetting, Cond.selects RX1 yX1_changeSetting yX1_changeSetting, Cond.code yX1_changeSetting cX1_changeSetting 4 (some .int), Cond.methodLink RL 17 yX5_set, Cond.instanceMethod yX5_set, Cond.selects RX5 yX5_set yX5_set, Cond.code yX5_set cX5_set 4 (some .int), Cond.methodLink RX5 95 yX5_isValue, Cond.static yX5_isValue, Cond.code yX5_isValue cX5_isValue 2 (some .boolean), Cond.methodLink RX5 54 yX5_within, Cond.static yX5_within, Cond.code yX5_within cX5_within 3 (some .boolean), Cond.methodLink RX5 99 yX5_record, Cond.instanceMethod yX5_record, Cond.selects RX5 yX5_record yX5_record, Cond.code yX5_record cX5_record 2 none, Cond.fieldLink RX5 46 "VillageCinemaModel" "recorded" "I", Cond.methodLink RX5 50 yX5_moves, Cond.static yX5_moves, Cond.code yX5_moves cX5_moves 5 none, Cond.methodLink RL 18 yX4_film, Cond.instanceMethod yX4_film, Cond.selects RX4 yX4_film yX4_film]
def wsL_law_r6 : List Cond := [Cond.code yX4_film cX4_film 6 (some .int), Cond.methodLink RX4 65 yX4_isDay, Cond.static yX4_isDay, Cond.code yX4_isDay cX4_isDay 1 (some .boolean), Cond.methodLink RX4 69 yX1_films, Cond.instanceMethod yX1_films, Cond.selects RX1 yX1_films yX1_films, Cond.code yX1_films cX1_films 1 (some .int), Cond.methodLink RX4 73 yX1_addFilm, Cond.instanceMethod yX1_addFilm, Cond.selects RX1 yX1_addFilm yX1_addFilm, Cond.code yX1_addFilm cX1_addFilm 8 (some .int), Cond.methodLink RX1 24 yX1_films, Cond.methodLink RL 22 yX5_film, Cond.instanceMethod yX5_film, Cond.selects RX5 yX5_film yX5_film, Cond.code yX5_film cX5_film 7 (some .int), Cond.methodLink RL 23 yX4_show, Cond.instanceMethod yX4_show, Cond.selects RX4 yX4_show yX4_show, Cond.code yX4_show cX4_show 5 (some .int), Cond.methodLink RX4 77 yX4_errorOfShow, Cond.instanceMethod yX4_errorOfShow, Cond.selects RX4 yX4_errorOfShow yX4_errorOfShow]
def wsL_law_r7 : List Cond := [Cond.code yX4_errorOfShow cX4_errorOfShow 4 (some .int), Cond.methodLink RX4 118 yX1_hasFilm, Cond.instanceMethod yX1_hasFilm, Cond.selects RX1 yX1_hasFilm yX1_hasFilm, Cond.code yX1_hasFilm cX1_hasFilm 2 (some .boolean), Cond.methodLink RX4 87 yX4_isPlace, Cond.static yX4_isPlace, Cond.code yX4_isPlace cX4_isPlace 2 (some .boolean), Cond.methodLink RX4 95 yX1_canHold, Cond.instanceMethod yX1_canHold, Cond.selects RX1 yX1_canHold yX1_canHold, Cond.code yX1_canHold cX1_canHold 3 (some .boolean), Cond.methodLink RX1 28 yX1_rentOf, Cond.instanceMethod yX1_rentOf, Cond.selects RX1 yX1_rentOf yX1_rentOf, Cond.code yX1_rentOf cX1_rentOf 2 (some .int), Cond.methodLink RX1 32 yX1_hasFilm, Cond.methodLink RX1 36 yX1_fact, Cond.instanceMethod yX1_fact, Cond.selects RX1 yX1_fact yX1_fact, Cond.code yX1_fact cX1_fact 3 (some .int), Cond.methodLink RX4 81 yX4_placeOf, Cond.static yX4_placeOf, Cond.code yX4_placeOf cX4_placeOf 2 (some .int)]
def wsL_law_r8 : List Cond := [Cond.methodLink RX4 84 yX1_replaceShow, Cond.instanceMethod yX1_replaceShow, Cond.selects RX1 yX1_replaceShow yX1_replaceShow, Cond.code yX1_replaceShow cX1_replaceShow 4 (some .int), Cond.methodLink RL 27 yX5_show, Cond.instanceMethod yX5_show, Cond.selects RX5 yX5_show yX5_show, Cond.code yX5_show cX5_show 6 (some .int), Cond.methodLink RX5 115 yX5_whyNotShown, Cond.instanceMethod yX5_whyNotShown, Cond.selects RX5 yX5_whyNotShown yX5_whyNotShown, Cond.code yX5_whyNotShown cX5_whyNotShown 4 (some .int), Cond.methodLink RX5 106 yX5_isFilm, Cond.instanceMethod yX5_isFilm, Cond.selects RX5 yX5_isFilm yX5_isFilm, Cond.code yX5_isFilm cX5_isFilm 2 (some .boolean), Cond.methodLink RX5 109 yX5_isPart, Cond.static yX5_isPart, Cond.code yX5_isPart cX5_isPart 2 (some .boolean), Cond.methodLink RX5 112 yX5_canShow, Cond.instanceMethod yX5_canShow, Cond.selects RX5 yX5_canShow yX5_canShow, Cond.code yX5_canShow cX5_canShow 3 (some .boolean), Cond.methodLink RX5 102 yX5_isLet]
def wsL_law_r9 : List Cond := [Cond.instanceMethod yX5_isLet, Cond.selects RX5 yX5_isLet yX5_isLet, Cond.code yX5_isLet cX5_isLet 2 (some .boolean), Cond.methodLink RX5 58 yX5_filmPart, Cond.instanceMethod yX5_filmPart, Cond.selects RX5 yX5_filmPart yX5_filmPart, Cond.code yX5_filmPart cX5_filmPart 3 (some .int), Cond.methodLink RX5 119 yX5_showAt, Cond.instanceMethod yX5_showAt, Cond.selects RX5 yX5_showAt yX5_showAt, Cond.code yX5_showAt cX5_showAt 3 (some .int), Cond.methodLink RL 28 yX4_drop, Cond.instanceMethod yX4_drop, Cond.selects RX4 yX4_drop yX4_drop, Cond.code yX4_drop cX4_drop 4 (some .int), Cond.methodLink RX4 91 yX1_showAt, Cond.instanceMethod yX1_showAt, Cond.selects RX1 yX1_showAt yX1_showAt, Cond.code yX1_showAt cX1_showAt 2 (some .int), Cond.methodLink RL 31 yX5_drop, Cond.instanceMethod yX5_drop, Cond.selects RX5 yX5_drop yX5_drop, Cond.code yX5_drop cX5_drop 4 (some .int), Cond.methodLink RL 32 yX4_exchange]
def wsL_law_r10 : List Cond := [Cond.instanceMethod yX4_exchange, Cond.selects RX4 yX4_exchange yX4_exchange, Cond.code yX4_exchange cX4_exchange 9 (some .int), Cond.constant RX4 101 (1000000), Cond.methodLink RX4 98 yX4_sumOfFilms, Cond.instanceMethod yX4_sumOfFilms, Cond.selects RX4 yX4_sumOfFilms yX4_sumOfFilms, Cond.code yX4_sumOfFilms cX4_sumOfFilms 4 (some .int), Cond.methodLink RX4 164 yX4_sumOfFilm, Cond.instanceMethod yX4_sumOfFilm, Cond.selects RX4 yX4_sumOfFilm yX4_sumOfFilm, Cond.code yX4_sumOfFilm cX4_sumOfFilm 3 (some .int), Cond.methodLink RX4 121 yX0_follow, Cond.instanceMethod yX0_follow, Cond.selects RX0 yX0_follow yX0_follow, Cond.code yX0_follow cX0_follow 7 none, Cond.fieldLink RX0 30 "VillageCinema$FilmRun" "fullShows" "I", Cond.fieldLink RX0 49 "VillageCinema$FilmRun" "leftAtEnd" "I", Cond.methodLink RX0 24 yX1_fact, Cond.methodLink RX0 34 yX0_followWeek, Cond.instanceMethod yX0_followWeek, Cond.selects RX0 yX0_followWeek yX0_followWeek, Cond.code yX0_followWeek cX0_followWeek 10 (some .int), Cond.methodLink RX0 52 yX1_showAt]
def wsL_law_r11 : List Cond := [Cond.methodLink RX0 56 yX0_peopleOf, Cond.static yX0_peopleOf, Cond.code yX0_peopleOf cX0_peopleOf 4 (some .int), Cond.methodLink RX0 63 Lib.Math.min.name, Cond.static Lib.Math.min.name, Cond.initialized "java/lang/Math", Cond.code Lib.Math.min.name Lib.Math.min.code 2 (some .int), Cond.methodLink RX0 60 yX1_setting, Cond.instanceMethod yX1_setting, Cond.selects RX1 yX1_setting yX1_setting, Cond.code yX1_setting cX1_setting 2 (some .int), Cond.methodLink RX0 38 yX0_sumOfWeek, Cond.instanceMethod yX0_sumOfWeek, Cond.selects RX0 yX0_sumOfWeek yX0_sumOfWeek, Cond.code yX0_sumOfWeek cX0_sumOfWeek 3 (some .int), Cond.methodLink RX0 41 yX0_nextShare, Cond.static yX0_nextShare, Cond.code yX0_nextShare cX0_nextShare 3 (some .int), Cond.methodLink RX0 68 Lib.Math.max.name, Cond.static Lib.Math.max.name, Cond.code Lib.Math.max.name Lib.Math.max.code 2 (some .int), Cond.methodLink RX0 45 yX0_reckonWeek, Cond.instanceMethod yX0_reckonWeek, Cond.selects RX0 yX0_reckonWeek yX0_reckonWeek]
def wsL_law_r12 : List Cond := [Cond.code yX0_reckonWeek cX0_reckonWeek 7 none, Cond.methodLink RX0 71 yX0_shareOfTakings, Cond.instanceMethod yX0_shareOfTakings, Cond.selects RX0 yX0_shareOfTakings yX0_shareOfTakings, Cond.code yX0_shareOfTakings cX0_shareOfTakings 2 (some .int), Cond.methodLink RX4 143 yX0_sum, Cond.instanceMethod yX0_sum, Cond.selects RX0 yX0_sum yX0_sum, Cond.code yX0_sum cX0_sum 4 (some .int), Cond.methodLink RL 36 yX5_exchange, Cond.instanceMethod yX5_exchange, Cond.selects RX5 yX5_exchange yX5_exchange, Cond.code yX5_exchange cX5_exchange 8 (some .int), Cond.constant RX5 129 (1000000), Cond.methodLink RX5 122 yX5_canBe, Cond.instanceMethod yX5_canBe, Cond.selects RX5 yX5_canBe yX5_canBe, Cond.code yX5_canBe cX5_canBe 3 (some .boolean), Cond.methodLink RX5 125 yX5_leftNow, Cond.instanceMethod yX5_leftNow, Cond.selects RX5 yX5_leftNow yX5_leftNow, Cond.code yX5_leftNow cX5_leftNow 1 (some .int), Cond.methodLink RX5 89 yX5_reckon, Cond.instanceMethod yX5_reckon]
def wsL_law_r13 : List Cond := [Cond.selects RX5 yX5_reckon yX5_reckon, Cond.code yX5_reckon cX5_reckon 1 none, Cond.methodLink RX5 73 yX5_findPeople, Cond.instanceMethod yX5_findPeople, Cond.selects RX5 yX5_findPeople yX5_findPeople, Cond.code yX5_findPeople cX5_findPeople 4 none, Cond.methodLink RX5 62 yX5_fade, Cond.instanceMethod yX5_fade, Cond.selects RX5 yX5_fade yX5_fade, Cond.code yX5_fade cX5_fade 3 none, Cond.methodLink RX5 76 yX5_findTakings, Cond.instanceMethod yX5_findTakings, Cond.selects RX5 yX5_findTakings yX5_findTakings, Cond.code yX5_findTakings cX5_findTakings 3 none, Cond.methodLink RX5 79 yX5_findDues, Cond.instanceMethod yX5_findDues, Cond.selects RX5 yX5_findDues yX5_findDues, Cond.code yX5_findDues cX5_findDues 6 none, Cond.methodLink RX5 66 yX5_shareOf, Cond.instanceMethod yX5_shareOf, Cond.selects RX5 yX5_shareOf yX5_shareOf, Cond.code yX5_shareOf cX5_shareOf 4 (some .int), Cond.methodLink RX5 69 yX5_shareOfTakings, Cond.instanceMethod yX5_shareOfTakings]
def wsL_law_r14 : List Cond := [Cond.selects RX5 yX5_shareOfTakings yX5_shareOfTakings, Cond.code yX5_shareOfTakings cX5_shareOfTakings 2 (some .int), Cond.methodLink RX5 92 yX5_leftOf, Cond.instanceMethod yX5_leftOf, Cond.selects RX5 yX5_leftOf yX5_leftOf, Cond.code yX5_leftOf cX5_leftOf 2 (some .int), Cond.methodLink RX5 82 yX5_sumOf, Cond.static yX5_sumOf, Cond.code yX5_sumOf cX5_sumOf 4 (some .int), Cond.methodLink RX5 86 yX5_rentsOf, Cond.instanceMethod yX5_rentsOf, Cond.selects RX5 yX5_rentsOf yX5_rentsOf, Cond.code yX5_rentsOf cX5_rentsOf 4 (some .int), Cond.methodLink RL 37 yX4_let, Cond.instanceMethod yX4_let, Cond.selects RX4 yX4_let yX4_let, Cond.code yX4_let cX4_let 3 (some .int), Cond.methodLink RX4 102 yX1_changeRent, Cond.instanceMethod yX1_changeRent, Cond.selects RX1 yX1_changeRent yX1_changeRent, Cond.code yX1_changeRent cX1_changeRent 3 none, Cond.methodLink RX4 106 yX4_dropShowsOfDay, Cond.instanceMethod yX4_dropShowsOfDay, Cond.selects RX4 yX4_dropShowsOfDay yX4_dropShowsOfDay]
def wsL_law_r15 : List Cond := [Cond.code yX4_dropShowsOfDay cX4_dropShowsOfDay 4 (some .int), Cond.methodLink RL 40 yX5_let, Cond.instanceMethod yX5_let, Cond.selects RX5 yX5_let yX5_let, Cond.code yX5_let cX5_let 5 (some .int), Cond.methodLink RL 41 yX4_carryOut, Cond.instanceMethod yX4_carryOut, Cond.selects RX4 yX4_carryOut yX4_carryOut, Cond.code yX4_carryOut cX4_carryOut 2 (some .int), Cond.methodLink RX4 109 yX3_firstFault, Cond.instanceMethod yX3_firstFault, Cond.selects RX3 yX3_firstFault yX3_firstFault, Cond.code yX3_firstFault cX3_firstFault 3 (some .int), Cond.fieldLink RX3 15 "VillageCinema$Pad" "length" "I", Cond.methodLink RX3 29 yX3_behind, Cond.static yX3_behind, Cond.code yX3_behind cX3_behind 2 (some .int), Cond.methodLink RX3 33 yX3_isBetween, Cond.static yX3_isBetween, Cond.code yX3_isBetween cX3_isBetween 3 (some .boolean), Cond.methodLink RX3 37 yX3_behindFirstDigit, Cond.static yX3_behindFirstDigit, Cond.code yX3_behindFirstDigit cX3_behindFirstDigit 1 (some .int), Cond.methodLink RX3 41 yX3_behindDay]
def wsL_law_r16 : List Cond := [Cond.static yX3_behindDay, Cond.code yX3_behindDay cX3_behindDay 1 (some .int), Cond.methodLink RX4 112 yX4_putInShowsOfPad, Cond.instanceMethod yX4_putInShowsOfPad, Cond.selects RX4 yX4_putInShowsOfPad yX4_putInShowsOfPad, Cond.code yX4_putInShowsOfPad cX4_putInShowsOfPad 7 (some .int), Cond.methodLink RX4 173 yX3_length, Cond.instanceMethod yX3_length, Cond.selects RX3 yX3_length yX3_length, Cond.code yX3_length cX3_length 1 (some .int), Cond.methodLink RX4 199 yX3_endOfShow, Cond.instanceMethod yX3_endOfShow, Cond.selects RX3 yX3_endOfShow yX3_endOfShow, Cond.code yX3_endOfShow cX3_endOfShow 3 (some .int), Cond.methodLink RX3 44 yX3_characterAt, Cond.instanceMethod yX3_characterAt, Cond.selects RX3 yX3_characterAt yX3_characterAt, Cond.code yX3_characterAt cX3_characterAt 2 (some .char), Cond.methodLink RX4 202 yX3_filmAt, Cond.instanceMethod yX3_filmAt, Cond.selects RX3 yX3_filmAt yX3_filmAt, Cond.code yX3_filmAt cX3_filmAt 2 (some .int), Cond.methodLink RX4 205 yX3_partAt, Cond.instanceMethod yX3_partAt]
def wsL_law_r17 : List Cond := [Cond.selects RX3 yX3_partAt yX3_partAt, Cond.code yX3_partAt cX3_partAt 2 (some .int), Cond.methodLink RX4 208 yX3_dayAt, Cond.instanceMethod yX3_dayAt, Cond.selects RX3 yX3_dayAt yX3_dayAt, Cond.code yX3_dayAt cX3_dayAt 5 (some .int), Cond.methodLink RX4 115 yX3_empty, Cond.instanceMethod yX3_empty, Cond.selects RX3 yX3_empty yX3_empty, Cond.code yX3_empty cX3_empty 1 none, Cond.methodLink RL 45 yX5_carryOut, Cond.instanceMethod yX5_carryOut, Cond.selects RX5 yX5_carryOut yX5_carryOut, Cond.code yX5_carryOut cX5_carryOut 3 (some .int), Cond.fieldLink RX5 153 "VillageCinemaModel" "at" "I", Cond.fieldLink RX5 145 "VillageCinemaModel" "padLength" "I", Cond.fieldLink RX5 162 "VillageCinemaModel" "film" "I", Cond.fieldLink RX5 174 "VillageCinemaModel" "day" "I", Cond.fieldLink RX5 168 "VillageCinemaModel" "part" "I", Cond.methodLink RX5 184 yX5_findFault, Cond.instanceMethod yX5_findFault, Cond.selects RX5 yX5_findFault yX5_findFault, Cond.code yX5_findFault cX5_findFault 1 (some .int), Cond.methodLink RX5 177 yX5_readsShow]
def wsL_law_r18 : List Cond := [Cond.instanceMethod yX5_readsShow, Cond.selects RX5 yX5_readsShow yX5_readsShow, Cond.code yX5_readsShow cX5_readsShow 1 (some .boolean), Cond.methodLink RX5 159 yX5_takeDigit, Cond.instanceMethod yX5_takeDigit, Cond.selects RX5 yX5_takeDigit yX5_takeDigit, Cond.code yX5_takeDigit cX5_takeDigit 3 (some .int), Cond.methodLink RX5 156 yX5_character, Cond.instanceMethod yX5_character, Cond.selects RX5 yX5_character yX5_character, Cond.code yX5_character cX5_character 2 (some .int), Cond.methodLink RX5 165 yX5_takePart, Cond.instanceMethod yX5_takePart, Cond.selects RX5 yX5_takePart yX5_takePart, Cond.code yX5_takePart cX5_takePart 2 (some .int), Cond.methodLink RX5 171 yX5_takeDay, Cond.instanceMethod yX5_takeDay, Cond.selects RX5 yX5_takeDay yX5_takeDay, Cond.code yX5_takeDay cX5_takeDay 3 (some .int), Cond.methodLink RX5 181 yX5_isNext, Cond.instanceMethod yX5_isNext, Cond.selects RX5 yX5_isNext yX5_isNext, Cond.code yX5_isNext cX5_isNext 2 (some .boolean), Cond.methodLink RL 46 yX4_at]
def wsL_law_r19 : List Cond := [Cond.instanceMethod yX4_at, Cond.selects RX4 yX4_at yX4_at, Cond.code yX4_at cX4_at 6 (some .int), Cond.methodLink RX4 125 yX0_peopleAt, Cond.instanceMethod yX0_peopleAt, Cond.selects RX0 yX0_peopleAt yX0_peopleAt, Cond.code yX0_peopleAt cX0_peopleAt 2 (some .int), Cond.methodLink RX4 128 yX1_setting, Cond.methodLink RX4 131 yX0_leftBehind, Cond.instanceMethod yX0_leftBehind, Cond.selects RX0 yX0_leftBehind yX0_leftBehind, Cond.code yX0_leftBehind cX0_leftBehind 2 (some .int), Cond.methodLink RL 49 yX5_at, Cond.instanceMethod yX5_at, Cond.selects RX5 yX5_at yX5_at, Cond.code yX5_at cX5_at 5 (some .int), Cond.methodLink RL 50 yX4_of, Cond.instanceMethod yX4_of, Cond.selects RX4 yX4_of yX4_of, Cond.code yX4_of cX4_of 3 (some .int), Cond.methodLink RX4 134 yX1_fact, Cond.methodLink RX4 137 yX1_firstDayShown, Cond.instanceMethod yX1_firstDayShown, Cond.selects RX1 yX1_firstDayShown yX1_firstDayShown]
def wsL_law_r20 : List Cond := [Cond.code yX1_firstDayShown cX1_firstDayShown 3 (some .int), Cond.methodLink RX1 40 yX1_showAt, Cond.methodLink RX4 140 yX0_leftAtEnd, Cond.instanceMethod yX0_leftAtEnd, Cond.selects RX0 yX0_leftAtEnd yX0_leftAtEnd, Cond.code yX0_leftAtEnd cX0_leftAtEnd 1 (some .int), Cond.methodLink RL 53 yX5_of, Cond.instanceMethod yX5_of, Cond.selects RX5 yX5_of yX5_of, Cond.code yX5_of cX5_of 3 (some .int), Cond.methodLink RX5 130 yX5_sumOfFilm, Cond.static yX5_sumOfFilm, Cond.code yX5_sumOfFilm cX5_sumOfFilm 4 (some .int), Cond.methodLink RX5 133 yX5_peopleOf, Cond.instanceMethod yX5_peopleOf, Cond.selects RX5 yX5_peopleOf yX5_peopleOf, Cond.code yX5_peopleOf cX5_peopleOf 4 (some .int), Cond.methodLink RX5 136 yX5_firstShow, Cond.instanceMethod yX5_firstShow, Cond.selects RX5 yX5_firstShow yX5_firstShow, Cond.code yX5_firstShow cX5_firstShow 4 (some .int), Cond.methodLink RL 54 yX4_inWeek, Cond.instanceMethod yX4_inWeek, Cond.selects RX4 yX4_inWeek yX4_inWeek]
def wsL_law_r21 : List Cond := [Cond.code yX4_inWeek cX4_inWeek 4 (some .int), Cond.methodLink RX4 146 yX4_isWeek, Cond.static yX4_isWeek, Cond.code yX4_isWeek cX4_isWeek 1 (some .boolean), Cond.methodLink RX4 149 yX0_sumOfWeek, Cond.methodLink RX4 152 yX0_shareIn, Cond.instanceMethod yX0_shareIn, Cond.selects RX0 yX0_shareIn yX0_shareIn, Cond.code yX0_shareIn cX0_shareIn 2 (some .int), Cond.methodLink RX4 155 yX0_dueAboveShare, Cond.instanceMethod yX0_dueAboveShare, Cond.selects RX0 yX0_dueAboveShare yX0_dueAboveShare, Cond.code yX0_dueAboveShare cX0_dueAboveShare 2 (some .int), Cond.methodLink RL 57 yX5_inWeek, Cond.instanceMethod yX5_inWeek, Cond.selects RX5 yX5_inWeek yX5_inWeek, Cond.code yX5_inWeek cX5_inWeek 5 (some .int), Cond.methodLink RL 58 yX4_week, Cond.instanceMethod yX4_week, Cond.selects RX4 yX4_week yX4_week, Cond.code yX4_week cX4_week 5 (some .int), Cond.methodLink RX4 158 yX4_sumOfFilmsInWeek, Cond.instanceMethod yX4_sumOfFilmsInWeek, Cond.selects RX4 yX4_sumOfFilmsInWeek yX4_sumOfFilmsInWeek]
def wsL_law_r22 : List Cond := [Cond.code yX4_sumOfFilmsInWeek cX4_sumOfFilmsInWeek 5 (some .int), Cond.methodLink RX4 161 yX1_rentsOf, Cond.instanceMethod yX1_rentsOf, Cond.selects RX1 yX1_rentsOf yX1_rentsOf, Cond.code yX1_rentsOf cX1_rentsOf 5 (some .int), Cond.methodLink RL 61 yX5_week, Cond.instanceMethod yX5_week, Cond.selects RX5 yX5_week yX5_week, Cond.code yX5_week cX5_week 3 (some .int), Cond.methodLink RX5 139 yX5_peopleIn, Cond.instanceMethod yX5_peopleIn, Cond.selects RX5 yX5_peopleIn yX5_peopleIn, Cond.code yX5_peopleIn cX5_peopleIn 4 (some .int), Cond.methodLink RL 62 yX4_distributor, Cond.instanceMethod yX4_distributor, Cond.selects RX4 yX4_distributor yX4_distributor, Cond.code yX4_distributor cX4_distributor 5 (some .int), Cond.methodLink RL 65 yX5_distributor, Cond.instanceMethod yX5_distributor, Cond.selects RX5 yX5_distributor yX5_distributor, Cond.code yX5_distributor cX5_distributor 6 (some .int), Cond.methodLink RL 66 yX4_rent, Cond.instanceMethod yX4_rent, Cond.selects RX4 yX4_rent yX4_rent]
def wsL_law_r23 : List Cond := [Cond.code yX4_rent cX4_rent 2 (some .int), Cond.methodLink RX4 167 yX1_rentOf, Cond.methodLink RL 70 yX5_rent, Cond.instanceMethod yX5_rent, Cond.selects RX5 yX5_rent yX5_rent, Cond.code yX5_rent cX5_rent 2 (some .int), Cond.methodLink RL 71 yX4_count, Cond.instanceMethod yX4_count, Cond.selects RX4 yX4_count yX4_count, Cond.code yX4_count cX4_count 2 (some .int), Cond.methodLink RX4 170 yX4_fullShows, Cond.instanceMethod yX4_fullShows, Cond.selects RX4 yX4_fullShows yX4_fullShows, Cond.code yX4_fullShows cX4_fullShows 3 (some .int), Cond.methodLink RX4 211 yX0_fullShows, Cond.instanceMethod yX0_fullShows, Cond.selects RX0 yX0_fullShows yX0_fullShows, Cond.code yX0_fullShows cX0_fullShows 1 (some .int), Cond.methodLink RX4 176 yX2_size, Cond.instanceMethod yX2_size, Cond.selects RX2 yX2_size yX2_size, Cond.code yX2_size cX2_size 1 (some .int), Cond.methodLink RL 74 yX5_count, Cond.instanceMethod yX5_count]
def wsL_law_r24 : List Cond := [Cond.selects RX5 yX5_count yX5_count, Cond.code yX5_count cX5_count 2 (some .int), Cond.methodLink RX5 142 yX5_fullShows, Cond.instanceMethod yX5_fullShows, Cond.selects RX5 yX5_fullShows yX5_fullShows, Cond.code yX5_fullShows cX5_fullShows 3 (some .int), Cond.methodLink RL 75 yX4_ifShown, Cond.instanceMethod yX4_ifShown, Cond.selects RX4 yX4_ifShown yX4_ifShown, Cond.code yX4_ifShown cX4_ifShown 5 (some .int), Cond.methodLink RX4 179 yX4_gainWith, Cond.instanceMethod yX4_gainWith, Cond.selects RX4 yX4_gainWith yX4_gainWith, Cond.code yX4_gainWith cX4_gainWith 6 (some .int), Cond.methodLink RX4 212 yX4_leftOfFilm, Cond.instanceMethod yX4_leftOfFilm, Cond.selects RX4 yX4_leftOfFilm yX4_leftOfFilm, Cond.code yX4_leftOfFilm cX4_leftOfFilm 2 (some .int), Cond.methodLink RL 78 yX5_ifShown, Cond.instanceMethod yX5_ifShown, Cond.selects RX5 yX5_ifShown yX5_ifShown, Cond.code yX5_ifShown cX5_ifShown 5 (some .int), Cond.methodLink RX5 148 yX5_moreWith, Cond.instanceMethod yX5_moreWith]
def wsL_law_r25 : List Cond := [Cond.selects RX5 yX5_moreWith yX5_moreWith, Cond.code yX5_moreWith cX5_moreWith 6 (some .int), Cond.methodLink RL 79 yX4_bestFilm, Cond.instanceMethod yX4_bestFilm, Cond.selects RX4 yX4_bestFilm yX4_bestFilm, Cond.code yX4_bestFilm cX4_bestFilm 8 (some .int), Cond.methodLink RL 82 yX5_bestFilm, Cond.instanceMethod yX5_bestFilm, Cond.selects RX5 yX5_bestFilm yX5_bestFilm, Cond.code yX5_bestFilm cX5_bestFilm 9 (some .int), Cond.methodLink RL 83 yX4_worstShow, Cond.instanceMethod yX4_worstShow, Cond.selects RX4 yX4_worstShow yX4_worstShow, Cond.code yX4_worstShow cX4_worstShow 6 (some .int), Cond.methodLink RL 86 yX5_worstShow, Cond.instanceMethod yX5_worstShow, Cond.selects RX5 yX5_worstShow yX5_worstShow, Cond.code yX5_worstShow cX5_worstShow 7 (some .int), Cond.methodLink RL 87 yX4_priceFor, Cond.instanceMethod yX4_priceFor, Cond.selects RX4 yX4_priceFor yX4_priceFor, Cond.code yX4_priceFor cX4_priceFor 7 (some .int), Cond.methodLink RL 90 yX5_priceFor, Cond.instanceMethod yX5_priceFor]
def wsL_law_r26 : List Cond := [Cond.selects RX5 yX5_priceFor yX5_priceFor, Cond.code yX5_priceFor cX5_priceFor 6 (some .int), Cond.methodLink RL 93 yX4_put, Cond.instanceMethod yX4_put, Cond.selects RX4 yX4_put yX4_put, Cond.code yX4_put cX4_put 3 (some .int), Cond.methodLink RX4 182 yX3_append, Cond.instanceMethod yX3_append, Cond.selects RX3 yX3_append yX3_append, Cond.code yX3_append cX3_append 5 (some .int), Cond.constantLong RX3 23 (255), Cond.methodLink RX3 19 yX3_charactersIn, Cond.static yX3_charactersIn, Cond.code yX3_charactersIn cX3_charactersIn 7 (some .int), Cond.constantLong RX3 25 (33), Cond.constantLong RX3 27 (126), Cond.methodLink RL 97 yX5_put, Cond.instanceMethod yX5_put, Cond.selects RX5 yX5_put yX5_put, Cond.code yX5_put cX5_put 8 (some .int), Cond.constantLong RX5 151 (255), Cond.methodLink RL 98 yX4_wipe, Cond.instanceMethod yX4_wipe, Cond.selects RX4 yX4_wipe yX4_wipe]
def wsL_law_r27 : List Cond := [Cond.code yX4_wipe cX4_wipe 2 (some .int), Cond.methodLink RL 101 yX5_wipe, Cond.instanceMethod yX5_wipe, Cond.selects RX5 yX5_wipe yX5_wipe, Cond.code yX5_wipe cX5_wipe 2 (some .int), Cond.methodLink RL 102 yX4_fault, Cond.instanceMethod yX4_fault, Cond.selects RX4 yX4_fault yX4_fault, Cond.code yX4_fault cX4_fault 1 (some .int), Cond.methodLink RL 105 yX5_fault, Cond.instanceMethod yX5_fault, Cond.selects RX5 yX5_fault yX5_fault, Cond.code yX5_fault cX5_fault 1 (some .int), Cond.methodLink RL 106 yX4_undo, Cond.instanceMethod yX4_undo, Cond.selects RX4 yX4_undo yX4_undo, Cond.code yX4_undo cX4_undo 1 (some .int), Cond.methodLink RX4 186 yX2_takeBack, Cond.instanceMethod yX2_takeBack, Cond.selects RX2 yX2_takeBack yX2_takeBack, Cond.code yX2_takeBack cX2_takeBack 2 none, Cond.methodLink RX2 27 yX1_copyFrom, Cond.instanceMethod yX1_copyFrom, Cond.selects RX1 yX1_copyFrom yX1_copyFrom]
def wsL_law_r28 : List Cond := [Cond.code yX1_copyFrom cX1_copyFrom 2 none, Cond.methodLink RL 109 yX5_undo, Cond.instanceMethod yX5_undo, Cond.selects RX5 yX5_undo yX5_undo, Cond.code yX5_undo cX5_undo 1 (some .int), Cond.methodLink RL 110 yX4_save, Cond.instanceMethod yX4_save, Cond.selects RX4 yX4_save yX4_save, Cond.code yX4_save cX4_save 2 (some .int), Cond.methodLink RX4 189 yX1_copyTo, Cond.methodLink RX4 193 yX1_shows, Cond.instanceMethod yX1_shows, Cond.selects RX1 yX1_shows yX1_shows, Cond.code yX1_shows cX1_shows 3 (some .int), Cond.methodLink RL 113 yX5_save, Cond.instanceMethod yX5_save, Cond.selects RX5 yX5_save yX5_save, Cond.code yX5_save cX5_save 2 (some .int), Cond.methodLink RX5 187 yX5_showsMany, Cond.instanceMethod yX5_showsMany, Cond.selects RX5 yX5_showsMany yX5_showsMany, Cond.code yX5_showsMany cX5_showsMany 3 (some .int), Cond.methodLink RL 114 yX4_restore, Cond.instanceMethod yX4_restore]
def wsL_law_r29 : List Cond := [Cond.selects RX4 yX4_restore yX4_restore, Cond.code yX4_restore cX4_restore 2 (some .int), Cond.methodLink RX4 196 yX1_copyFrom, Cond.methodLink RL 117 yX5_restore, Cond.instanceMethod yX5_restore, Cond.selects RX5 yX5_restore yX5_restore, Cond.code yX5_restore cX5_restore 2 (some .int)]
def wsL_law : List Cond := (wsL_law_r1 ++ (wsL_law_r2 ++ (wsL_law_r3 ++ (wsL_law_r4 ++ (wsL_law_r5 ++ (wsL_law_r6 ++ (wsL_law_r7 ++ (wsL_law_r8 ++ (wsL_law_r9 ++ (wsL_law_r10 ++ (wsL_law_r11 ++ (wsL_law_r12 ++ (wsL_law_r13 ++ (wsL_law_r14 ++ (wsL_law_r15 ++ (wsL_law_r16 ++ (wsL_law_r17 ++ (wsL_law_r18 ++ (wsL_law_r19 ++ (wsL_law_r20 ++ (wsL_law_r21 ++ (wsL_law_r22 ++ (wsL_law_r23 ++ (wsL_law_r24 ++ (wsL_law_r25 ++ (wsL_law_r26 ++ (wsL_law_r27 ++ (wsL_law_r28 ++ wsL_law_r29)))))))))))))))))))))))))))) ++ wsX40 ++ wsX50 ++ wsX10 ++ wsX00 ++ wsX30 ++ wsX20 ++ ([] : List Cond)
theorem inlX0 : ∀ w ∈ wsX00, w ∈ wsL_law := fun _ h => List.mem_append_left _ (List.mem_append_left _ (List.mem_append_left _ (List.mem_append_right _ h)))
theorem inlX1 : ∀ w ∈ wsX10, w ∈ wsL_law := fun _ h => List.mem_append_left _ (List.mem_append_left _ (List.mem_append_left _ (List.mem_append_left _ (List.mem_append_right _ h))))
theorem inlX2 : ∀ w ∈ wsX20, w ∈ wsL_law := fun _ h => List.mem_append_left _ (List.mem_append_right _ h)
theorem inlX3 : ∀ w ∈ wsX30, w ∈ wsL_law := fun _ h => List.mem_append_left _ (List.mem_append_left _ (List.mem_append_right _ h))
theorem inlX4 : ∀ w ∈ wsX40, w ∈ wsL_law := fun _ h => List.mem_append_left _ (List.mem_append_left _ (List.mem_append_left _ (List.mem_append_left _ (List.mem_append_left _ (List.mem_append_left _ (List.mem_append_right _ h))))))
theorem inlX5 : ∀ w ∈ wsX50, w ∈ wsL_law := fun _ h => List.mem_append_left _ (List.mem_append_left _ (List.mem_append_left _ (List.mem_append_left _ (List.mem_append_left _ (List.mem_append_right _ h)))))
theorem inJ9 : ∀ w ∈ wsJ90, w ∈ lw_tbl := by decide +kernel
theorem inJ10 : ∀ w ∈ wsJ100, w ∈ lw_tbl := by decide +kernel
theorem dX0_init_0 : decode cX0_init 0 = .ok (.aload_n 0, 1) := by decide +kernel
theorem dX0_init_1 : decode cX0_init 1 = .ok (.invokespecial 3, 3) := by decide +kernel
theorem dX0_init_4 : decode cX0_init 4 = .ok (.aload_n 0, 1) := by decide +kernel
theorem dX0_init_5 : decode cX0_init 5 = .ok (.bipush 70, 2) := by decide +kernel
theorem dX0_init_7 : decode cX0_init 7 = .ok (.newarray .int, 2) := by decide +kernel
theorem dX0_init_9 : decode cX0_init 9 = .ok (.putfield 9, 3) := by decide +kernel
theorem dX0_init_12 : decode cX0_init 12 = .ok (.aload_n 0, 1) := by decide +kernel
theorem dX0_init_13 : decode cX0_init 13 = .ok (.bipush 70, 2) := by decide +kernel
theorem dX0_init_15 : decode cX0_init 15 = .ok (.newarray .int, 2) := by decide +kernel
theorem dX0_init_17 : decode cX0_init 17 = .ok (.putfield 15, 3) := by decide +kernel
theorem dX0_init_20 : decode cX0_init 20 = .ok (.aload_n 0, 1) := by decide +kernel
theorem dX0_init_21 : decode cX0_init 21 = .ok (.bipush 25, 2) := by decide +kernel
theorem dX0_init_23 : decode cX0_init 23 = .ok (.newarray .int, 2) := by decide +kernel
theorem dX0_init_25 : decode cX0_init 25 = .ok (.putfield 18, 3) := by decide +kernel
theorem dX0_init_28 : decode cX0_init 28 = .ok (.aload_n 0, 1) := by decide +kernel
theorem dX0_init_29 : decode cX0_init 29 = .ok (.iconst 5, 1) := by decide +kernel
theorem dX0_init_30 : decode cX0_init 30 = .ok (.newarray .int, 2) := by decide +kernel
theorem dX0_init_32 : decode cX0_init 32 = .ok (.putfield 21, 3) := by decide +kernel
theorem dX0_init_35 : decode cX0_init 35 = .ok (.return_, 1) := by decide +kernel
set_option maxRecDepth 20000 in
theorem ggX0_follow_X1_fact : GoodIn wsX0_follow wsX1_fact := goodIn_r _ [8, 9, 57] (by decide +kernel) (by decide +kernel)
set_option maxRecDepth 20000 in
theorem gX0_follow_X1_fact : GoodIn wsX0_follow (wsV RX0 24 RX1 yX1_fact wsX1_fact) := goodIn_app (goodIn_of _ (by decide +kernel)) ggX0_follow_X1_fact
set_option maxRecDepth 20000 in
theorem ggX0_follow_X0_followWeek : GoodIn wsX0_follow wsX0_followWeek := goodIn_r _ [14, 15, 16, 1, 17, 18, 19, 20, 7, 21, 9, 22, 23, 13, 24, 25, 26, 27, 28, 29, 30, 31, 32, 51, 52, 53, 54, 55, 56, 57] (by decide +kernel) (by decide +kernel)
set_option maxRecDepth 20000 in
theorem gX0_follow_X0_followWeek : GoodIn wsX0_follow (wsV RX0 34 RX0 yX0_followWeek wsX0_followWeek) := goodIn_app (goodIn_of _ (by decide +kernel)) ggX0_follow_X0_followWeek
set_option maxRecDepth 20000 in
theorem ggX0_follow_X0_sumOfWeek : GoodIn wsX0_follow wsX0_sumOfWeek := goodIn_r _ [36, 17, 51, 52, 53, 54, 55, 56] (by decide +kernel) (by decide +kernel)
set_option maxRecDepth 20000 in
theorem gX0_follow_X0_sumOfWeek : GoodIn wsX0_follow (wsV RX0 38 RX0 yX0_sumOfWeek wsX0_sumOfWeek) := goodIn_app (goodIn_of _ (by decide +kernel)) ggX0_follow_X0_sumOfWeek
set_option maxRecDepth 20000 in
theorem ggX0_follow_X0_nextShare : GoodIn wsX0_follow wsX0_nextShare := goodIn_r _ [39, 40, 41, 27, 42] (by decide +kernel) (by decide +kernel)
set_option maxRecDepth 20000 in
theorem gX0_follow_X0_nextShare : GoodIn wsX0_follow (va_wsS RX0 41 yX0_nextShare wsX0_nextShare) := goodIn_app (goodIn_of _ (by decide +kernel)) ggX0_follow_X0_nextShare
set_option maxRecDepth 20000 in
theorem ggX0_follow_X0_reckonWeek : GoodIn wsX0_follow wsX0_reckonWeek := goodIn_r _ [46, 17, 40, 41, 27, 42, 33, 34, 35, 13, 36, 29, 30, 31, 7, 32, 9, 47, 48, 49, 50, 2, 51, 52, 53, 54, 55, 56, 57] (by decide +kernel) (by decide +kernel)
set_option maxRecDepth 20000 in
theorem gX0_follow_X0_reckonWeek : GoodIn wsX0_follow (wsV RX0 45 RX0 yX0_reckonWeek wsX0_reckonWeek) := goodIn_app (goodIn_of _ (by decide +kernel)) ggX0_follow_X0_reckonWeek
theorem dX0_follow_0 : decode cX0_follow 0 = .ok (.aload_n 1, 1) := by decide +kernel
theorem dX0_follow_1 : decode cX0_follow 1 = .ok (.iload_n 2, 1) := by decide +kernel
theorem dX0_follow_2 : decode cX0_follow 2 = .ok (.iconst 1, 1) := by decide +kernel
theorem dX0_follow_3 : decode cX0_follow 3 = .ok (.invokevirtual 24, 3) := by decide +kernel
theorem dX0_follow_6 : decode cX0_follow 6 = .ok (.istore_n 3, 1) := by decide +kernel
theorem dX0_follow_7 : decode cX0_follow 7 = .ok (.aload_n 1, 1) := by decide +kernel
theorem dX0_follow_8 : decode cX0_follow 8 = .ok (.iload_n 2, 1) := by decide +kernel
theorem dX0_follow_9 : decode cX0_follow 9 = .ok (.iconst 4, 1) := by decide +kernel
theorem dX0_follow_10 : decode cX0_follow 10 = .ok (.invokevirtual 24, 3) := by decide +kernel
theorem dX0_follow_13 : decode cX0_follow 13 = .ok (.bipush 7, 2) := by decide +kernel
theorem dX0_follow_15 : decode cX0_follow 15 = .ok (.idiv, 1) := by decide +kernel
theorem dX0_follow_16 : decode cX0_follow 16 = .ok (.istore 4, 2) := by decide +kernel
theorem dX0_follow_18 : decode cX0_follow 18 = .ok (.bipush (-6), 2) := by decide +kernel
theorem dX0_follow_20 : decode cX0_follow 20 = .ok (.istore 5, 2) := by decide +kernel
theorem dX0_follow_22 : decode cX0_follow 22 = .ok (.aload_n 0, 1) := by decide +kernel
theorem dX0_follow_23 : decode cX0_follow 23 = .ok (.iconst 0, 1) := by decide +kernel
theorem dX0_follow_24 : decode cX0_follow 24 = .ok (.putfield 30, 3) := by decide +kernel
theorem dX0_follow_27 : decode cX0_follow 27 = .ok (.iconst 0, 1) := by decide +kernel
theorem dX0_follow_28 : decode cX0_follow 28 = .ok (.istore 6, 2) := by decide +kernel
theorem dX0_follow_30 : decode cX0_follow 30 = .ok (.iload 6, 2) := by decide +kernel
theorem dX0_follow_32 : decode cX0_follow 32 = .ok (.iconst 5, 1) := by decide +kernel
theorem dX0_follow_33 : decode cX0_follow 33 = .ok (.if_icmp .ge 82, 3) := by decide +kernel
theorem dX0_follow_36 : decode cX0_follow 36 = .ok (.iload 6, 2) := by decide +kernel
theorem dX0_follow_38 : decode cX0_follow 38 = .ok (.iload 4, 2) := by decide +kernel
theorem dX0_follow_40 : decode cX0_follow 40 = .ok (.if_icmp .le 9, 3) := by decide +kernel
theorem dX0_follow_43 : decode cX0_follow 43 = .ok (.iload_n 3, 1) := by decide +kernel
theorem dX0_follow_44 : decode cX0_follow 44 = .ok (.iload_n 3, 1) := by decide +kernel
theorem dX0_follow_45 : decode cX0_follow 45 = .ok (.iconst 4, 1) := by decide +kernel
theorem dX0_follow_46 : decode cX0_follow 46 = .ok (.idiv, 1) := by decide +kernel
theorem dX0_follow_47 : decode cX0_follow 47 = .ok (.isub, 1) := by decide +kernel
theorem dX0_follow_48 : decode cX0_follow 48 = .ok (.istore_n 3, 1) := by decide +kernel
theorem dX0_follow_49 : decode cX0_follow 49 = .ok (.aload_n 0, 1) := by decide +kernel
theorem dX0_follow_50 : decode cX0_follow 50 = .ok (.aload_n 1, 1) := by decide +kernel
theorem dX0_follow_51 : decode cX0_follow 51 = .ok (.iload_n 2, 1) := by decide +kernel
theorem dX0_follow_52 : decode cX0_follow 52 = .ok (.iload 6, 2) := by decide +kernel
theorem dX0_follow_54 : decode cX0_follow 54 = .ok (.iload_n 3, 1) := by decide +kernel
theorem dX0_follow_55 : decode cX0_follow 55 = .ok (.invokevirtual 34, 3) := by decide +kernel
theorem dX0_follow_58 : decode cX0_follow 58 = .ok (.istore_n 3, 1) := by decide +kernel
theorem dX0_follow_59 : decode cX0_follow 59 = .ok (.iload 5, 2) := by decide +kernel
theorem dX0_follow_61 : decode cX0_follow 61 = .ok (.aload_n 1, 1) := by decide +kernel
theorem dX0_follow_62 : decode cX0_follow 62 = .ok (.iload_n 2, 1) := by decide +kernel
theorem dX0_follow_63 : decode cX0_follow 63 = .ok (.iconst 3, 1) := by decide +kernel
theorem dX0_follow_64 : decode cX0_follow 64 = .ok (.invokevirtual 24, 3) := by decide +kernel
theorem dX0_follow_67 : decode cX0_follow 67 = .ok (.aload_n 0, 1) := by decide +kernel
theorem dX0_follow_68 : decode cX0_follow 68 = .ok (.iload 6, 2) := by decide +kernel
theorem dX0_follow_70 : decode cX0_follow 70 = .ok (.iconst 0, 1) := by decide +kernel
theorem dX0_follow_71 : decode cX0_follow 71 = .ok (.invokevirtual 38, 3) := by decide +kernel
theorem dX0_follow_74 : decode cX0_follow 74 = .ok (.ifCond .le 7, 3) := by decide +kernel
theorem dX0_follow_77 : decode cX0_follow 77 = .ok (.iconst 1, 1) := by decide +kernel
theorem dX0_follow_78 : decode cX0_follow 78 = .ok (.goto 4, 3) := by decide +kernel
theorem dX0_follow_81 : decode cX0_follow 81 = .ok (.iconst 0, 1) := by decide +kernel
theorem dX0_follow_82 : decode cX0_follow 82 = .ok (.invokestatic 41, 3) := by decide +kernel
theorem dX0_follow_85 : decode cX0_follow 85 = .ok (.istore 5, 2) := by decide +kernel
theorem dX0_follow_87 : decode cX0_follow 87 = .ok (.aload_n 0, 1) := by decide +kernel
theorem dX0_follow_88 : decode cX0_follow 88 = .ok (.getfield 21, 3) := by decide +kernel
theorem dX0_follow_91 : decode cX0_follow 91 = .ok (.iload 6, 2) := by decide +kernel
theorem dX0_follow_93 : decode cX0_follow 93 = .ok (.iload 5, 2) := by decide +kernel
theorem dX0_follow_95 : decode cX0_follow 95 = .ok (.iastore, 1) := by decide +kernel
theorem dX0_follow_96 : decode cX0_follow 96 = .ok (.aload_n 0, 1) := by decide +kernel
theorem dX0_follow_97 : decode cX0_follow 97 = .ok (.aload_n 1, 1) := by decide +kernel
theorem dX0_follow_98 : decode cX0_follow 98 = .ok (.iload 6, 2) := by decide +kernel
theorem dX0_follow_100 : decode cX0_follow 100 = .ok (.aload_n 1, 1) := by decide +kernel
theorem dX0_follow_101 : decode cX0_follow 101 = .ok (.iload_n 2, 1) := by decide +kernel
theorem dX0_follow_102 : decode cX0_follow 102 = .ok (.iconst 2, 1) := by decide +kernel
theorem dX0_follow_103 : decode cX0_follow 103 = .ok (.invokevirtual 24, 3) := by decide +kernel
theorem dX0_follow_106 : decode cX0_follow 106 = .ok (.invokevirtual 45, 3) := by decide +kernel
theorem dX0_follow_109 : decode cX0_follow 109 = .ok (.iinc 6 1, 3) := by decide +kernel
theorem dX0_follow_112 : decode cX0_follow 112 = .ok (.goto (-82), 3) := by decide +kernel
theorem dX0_follow_115 : decode cX0_follow 115 = .ok (.aload_n 0, 1) := by decide +kernel
theorem dX0_follow_116 : decode cX0_follow 116 = .ok (.iload_n 3, 1) := by decide +kernel
theorem dX0_follow_117 : decode cX0_follow 117 = .ok (.putfield 49, 3) := by decide +kernel
theorem dX0_follow_120 : decode cX0_follow 120 = .ok (.return_, 1) := by decide +kernel
set_option maxRecDepth 20000 in
theorem ggX0_followWeek_X1_showAt : GoodIn wsX0_followWeek wsX1_showAt := goodIn_r _ [9, 10, 29] (by decide +kernel) (by decide +kernel)
set_option maxRecDepth 20000 in
theorem gX0_followWeek_X1_showAt : GoodIn wsX0_followWeek (wsV RX0 52 RX1 yX1_showAt wsX1_showAt) := goodIn_app (goodIn_of _ (by decide +kernel)) ggX0_followWeek_X1_showAt
set_option maxRecDepth 20000 in
theorem ggX0_followWeek_X0_peopleOf : GoodIn wsX0_followWeek wsX0_peopleOf := goodIn_r _ [14, 15, 16, 17, 18, 19, 20, 21, 8, 22, 10, 29] (by decide +kernel) (by decide +kernel)
set_option maxRecDepth 20000 in
theorem gX0_followWeek_X0_peopleOf : GoodIn wsX0_followWeek (va_wsS RX0 56 yX0_peopleOf wsX0_peopleOf) := goodIn_app (goodIn_of _ (by decide +kernel)) ggX0_followWeek_X0_peopleOf
set_option maxRecDepth 20000 in
theorem ggX0_followWeek_X1_setting : GoodIn wsX0_followWeek wsX1_setting := goodIn_r _ [22, 10, 29] (by decide +kernel) (by decide +kernel)
set_option maxRecDepth 20000 in
theorem gX0_followWeek_X1_setting : GoodIn wsX0_followWeek (wsV RX0 60 RX1 yX1_setting wsX1_setting) := goodIn_app (goodIn_of _ (by decide +kernel)) ggX0_followWeek_X1_setting
theorem dX0_followWeek_0 : decode cX0_followWeek 0 = .ok (.iload 4, 2) := by decide +kernel
theorem dX0_followWeek_2 : decode cX0_followWeek 2 = .ok (.istore 5, 2) := by decide +kernel
theorem dX0_followWeek_4 : decode cX0_followWeek 4 = .ok (.iconst 0, 1) := by decide +kernel
theorem dX0_followWeek_5 : decode cX0_followWeek 5 = .ok (.istore 6, 2) := by decide +kernel
theorem dX0_followWeek_7 : decode cX0_followWeek 7 = .ok (.iload_n 3, 1) := by decide +kernel
theorem dX0_followWeek_8 : decode cX0_followWeek 8 = .ok (.iconst 1, 1) := by decide +kernel
theorem dX0_followWeek_9 : decode cX0_followWeek 9 = .ok (.iadd, 1) := by decide +kernel
theorem dX0_followWeek_10 : decode cX0_followWeek 10 = .ok (.bipush 14, 2) := by decide +kernel
theorem dX0_followWeek_12 : decode cX0_followWeek 12 = .ok (.imul, 1) := by decide +kernel
theorem dX0_followWeek_13 : decode cX0_followWeek 13 = .ok (.istore 7, 2) := by decide +kernel
theorem dX0_followWeek_15 : decode cX0_followWeek 15 = .ok (.iload_n 3, 1) := by decide +kernel
theorem dX0_followWeek_16 : decode cX0_followWeek 16 = .ok (.bipush 14, 2) := by decide +kernel
theorem dX0_followWeek_18 : decode cX0_followWeek 18 = .ok (.imul, 1) := by decide +kernel
theorem dX0_followWeek_19 : decode cX0_followWeek 19 = .ok (.istore 8, 2) := by decide +kernel
theorem dX0_followWeek_21 : decode cX0_followWeek 21 = .ok (.iload 8, 2) := by decide +kernel
theorem dX0_followWeek_23 : decode cX0_followWeek 23 = .ok (.iload 7, 2) := by decide +kernel
theorem dX0_followWeek_25 : decode cX0_followWeek 25 = .ok (.if_icmp .ge 79, 3) := by decide +kernel
theorem dX0_followWeek_28 : decode cX0_followWeek 28 = .ok (.aload_n 1, 1) := by decide +kernel
theorem dX0_followWeek_29 : decode cX0_followWeek 29 = .ok (.iload 8, 2) := by decide +kernel
theorem dX0_followWeek_31 : decode cX0_followWeek 31 = .ok (.invokevirtual 52, 3) := by decide +kernel
theorem dX0_followWeek_34 : decode cX0_followWeek 34 = .ok (.iload_n 2, 1) := by decide +kernel
theorem dX0_followWeek_35 : decode cX0_followWeek 35 = .ok (.if_icmp .ne 63, 3) := by decide +kernel
theorem dX0_followWeek_38 : decode cX0_followWeek 38 = .ok (.aload_n 1, 1) := by decide +kernel
theorem dX0_followWeek_39 : decode cX0_followWeek 39 = .ok (.iload 5, 2) := by decide +kernel
theorem dX0_followWeek_41 : decode cX0_followWeek 41 = .ok (.iload 8, 2) := by decide +kernel
theorem dX0_followWeek_43 : decode cX0_followWeek 43 = .ok (.iconst 2, 1) := by decide +kernel
theorem dX0_followWeek_44 : decode cX0_followWeek 44 = .ok (.irem, 1) := by decide +kernel
theorem dX0_followWeek_45 : decode cX0_followWeek 45 = .ok (.invokestatic 56, 3) := by decide +kernel
theorem dX0_followWeek_48 : decode cX0_followWeek 48 = .ok (.istore 9, 2) := by decide +kernel
theorem dX0_followWeek_50 : decode cX0_followWeek 50 = .ok (.iload 5, 2) := by decide +kernel
theorem dX0_followWeek_52 : decode cX0_followWeek 52 = .ok (.iload 9, 2) := by decide +kernel
theorem dX0_followWeek_54 : decode cX0_followWeek 54 = .ok (.isub, 1) := by decide +kernel
theorem dX0_followWeek_55 : decode cX0_followWeek 55 = .ok (.istore 5, 2) := by decide +kernel
theorem dX0_followWeek_57 : decode cX0_followWeek 57 = .ok (.aload_n 0, 1) := by decide +kernel
theorem dX0_followWeek_58 : decode cX0_followWeek 58 = .ok (.getfield 9, 3) := by decide +kernel
theorem dX0_followWeek_61 : decode cX0_followWeek 61 = .ok (.iload 8, 2) := by decide +kernel
theorem dX0_followWeek_63 : decode cX0_followWeek 63 = .ok (.iload 9, 2) := by decide +kernel
theorem dX0_followWeek_65 : decode cX0_followWeek 65 = .ok (.iastore, 1) := by decide +kernel
theorem dX0_followWeek_66 : decode cX0_followWeek 66 = .ok (.aload_n 0, 1) := by decide +kernel
theorem dX0_followWeek_67 : decode cX0_followWeek 67 = .ok (.getfield 15, 3) := by decide +kernel
theorem dX0_followWeek_70 : decode cX0_followWeek 70 = .ok (.iload 8, 2) := by decide +kernel
theorem dX0_followWeek_72 : decode cX0_followWeek 72 = .ok (.iload 5, 2) := by decide +kernel
theorem dX0_followWeek_74 : decode cX0_followWeek 74 = .ok (.iastore, 1) := by decide +kernel
theorem dX0_followWeek_75 : decode cX0_followWeek 75 = .ok (.iinc 6 1, 3) := by decide +kernel
theorem dX0_followWeek_78 : decode cX0_followWeek 78 = .ok (.iload 9, 2) := by decide +kernel
theorem dX0_followWeek_80 : decode cX0_followWeek 80 = .ok (.aload_n 1, 1) := by decide +kernel
theorem dX0_followWeek_81 : decode cX0_followWeek 81 = .ok (.iconst 0, 1) := by decide +kernel
theorem dX0_followWeek_82 : decode cX0_followWeek 82 = .ok (.invokevirtual 60, 3) := by decide +kernel
theorem dX0_followWeek_85 : decode cX0_followWeek 85 = .ok (.if_icmp .ne 13, 3) := by decide +kernel
theorem dX0_followWeek_88 : decode cX0_followWeek 88 = .ok (.aload_n 0, 1) := by decide +kernel
theorem dX0_followWeek_89 : decode cX0_followWeek 89 = .ok (.dup, 1) := by decide +kernel
theorem dX0_followWeek_90 : decode cX0_followWeek 90 = .ok (.getfield 30, 3) := by decide +kernel
theorem dX0_followWeek_93 : decode cX0_followWeek 93 = .ok (.iconst 1, 1) := by decide +kernel
theorem dX0_followWeek_94 : decode cX0_followWeek 94 = .ok (.iadd, 1) := by decide +kernel
theorem dX0_followWeek_95 : decode cX0_followWeek 95 = .ok (.putfield 30, 3) := by decide +kernel
theorem dX0_followWeek_98 : decode cX0_followWeek 98 = .ok (.iinc 8 1, 3) := by decide +kernel
theorem dX0_followWeek_101 : decode cX0_followWeek 101 = .ok (.goto (-80), 3) := by decide +kernel
theorem dX0_followWeek_104 : decode cX0_followWeek 104 = .ok (.aload_n 0, 1) := by decide +kernel
theorem dX0_followWeek_105 : decode cX0_followWeek 105 = .ok (.getfield 18, 3) := by decide +kernel
theorem dX0_followWeek_108 : decode cX0_followWeek 108 = .ok (.iload_n 3, 1) := by decide +kernel
theorem dX0_followWeek_109 : decode cX0_followWeek 109 = .ok (.iconst 5, 1) := by decide +kernel
theorem dX0_followWeek_110 : decode cX0_followWeek 110 = .ok (.imul, 1) := by decide +kernel
theorem dX0_followWeek_111 : decode cX0_followWeek 111 = .ok (.iconst 0, 1) := by decide +kernel
theorem dX0_followWeek_112 : decode cX0_followWeek 112 = .ok (.iadd, 1) := by decide +kernel
theorem dX0_followWeek_113 : decode cX0_followWeek 113 = .ok (.iload 6, 2) := by decide +kernel
theorem dX0_followWeek_115 : decode cX0_followWeek 115 = .ok (.iastore, 1) := by decide +kernel
theorem dX0_followWeek_116 : decode cX0_followWeek 116 = .ok (.aload_n 0, 1) := by decide +kernel
theorem dX0_followWeek_117 : decode cX0_followWeek 117 = .ok (.getfield 18, 3) := by decide +kernel
theorem dX0_followWeek_120 : decode cX0_followWeek 120 = .ok (.iload_n 3, 1) := by decide +kernel
theorem dX0_followWeek_121 : decode cX0_followWeek 121 = .ok (.iconst 5, 1) := by decide +kernel
theorem dX0_followWeek_122 : decode cX0_followWeek 122 = .ok (.imul, 1) := by decide +kernel
theorem dX0_followWeek_123 : decode cX0_followWeek 123 = .ok (.iconst 1, 1) := by decide +kernel
theorem dX0_followWeek_124 : decode cX0_followWeek 124 = .ok (.iadd, 1) := by decide +kernel
theorem dX0_followWeek_125 : decode cX0_followWeek 125 = .ok (.iload 4, 2) := by decide +kernel
theorem dX0_followWeek_127 : decode cX0_followWeek 127 = .ok (.iload 5, 2) := by decide +kernel
theorem dX0_followWeek_129 : decode cX0_followWeek 129 = .ok (.isub, 1) := by decide +kernel
theorem dX0_followWeek_130 : decode cX0_followWeek 130 = .ok (.iastore, 1) := by decide +kernel
theorem dX0_followWeek_131 : decode cX0_followWeek 131 = .ok (.iload 5, 2) := by decide +kernel
theorem dX0_followWeek_133 : decode cX0_followWeek 133 = .ok (.ireturn, 1) := by decide +kernel
set_option maxRecDepth 20000 in
theorem ggX0_peopleOf_X1_setting : GoodIn wsX0_peopleOf wsX1_setting := goodIn_r _ [9, 10, 11] (by decide +kernel) (by decide +kernel)
set_option maxRecDepth 20000 in
theorem gX0_peopleOf_X1_setting : GoodIn wsX0_peopleOf (wsV RX0 60 RX1 yX1_setting wsX1_setting) := goodIn_app (goodIn_of _ (by decide +kernel)) ggX0_peopleOf_X1_setting
theorem dX0_peopleOf_0 : decode cX0_peopleOf 0 = .ok (.aload_n 0, 1) := by decide +kernel
theorem dX0_peopleOf_1 : decode cX0_peopleOf 1 = .ok (.iload_n 2, 1) := by decide +kernel
theorem dX0_peopleOf_2 : decode cX0_peopleOf 2 = .ok (.ifCond .ne 7, 3) := by decide +kernel
theorem dX0_peopleOf_5 : decode cX0_peopleOf 5 = .ok (.iconst 4, 1) := by decide +kernel
theorem dX0_peopleOf_6 : decode cX0_peopleOf 6 = .ok (.goto 4, 3) := by decide +kernel
theorem dX0_peopleOf_9 : decode cX0_peopleOf 9 = .ok (.iconst 3, 1) := by decide +kernel
theorem dX0_peopleOf_10 : decode cX0_peopleOf 10 = .ok (.invokevirtual 60, 3) := by decide +kernel
theorem dX0_peopleOf_13 : decode cX0_peopleOf 13 = .ok (.istore_n 3, 1) := by decide +kernel
theorem dX0_peopleOf_14 : decode cX0_peopleOf 14 = .ok (.iload_n 1, 1) := by decide +kernel
theorem dX0_peopleOf_15 : decode cX0_peopleOf 15 = .ok (.iload_n 3, 1) := by decide +kernel
theorem dX0_peopleOf_16 : decode cX0_peopleOf 16 = .ok (.imul, 1) := by decide +kernel
theorem dX0_peopleOf_17 : decode cX0_peopleOf 17 = .ok (.bipush 100, 2) := by decide +kernel
theorem dX0_peopleOf_19 : decode cX0_peopleOf 19 = .ok (.idiv, 1) := by decide +kernel
theorem dX0_peopleOf_20 : decode cX0_peopleOf 20 = .ok (.aload_n 0, 1) := by decide +kernel
theorem dX0_peopleOf_21 : decode cX0_peopleOf 21 = .ok (.iconst 0, 1) := by decide +kernel
theorem dX0_peopleOf_22 : decode cX0_peopleOf 22 = .ok (.invokevirtual 60, 3) := by decide +kernel
theorem dX0_peopleOf_25 : decode cX0_peopleOf 25 = .ok (.invokestatic 63, 3) := by decide +kernel
theorem dX0_peopleOf_28 : decode cX0_peopleOf 28 = .ok (.ireturn, 1) := by decide +kernel
theorem dX0_nextShare_0 : decode cX0_nextShare 0 = .ok (.iload_n 0, 1) := by decide +kernel
theorem dX0_nextShare_1 : decode cX0_nextShare 1 = .ok (.bipush (-6), 2) := by decide +kernel
theorem dX0_nextShare_3 : decode cX0_nextShare 3 = .ok (.if_icmp .eq 13, 3) := by decide +kernel
theorem dX0_nextShare_6 : decode cX0_nextShare 6 = .ok (.iload_n 0, 1) := by decide +kernel
theorem dX0_nextShare_7 : decode cX0_nextShare 7 = .ok (.bipush 10, 2) := by decide +kernel
theorem dX0_nextShare_9 : decode cX0_nextShare 9 = .ok (.isub, 1) := by decide +kernel
theorem dX0_nextShare_10 : decode cX0_nextShare 10 = .ok (.bipush 20, 2) := by decide +kernel
theorem dX0_nextShare_12 : decode cX0_nextShare 12 = .ok (.invokestatic 68, 3) := by decide +kernel
theorem dX0_nextShare_15 : decode cX0_nextShare 15 = .ok (.ireturn, 1) := by decide +kernel
theorem dX0_nextShare_16 : decode cX0_nextShare 16 = .ok (.iload_n 2, 1) := by decide +kernel
theorem dX0_nextShare_17 : decode cX0_nextShare 17 = .ok (.ifCond .eq 7, 3) := by decide +kernel
theorem dX0_nextShare_20 : decode cX0_nextShare 20 = .ok (.iload_n 1, 1) := by decide +kernel
theorem dX0_nextShare_21 : decode cX0_nextShare 21 = .ok (.goto 5, 3) := by decide +kernel
theorem dX0_nextShare_24 : decode cX0_nextShare 24 = .ok (.bipush (-6), 2) := by decide +kernel
theorem dX0_nextShare_26 : decode cX0_nextShare 26 = .ok (.ireturn, 1) := by decide +kernel
set_option maxRecDepth 20000 in
theorem ggX0_reckonWeek_X0_sumOfWeek : GoodIn wsX0_reckonWeek wsX0_sumOfWeek := goodIn_r _ [10, 1, 22, 23, 24, 25, 26, 27] (by decide +kernel) (by decide +kernel)
set_option maxRecDepth 20000 in
theorem gX0_reckonWeek_X0_sumOfWeek : GoodIn wsX0_reckonWeek (wsV RX0 38 RX0 yX0_sumOfWeek wsX0_sumOfWeek) := goodIn_app (goodIn_of _ (by decide +kernel)) ggX0_reckonWeek_X0_sumOfWeek
set_option maxRecDepth 20000 in
theorem ggX0_reckonWeek_X1_setting : GoodIn wsX0_reckonWeek wsX1_setting := goodIn_r _ [15, 16, 28] (by decide +kernel) (by decide +kernel)
set_option maxRecDepth 20000 in
theorem gX0_reckonWeek_X1_setting : GoodIn wsX0_reckonWeek (wsV RX0 60 RX1 yX1_setting wsX1_setting) := goodIn_app (goodIn_of _ (by decide +kernel)) ggX0_reckonWeek_X1_setting
set_option maxRecDepth 20000 in
theorem ggX0_reckonWeek_X0_shareOfTakings : GoodIn wsX0_reckonWeek wsX0_shareOfTakings := goodIn_r _ [20, 21, 6, 7, 8, 9, 10, 1, 22, 23, 24, 25, 26, 27] (by decide +kernel) (by decide +kernel)
set_option maxRecDepth 20000 in
theorem gX0_reckonWeek_X0_shareOfTakings : GoodIn wsX0_reckonWeek (wsV RX0 71 RX0 yX0_shareOfTakings wsX0_shareOfTakings) := goodIn_app (goodIn_of _ (by decide +kernel)) ggX0_reckonWeek_X0_shareOfTakings
theorem dX0_reckonWeek_0 : decode cX0_reckonWeek 0 = .ok (.aload_n 0, 1) := by decide +kernel
theorem dX0_reckonWeek_1 : decode cX0_reckonWeek 1 = .ok (.iload_n 2, 1) := by decide +kernel
theorem dX0_reckonWeek_2 : decode cX0_reckonWeek 2 = .ok (.iconst 0, 1) := by decide +kernel
theorem dX0_reckonWeek_3 : decode cX0_reckonWeek 3 = .ok (.invokevirtual 38, 3) := by decide +kernel
theorem dX0_reckonWeek_6 : decode cX0_reckonWeek 6 = .ok (.istore 4, 2) := by decide +kernel
theorem dX0_reckonWeek_8 : decode cX0_reckonWeek 8 = .ok (.aload_n 0, 1) := by decide +kernel
theorem dX0_reckonWeek_9 : decode cX0_reckonWeek 9 = .ok (.iload_n 2, 1) := by decide +kernel
theorem dX0_reckonWeek_10 : decode cX0_reckonWeek 10 = .ok (.iconst 1, 1) := by decide +kernel
theorem dX0_reckonWeek_11 : decode cX0_reckonWeek 11 = .ok (.invokevirtual 38, 3) := by decide +kernel
theorem dX0_reckonWeek_14 : decode cX0_reckonWeek 14 = .ok (.aload_n 1, 1) := by decide +kernel
theorem dX0_reckonWeek_15 : decode cX0_reckonWeek 15 = .ok (.iconst 1, 1) := by decide +kernel
theorem dX0_reckonWeek_16 : decode cX0_reckonWeek 16 = .ok (.invokevirtual 60, 3) := by decide +kernel
theorem dX0_reckonWeek_19 : decode cX0_reckonWeek 19 = .ok (.imul, 1) := by decide +kernel
theorem dX0_reckonWeek_20 : decode cX0_reckonWeek 20 = .ok (.istore 5, 2) := by decide +kernel
theorem dX0_reckonWeek_22 : decode cX0_reckonWeek 22 = .ok (.aload_n 0, 1) := by decide +kernel
theorem dX0_reckonWeek_23 : decode cX0_reckonWeek 23 = .ok (.getfield 18, 3) := by decide +kernel
theorem dX0_reckonWeek_26 : decode cX0_reckonWeek 26 = .ok (.iload_n 2, 1) := by decide +kernel
theorem dX0_reckonWeek_27 : decode cX0_reckonWeek 27 = .ok (.iconst 5, 1) := by decide +kernel
theorem dX0_reckonWeek_28 : decode cX0_reckonWeek 28 = .ok (.imul, 1) := by decide +kernel
theorem dX0_reckonWeek_29 : decode cX0_reckonWeek 29 = .ok (.iconst 2, 1) := by decide +kernel
theorem dX0_reckonWeek_30 : decode cX0_reckonWeek 30 = .ok (.iadd, 1) := by decide +kernel
theorem dX0_reckonWeek_31 : decode cX0_reckonWeek 31 = .ok (.iload 5, 2) := by decide +kernel
theorem dX0_reckonWeek_33 : decode cX0_reckonWeek 33 = .ok (.iastore, 1) := by decide +kernel
theorem dX0_reckonWeek_34 : decode cX0_reckonWeek 34 = .ok (.iload 4, 2) := by decide +kernel
theorem dX0_reckonWeek_36 : decode cX0_reckonWeek 36 = .ok (.ifCond .ne 7, 3) := by decide +kernel
theorem dX0_reckonWeek_39 : decode cX0_reckonWeek 39 = .ok (.iconst 0, 1) := by decide +kernel
theorem dX0_reckonWeek_40 : decode cX0_reckonWeek 40 = .ok (.goto 12, 3) := by decide +kernel
theorem dX0_reckonWeek_43 : decode cX0_reckonWeek 43 = .ok (.iload_n 3, 1) := by decide +kernel
theorem dX0_reckonWeek_44 : decode cX0_reckonWeek 44 = .ok (.aload_n 0, 1) := by decide +kernel
theorem dX0_reckonWeek_45 : decode cX0_reckonWeek 45 = .ok (.iload_n 2, 1) := by decide +kernel
theorem dX0_reckonWeek_46 : decode cX0_reckonWeek 46 = .ok (.invokevirtual 71, 3) := by decide +kernel
theorem dX0_reckonWeek_49 : decode cX0_reckonWeek 49 = .ok (.invokestatic 68, 3) := by decide +kernel
theorem dX0_reckonWeek_52 : decode cX0_reckonWeek 52 = .ok (.istore 6, 2) := by decide +kernel
theorem dX0_reckonWeek_54 : decode cX0_reckonWeek 54 = .ok (.aload_n 0, 1) := by decide +kernel
theorem dX0_reckonWeek_55 : decode cX0_reckonWeek 55 = .ok (.getfield 18, 3) := by decide +kernel
theorem dX0_reckonWeek_58 : decode cX0_reckonWeek 58 = .ok (.iload_n 2, 1) := by decide +kernel
theorem dX0_reckonWeek_59 : decode cX0_reckonWeek 59 = .ok (.iconst 5, 1) := by decide +kernel
theorem dX0_reckonWeek_60 : decode cX0_reckonWeek 60 = .ok (.imul, 1) := by decide +kernel
theorem dX0_reckonWeek_61 : decode cX0_reckonWeek 61 = .ok (.iconst 3, 1) := by decide +kernel
theorem dX0_reckonWeek_62 : decode cX0_reckonWeek 62 = .ok (.iadd, 1) := by decide +kernel
theorem dX0_reckonWeek_63 : decode cX0_reckonWeek 63 = .ok (.iload 6, 2) := by decide +kernel
theorem dX0_reckonWeek_65 : decode cX0_reckonWeek 65 = .ok (.iastore, 1) := by decide +kernel
theorem dX0_reckonWeek_66 : decode cX0_reckonWeek 66 = .ok (.aload_n 0, 1) := by decide +kernel
theorem dX0_reckonWeek_67 : decode cX0_reckonWeek 67 = .ok (.getfield 18, 3) := by decide +kernel
theorem dX0_reckonWeek_70 : decode cX0_reckonWeek 70 = .ok (.iload_n 2, 1) := by decide +kernel
theorem dX0_reckonWeek_71 : decode cX0_reckonWeek 71 = .ok (.iconst 5, 1) := by decide +kernel
theorem dX0_reckonWeek_72 : decode cX0_reckonWeek 72 = .ok (.imul, 1) := by decide +kernel
theorem dX0_reckonWeek_73 : decode cX0_reckonWeek 73 = .ok (.iconst 4, 1) := by decide +kernel
theorem dX0_reckonWeek_74 : decode cX0_reckonWeek 74 = .ok (.iadd, 1) := by decide +kernel
theorem dX0_reckonWeek_75 : decode cX0_reckonWeek 75 = .ok (.iload 5, 2) := by decide +kernel
theorem dX0_reckonWeek_77 : decode cX0_reckonWeek 77 = .ok (.iload 6, 2) := by decide +kernel
theorem dX0_reckonWeek_79 : decode cX0_reckonWeek 79 = .ok (.isub, 1) := by decide +kernel
theorem dX0_reckonWeek_80 : decode cX0_reckonWeek 80 = .ok (.iload 4, 2) := by decide +kernel
theorem dX0_reckonWeek_82 : decode cX0_reckonWeek 82 = .ok (.aload_n 1, 1) := by decide +kernel
theorem dX0_reckonWeek_83 : decode cX0_reckonWeek 83 = .ok (.iconst 2, 1) := by decide +kernel
theorem dX0_reckonWeek_84 : decode cX0_reckonWeek 84 = .ok (.invokevirtual 60, 3) := by decide +kernel
theorem dX0_reckonWeek_87 : decode cX0_reckonWeek 87 = .ok (.imul, 1) := by decide +kernel
theorem dX0_reckonWeek_88 : decode cX0_reckonWeek 88 = .ok (.isub, 1) := by decide +kernel
theorem dX0_reckonWeek_89 : decode cX0_reckonWeek 89 = .ok (.iastore, 1) := by decide +kernel
theorem dX0_reckonWeek_90 : decode cX0_reckonWeek 90 = .ok (.return_, 1) := by decide +kernel
set_option maxRecDepth 20000 in
theorem ggX0_shareOfTakings_X0_sumOfWeek : GoodIn wsX0_shareOfTakings wsX0_sumOfWeek := goodIn_r _ [6, 7, 8, 9, 10, 11, 12, 13] (by decide +kernel) (by decide +kernel)
set_option maxRecDepth 20000 in
theorem gX0_shareOfTakings_X0_sumOfWeek : GoodIn wsX0_shareOfTakings (wsV RX0 38 RX0 yX0_sumOfWeek wsX0_sumOfWeek) := goodIn_app (goodIn_of _ (by decide +kernel)) ggX0_shareOfTakings_X0_sumOfWeek
theorem dX0_shareOfTakings_0 : decode cX0_shareOfTakings 0 = .ok (.aload_n 0, 1) := by decide +kernel
theorem dX0_shareOfTakings_1 : decode cX0_shareOfTakings 1 = .ok (.getfield 21, 3) := by decide +kernel
theorem dX0_shareOfTakings_4 : decode cX0_shareOfTakings 4 = .ok (.iload_n 1, 1) := by decide +kernel
theorem dX0_shareOfTakings_5 : decode cX0_shareOfTakings 5 = .ok (.iaload, 1) := by decide +kernel
theorem dX0_shareOfTakings_6 : decode cX0_shareOfTakings 6 = .ok (.bipush (-6), 2) := by decide +kernel
theorem dX0_shareOfTakings_8 : decode cX0_shareOfTakings 8 = .ok (.if_icmp .ne 7, 3) := by decide +kernel
theorem dX0_shareOfTakings_11 : decode cX0_shareOfTakings 11 = .ok (.iconst 0, 1) := by decide +kernel
theorem dX0_shareOfTakings_12 : decode cX0_shareOfTakings 12 = .ok (.goto 19, 3) := by decide +kernel
theorem dX0_shareOfTakings_15 : decode cX0_shareOfTakings 15 = .ok (.aload_n 0, 1) := by decide +kernel
theorem dX0_shareOfTakings_16 : decode cX0_shareOfTakings 16 = .ok (.iload_n 1, 1) := by decide +kernel
theorem dX0_shareOfTakings_17 : decode cX0_shareOfTakings 17 = .ok (.iconst 2, 1) := by decide +kernel
theorem dX0_shareOfTakings_18 : decode cX0_shareOfTakings 18 = .ok (.invokevirtual 38, 3) := by decide +kernel
theorem dX0_shareOfTakings_21 : decode cX0_shareOfTakings 21 = .ok (.aload_n 0, 1) := by decide +kernel
theorem dX0_shareOfTakings_22 : decode cX0_shareOfTakings 22 = .ok (.getfield 21, 3) := by decide +kernel
theorem dX0_shareOfTakings_25 : decode cX0_shareOfTakings 25 = .ok (.iload_n 1, 1) := by decide +kernel
theorem dX0_shareOfTakings_26 : decode cX0_shareOfTakings 26 = .ok (.iaload, 1) := by decide +kernel
theorem dX0_shareOfTakings_27 : decode cX0_shareOfTakings 27 = .ok (.imul, 1) := by decide +kernel
theorem dX0_shareOfTakings_28 : decode cX0_shareOfTakings 28 = .ok (.bipush 100, 2) := by decide +kernel
theorem dX0_shareOfTakings_30 : decode cX0_shareOfTakings 30 = .ok (.idiv, 1) := by decide +kernel
theorem dX0_shareOfTakings_31 : decode cX0_shareOfTakings 31 = .ok (.ireturn, 1) := by decide +kernel
set_option maxRecDepth 20000 in
theorem ggX0_dueAboveShare_X0_sumOfWeek : GoodIn wsX0_dueAboveShare wsX0_sumOfWeek := goodIn_r _ [5, 6, 12, 13, 14, 15, 16, 17] (by decide +kernel) (by decide +kernel)
set_option maxRecDepth 20000 in
theorem gX0_dueAboveShare_X0_sumOfWeek : GoodIn wsX0_dueAboveShare (wsV RX0 38 RX0 yX0_sumOfWeek wsX0_sumOfWeek) := goodIn_app (goodIn_of _ (by decide +kernel)) ggX0_dueAboveShare_X0_sumOfWeek
set_option maxRecDepth 20000 in
theorem ggX0_dueAboveShare_X0_shareOfTakings : GoodIn wsX0_dueAboveShare wsX0_shareOfTakings := goodIn_r _ [10, 11, 1, 2, 3, 4, 5, 6, 12, 13, 14, 15, 16, 17] (by decide +kernel) (by decide +kernel)
set_option maxRecDepth 20000 in
theorem gX0_dueAboveShare_X0_shareOfTakings : GoodIn wsX0_dueAboveShare (wsV RX0 71 RX0 yX0_shareOfTakings wsX0_shareOfTakings) := goodIn_app (goodIn_of _ (by decide +kernel)) ggX0_dueAboveShare_X0_shareOfTakings
theorem dX0_dueAboveShare_0 : decode cX0_dueAboveShare 0 = .ok (.aload_n 0, 1) := by decide +kernel
theorem dX0_dueAboveShare_1 : decode cX0_dueAboveShare 1 = .ok (.iload_n 1, 1) := by decide +kernel
theorem dX0_dueAboveShare_2 : decode cX0_dueAboveShare 2 = .ok (.iconst 3, 1) := by decide +kernel
theorem dX0_dueAboveShare_3 : decode cX0_dueAboveShare 3 = .ok (.invokevirtual 38, 3) := by decide +kernel
theorem dX0_dueAboveShare_6 : decode cX0_dueAboveShare 6 = .ok (.aload_n 0, 1) := by decide +kernel
theorem dX0_dueAboveShare_7 : decode cX0_dueAboveShare 7 = .ok (.iload_n 1, 1) := by decide +kernel
theorem dX0_dueAboveShare_8 : decode cX0_dueAboveShare 8 = .ok (.invokevirtual 71, 3) := by decide +kernel
theorem dX0_dueAboveShare_11 : decode cX0_dueAboveShare 11 = .ok (.isub, 1) := by decide +kernel
theorem dX0_dueAboveShare_12 : decode cX0_dueAboveShare 12 = .ok (.ireturn, 1) := by decide +kernel
theorem dX0_sumOfWeek_0 : decode cX0_sumOfWeek 0 = .ok (.aload_n 0, 1) := by decide +kernel
theorem dX0_sumOfWeek_1 : decode cX0_sumOfWeek 1 = .ok (.getfield 18, 3) := by decide +kernel
theorem dX0_sumOfWeek_4 : decode cX0_sumOfWeek 4 = .ok (.iload_n 1, 1) := by decide +kernel
theorem dX0_sumOfWeek_5 : decode cX0_sumOfWeek 5 = .ok (.iconst 5, 1) := by decide +kernel
theorem dX0_sumOfWeek_6 : decode cX0_sumOfWeek 6 = .ok (.imul, 1) := by decide +kernel
theorem dX0_sumOfWeek_7 : decode cX0_sumOfWeek 7 = .ok (.iload_n 2, 1) := by decide +kernel
theorem dX0_sumOfWeek_8 : decode cX0_sumOfWeek 8 = .ok (.iadd, 1) := by decide +kernel
theorem dX0_sumOfWeek_9 : decode cX0_sumOfWeek 9 = .ok (.iaload, 1) := by decide +kernel
theorem dX0_sumOfWeek_10 : decode cX0_sumOfWeek 10 = .ok (.ireturn, 1) := by decide +kernel
set_option maxRecDepth 20000 in
theorem ggX0_sum_X0_sumOfWeek : GoodIn wsX0_sum wsX0_sumOfWeek := goodIn_r _ [5, 6, 7, 8, 9, 10, 11, 12] (by decide +kernel) (by decide +kernel)
set_option maxRecDepth 20000 in
theorem gX0_sum_X0_sumOfWeek : GoodIn wsX0_sum (wsV RX0 38 RX0 yX0_sumOfWeek wsX0_sumOfWeek) := goodIn_app (goodIn_of _ (by decide +kernel)) ggX0_sum_X0_sumOfWeek
theorem dX0_sum_0 : decode cX0_sum 0 = .ok (.iconst 0, 1) := by decide +kernel
theorem dX0_sum_1 : decode cX0_sum 1 = .ok (.istore_n 2, 1) := by decide +kernel
theorem dX0_sum_2 : decode cX0_sum 2 = .ok (.iconst 0, 1) := by decide +kernel
theorem dX0_sum_3 : decode cX0_sum 3 = .ok (.istore_n 3, 1) := by decide +kernel
theorem dX0_sum_4 : decode cX0_sum 4 = .ok (.iload_n 3, 1) := by decide +kernel
theorem dX0_sum_5 : decode cX0_sum 5 = .ok (.iconst 5, 1) := by decide +kernel
theorem dX0_sum_6 : decode cX0_sum 6 = .ok (.if_icmp .ge 18, 3) := by decide +kernel
theorem dX0_sum_9 : decode cX0_sum 9 = .ok (.iload_n 2, 1) := by decide +kernel
theorem dX0_sum_10 : decode cX0_sum 10 = .ok (.aload_n 0, 1) := by decide +kernel
theorem dX0_sum_11 : decode cX0_sum 11 = .ok (.iload_n 3, 1) := by decide +kernel
theorem dX0_sum_12 : decode cX0_sum 12 = .ok (.iload_n 1, 1) := by decide +kernel
theorem dX0_sum_13 : decode cX0_sum 13 = .ok (.invokevirtual 38, 3) := by decide +kernel
theorem dX0_sum_16 : decode cX0_sum 16 = .ok (.iadd, 1) := by decide +kernel
theorem dX0_sum_17 : decode cX0_sum 17 = .ok (.istore_n 2, 1) := by decide +kernel
theorem dX0_sum_18 : decode cX0_sum 18 = .ok (.iinc 3 1, 3) := by decide +kernel
theorem dX0_sum_21 : decode cX0_sum 21 = .ok (.goto (-17), 3) := by decide +kernel
theorem dX0_sum_24 : decode cX0_sum 24 = .ok (.iload_n 2, 1) := by decide +kernel
theorem dX0_sum_25 : decode cX0_sum 25 = .ok (.ireturn, 1) := by decide +kernel
theorem dX0_shareIn_0 : decode cX0_shareIn 0 = .ok (.aload_n 0, 1) := by decide +kernel
theorem dX0_shareIn_1 : decode cX0_shareIn 1 = .ok (.getfield 21, 3) := by decide +kernel
theorem dX0_shareIn_4 : decode cX0_shareIn 4 = .ok (.iload_n 1, 1) := by decide +kernel
theorem dX0_shareIn_5 : decode cX0_shareIn 5 = .ok (.iaload, 1) := by decide +kernel
theorem dX0_shareIn_6 : decode cX0_shareIn 6 = .ok (.ireturn, 1) := by decide +kernel
theorem dX0_peopleAt_0 : decode cX0_peopleAt 0 = .ok (.aload_n 0, 1) := by decide +kernel
theorem dX0_peopleAt_1 : decode cX0_peopleAt 1 = .ok (.getfield 9, 3) := by decide +kernel
theorem dX0_peopleAt_4 : decode cX0_peopleAt 4 = .ok (.iload_n 1, 1) := by decide +kernel
theorem dX0_peopleAt_5 : decode cX0_peopleAt 5 = .ok (.iaload, 1) := by decide +kernel
theorem dX0_peopleAt_6 : decode cX0_peopleAt 6 = .ok (.ireturn, 1) := by decide +kernel
theorem dX0_leftBehind_0 : decode cX0_leftBehind 0 = .ok (.aload_n 0, 1) := by decide +kernel
theorem dX0_leftBehind_1 : decode cX0_leftBehind 1 = .ok (.getfield 15, 3) := by decide +kernel
theorem dX0_leftBehind_4 : decode cX0_leftBehind 4 = .ok (.iload_n 1, 1) := by decide +kernel
theorem dX0_leftBehind_5 : decode cX0_leftBehind 5 = .ok (.iaload, 1) := by decide +kernel
theorem dX0_leftBehind_6 : decode cX0_leftBehind 6 = .ok (.ireturn, 1) := by decide +kernel
theorem dX0_fullShows_0 : decode cX0_fullShows 0 = .ok (.aload_n 0, 1) := by decide +kernel
theorem dX0_fullShows_1 : decode cX0_fullShows 1 = .ok (.getfield 30, 3) := by decide +kernel
theorem dX0_fullShows_4 : decode cX0_fullShows 4 = .ok (.ireturn, 1) := by decide +kernel
theorem dX0_leftAtEnd_0 : decode cX0_leftAtEnd 0 = .ok (.aload_n 0, 1) := by decide +kernel
theorem dX0_leftAtEnd_1 : decode cX0_leftAtEnd 1 = .ok (.getfield 49, 3) := by decide +kernel
theorem dX0_leftAtEnd_4 : decode cX0_leftAtEnd 4 = .ok (.ireturn, 1) := by decide +kernel
theorem dX1_init_0 : decode cX1_init 0 = .ok (.aload_n 0, 1) := by decide +kernel
theorem dX1_init_1 : decode cX1_init 1 = .ok (.invokespecial 5, 3) := by decide +kernel
theorem dX1_init_4 : decode cX1_init 4 = .ok (.aload_n 0, 1) := by decide +kernel
theorem dX1_init_5 : decode cX1_init 5 = .ok (.sipush 151, 3) := by decide +kernel
theorem dX1_init_8 : decode cX1_init 8 = .ok (.newarray .int, 2) := by decide +kernel
theorem dX1_init_10 : decode cX1_init 10 = .ok (.putfield 11, 3) := by decide +kernel
theorem dX1_init_13 : decode cX1_init 13 = .ok (.getstatic 15, 3) := by decide +kernel
theorem dX1_init_16 : decode cX1_init 16 = .ok (.iconst 0, 1) := by decide +kernel
theorem dX1_init_17 : decode cX1_init 17 = .ok (.aload_n 0, 1) := by decide +kernel
theorem dX1_init_18 : decode cX1_init 18 = .ok (.getfield 11, 3) := by decide +kernel
theorem dX1_init_21 : decode cX1_init 21 = .ok (.iconst 0, 1) := by decide +kernel
theorem dX1_init_22 : decode cX1_init 22 = .ok (.iconst 5, 1) := by decide +kernel
theorem dX1_init_23 : decode cX1_init 23 = .ok (.invokestatic 18, 3) := by decide +kernel
theorem dX1_init_26 : decode cX1_init 26 = .ok (.iconst 0, 1) := by decide +kernel
theorem dX1_init_27 : decode cX1_init 27 = .ok (.istore_n 1, 1) := by decide +kernel
theorem dX1_init_28 : decode cX1_init 28 = .ok (.iload_n 1, 1) := by decide +kernel
theorem dX1_init_29 : decode cX1_init 29 = .ok (.bipush 70, 2) := by decide +kernel
theorem dX1_init_31 : decode cX1_init 31 = .ok (.if_icmp .ge 20, 3) := by decide +kernel
theorem dX1_init_34 : decode cX1_init 34 = .ok (.aload_n 0, 1) := by decide +kernel
theorem dX1_init_35 : decode cX1_init 35 = .ok (.getfield 11, 3) := by decide +kernel
theorem dX1_init_38 : decode cX1_init 38 = .ok (.bipush 46, 2) := by decide +kernel
theorem dX1_init_40 : decode cX1_init 40 = .ok (.iload_n 1, 1) := by decide +kernel
theorem dX1_init_41 : decode cX1_init 41 = .ok (.iadd, 1) := by decide +kernel
theorem dX1_init_42 : decode cX1_init 42 = .ok (.bipush (-6), 2) := by decide +kernel
theorem dX1_init_44 : decode cX1_init 44 = .ok (.iastore, 1) := by decide +kernel
theorem dX1_init_45 : decode cX1_init 45 = .ok (.iinc 1 1, 3) := by decide +kernel
theorem dX1_init_48 : decode cX1_init 48 = .ok (.goto (-20), 3) := by decide +kernel
theorem dX1_init_51 : decode cX1_init 51 = .ok (.return_, 1) := by decide +kernel
theorem dX1_copyTo_0 : decode cX1_copyTo 0 = .ok (.aload_n 0, 1) := by decide +kernel
theorem dX1_copyTo_1 : decode cX1_copyTo 1 = .ok (.getfield 11, 3) := by decide +kernel
theorem dX1_copyTo_4 : decode cX1_copyTo 4 = .ok (.iconst 0, 1) := by decide +kernel
theorem dX1_copyTo_5 : decode cX1_copyTo 5 = .ok (.aload_n 1, 1) := by decide +kernel
theorem dX1_copyTo_6 : decode cX1_copyTo 6 = .ok (.iconst 0, 1) := by decide +kernel
theorem dX1_copyTo_7 : decode cX1_copyTo 7 = .ok (.sipush 151, 3) := by decide +kernel
theorem dX1_copyTo_10 : decode cX1_copyTo 10 = .ok (.invokestatic 18, 3) := by decide +kernel
theorem dX1_copyTo_13 : decode cX1_copyTo 13 = .ok (.return_, 1) := by decide +kernel
theorem dX1_copyFrom_0 : decode cX1_copyFrom 0 = .ok (.aload_n 1, 1) := by decide +kernel
theorem dX1_copyFrom_1 : decode cX1_copyFrom 1 = .ok (.iconst 0, 1) := by decide +kernel
theorem dX1_copyFrom_2 : decode cX1_copyFrom 2 = .ok (.aload_n 0, 1) := by decide +kernel
theorem dX1_copyFrom_3 : decode cX1_copyFrom 3 = .ok (.getfield 11, 3) := by decide +kernel
theorem dX1_copyFrom_6 : decode cX1_copyFrom 6 = .ok (.iconst 0, 1) := by decide +kernel
theorem dX1_copyFrom_7 : decode cX1_copyFrom 7 = .ok (.sipush 151, 3) := by decide +kernel
theorem dX1_copyFrom_10 : decode cX1_copyFrom 10 = .ok (.invokestatic 18, 3) := by decide +kernel
theorem dX1_copyFrom_13 : decode cX1_copyFrom 13 = .ok (.return_, 1) := by decide +kernel
theorem dX1_setting_0 : decode cX1_setting 0 = .ok (.aload_n 0, 1) := by decide +kernel
theorem dX1_setting_1 : decode cX1_setting 1 = .ok (.getfield 11, 3) := by decide +kernel
theorem dX1_setting_4 : decode cX1_setting 4 = .ok (.iload_n 1, 1) := by decide +kernel
theorem dX1_setting_5 : decode cX1_setting 5 = .ok (.iaload, 1) := by decide +kernel
theorem dX1_setting_6 : decode cX1_setting 6 = .ok (.ireturn, 1) := by decide +kernel
theorem dX1_changeSetting_0 : decode cX1_changeSetting 0 = .ok (.aload_n 0, 1) := by decide +kernel
theorem dX1_changeSetting_1 : decode cX1_changeSetting 1 = .ok (.getfield 11, 3) := by decide +kernel
theorem dX1_changeSetting_4 : decode cX1_changeSetting 4 = .ok (.iload_n 1, 1) := by decide +kernel
theorem dX1_changeSetting_5 : decode cX1_changeSetting 5 = .ok (.iaload, 1) := by decide +kernel
theorem dX1_changeSetting_6 : decode cX1_changeSetting 6 = .ok (.istore_n 3, 1) := by decide +kernel
theorem dX1_changeSetting_7 : decode cX1_changeSetting 7 = .ok (.aload_n 0, 1) := by decide +kernel
theorem dX1_changeSetting_8 : decode cX1_changeSetting 8 = .ok (.getfield 11, 3) := by decide +kernel
theorem dX1_changeSetting_11 : decode cX1_changeSetting 11 = .ok (.iload_n 1, 1) := by decide +kernel
theorem dX1_changeSetting_12 : decode cX1_changeSetting 12 = .ok (.iload_n 2, 1) := by decide +kernel
theorem dX1_changeSetting_13 : decode cX1_changeSetting 13 = .ok (.iastore, 1) := by decide +kernel
theorem dX1_changeSetting_14 : decode cX1_changeSetting 14 = .ok (.iload_n 3, 1) := by decide +kernel
theorem dX1_changeSetting_15 : decode cX1_changeSetting 15 = .ok (.ireturn, 1) := by decide +kernel
theorem dX1_films_0 : decode cX1_films 0 = .ok (.aload_n 0, 1) := by decide +kernel
theorem dX1_films_1 : decode cX1_films 1 = .ok (.getfield 11, 3) := by decide +kernel
theorem dX1_films_4 : decode cX1_films 4 = .ok (.iconst 5, 1) := by decide +kernel
theorem dX1_films_5 : decode cX1_films 5 = .ok (.iaload, 1) := by decide +kernel
theorem dX1_films_6 : decode cX1_films 6 = .ok (.ireturn, 1) := by decide +kernel
set_option maxRecDepth 20000 in
theorem ggX1_hasFilm_X1_films : GoodIn wsX1_hasFilm wsX1_films := goodIn_r _ [5, 6, 7] (by decide +kernel) (by decide +kernel)
set_option maxRecDepth 20000 in
theorem gX1_hasFilm_X1_films : GoodIn wsX1_hasFilm (wsV RX1 24 RX1 yX1_films wsX1_films) := goodIn_app (goodIn_of _ (by decide +kernel)) ggX1_hasFilm_X1_films
theorem dX1_hasFilm_0 : decode cX1_hasFilm 0 = .ok (.iload_n 1, 1) := by decide +kernel
theorem dX1_hasFilm_1 : decode cX1_hasFilm 1 = .ok (.ifCond .lt 15, 3) := by decide +kernel
theorem dX1_hasFilm_4 : decode cX1_hasFilm 4 = .ok (.iload_n 1, 1) := by decide +kernel
theorem dX1_hasFilm_5 : decode cX1_hasFilm 5 = .ok (.aload_n 0, 1) := by decide +kernel
theorem dX1_hasFilm_6 : decode cX1_hasFilm 6 = .ok (.invokevirtual 24, 3) := by decide +kernel
theorem dX1_hasFilm_9 : decode cX1_hasFilm 9 = .ok (.if_icmp .ge 7, 3) := by decide +kernel
theorem dX1_hasFilm_12 : decode cX1_hasFilm 12 = .ok (.iconst 1, 1) := by decide +kernel
theorem dX1_hasFilm_13 : decode cX1_hasFilm 13 = .ok (.goto 4, 3) := by decide +kernel
theorem dX1_hasFilm_16 : decode cX1_hasFilm 16 = .ok (.iconst 0, 1) := by decide +kernel
theorem dX1_hasFilm_17 : decode cX1_hasFilm 17 = .ok (.ireturn, 1) := by decide +kernel
set_option maxRecDepth 20000 in
theorem ggX1_addFilm_X1_films : GoodIn wsX1_addFilm wsX1_films := goodIn_r _ [6, 1, 7] (by decide +kernel) (by decide +kernel)
set_option maxRecDepth 20000 in
theorem gX1_addFilm_X1_films : GoodIn wsX1_addFilm (wsV RX1 24 RX1 yX1_films wsX1_films) := goodIn_app (goodIn_of _ (by decide +kernel)) ggX1_addFilm_X1_films
theorem dX1_addFilm_0 : decode cX1_addFilm 0 = .ok (.aload_n 0, 1) := by decide +kernel
theorem dX1_addFilm_1 : decode cX1_addFilm 1 = .ok (.invokevirtual 24, 3) := by decide +kernel
theorem dX1_addFilm_4 : decode cX1_addFilm 4 = .ok (.istore 6, 2) := by decide +kernel
theorem dX1_addFilm_6 : decode cX1_addFilm 6 = .ok (.bipush 6, 2) := by decide +kernel
theorem dX1_addFilm_8 : decode cX1_addFilm 8 = .ok (.iload 6, 2) := by decide +kernel
theorem dX1_addFilm_10 : decode cX1_addFilm 10 = .ok (.iconst 5, 1) := by decide +kernel
theorem dX1_addFilm_11 : decode cX1_addFilm 11 = .ok (.imul, 1) := by decide +kernel
theorem dX1_addFilm_12 : decode cX1_addFilm 12 = .ok (.iadd, 1) := by decide +kernel
theorem dX1_addFilm_13 : decode cX1_addFilm 13 = .ok (.istore 7, 2) := by decide +kernel
theorem dX1_addFilm_15 : decode cX1_addFilm 15 = .ok (.aload_n 0, 1) := by decide +kernel
theorem dX1_addFilm_16 : decode cX1_addFilm 16 = .ok (.getfield 11, 3) := by decide +kernel
theorem dX1_addFilm_19 : decode cX1_addFilm 19 = .ok (.iload 7, 2) := by decide +kernel
theorem dX1_addFilm_21 : decode cX1_addFilm 21 = .ok (.iconst 0, 1) := by decide +kernel
theorem dX1_addFilm_22 : decode cX1_addFilm 22 = .ok (.iadd, 1) := by decide +kernel
theorem dX1_addFilm_23 : decode cX1_addFilm 23 = .ok (.iload_n 1, 1) := by decide +kernel
theorem dX1_addFilm_24 : decode cX1_addFilm 24 = .ok (.iastore, 1) := by decide +kernel
theorem dX1_addFilm_25 : decode cX1_addFilm 25 = .ok (.aload_n 0, 1) := by decide +kernel
theorem dX1_addFilm_26 : decode cX1_addFilm 26 = .ok (.getfield 11, 3) := by decide +kernel
theorem dX1_addFilm_29 : decode cX1_addFilm 29 = .ok (.iload 7, 2) := by decide +kernel
theorem dX1_addFilm_31 : decode cX1_addFilm 31 = .ok (.iconst 1, 1) := by decide +kernel
theorem dX1_addFilm_32 : decode cX1_addFilm 32 = .ok (.iadd, 1) := by decide +kernel
theorem dX1_addFilm_33 : decode cX1_addFilm 33 = .ok (.iload_n 2, 1) := by decide +kernel
theorem dX1_addFilm_34 : decode cX1_addFilm 34 = .ok (.iastore, 1) := by decide +kernel
theorem dX1_addFilm_35 : decode cX1_addFilm 35 = .ok (.aload_n 0, 1) := by decide +kernel
theorem dX1_addFilm_36 : decode cX1_addFilm 36 = .ok (.getfield 11, 3) := by decide +kernel
theorem dX1_addFilm_39 : decode cX1_addFilm 39 = .ok (.iload 7, 2) := by decide +kernel
theorem dX1_addFilm_41 : decode cX1_addFilm 41 = .ok (.iconst 2, 1) := by decide +kernel
theorem dX1_addFilm_42 : decode cX1_addFilm 42 = .ok (.iadd, 1) := by decide +kernel
theorem dX1_addFilm_43 : decode cX1_addFilm 43 = .ok (.iload_n 3, 1) := by decide +kernel
theorem dX1_addFilm_44 : decode cX1_addFilm 44 = .ok (.iastore, 1) := by decide +kernel
theorem dX1_addFilm_45 : decode cX1_addFilm 45 = .ok (.aload_n 0, 1) := by decide +kernel
theorem dX1_addFilm_46 : decode cX1_addFilm 46 = .ok (.getfield 11, 3) := by decide +kernel
theorem dX1_addFilm_49 : decode cX1_addFilm 49 = .ok (.iload 7, 2) := by decide +kernel
theorem dX1_addFilm_51 : decode cX1_addFilm 51 = .ok (.iconst 3, 1) := by decide +kernel
theorem dX1_addFilm_52 : decode cX1_addFilm 52 = .ok (.iadd, 1) := by decide +kernel
theorem dX1_addFilm_53 : decode cX1_addFilm 53 = .ok (.iload 4, 2) := by decide +kernel
theorem dX1_addFilm_55 : decode cX1_addFilm 55 = .ok (.iastore, 1) := by decide +kernel
theorem dX1_addFilm_56 : decode cX1_addFilm 56 = .ok (.aload_n 0, 1) := by decide +kernel
theorem dX1_addFilm_57 : decode cX1_addFilm 57 = .ok (.getfield 11, 3) := by decide +kernel
theorem dX1_addFilm_60 : decode cX1_addFilm 60 = .ok (.iload 7, 2) := by decide +kernel
theorem dX1_addFilm_62 : decode cX1_addFilm 62 = .ok (.iconst 4, 1) := by decide +kernel
theorem dX1_addFilm_63 : decode cX1_addFilm 63 = .ok (.iadd, 1) := by decide +kernel
theorem dX1_addFilm_64 : decode cX1_addFilm 64 = .ok (.iload 5, 2) := by decide +kernel
theorem dX1_addFilm_66 : decode cX1_addFilm 66 = .ok (.iastore, 1) := by decide +kernel
theorem dX1_addFilm_67 : decode cX1_addFilm 67 = .ok (.aload_n 0, 1) := by decide +kernel
theorem dX1_addFilm_68 : decode cX1_addFilm 68 = .ok (.getfield 11, 3) := by decide +kernel
theorem dX1_addFilm_71 : decode cX1_addFilm 71 = .ok (.iconst 5, 1) := by decide +kernel
theorem dX1_addFilm_72 : decode cX1_addFilm 72 = .ok (.iload 6, 2) := by decide +kernel
theorem dX1_addFilm_74 : decode cX1_addFilm 74 = .ok (.iconst 1, 1) := by decide +kernel
theorem dX1_addFilm_75 : decode cX1_addFilm 75 = .ok (.iadd, 1) := by decide +kernel
theorem dX1_addFilm_76 : decode cX1_addFilm 76 = .ok (.iastore, 1) := by decide +kernel
theorem dX1_addFilm_77 : decode cX1_addFilm 77 = .ok (.iload 6, 2) := by decide +kernel
theorem dX1_addFilm_79 : decode cX1_addFilm 79 = .ok (.ireturn, 1) := by decide +kernel
theorem dX1_fact_0 : decode cX1_fact 0 = .ok (.aload_n 0, 1) := by decide +kernel
theorem dX1_fact_1 : decode cX1_fact 1 = .ok (.getfield 11, 3) := by decide +kernel
theorem dX1_fact_4 : decode cX1_fact 4 = .ok (.bipush 6, 2) := by decide +kernel
theorem dX1_fact_6 : decode cX1_fact 6 = .ok (.iload_n 1, 1) := by decide +kernel
theorem dX1_fact_7 : decode cX1_fact 7 = .ok (.iconst 5, 1) := by decide +kernel
theorem dX1_fact_8 : decode cX1_fact 8 = .ok (.imul, 1) := by decide +kernel
theorem dX1_fact_9 : decode cX1_fact 9 = .ok (.iadd, 1) := by decide +kernel
theorem dX1_fact_10 : decode cX1_fact 10 = .ok (.iload_n 2, 1) := by decide +kernel
theorem dX1_fact_11 : decode cX1_fact 11 = .ok (.iadd, 1) := by decide +kernel
theorem dX1_fact_12 : decode cX1_fact 12 = .ok (.iaload, 1) := by decide +kernel
theorem dX1_fact_13 : decode cX1_fact 13 = .ok (.ireturn, 1) := by decide +kernel
theorem dX1_showAt_0 : decode cX1_showAt 0 = .ok (.aload_n 0, 1) := by decide +kernel
theorem dX1_showAt_1 : decode cX1_showAt 1 = .ok (.getfield 11, 3) := by decide +kernel
theorem dX1_showAt_4 : decode cX1_showAt 4 = .ok (.bipush 46, 2) := by decide +kernel
theorem dX1_showAt_6 : decode cX1_showAt 6 = .ok (.iload_n 1, 1) := by decide +kernel
theorem dX1_showAt_7 : decode cX1_showAt 7 = .ok (.iadd, 1) := by decide +kernel
theorem dX1_showAt_8 : decode cX1_showAt 8 = .ok (.iaload, 1) := by decide +kernel
theorem dX1_showAt_9 : decode cX1_showAt 9 = .ok (.ireturn, 1) := by decide +kernel
theorem dX1_replaceShow_0 : decode cX1_replaceShow 0 = .ok (.aload_n 0, 1) := by decide +kernel
theorem dX1_replaceShow_1 : decode cX1_replaceShow 1 = .ok (.getfield 11, 3) := by decide +kernel
theorem dX1_replaceShow_4 : decode cX1_replaceShow 4 = .ok (.bipush 46, 2) := by decide +kernel
theorem dX1_replaceShow_6 : decode cX1_replaceShow 6 = .ok (.iload_n 1, 1) := by decide +kernel
theorem dX1_replaceShow_7 : decode cX1_replaceShow 7 = .ok (.iadd, 1) := by decide +kernel
theorem dX1_replaceShow_8 : decode cX1_replaceShow 8 = .ok (.iaload, 1) := by decide +kernel
theorem dX1_replaceShow_9 : decode cX1_replaceShow 9 = .ok (.istore_n 3, 1) := by decide +kernel
theorem dX1_replaceShow_10 : decode cX1_replaceShow 10 = .ok (.aload_n 0, 1) := by decide +kernel
theorem dX1_replaceShow_11 : decode cX1_replaceShow 11 = .ok (.getfield 11, 3) := by decide +kernel
theorem dX1_replaceShow_14 : decode cX1_replaceShow 14 = .ok (.bipush 46, 2) := by decide +kernel
theorem dX1_replaceShow_16 : decode cX1_replaceShow 16 = .ok (.iload_n 1, 1) := by decide +kernel
theorem dX1_replaceShow_17 : decode cX1_replaceShow 17 = .ok (.iadd, 1) := by decide +kernel
theorem dX1_replaceShow_18 : decode cX1_replaceShow 18 = .ok (.iload_n 2, 1) := by decide +kernel
theorem dX1_replaceShow_19 : decode cX1_replaceShow 19 = .ok (.iastore, 1) := by decide +kernel
theorem dX1_replaceShow_20 : decode cX1_replaceShow 20 = .ok (.iload_n 3, 1) := by decide +kernel
theorem dX1_replaceShow_21 : decode cX1_replaceShow 21 = .ok (.ireturn, 1) := by decide +kernel
set_option maxRecDepth 20000 in
theorem ggX1_canHold_X1_rentOf : GoodIn wsX1_canHold wsX1_rentOf := goodIn_r _ [5, 6, 19] (by decide +kernel) (by decide +kernel)
set_option maxRecDepth 20000 in
theorem gX1_canHold_X1_rentOf : GoodIn wsX1_canHold (wsV RX1 28 RX1 yX1_rentOf wsX1_rentOf) := goodIn_app (goodIn_of _ (by decide +kernel)) ggX1_canHold_X1_rentOf
set_option maxRecDepth 20000 in
theorem ggX1_canHold_X1_hasFilm : GoodIn wsX1_canHold wsX1_hasFilm := goodIn_r _ [10, 11, 12, 13, 4, 14, 6, 19] (by decide +kernel) (by decide +kernel)
set_option maxRecDepth 20000 in
theorem gX1_canHold_X1_hasFilm : GoodIn wsX1_canHold (wsV RX1 32 RX1 yX1_hasFilm wsX1_hasFilm) := goodIn_app (goodIn_of _ (by decide +kernel)) ggX1_canHold_X1_hasFilm
set_option maxRecDepth 20000 in
theorem ggX1_canHold_X1_fact : GoodIn wsX1_canHold wsX1_fact := goodIn_r _ [18, 6, 19] (by decide +kernel) (by decide +kernel)
set_option maxRecDepth 20000 in
theorem gX1_canHold_X1_fact : GoodIn wsX1_canHold (wsV RX1 36 RX1 yX1_fact wsX1_fact) := goodIn_app (goodIn_of _ (by decide +kernel)) ggX1_canHold_X1_fact
theorem dX1_canHold_0 : decode cX1_canHold 0 = .ok (.aload_n 0, 1) := by decide +kernel
theorem dX1_canHold_1 : decode cX1_canHold 1 = .ok (.iload_n 1, 1) := by decide +kernel
theorem dX1_canHold_2 : decode cX1_canHold 2 = .ok (.invokevirtual 28, 3) := by decide +kernel
theorem dX1_canHold_5 : decode cX1_canHold 5 = .ok (.ifCond .eq 5, 3) := by decide +kernel
theorem dX1_canHold_8 : decode cX1_canHold 8 = .ok (.iconst 0, 1) := by decide +kernel
theorem dX1_canHold_9 : decode cX1_canHold 9 = .ok (.ireturn, 1) := by decide +kernel
theorem dX1_canHold_10 : decode cX1_canHold 10 = .ok (.aload_n 0, 1) := by decide +kernel
theorem dX1_canHold_11 : decode cX1_canHold 11 = .ok (.iload_n 2, 1) := by decide +kernel
theorem dX1_canHold_12 : decode cX1_canHold 12 = .ok (.invokevirtual 32, 3) := by decide +kernel
theorem dX1_canHold_15 : decode cX1_canHold 15 = .ok (.ifCond .eq 13, 3) := by decide +kernel
theorem dX1_canHold_18 : decode cX1_canHold 18 = .ok (.aload_n 0, 1) := by decide +kernel
theorem dX1_canHold_19 : decode cX1_canHold 19 = .ok (.iload_n 2, 1) := by decide +kernel
theorem dX1_canHold_20 : decode cX1_canHold 20 = .ok (.iconst 4, 1) := by decide +kernel
theorem dX1_canHold_21 : decode cX1_canHold 21 = .ok (.invokevirtual 36, 3) := by decide +kernel
theorem dX1_canHold_24 : decode cX1_canHold 24 = .ok (.iload_n 1, 1) := by decide +kernel
theorem dX1_canHold_25 : decode cX1_canHold 25 = .ok (.if_icmp .gt 7, 3) := by decide +kernel
theorem dX1_canHold_28 : decode cX1_canHold 28 = .ok (.iconst 1, 1) := by decide +kernel
theorem dX1_canHold_29 : decode cX1_canHold 29 = .ok (.goto 4, 3) := by decide +kernel
theorem dX1_canHold_32 : decode cX1_canHold 32 = .ok (.iconst 0, 1) := by decide +kernel
theorem dX1_canHold_33 : decode cX1_canHold 33 = .ok (.ireturn, 1) := by decide +kernel
set_option maxRecDepth 20000 in
theorem ggX1_shows_X1_showAt : GoodIn wsX1_shows wsX1_showAt := goodIn_r _ [5, 6, 7] (by decide +kernel) (by decide +kernel)
set_option maxRecDepth 20000 in
theorem gX1_shows_X1_showAt : GoodIn wsX1_shows (wsV RX1 40 RX1 yX1_showAt wsX1_showAt) := goodIn_app (goodIn_of _ (by decide +kernel)) ggX1_shows_X1_showAt
theorem dX1_shows_0 : decode cX1_shows 0 = .ok (.iconst 0, 1) := by decide +kernel
theorem dX1_shows_1 : decode cX1_shows 1 = .ok (.istore_n 1, 1) := by decide +kernel
theorem dX1_shows_2 : decode cX1_shows 2 = .ok (.iconst 0, 1) := by decide +kernel
theorem dX1_shows_3 : decode cX1_shows 3 = .ok (.istore_n 2, 1) := by decide +kernel
theorem dX1_shows_4 : decode cX1_shows 4 = .ok (.iload_n 2, 1) := by decide +kernel
theorem dX1_shows_5 : decode cX1_shows 5 = .ok (.bipush 70, 2) := by decide +kernel
theorem dX1_shows_7 : decode cX1_shows 7 = .ok (.if_icmp .ge 22, 3) := by decide +kernel
theorem dX1_shows_10 : decode cX1_shows 10 = .ok (.aload_n 0, 1) := by decide +kernel
theorem dX1_shows_11 : decode cX1_shows 11 = .ok (.iload_n 2, 1) := by decide +kernel
theorem dX1_shows_12 : decode cX1_shows 12 = .ok (.invokevirtual 40, 3) := by decide +kernel
theorem dX1_shows_15 : decode cX1_shows 15 = .ok (.bipush (-6), 2) := by decide +kernel
theorem dX1_shows_17 : decode cX1_shows 17 = .ok (.if_icmp .eq 6, 3) := by decide +kernel
theorem dX1_shows_20 : decode cX1_shows 20 = .ok (.iinc 1 1, 3) := by decide +kernel
theorem dX1_shows_23 : decode cX1_shows 23 = .ok (.iinc 2 1, 3) := by decide +kernel
theorem dX1_shows_26 : decode cX1_shows 26 = .ok (.goto (-22), 3) := by decide +kernel
theorem dX1_shows_29 : decode cX1_shows 29 = .ok (.iload_n 1, 1) := by decide +kernel
theorem dX1_shows_30 : decode cX1_shows 30 = .ok (.ireturn, 1) := by decide +kernel
set_option maxRecDepth 20000 in
theorem ggX1_firstDayShown_X1_showAt : GoodIn wsX1_firstDayShown wsX1_showAt := goodIn_r _ [5, 6, 7] (by decide +kernel) (by decide +kernel)
set_option maxRecDepth 20000 in
theorem gX1_firstDayShown_X1_showAt : GoodIn wsX1_firstDayShown (wsV RX1 40 RX1 yX1_showAt wsX1_showAt) := goodIn_app (goodIn_of _ (by decide +kernel)) ggX1_firstDayShown_X1_showAt
theorem dX1_firstDayShown_0 : decode cX1_firstDayShown 0 = .ok (.iconst 0, 1) := by decide +kernel
theorem dX1_firstDayShown_1 : decode cX1_firstDayShown 1 = .ok (.istore_n 2, 1) := by decide +kernel
theorem dX1_firstDayShown_2 : decode cX1_firstDayShown 2 = .ok (.iload_n 2, 1) := by decide +kernel
theorem dX1_firstDayShown_3 : decode cX1_firstDayShown 3 = .ok (.bipush 70, 2) := by decide +kernel
theorem dX1_firstDayShown_5 : decode cX1_firstDayShown 5 = .ok (.if_icmp .ge 22, 3) := by decide +kernel
theorem dX1_firstDayShown_8 : decode cX1_firstDayShown 8 = .ok (.aload_n 0, 1) := by decide +kernel
theorem dX1_firstDayShown_9 : decode cX1_firstDayShown 9 = .ok (.iload_n 2, 1) := by decide +kernel
theorem dX1_firstDayShown_10 : decode cX1_firstDayShown 10 = .ok (.invokevirtual 40, 3) := by decide +kernel
theorem dX1_firstDayShown_13 : decode cX1_firstDayShown 13 = .ok (.iload_n 1, 1) := by decide +kernel
theorem dX1_firstDayShown_14 : decode cX1_firstDayShown 14 = .ok (.if_icmp .ne 7, 3) := by decide +kernel
theorem dX1_firstDayShown_17 : decode cX1_firstDayShown 17 = .ok (.iload_n 2, 1) := by decide +kernel
theorem dX1_firstDayShown_18 : decode cX1_firstDayShown 18 = .ok (.iconst 2, 1) := by decide +kernel
theorem dX1_firstDayShown_19 : decode cX1_firstDayShown 19 = .ok (.idiv, 1) := by decide +kernel
theorem dX1_firstDayShown_20 : decode cX1_firstDayShown 20 = .ok (.ireturn, 1) := by decide +kernel
theorem dX1_firstDayShown_21 : decode cX1_firstDayShown 21 = .ok (.iinc 2 1, 3) := by decide +kernel
theorem dX1_firstDayShown_24 : decode cX1_firstDayShown 24 = .ok (.goto (-22), 3) := by decide +kernel
theorem dX1_firstDayShown_27 : decode cX1_firstDayShown 27 = .ok (.bipush (-6), 2) := by decide +kernel
theorem dX1_firstDayShown_29 : decode cX1_firstDayShown 29 = .ok (.ireturn, 1) := by decide +kernel
theorem dX1_rentOf_0 : decode cX1_rentOf 0 = .ok (.aload_n 0, 1) := by decide +kernel
theorem dX1_rentOf_1 : decode cX1_rentOf 1 = .ok (.getfield 11, 3) := by decide +kernel
theorem dX1_rentOf_4 : decode cX1_rentOf 4 = .ok (.bipush 116, 2) := by decide +kernel
theorem dX1_rentOf_6 : decode cX1_rentOf 6 = .ok (.iload_n 1, 1) := by decide +kernel
theorem dX1_rentOf_7 : decode cX1_rentOf 7 = .ok (.iadd, 1) := by decide +kernel
theorem dX1_rentOf_8 : decode cX1_rentOf 8 = .ok (.iaload, 1) := by decide +kernel
theorem dX1_rentOf_9 : decode cX1_rentOf 9 = .ok (.ireturn, 1) := by decide +kernel
theorem dX1_changeRent_0 : decode cX1_changeRent 0 = .ok (.aload_n 0, 1) := by decide +kernel
theorem dX1_changeRent_1 : decode cX1_changeRent 1 = .ok (.getfield 11, 3) := by decide +kernel
theorem dX1_changeRent_4 : decode cX1_changeRent 4 = .ok (.bipush 116, 2) := by decide +kernel
theorem dX1_changeRent_6 : decode cX1_changeRent 6 = .ok (.iload_n 1, 1) := by decide +kernel
theorem dX1_changeRent_7 : decode cX1_changeRent 7 = .ok (.iadd, 1) := by decide +kernel
theorem dX1_changeRent_8 : decode cX1_changeRent 8 = .ok (.iload_n 2, 1) := by decide +kernel
theorem dX1_changeRent_9 : decode cX1_changeRent 9 = .ok (.iastore, 1) := by decide +kernel
theorem dX1_changeRent_10 : decode cX1_changeRent 10 = .ok (.return_, 1) := by decide +kernel
set_option maxRecDepth 20000 in
theorem ggX1_rentsOf_X1_rentOf : GoodIn wsX1_rentsOf wsX1_rentOf := goodIn_r _ [5, 6, 7] (by decide +kernel) (by decide +kernel)
set_option maxRecDepth 20000 in
theorem gX1_rentsOf_X1_rentOf : GoodIn wsX1_rentsOf (wsV RX1 28 RX1 yX1_rentOf wsX1_rentOf) := goodIn_app (goodIn_of _ (by decide +kernel)) ggX1_rentsOf_X1_rentOf
theorem dX1_rentsOf_0 : decode cX1_rentsOf 0 = .ok (.iconst 0, 1) := by decide +kernel
theorem dX1_rentsOf_1 : decode cX1_rentsOf 1 = .ok (.istore_n 3, 1) := by decide +kernel
theorem dX1_rentsOf_2 : decode cX1_rentsOf 2 = .ok (.iload_n 1, 1) := by decide +kernel
theorem dX1_rentsOf_3 : decode cX1_rentsOf 3 = .ok (.istore 4, 2) := by decide +kernel
theorem dX1_rentsOf_5 : decode cX1_rentsOf 5 = .ok (.iload 4, 2) := by decide +kernel
theorem dX1_rentsOf_7 : decode cX1_rentsOf 7 = .ok (.iload_n 2, 1) := by decide +kernel
theorem dX1_rentsOf_8 : decode cX1_rentsOf 8 = .ok (.if_icmp .ge 18, 3) := by decide +kernel
theorem dX1_rentsOf_11 : decode cX1_rentsOf 11 = .ok (.iload_n 3, 1) := by decide +kernel
theorem dX1_rentsOf_12 : decode cX1_rentsOf 12 = .ok (.aload_n 0, 1) := by decide +kernel
theorem dX1_rentsOf_13 : decode cX1_rentsOf 13 = .ok (.iload 4, 2) := by decide +kernel
theorem dX1_rentsOf_15 : decode cX1_rentsOf 15 = .ok (.invokevirtual 28, 3) := by decide +kernel
theorem dX1_rentsOf_18 : decode cX1_rentsOf 18 = .ok (.iadd, 1) := by decide +kernel
theorem dX1_rentsOf_19 : decode cX1_rentsOf 19 = .ok (.istore_n 3, 1) := by decide +kernel
theorem dX1_rentsOf_20 : decode cX1_rentsOf 20 = .ok (.iinc 4 1, 3) := by decide +kernel
theorem dX1_rentsOf_23 : decode cX1_rentsOf 23 = .ok (.goto (-18), 3) := by decide +kernel
theorem dX1_rentsOf_26 : decode cX1_rentsOf 26 = .ok (.iload_n 3, 1) := by decide +kernel
theorem dX1_rentsOf_27 : decode cX1_rentsOf 27 = .ok (.ireturn, 1) := by decide +kernel
theorem dX2_init_0 : decode cX2_init 0 = .ok (.aload_n 0, 1) := by decide +kernel
theorem dX2_init_1 : decode cX2_init 1 = .ok (.invokespecial 1, 3) := by decide +kernel
theorem dX2_init_4 : decode cX2_init 4 = .ok (.aload_n 0, 1) := by decide +kernel
theorem dX2_init_5 : decode cX2_init 5 = .ok (.bipush 6, 2) := by decide +kernel
theorem dX2_init_7 : decode cX2_init 7 = .ok (.sipush 151, 3) := by decide +kernel
theorem dX2_init_10 : decode cX2_init 10 = .ok (.multianewarray 11 2, 4) := by decide +kernel
theorem dX2_init_14 : decode cX2_init 14 = .ok (.putfield 13, 3) := by decide +kernel
theorem dX2_init_17 : decode cX2_init 17 = .ok (.return_, 1) := by decide +kernel
theorem dX2_size_0 : decode cX2_size 0 = .ok (.aload_n 0, 1) := by decide +kernel
theorem dX2_size_1 : decode cX2_size 1 = .ok (.getfield 16, 3) := by decide +kernel
theorem dX2_size_4 : decode cX2_size 4 = .ok (.ireturn, 1) := by decide +kernel
set_option maxRecDepth 20000 in
theorem ggX2_record_X1_copyTo : GoodIn wsX2_record wsX1_copyTo := goodIn_r _ [8, 9, 10, 11, 12, 13, 17] (by decide +kernel) (by decide +kernel)
set_option maxRecDepth 20000 in
theorem gX2_record_X1_copyTo : GoodIn wsX2_record (wsV RX2 23 RX1 yX1_copyTo wsX1_copyTo) := goodIn_app (goodIn_of _ (by decide +kernel)) ggX2_record_X1_copyTo
theorem dX2_record_0 : decode cX2_record 0 = .ok (.aload_n 1, 1) := by decide +kernel
theorem dX2_record_1 : decode cX2_record 1 = .ok (.aload_n 0, 1) := by decide +kernel
theorem dX2_record_2 : decode cX2_record 2 = .ok (.getfield 13, 3) := by decide +kernel
theorem dX2_record_5 : decode cX2_record 5 = .ok (.aload_n 0, 1) := by decide +kernel
theorem dX2_record_6 : decode cX2_record 6 = .ok (.getfield 20, 3) := by decide +kernel
theorem dX2_record_9 : decode cX2_record 9 = .ok (.aload_n 0, 1) := by decide +kernel
theorem dX2_record_10 : decode cX2_record 10 = .ok (.getfield 16, 3) := by decide +kernel
theorem dX2_record_13 : decode cX2_record 13 = .ok (.iadd, 1) := by decide +kernel
theorem dX2_record_14 : decode cX2_record 14 = .ok (.bipush 6, 2) := by decide +kernel
theorem dX2_record_16 : decode cX2_record 16 = .ok (.irem, 1) := by decide +kernel
theorem dX2_record_17 : decode cX2_record 17 = .ok (.aaload, 1) := by decide +kernel
theorem dX2_record_18 : decode cX2_record 18 = .ok (.invokevirtual 23, 3) := by decide +kernel
theorem dX2_record_21 : decode cX2_record 21 = .ok (.aload_n 0, 1) := by decide +kernel
theorem dX2_record_22 : decode cX2_record 22 = .ok (.getfield 16, 3) := by decide +kernel
theorem dX2_record_25 : decode cX2_record 25 = .ok (.bipush 6, 2) := by decide +kernel
theorem dX2_record_27 : decode cX2_record 27 = .ok (.if_icmp .ge 16, 3) := by decide +kernel
theorem dX2_record_30 : decode cX2_record 30 = .ok (.aload_n 0, 1) := by decide +kernel
theorem dX2_record_31 : decode cX2_record 31 = .ok (.dup, 1) := by decide +kernel
theorem dX2_record_32 : decode cX2_record 32 = .ok (.getfield 16, 3) := by decide +kernel
theorem dX2_record_35 : decode cX2_record 35 = .ok (.iconst 1, 1) := by decide +kernel
theorem dX2_record_36 : decode cX2_record 36 = .ok (.iadd, 1) := by decide +kernel
theorem dX2_record_37 : decode cX2_record 37 = .ok (.putfield 16, 3) := by decide +kernel
theorem dX2_record_40 : decode cX2_record 40 = .ok (.goto 16, 3) := by decide +kernel
theorem dX2_record_43 : decode cX2_record 43 = .ok (.aload_n 0, 1) := by decide +kernel
theorem dX2_record_44 : decode cX2_record 44 = .ok (.aload_n 0, 1) := by decide +kernel
theorem dX2_record_45 : decode cX2_record 45 = .ok (.getfield 20, 3) := by decide +kernel
theorem dX2_record_48 : decode cX2_record 48 = .ok (.iconst 1, 1) := by decide +kernel
theorem dX2_record_49 : decode cX2_record 49 = .ok (.iadd, 1) := by decide +kernel
theorem dX2_record_50 : decode cX2_record 50 = .ok (.bipush 6, 2) := by decide +kernel
theorem dX2_record_52 : decode cX2_record 52 = .ok (.irem, 1) := by decide +kernel
theorem dX2_record_53 : decode cX2_record 53 = .ok (.putfield 20, 3) := by decide +kernel
theorem dX2_record_56 : decode cX2_record 56 = .ok (.return_, 1) := by decide +kernel
set_option maxRecDepth 20000 in
theorem ggX2_takeBack_X1_copyFrom : GoodIn wsX2_takeBack wsX1_copyFrom := goodIn_r _ [8, 9, 10, 11, 12, 13, 17] (by decide +kernel) (by decide +kernel)
set_option maxRecDepth 20000 in
theorem gX2_takeBack_X1_copyFrom : GoodIn wsX2_takeBack (wsV RX2 27 RX1 yX1_copyFrom wsX1_copyFrom) := goodIn_app (goodIn_of _ (by decide +kernel)) ggX2_takeBack_X1_copyFrom
theorem dX2_takeBack_0 : decode cX2_takeBack 0 = .ok (.aload_n 0, 1) := by decide +kernel
theorem dX2_takeBack_1 : decode cX2_takeBack 1 = .ok (.getfield 16, 3) := by decide +kernel
theorem dX2_takeBack_4 : decode cX2_takeBack 4 = .ok (.ifCond .le 34, 3) := by decide +kernel
theorem dX2_takeBack_7 : decode cX2_takeBack 7 = .ok (.aload_n 0, 1) := by decide +kernel
theorem dX2_takeBack_8 : decode cX2_takeBack 8 = .ok (.dup, 1) := by decide +kernel
theorem dX2_takeBack_9 : decode cX2_takeBack 9 = .ok (.getfield 16, 3) := by decide +kernel
theorem dX2_takeBack_12 : decode cX2_takeBack 12 = .ok (.iconst 1, 1) := by decide +kernel
theorem dX2_takeBack_13 : decode cX2_takeBack 13 = .ok (.isub, 1) := by decide +kernel
theorem dX2_takeBack_14 : decode cX2_takeBack 14 = .ok (.putfield 16, 3) := by decide +kernel
theorem dX2_takeBack_17 : decode cX2_takeBack 17 = .ok (.aload_n 1, 1) := by decide +kernel
theorem dX2_takeBack_18 : decode cX2_takeBack 18 = .ok (.aload_n 0, 1) := by decide +kernel
theorem dX2_takeBack_19 : decode cX2_takeBack 19 = .ok (.getfield 13, 3) := by decide +kernel
theorem dX2_takeBack_22 : decode cX2_takeBack 22 = .ok (.aload_n 0, 1) := by decide +kernel
theorem dX2_takeBack_23 : decode cX2_takeBack 23 = .ok (.getfield 20, 3) := by decide +kernel
theorem dX2_takeBack_26 : decode cX2_takeBack 26 = .ok (.aload_n 0, 1) := by decide +kernel
theorem dX2_takeBack_27 : decode cX2_takeBack 27 = .ok (.getfield 16, 3) := by decide +kernel
theorem dX2_takeBack_30 : decode cX2_takeBack 30 = .ok (.iadd, 1) := by decide +kernel
theorem dX2_takeBack_31 : decode cX2_takeBack 31 = .ok (.bipush 6, 2) := by decide +kernel
theorem dX2_takeBack_33 : decode cX2_takeBack 33 = .ok (.irem, 1) := by decide +kernel
theorem dX2_takeBack_34 : decode cX2_takeBack 34 = .ok (.aaload, 1) := by decide +kernel
theorem dX2_takeBack_35 : decode cX2_takeBack 35 = .ok (.invokevirtual 27, 3) := by decide +kernel
theorem dX2_takeBack_38 : decode cX2_takeBack 38 = .ok (.return_, 1) := by decide +kernel
theorem dX3_init_0 : decode cX3_init 0 = .ok (.aload_n 0, 1) := by decide +kernel
theorem dX3_init_1 : decode cX3_init 1 = .ok (.invokespecial 3, 3) := by decide +kernel
theorem dX3_init_4 : decode cX3_init 4 = .ok (.aload_n 0, 1) := by decide +kernel
theorem dX3_init_5 : decode cX3_init 5 = .ok (.bipush 60, 2) := by decide +kernel
theorem dX3_init_7 : decode cX3_init 7 = .ok (.newarray .char, 2) := by decide +kernel
theorem dX3_init_9 : decode cX3_init 9 = .ok (.putfield 11, 3) := by decide +kernel
theorem dX3_init_12 : decode cX3_init 12 = .ok (.return_, 1) := by decide +kernel
theorem dX3_length_0 : decode cX3_length 0 = .ok (.aload_n 0, 1) := by decide +kernel
theorem dX3_length_1 : decode cX3_length 1 = .ok (.getfield 15, 3) := by decide +kernel
theorem dX3_length_4 : decode cX3_length 4 = .ok (.ireturn, 1) := by decide +kernel
theorem dX3_empty_0 : decode cX3_empty 0 = .ok (.aload_n 0, 1) := by decide +kernel
theorem dX3_empty_1 : decode cX3_empty 1 = .ok (.iconst 0, 1) := by decide +kernel
theorem dX3_empty_2 : decode cX3_empty 2 = .ok (.putfield 15, 3) := by decide +kernel
theorem dX3_empty_5 : decode cX3_empty 5 = .ok (.return_, 1) := by decide +kernel
set_option maxRecDepth 20000 in
theorem ggX3_append_X3_charactersIn : GoodIn wsX3_append wsX3_charactersIn := goodIn_r _ [7, 3, 8, 9] (by decide +kernel) (by decide +kernel)
set_option maxRecDepth 20000 in
theorem gX3_append_X3_charactersIn : GoodIn wsX3_append (va_wsS RX3 19 yX3_charactersIn wsX3_charactersIn) := goodIn_app (goodIn_of _ (by decide +kernel)) ggX3_append_X3_charactersIn
theorem dX3_append_0 : decode cX3_append 0 = .ok (.lload_n 1, 1) := by decide +kernel
theorem dX3_append_1 : decode cX3_append 1 = .ok (.invokestatic 19, 3) := by decide +kernel
theorem dX3_append_4 : decode cX3_append 4 = .ok (.istore_n 3, 1) := by decide +kernel
theorem dX3_append_5 : decode cX3_append 5 = .ok (.iload_n 3, 1) := by decide +kernel
theorem dX3_append_6 : decode cX3_append 6 = .ok (.ifCond .ne 6, 3) := by decide +kernel
theorem dX3_append_9 : decode cX3_append 9 = .ok (.bipush (-2), 2) := by decide +kernel
theorem dX3_append_11 : decode cX3_append 11 = .ok (.ireturn, 1) := by decide +kernel
theorem dX3_append_12 : decode cX3_append 12 = .ok (.aload_n 0, 1) := by decide +kernel
theorem dX3_append_13 : decode cX3_append 13 = .ok (.getfield 15, 3) := by decide +kernel
theorem dX3_append_16 : decode cX3_append 16 = .ok (.iload_n 3, 1) := by decide +kernel
theorem dX3_append_17 : decode cX3_append 17 = .ok (.iadd, 1) := by decide +kernel
theorem dX3_append_18 : decode cX3_append 18 = .ok (.bipush 60, 2) := by decide +kernel
theorem dX3_append_20 : decode cX3_append 20 = .ok (.if_icmp .le 6, 3) := by decide +kernel
theorem dX3_append_23 : decode cX3_append 23 = .ok (.bipush (-4), 2) := by decide +kernel
theorem dX3_append_25 : decode cX3_append 25 = .ok (.ireturn, 1) := by decide +kernel
theorem dX3_append_26 : decode cX3_append 26 = .ok (.aload_n 0, 1) := by decide +kernel
theorem dX3_append_27 : decode cX3_append 27 = .ok (.dup, 1) := by decide +kernel
theorem dX3_append_28 : decode cX3_append 28 = .ok (.getfield 15, 3) := by decide +kernel
theorem dX3_append_31 : decode cX3_append 31 = .ok (.iload_n 3, 1) := by decide +kernel
theorem dX3_append_32 : decode cX3_append 32 = .ok (.iadd, 1) := by decide +kernel
theorem dX3_append_33 : decode cX3_append 33 = .ok (.putfield 15, 3) := by decide +kernel
theorem dX3_append_36 : decode cX3_append 36 = .ok (.iconst 0, 1) := by decide +kernel
theorem dX3_append_37 : decode cX3_append 37 = .ok (.istore 4, 2) := by decide +kernel
theorem dX3_append_39 : decode cX3_append 39 = .ok (.iload 4, 2) := by decide +kernel
theorem dX3_append_41 : decode cX3_append 41 = .ok (.iload_n 3, 1) := by decide +kernel
theorem dX3_append_42 : decode cX3_append 42 = .ok (.if_icmp .ge 36, 3) := by decide +kernel
theorem dX3_append_45 : decode cX3_append 45 = .ok (.aload_n 0, 1) := by decide +kernel
theorem dX3_append_46 : decode cX3_append 46 = .ok (.getfield 11, 3) := by decide +kernel
theorem dX3_append_49 : decode cX3_append 49 = .ok (.aload_n 0, 1) := by decide +kernel
theorem dX3_append_50 : decode cX3_append 50 = .ok (.getfield 15, 3) := by decide +kernel
theorem dX3_append_53 : decode cX3_append 53 = .ok (.iconst 1, 1) := by decide +kernel
theorem dX3_append_54 : decode cX3_append 54 = .ok (.isub, 1) := by decide +kernel
theorem dX3_append_55 : decode cX3_append 55 = .ok (.iload 4, 2) := by decide +kernel
theorem dX3_append_57 : decode cX3_append 57 = .ok (.isub, 1) := by decide +kernel
theorem dX3_append_58 : decode cX3_append 58 = .ok (.lload_n 1, 1) := by decide +kernel
theorem dX3_append_59 : decode cX3_append 59 = .ok (.bipush 8, 2) := by decide +kernel
theorem dX3_append_61 : decode cX3_append 61 = .ok (.iload 4, 2) := by decide +kernel
theorem dX3_append_63 : decode cX3_append 63 = .ok (.imul, 1) := by decide +kernel
theorem dX3_append_64 : decode cX3_append 64 = .ok (.lushr, 1) := by decide +kernel
theorem dX3_append_65 : decode cX3_append 65 = .ok (.ldc2_w 23, 3) := by decide +kernel
theorem dX3_append_68 : decode cX3_append 68 = .ok (.land, 1) := by decide +kernel
theorem dX3_append_69 : decode cX3_append 69 = .ok (.l2i, 1) := by decide +kernel
theorem dX3_append_70 : decode cX3_append 70 = .ok (.i2c, 1) := by decide +kernel
theorem dX3_append_71 : decode cX3_append 71 = .ok (.castore, 1) := by decide +kernel
theorem dX3_append_72 : decode cX3_append 72 = .ok (.iinc 4 1, 3) := by decide +kernel
theorem dX3_append_75 : decode cX3_append 75 = .ok (.goto (-36), 3) := by decide +kernel
theorem dX3_append_78 : decode cX3_append 78 = .ok (.aload_n 0, 1) := by decide +kernel
theorem dX3_append_79 : decode cX3_append 79 = .ok (.getfield 15, 3) := by decide +kernel
theorem dX3_append_82 : decode cX3_append 82 = .ok (.ireturn, 1) := by decide +kernel
theorem dX3_charactersIn_0 : decode cX3_charactersIn 0 = .ok (.iconst 0, 1) := by decide +kernel
theorem dX3_charactersIn_1 : decode cX3_charactersIn 1 = .ok (.istore_n 2, 1) := by decide +kernel
theorem dX3_charactersIn_2 : decode cX3_charactersIn 2 = .ok (.lload_n 0, 1) := by decide +kernel
theorem dX3_charactersIn_3 : decode cX3_charactersIn 3 = .ok (.lstore_n 3, 1) := by decide +kernel
theorem dX3_charactersIn_4 : decode cX3_charactersIn 4 = .ok (.iload_n 2, 1) := by decide +kernel
theorem dX3_charactersIn_5 : decode cX3_charactersIn 5 = .ok (.bipush 8, 2) := by decide +kernel
theorem dX3_charactersIn_7 : decode cX3_charactersIn 7 = .ok (.if_icmp .ge 51, 3) := by decide +kernel
theorem dX3_charactersIn_10 : decode cX3_charactersIn 10 = .ok (.lload_n 3, 1) := by decide +kernel
theorem dX3_charactersIn_11 : decode cX3_charactersIn 11 = .ok (.ldc2_w 23, 3) := by decide +kernel
theorem dX3_charactersIn_14 : decode cX3_charactersIn 14 = .ok (.land, 1) := by decide +kernel
theorem dX3_charactersIn_15 : decode cX3_charactersIn 15 = .ok (.lconst 0, 1) := by decide +kernel
theorem dX3_charactersIn_16 : decode cX3_charactersIn 16 = .ok (.lcmp, 1) := by decide +kernel
theorem dX3_charactersIn_17 : decode cX3_charactersIn 17 = .ok (.ifCond .eq 41, 3) := by decide +kernel
theorem dX3_charactersIn_20 : decode cX3_charactersIn 20 = .ok (.lload_n 3, 1) := by decide +kernel
theorem dX3_charactersIn_21 : decode cX3_charactersIn 21 = .ok (.ldc2_w 23, 3) := by decide +kernel
theorem dX3_charactersIn_24 : decode cX3_charactersIn 24 = .ok (.land, 1) := by decide +kernel
theorem dX3_charactersIn_25 : decode cX3_charactersIn 25 = .ok (.lstore 5, 2) := by decide +kernel
theorem dX3_charactersIn_27 : decode cX3_charactersIn 27 = .ok (.lload 5, 2) := by decide +kernel
theorem dX3_charactersIn_29 : decode cX3_charactersIn 29 = .ok (.ldc2_w 25, 3) := by decide +kernel
theorem dX3_charactersIn_32 : decode cX3_charactersIn 32 = .ok (.lcmp, 1) := by decide +kernel
theorem dX3_charactersIn_33 : decode cX3_charactersIn 33 = .ok (.ifCond .lt 12, 3) := by decide +kernel
theorem dX3_charactersIn_36 : decode cX3_charactersIn 36 = .ok (.lload 5, 2) := by decide +kernel
theorem dX3_charactersIn_38 : decode cX3_charactersIn 38 = .ok (.ldc2_w 27, 3) := by decide +kernel
theorem dX3_charactersIn_41 : decode cX3_charactersIn 41 = .ok (.lcmp, 1) := by decide +kernel
theorem dX3_charactersIn_42 : decode cX3_charactersIn 42 = .ok (.ifCond .le 5, 3) := by decide +kernel
theorem dX3_charactersIn_45 : decode cX3_charactersIn 45 = .ok (.iconst 0, 1) := by decide +kernel
theorem dX3_charactersIn_46 : decode cX3_charactersIn 46 = .ok (.ireturn, 1) := by decide +kernel
theorem dX3_charactersIn_47 : decode cX3_charactersIn 47 = .ok (.lload_n 3, 1) := by decide +kernel
theorem dX3_charactersIn_48 : decode cX3_charactersIn 48 = .ok (.bipush 8, 2) := by decide +kernel
theorem dX3_charactersIn_50 : decode cX3_charactersIn 50 = .ok (.lushr, 1) := by decide +kernel
theorem dX3_charactersIn_51 : decode cX3_charactersIn 51 = .ok (.lstore_n 3, 1) := by decide +kernel
theorem dX3_charactersIn_52 : decode cX3_charactersIn 52 = .ok (.iinc 2 1, 3) := by decide +kernel
theorem dX3_charactersIn_55 : decode cX3_charactersIn 55 = .ok (.goto (-51), 3) := by decide +kernel
theorem dX3_charactersIn_58 : decode cX3_charactersIn 58 = .ok (.lload_n 3, 1) := by decide +kernel
theorem dX3_charactersIn_59 : decode cX3_charactersIn 59 = .ok (.lconst 0, 1) := by decide +kernel
theorem dX3_charactersIn_60 : decode cX3_charactersIn 60 = .ok (.lcmp, 1) := by decide +kernel
theorem dX3_charactersIn_61 : decode cX3_charactersIn 61 = .ok (.ifCond .ne 7, 3) := by decide +kernel
theorem dX3_charactersIn_64 : decode cX3_charactersIn 64 = .ok (.iload_n 2, 1) := by decide +kernel
theorem dX3_charactersIn_65 : decode cX3_charactersIn 65 = .ok (.goto 4, 3) := by decide +kernel
theorem dX3_charactersIn_68 : decode cX3_charactersIn 68 = .ok (.iconst 0, 1) := by decide +kernel
theorem dX3_charactersIn_69 : decode cX3_charactersIn 69 = .ok (.ireturn, 1) := by decide +kernel
set_option maxRecDepth 20000 in
theorem ggX3_firstFault_X3_behind : GoodIn wsX3_firstFault wsX3_behind := goodIn_r _ [6, 7, 8, 5, 9, 10, 11, 12, 13, 14, 15] (by decide +kernel) (by decide +kernel)
set_option maxRecDepth 20000 in
theorem gX3_firstFault_X3_behind : GoodIn wsX3_firstFault (va_wsS RX3 29 yX3_behind wsX3_behind) := goodIn_app (goodIn_of _ (by decide +kernel)) ggX3_firstFault_X3_behind
theorem dX3_firstFault_0 : decode cX3_firstFault 0 = .ok (.iconst 0, 1) := by decide +kernel
theorem dX3_firstFault_1 : decode cX3_firstFault 1 = .ok (.istore_n 1, 1) := by decide +kernel
theorem dX3_firstFault_2 : decode cX3_firstFault 2 = .ok (.iconst 0, 1) := by decide +kernel
theorem dX3_firstFault_3 : decode cX3_firstFault 3 = .ok (.istore_n 2, 1) := by decide +kernel
theorem dX3_firstFault_4 : decode cX3_firstFault 4 = .ok (.iload_n 2, 1) := by decide +kernel
theorem dX3_firstFault_5 : decode cX3_firstFault 5 = .ok (.aload_n 0, 1) := by decide +kernel
theorem dX3_firstFault_6 : decode cX3_firstFault 6 = .ok (.getfield 15, 3) := by decide +kernel
theorem dX3_firstFault_9 : decode cX3_firstFault 9 = .ok (.if_icmp .ge 28, 3) := by decide +kernel
theorem dX3_firstFault_12 : decode cX3_firstFault 12 = .ok (.iload_n 1, 1) := by decide +kernel
theorem dX3_firstFault_13 : decode cX3_firstFault 13 = .ok (.aload_n 0, 1) := by decide +kernel
theorem dX3_firstFault_14 : decode cX3_firstFault 14 = .ok (.getfield 11, 3) := by decide +kernel
theorem dX3_firstFault_17 : decode cX3_firstFault 17 = .ok (.iload_n 2, 1) := by decide +kernel
theorem dX3_firstFault_18 : decode cX3_firstFault 18 = .ok (.caload, 1) := by decide +kernel
theorem dX3_firstFault_19 : decode cX3_firstFault 19 = .ok (.invokestatic 29, 3) := by decide +kernel
theorem dX3_firstFault_22 : decode cX3_firstFault 22 = .ok (.istore_n 1, 1) := by decide +kernel
theorem dX3_firstFault_23 : decode cX3_firstFault 23 = .ok (.iload_n 1, 1) := by decide +kernel
theorem dX3_firstFault_24 : decode cX3_firstFault 24 = .ok (.bipush 6, 2) := by decide +kernel
theorem dX3_firstFault_26 : decode cX3_firstFault 26 = .ok (.if_icmp .ne 5, 3) := by decide +kernel
theorem dX3_firstFault_29 : decode cX3_firstFault 29 = .ok (.iload_n 2, 1) := by decide +kernel
theorem dX3_firstFault_30 : decode cX3_firstFault 30 = .ok (.ireturn, 1) := by decide +kernel
theorem dX3_firstFault_31 : decode cX3_firstFault 31 = .ok (.iinc 2 1, 3) := by decide +kernel
theorem dX3_firstFault_34 : decode cX3_firstFault 34 = .ok (.goto (-30), 3) := by decide +kernel
theorem dX3_firstFault_37 : decode cX3_firstFault 37 = .ok (.iload_n 1, 1) := by decide +kernel
theorem dX3_firstFault_38 : decode cX3_firstFault 38 = .ok (.iconst 3, 1) := by decide +kernel
theorem dX3_firstFault_39 : decode cX3_firstFault 39 = .ok (.if_icmp .lt 8, 3) := by decide +kernel
theorem dX3_firstFault_42 : decode cX3_firstFault 42 = .ok (.bipush (-6), 2) := by decide +kernel
theorem dX3_firstFault_44 : decode cX3_firstFault 44 = .ok (.goto 7, 3) := by decide +kernel
theorem dX3_firstFault_47 : decode cX3_firstFault 47 = .ok (.aload_n 0, 1) := by decide +kernel
theorem dX3_firstFault_48 : decode cX3_firstFault 48 = .ok (.getfield 15, 3) := by decide +kernel
theorem dX3_firstFault_51 : decode cX3_firstFault 51 = .ok (.ireturn, 1) := by decide +kernel
set_option maxRecDepth 20000 in
theorem ggX3_behind_X3_isBetween : GoodIn wsX3_behind wsX3_isBetween := goodIn_r _ [4] (by decide +kernel) (by decide +kernel)
set_option maxRecDepth 20000 in
theorem gX3_behind_X3_isBetween : GoodIn wsX3_behind (va_wsS RX3 33 yX3_isBetween wsX3_isBetween) := goodIn_app (goodIn_of _ (by decide +kernel)) ggX3_behind_X3_isBetween
set_option maxRecDepth 20000 in
theorem ggX3_behind_X3_behindFirstDigit : GoodIn wsX3_behind wsX3_behindFirstDigit := goodIn_r _ [7, 1, 2, 3, 4] (by decide +kernel) (by decide +kernel)
set_option maxRecDepth 20000 in
theorem gX3_behind_X3_behindFirstDigit : GoodIn wsX3_behind (va_wsS RX3 37 yX3_behindFirstDigit wsX3_behindFirstDigit) := goodIn_app (goodIn_of _ (by decide +kernel)) ggX3_behind_X3_behindFirstDigit
set_option maxRecDepth 20000 in
theorem ggX3_behind_X3_behindDay : GoodIn wsX3_behind wsX3_behindDay := goodIn_r _ [10] (by decide +kernel) (by decide +kernel)
set_option maxRecDepth 20000 in
theorem gX3_behind_X3_behindDay : GoodIn wsX3_behind (va_wsS RX3 41 yX3_behindDay wsX3_behindDay) := goodIn_app (goodIn_of _ (by decide +kernel)) ggX3_behind_X3_behindDay
theorem dX3_behind_0 : decode cX3_behind 0 = .ok (.iload_n 0, 1) := by decide +kernel
theorem dX3_behind_1 : decode cX3_behind 1 = .ok (.tableswitch 117 0 4 #[35, 53, 72, 77, 97], 35) := by decide +kernel
theorem dX3_behind_36 : decode cX3_behind 36 = .ok (.iload_n 1, 1) := by decide +kernel
theorem dX3_behind_37 : decode cX3_behind 37 = .ok (.bipush 48, 2) := by decide +kernel
theorem dX3_behind_39 : decode cX3_behind 39 = .ok (.bipush 55, 2) := by decide +kernel
theorem dX3_behind_41 : decode cX3_behind 41 = .ok (.invokestatic 33, 3) := by decide +kernel
theorem dX3_behind_44 : decode cX3_behind 44 = .ok (.ifCond .eq 7, 3) := by decide +kernel
theorem dX3_behind_47 : decode cX3_behind 47 = .ok (.iconst 1, 1) := by decide +kernel
theorem dX3_behind_48 : decode cX3_behind 48 = .ok (.goto 5, 3) := by decide +kernel
theorem dX3_behind_51 : decode cX3_behind 51 = .ok (.bipush 6, 2) := by decide +kernel
theorem dX3_behind_53 : decode cX3_behind 53 = .ok (.ireturn, 1) := by decide +kernel
theorem dX3_behind_54 : decode cX3_behind 54 = .ok (.iload_n 1, 1) := by decide +kernel
theorem dX3_behind_55 : decode cX3_behind 55 = .ok (.bipush 97, 2) := by decide +kernel
theorem dX3_behind_57 : decode cX3_behind 57 = .ok (.if_icmp .eq 9, 3) := by decide +kernel
theorem dX3_behind_60 : decode cX3_behind 60 = .ok (.iload_n 1, 1) := by decide +kernel
theorem dX3_behind_61 : decode cX3_behind 61 = .ok (.bipush 101, 2) := by decide +kernel
theorem dX3_behind_63 : decode cX3_behind 63 = .ok (.if_icmp .ne 7, 3) := by decide +kernel
theorem dX3_behind_66 : decode cX3_behind 66 = .ok (.iconst 2, 1) := by decide +kernel
theorem dX3_behind_67 : decode cX3_behind 67 = .ok (.goto 5, 3) := by decide +kernel
theorem dX3_behind_70 : decode cX3_behind 70 = .ok (.bipush 6, 2) := by decide +kernel
theorem dX3_behind_72 : decode cX3_behind 72 = .ok (.ireturn, 1) := by decide +kernel
theorem dX3_behind_73 : decode cX3_behind 73 = .ok (.iload_n 1, 1) := by decide +kernel
theorem dX3_behind_74 : decode cX3_behind 74 = .ok (.invokestatic 37, 3) := by decide +kernel
theorem dX3_behind_77 : decode cX3_behind 77 = .ok (.ireturn, 1) := by decide +kernel
theorem dX3_behind_78 : decode cX3_behind 78 = .ok (.iload_n 1, 1) := by decide +kernel
theorem dX3_behind_79 : decode cX3_behind 79 = .ok (.bipush 48, 2) := by decide +kernel
theorem dX3_behind_81 : decode cX3_behind 81 = .ok (.bipush 57, 2) := by decide +kernel
theorem dX3_behind_83 : decode cX3_behind 83 = .ok (.invokestatic 33, 3) := by decide +kernel
theorem dX3_behind_86 : decode cX3_behind 86 = .ok (.ifCond .eq 7, 3) := by decide +kernel
theorem dX3_behind_89 : decode cX3_behind 89 = .ok (.iconst 5, 1) := by decide +kernel
theorem dX3_behind_90 : decode cX3_behind 90 = .ok (.goto 7, 3) := by decide +kernel
theorem dX3_behind_93 : decode cX3_behind 93 = .ok (.iload_n 1, 1) := by decide +kernel
theorem dX3_behind_94 : decode cX3_behind 94 = .ok (.invokestatic 41, 3) := by decide +kernel
theorem dX3_behind_97 : decode cX3_behind 97 = .ok (.ireturn, 1) := by decide +kernel
theorem dX3_behind_98 : decode cX3_behind 98 = .ok (.iload_n 1, 1) := by decide +kernel
theorem dX3_behind_99 : decode cX3_behind 99 = .ok (.bipush 48, 2) := by decide +kernel
theorem dX3_behind_101 : decode cX3_behind 101 = .ok (.bipush 52, 2) := by decide +kernel
theorem dX3_behind_103 : decode cX3_behind 103 = .ok (.invokestatic 33, 3) := by decide +kernel
theorem dX3_behind_106 : decode cX3_behind 106 = .ok (.ifCond .eq 7, 3) := by decide +kernel
theorem dX3_behind_109 : decode cX3_behind 109 = .ok (.iconst 5, 1) := by decide +kernel
theorem dX3_behind_110 : decode cX3_behind 110 = .ok (.goto 7, 3) := by decide +kernel
theorem dX3_behind_113 : decode cX3_behind 113 = .ok (.iload_n 1, 1) := by decide +kernel
theorem dX3_behind_114 : decode cX3_behind 114 = .ok (.invokestatic 41, 3) := by decide +kernel
theorem dX3_behind_117 : decode cX3_behind 117 = .ok (.ireturn, 1) := by decide +kernel
theorem dX3_behind_118 : decode cX3_behind 118 = .ok (.iload_n 1, 1) := by decide +kernel
theorem dX3_behind_119 : decode cX3_behind 119 = .ok (.invokestatic 41, 3) := by decide +kernel
theorem dX3_behind_122 : decode cX3_behind 122 = .ok (.ireturn, 1) := by decide +kernel
set_option maxRecDepth 20000 in
theorem ggX3_behindFirstDigit_X3_isBetween : GoodIn wsX3_behindFirstDigit wsX3_isBetween := goodIn_r _ [4] (by decide +kernel) (by decide +kernel)
set_option maxRecDepth 20000 in
theorem gX3_behindFirstDigit_X3_isBetween : GoodIn wsX3_behindFirstDigit (va_wsS RX3 33 yX3_isBetween wsX3_isBetween) := goodIn_app (goodIn_of _ (by decide +kernel)) ggX3_behindFirstDigit_X3_isBetween
theorem dX3_behindFirstDigit_0 : decode cX3_behindFirstDigit 0 = .ok (.iload_n 0, 1) := by decide +kernel
theorem dX3_behindFirstDigit_1 : decode cX3_behindFirstDigit 1 = .ok (.bipush 49, 2) := by decide +kernel
theorem dX3_behindFirstDigit_3 : decode cX3_behindFirstDigit 3 = .ok (.if_icmp .eq 9, 3) := by decide +kernel
theorem dX3_behindFirstDigit_6 : decode cX3_behindFirstDigit 6 = .ok (.iload_n 0, 1) := by decide +kernel
theorem dX3_behindFirstDigit_7 : decode cX3_behindFirstDigit 7 = .ok (.bipush 50, 2) := by decide +kernel
theorem dX3_behindFirstDigit_9 : decode cX3_behindFirstDigit 9 = .ok (.if_icmp .ne 5, 3) := by decide +kernel
theorem dX3_behindFirstDigit_12 : decode cX3_behindFirstDigit 12 = .ok (.iconst 3, 1) := by decide +kernel
theorem dX3_behindFirstDigit_13 : decode cX3_behindFirstDigit 13 = .ok (.ireturn, 1) := by decide +kernel
theorem dX3_behindFirstDigit_14 : decode cX3_behindFirstDigit 14 = .ok (.iload_n 0, 1) := by decide +kernel
theorem dX3_behindFirstDigit_15 : decode cX3_behindFirstDigit 15 = .ok (.bipush 51, 2) := by decide +kernel
theorem dX3_behindFirstDigit_17 : decode cX3_behindFirstDigit 17 = .ok (.if_icmp .ne 5, 3) := by decide +kernel
theorem dX3_behindFirstDigit_20 : decode cX3_behindFirstDigit 20 = .ok (.iconst 4, 1) := by decide +kernel
theorem dX3_behindFirstDigit_21 : decode cX3_behindFirstDigit 21 = .ok (.ireturn, 1) := by decide +kernel
theorem dX3_behindFirstDigit_22 : decode cX3_behindFirstDigit 22 = .ok (.iload_n 0, 1) := by decide +kernel
theorem dX3_behindFirstDigit_23 : decode cX3_behindFirstDigit 23 = .ok (.bipush 48, 2) := by decide +kernel
theorem dX3_behindFirstDigit_25 : decode cX3_behindFirstDigit 25 = .ok (.bipush 57, 2) := by decide +kernel
theorem dX3_behindFirstDigit_27 : decode cX3_behindFirstDigit 27 = .ok (.invokestatic 33, 3) := by decide +kernel
theorem dX3_behindFirstDigit_30 : decode cX3_behindFirstDigit 30 = .ok (.ifCond .eq 7, 3) := by decide +kernel
theorem dX3_behindFirstDigit_33 : decode cX3_behindFirstDigit 33 = .ok (.iconst 5, 1) := by decide +kernel
theorem dX3_behindFirstDigit_34 : decode cX3_behindFirstDigit 34 = .ok (.goto 5, 3) := by decide +kernel
theorem dX3_behindFirstDigit_37 : decode cX3_behindFirstDigit 37 = .ok (.bipush 6, 2) := by decide +kernel
theorem dX3_behindFirstDigit_39 : decode cX3_behindFirstDigit 39 = .ok (.ireturn, 1) := by decide +kernel
theorem dX3_behindDay_0 : decode cX3_behindDay 0 = .ok (.iload_n 0, 1) := by decide +kernel
theorem dX3_behindDay_1 : decode cX3_behindDay 1 = .ok (.bipush 44, 2) := by decide +kernel
theorem dX3_behindDay_3 : decode cX3_behindDay 3 = .ok (.if_icmp .ne 7, 3) := by decide +kernel
theorem dX3_behindDay_6 : decode cX3_behindDay 6 = .ok (.iconst 0, 1) := by decide +kernel
theorem dX3_behindDay_7 : decode cX3_behindDay 7 = .ok (.goto 5, 3) := by decide +kernel
theorem dX3_behindDay_10 : decode cX3_behindDay 10 = .ok (.bipush 6, 2) := by decide +kernel
theorem dX3_behindDay_12 : decode cX3_behindDay 12 = .ok (.ireturn, 1) := by decide +kernel
theorem dX3_isBetween_0 : decode cX3_isBetween 0 = .ok (.iload_n 0, 1) := by decide +kernel
theorem dX3_isBetween_1 : decode cX3_isBetween 1 = .ok (.iload_n 1, 1) := by decide +kernel
theorem dX3_isBetween_2 : decode cX3_isBetween 2 = .ok (.if_icmp .lt 12, 3) := by decide +kernel
theorem dX3_isBetween_5 : decode cX3_isBetween 5 = .ok (.iload_n 0, 1) := by decide +kernel
theorem dX3_isBetween_6 : decode cX3_isBetween 6 = .ok (.iload_n 2, 1) := by decide +kernel
theorem dX3_isBetween_7 : decode cX3_isBetween 7 = .ok (.if_icmp .gt 7, 3) := by decide +kernel
theorem dX3_isBetween_10 : decode cX3_isBetween 10 = .ok (.iconst 1, 1) := by decide +kernel
theorem dX3_isBetween_11 : decode cX3_isBetween 11 = .ok (.goto 4, 3) := by decide +kernel
theorem dX3_isBetween_14 : decode cX3_isBetween 14 = .ok (.iconst 0, 1) := by decide +kernel
theorem dX3_isBetween_15 : decode cX3_isBetween 15 = .ok (.ireturn, 1) := by decide +kernel
theorem dX3_characterAt_0 : decode cX3_characterAt 0 = .ok (.iload_n 1, 1) := by decide +kernel
theorem dX3_characterAt_1 : decode cX3_characterAt 1 = .ok (.ifCond .lt 20, 3) := by decide +kernel
theorem dX3_characterAt_4 : decode cX3_characterAt 4 = .ok (.iload_n 1, 1) := by decide +kernel
theorem dX3_characterAt_5 : decode cX3_characterAt 5 = .ok (.aload_n 0, 1) := by decide +kernel
theorem dX3_characterAt_6 : decode cX3_characterAt 6 = .ok (.getfield 15, 3) := by decide +kernel
theorem dX3_characterAt_9 : decode cX3_characterAt 9 = .ok (.if_icmp .ge 12, 3) := by decide +kernel
theorem dX3_characterAt_12 : decode cX3_characterAt 12 = .ok (.aload_n 0, 1) := by decide +kernel
theorem dX3_characterAt_13 : decode cX3_characterAt 13 = .ok (.getfield 11, 3) := by decide +kernel
theorem dX3_characterAt_16 : decode cX3_characterAt 16 = .ok (.iload_n 1, 1) := by decide +kernel
theorem dX3_characterAt_17 : decode cX3_characterAt 17 = .ok (.caload, 1) := by decide +kernel
theorem dX3_characterAt_18 : decode cX3_characterAt 18 = .ok (.goto 5, 3) := by decide +kernel
theorem dX3_characterAt_21 : decode cX3_characterAt 21 = .ok (.bipush 44, 2) := by decide +kernel
theorem dX3_characterAt_23 : decode cX3_characterAt 23 = .ok (.ireturn, 1) := by decide +kernel
set_option maxRecDepth 20000 in
theorem ggX3_endOfShow_X3_characterAt : GoodIn wsX3_endOfShow wsX3_characterAt := goodIn_r _ [6, 1, 7, 8, 9] (by decide +kernel) (by decide +kernel)
set_option maxRecDepth 20000 in
theorem gX3_endOfShow_X3_characterAt : GoodIn wsX3_endOfShow (wsV RX3 44 RX3 yX3_characterAt wsX3_characterAt) := goodIn_app (goodIn_of _ (by decide +kernel)) ggX3_endOfShow_X3_characterAt
theorem dX3_endOfShow_0 : decode cX3_endOfShow 0 = .ok (.iload_n 1, 1) := by decide +kernel
theorem dX3_endOfShow_1 : decode cX3_endOfShow 1 = .ok (.istore_n 2, 1) := by decide +kernel
theorem dX3_endOfShow_2 : decode cX3_endOfShow 2 = .ok (.iload_n 2, 1) := by decide +kernel
theorem dX3_endOfShow_3 : decode cX3_endOfShow 3 = .ok (.aload_n 0, 1) := by decide +kernel
theorem dX3_endOfShow_4 : decode cX3_endOfShow 4 = .ok (.getfield 15, 3) := by decide +kernel
theorem dX3_endOfShow_7 : decode cX3_endOfShow 7 = .ok (.if_icmp .ge 19, 3) := by decide +kernel
theorem dX3_endOfShow_10 : decode cX3_endOfShow 10 = .ok (.aload_n 0, 1) := by decide +kernel
theorem dX3_endOfShow_11 : decode cX3_endOfShow 11 = .ok (.iload_n 2, 1) := by decide +kernel
theorem dX3_endOfShow_12 : decode cX3_endOfShow 12 = .ok (.invokevirtual 44, 3) := by decide +kernel
theorem dX3_endOfShow_15 : decode cX3_endOfShow 15 = .ok (.bipush 44, 2) := by decide +kernel
theorem dX3_endOfShow_17 : decode cX3_endOfShow 17 = .ok (.if_icmp .eq 9, 3) := by decide +kernel
theorem dX3_endOfShow_20 : decode cX3_endOfShow 20 = .ok (.iinc 2 1, 3) := by decide +kernel
theorem dX3_endOfShow_23 : decode cX3_endOfShow 23 = .ok (.goto (-21), 3) := by decide +kernel
theorem dX3_endOfShow_26 : decode cX3_endOfShow 26 = .ok (.iload_n 2, 1) := by decide +kernel
theorem dX3_endOfShow_27 : decode cX3_endOfShow 27 = .ok (.ireturn, 1) := by decide +kernel
set_option maxRecDepth 20000 in
theorem ggX3_filmAt_X3_characterAt : GoodIn wsX3_filmAt wsX3_characterAt := goodIn_r _ [5, 6, 7, 8, 9] (by decide +kernel) (by decide +kernel)
set_option maxRecDepth 20000 in
theorem gX3_filmAt_X3_characterAt : GoodIn wsX3_filmAt (wsV RX3 44 RX3 yX3_characterAt wsX3_characterAt) := goodIn_app (goodIn_of _ (by decide +kernel)) ggX3_filmAt_X3_characterAt
theorem dX3_filmAt_0 : decode cX3_filmAt 0 = .ok (.aload_n 0, 1) := by decide +kernel
theorem dX3_filmAt_1 : decode cX3_filmAt 1 = .ok (.iload_n 1, 1) := by decide +kernel
theorem dX3_filmAt_2 : decode cX3_filmAt 2 = .ok (.invokevirtual 44, 3) := by decide +kernel
theorem dX3_filmAt_5 : decode cX3_filmAt 5 = .ok (.bipush 48, 2) := by decide +kernel
theorem dX3_filmAt_7 : decode cX3_filmAt 7 = .ok (.isub, 1) := by decide +kernel
theorem dX3_filmAt_8 : decode cX3_filmAt 8 = .ok (.ireturn, 1) := by decide +kernel
set_option maxRecDepth 20000 in
theorem ggX3_partAt_X3_characterAt : GoodIn wsX3_partAt wsX3_characterAt := goodIn_r _ [5, 6, 7, 8, 9] (by decide +kernel) (by decide +kernel)
set_option maxRecDepth 20000 in
theorem gX3_partAt_X3_characterAt : GoodIn wsX3_partAt (wsV RX3 44 RX3 yX3_characterAt wsX3_characterAt) := goodIn_app (goodIn_of _ (by decide +kernel)) ggX3_partAt_X3_characterAt
theorem dX3_partAt_0 : decode cX3_partAt 0 = .ok (.aload_n 0, 1) := by decide +kernel
theorem dX3_partAt_1 : decode cX3_partAt 1 = .ok (.iload_n 1, 1) := by decide +kernel
theorem dX3_partAt_2 : decode cX3_partAt 2 = .ok (.invokevirtual 44, 3) := by decide +kernel
theorem dX3_partAt_5 : decode cX3_partAt 5 = .ok (.bipush 97, 2) := by decide +kernel
theorem dX3_partAt_7 : decode cX3_partAt 7 = .ok (.if_icmp .ne 7, 3) := by decide +kernel
theorem dX3_partAt_10 : decode cX3_partAt 10 = .ok (.iconst 0, 1) := by decide +kernel
theorem dX3_partAt_11 : decode cX3_partAt 11 = .ok (.goto 4, 3) := by decide +kernel
theorem dX3_partAt_14 : decode cX3_partAt 14 = .ok (.iconst 1, 1) := by decide +kernel
theorem dX3_partAt_15 : decode cX3_partAt 15 = .ok (.ireturn, 1) := by decide +kernel
set_option maxRecDepth 20000 in
theorem ggX3_dayAt_X3_characterAt : GoodIn wsX3_dayAt wsX3_characterAt := goodIn_r _ [5, 6, 7, 8, 9] (by decide +kernel) (by decide +kernel)
set_option maxRecDepth 20000 in
theorem gX3_dayAt_X3_characterAt : GoodIn wsX3_dayAt (wsV RX3 44 RX3 yX3_characterAt wsX3_characterAt) := goodIn_app (goodIn_of _ (by decide +kernel)) ggX3_dayAt_X3_characterAt
theorem dX3_dayAt_0 : decode cX3_dayAt 0 = .ok (.iconst 0, 1) := by decide +kernel
theorem dX3_dayAt_1 : decode cX3_dayAt 1 = .ok (.istore_n 3, 1) := by decide +kernel
theorem dX3_dayAt_2 : decode cX3_dayAt 2 = .ok (.iload_n 1, 1) := by decide +kernel
theorem dX3_dayAt_3 : decode cX3_dayAt 3 = .ok (.istore 4, 2) := by decide +kernel
theorem dX3_dayAt_5 : decode cX3_dayAt 5 = .ok (.iload 4, 2) := by decide +kernel
theorem dX3_dayAt_7 : decode cX3_dayAt 7 = .ok (.iload_n 2, 1) := by decide +kernel
theorem dX3_dayAt_8 : decode cX3_dayAt 8 = .ok (.if_icmp .ge 24, 3) := by decide +kernel
theorem dX3_dayAt_11 : decode cX3_dayAt 11 = .ok (.iload_n 3, 1) := by decide +kernel
theorem dX3_dayAt_12 : decode cX3_dayAt 12 = .ok (.bipush 10, 2) := by decide +kernel
theorem dX3_dayAt_14 : decode cX3_dayAt 14 = .ok (.imul, 1) := by decide +kernel
theorem dX3_dayAt_15 : decode cX3_dayAt 15 = .ok (.aload_n 0, 1) := by decide +kernel
theorem dX3_dayAt_16 : decode cX3_dayAt 16 = .ok (.iload 4, 2) := by decide +kernel
theorem dX3_dayAt_18 : decode cX3_dayAt 18 = .ok (.invokevirtual 44, 3) := by decide +kernel
theorem dX3_dayAt_21 : decode cX3_dayAt 21 = .ok (.iadd, 1) := by decide +kernel
theorem dX3_dayAt_22 : decode cX3_dayAt 22 = .ok (.bipush 48, 2) := by decide +kernel
theorem dX3_dayAt_24 : decode cX3_dayAt 24 = .ok (.isub, 1) := by decide +kernel
theorem dX3_dayAt_25 : decode cX3_dayAt 25 = .ok (.istore_n 3, 1) := by decide +kernel
theorem dX3_dayAt_26 : decode cX3_dayAt 26 = .ok (.iinc 4 1, 3) := by decide +kernel
theorem dX3_dayAt_29 : decode cX3_dayAt 29 = .ok (.goto (-24), 3) := by decide +kernel
theorem dX3_dayAt_32 : decode cX3_dayAt 32 = .ok (.iload_n 3, 1) := by decide +kernel
theorem dX3_dayAt_33 : decode cX3_dayAt 33 = .ok (.ireturn, 1) := by decide +kernel
end
section
set_option maxRecDepth 20000 in
theorem ggX4_init_X1_init : GoodIn wsX4_init wsX1_init := goodIn_r _ [27, 28, 2, 3, 21, 29, 30, 31, 32, 33, 51] (by decide +kernel) (by decide +kernel)
set_option maxRecDepth 20000 in
theorem gX4_init_X1_init : GoodIn wsX4_init (wsX1_init) := ggX4_init_X1_init
set_option maxRecDepth 20000 in
theorem ggX4_init_X0_init : GoodIn wsX4_init wsX0_init := goodIn_r _ [35, 36, 2, 3, 21, 37, 38, 39, 40, 58, 59, 60, 61, 62, 63] (by decide +kernel) (by decide +kernel)
set_option maxRecDepth 20000 in
theorem gX4_init_X0_init_n18 : GoodIn wsX4_init (wsX0_init) := ggX4_init_X0_init
set_option maxRecDepth 20000 in
theorem ggX4_init_X3_init : GoodIn wsX4_init wsX3_init := goodIn_r _ [42, 43, 2, 3, 44, 45, 64, 65] (by decide +kernel) (by decide +kernel)
set_option maxRecDepth 20000 in
theorem gX4_init_X3_init_n25 : GoodIn wsX4_init (wsX3_init) := ggX4_init_X3_init
set_option maxRecDepth 20000 in
theorem ggX4_init_X2_init : GoodIn wsX4_init wsX2_init := goodIn_r _ [47, 48, 2, 3, 49, 21, 50, 66, 67, 68] (by decide +kernel) (by decide +kernel)
set_option maxRecDepth 20000 in
theorem gX4_init_X2_init_n32 : GoodIn wsX4_init (wsX2_init) := ggX4_init_X2_init
theorem dX4_init_0 : decode cX4_init 0 = .ok (.aload_n 0, 1) := by decide +kernel
theorem dX4_init_1 : decode cX4_init 1 = .ok (.invokespecial 3, 3) := by decide +kernel
theorem dX4_init_4 : decode cX4_init 4 = .ok (.aload_n 0, 1) := by decide +kernel
theorem dX4_init_5 : decode cX4_init 5 = .ok (.new 9, 3) := by decide +kernel
theorem dX4_init_8 : decode cX4_init 8 = .ok (.dup, 1) := by decide +kernel
theorem dX4_init_9 : decode cX4_init 9 = .ok (.invokespecial 11, 3) := by decide +kernel
theorem dX4_init_12 : decode cX4_init 12 = .ok (.putfield 12, 3) := by decide +kernel
theorem dX4_init_15 : decode cX4_init 15 = .ok (.aload_n 0, 1) := by decide +kernel
theorem dX4_init_16 : decode cX4_init 16 = .ok (.new 16, 3) := by decide +kernel
theorem dX4_init_19 : decode cX4_init 19 = .ok (.dup, 1) := by decide +kernel
theorem dX4_init_20 : decode cX4_init 20 = .ok (.invokespecial 18, 3) := by decide +kernel
theorem dX4_init_23 : decode cX4_init 23 = .ok (.putfield 19, 3) := by decide +kernel
theorem dX4_init_26 : decode cX4_init 26 = .ok (.aload_n 0, 1) := by decide +kernel
theorem dX4_init_27 : decode cX4_init 27 = .ok (.new 23, 3) := by decide +kernel
theorem dX4_init_30 : decode cX4_init 30 = .ok (.dup, 1) := by decide +kernel
theorem dX4_init_31 : decode cX4_init 31 = .ok (.invokespecial 25, 3) := by decide +kernel
theorem dX4_init_34 : decode cX4_init 34 = .ok (.putfield 26, 3) := by decide +kernel
theorem dX4_init_37 : decode cX4_init 37 = .ok (.aload_n 0, 1) := by decide +kernel
theorem dX4_init_38 : decode cX4_init 38 = .ok (.new 30, 3) := by decide +kernel
theorem dX4_init_41 : decode cX4_init 41 = .ok (.dup, 1) := by decide +kernel
theorem dX4_init_42 : decode cX4_init 42 = .ok (.invokespecial 32, 3) := by decide +kernel
theorem dX4_init_45 : decode cX4_init 45 = .ok (.putfield 33, 3) := by decide +kernel
theorem dX4_init_48 : decode cX4_init 48 = .ok (.aload_n 0, 1) := by decide +kernel
theorem dX4_init_49 : decode cX4_init 49 = .ok (.iconst 2, 1) := by decide +kernel
theorem dX4_init_50 : decode cX4_init 50 = .ok (.sipush 151, 3) := by decide +kernel
theorem dX4_init_53 : decode cX4_init 53 = .ok (.multianewarray 37 2, 4) := by decide +kernel
theorem dX4_init_57 : decode cX4_init 57 = .ok (.putfield 39, 3) := by decide +kernel
theorem dX4_init_60 : decode cX4_init 60 = .ok (.aload_n 0, 1) := by decide +kernel
theorem dX4_init_61 : decode cX4_init 61 = .ok (.iconst 2, 1) := by decide +kernel
theorem dX4_init_62 : decode cX4_init 62 = .ok (.newarray .boolean, 2) := by decide +kernel
theorem dX4_init_64 : decode cX4_init 64 = .ok (.putfield 42, 3) := by decide +kernel
theorem dX4_init_67 : decode cX4_init 67 = .ok (.return_, 1) := by decide +kernel
set_option maxRecDepth 20000 in
theorem ggX4_set_X4_isWithin : GoodIn wsX4_set wsX4_isWithin := goodIn_r _ [8] (by decide +kernel) (by decide +kernel)
set_option maxRecDepth 20000 in
theorem gX4_set_X4_isWithin : GoodIn wsX4_set (va_wsS RX4 46 yX4_isWithin wsX4_isWithin) := goodIn_app (goodIn_of _ (by decide +kernel)) ggX4_set_X4_isWithin
set_option maxRecDepth 20000 in
theorem ggX4_set_X2_record : GoodIn wsX4_set wsX2_record := goodIn_r _ [13, 14, 15, 16, 17, 18, 19, 20, 21, 22, 23, 24, 25, 26, 37, 38, 39, 40] (by decide +kernel) (by decide +kernel)
set_option maxRecDepth 20000 in
theorem gX4_set_X2_record : GoodIn wsX4_set (wsV RX4 57 RX2 yX2_record wsX2_record) := goodIn_app (goodIn_of _ (by decide +kernel)) ggX4_set_X2_record
set_option maxRecDepth 20000 in
theorem ggX4_set_X1_changeSetting : GoodIn wsX4_set wsX1_changeSetting := goodIn_r _ [30, 22, 40] (by decide +kernel) (by decide +kernel)
set_option maxRecDepth 20000 in
theorem gX4_set_X1_changeSetting : GoodIn wsX4_set (wsV RX4 61 RX1 yX1_changeSetting wsX1_changeSetting) := goodIn_app (goodIn_of _ (by decide +kernel)) ggX4_set_X1_changeSetting
theorem dX4_set_0 : decode cX4_set 0 = .ok (.iload_n 1, 1) := by decide +kernel
theorem dX4_set_1 : decode cX4_set 1 = .ok (.iconst 0, 1) := by decide +kernel
theorem dX4_set_2 : decode cX4_set 2 = .ok (.iconst 4, 1) := by decide +kernel
theorem dX4_set_3 : decode cX4_set 3 = .ok (.invokestatic 46, 3) := by decide +kernel
theorem dX4_set_6 : decode cX4_set 6 = .ok (.ifCond .ne 6, 3) := by decide +kernel
theorem dX4_set_9 : decode cX4_set 9 = .ok (.bipush (-2), 2) := by decide +kernel
theorem dX4_set_11 : decode cX4_set 11 = .ok (.ireturn, 1) := by decide +kernel
theorem dX4_set_12 : decode cX4_set 12 = .ok (.iload_n 2, 1) := by decide +kernel
theorem dX4_set_13 : decode cX4_set 13 = .ok (.getstatic 50, 3) := by decide +kernel
theorem dX4_set_16 : decode cX4_set 16 = .ok (.iload_n 1, 1) := by decide +kernel
theorem dX4_set_17 : decode cX4_set 17 = .ok (.iaload, 1) := by decide +kernel
theorem dX4_set_18 : decode cX4_set 18 = .ok (.getstatic 54, 3) := by decide +kernel
theorem dX4_set_21 : decode cX4_set 21 = .ok (.iload_n 1, 1) := by decide +kernel
theorem dX4_set_22 : decode cX4_set 22 = .ok (.iaload, 1) := by decide +kernel
theorem dX4_set_23 : decode cX4_set 23 = .ok (.invokestatic 46, 3) := by decide +kernel
theorem dX4_set_26 : decode cX4_set 26 = .ok (.ifCond .ne 6, 3) := by decide +kernel
theorem dX4_set_29 : decode cX4_set 29 = .ok (.bipush (-2), 2) := by decide +kernel
theorem dX4_set_31 : decode cX4_set 31 = .ok (.ireturn, 1) := by decide +kernel
theorem dX4_set_32 : decode cX4_set 32 = .ok (.aload_n 0, 1) := by decide +kernel
theorem dX4_set_33 : decode cX4_set 33 = .ok (.getfield 33, 3) := by decide +kernel
theorem dX4_set_36 : decode cX4_set 36 = .ok (.aload_n 0, 1) := by decide +kernel
theorem dX4_set_37 : decode cX4_set 37 = .ok (.getfield 12, 3) := by decide +kernel
theorem dX4_set_40 : decode cX4_set 40 = .ok (.invokevirtual 57, 3) := by decide +kernel
theorem dX4_set_43 : decode cX4_set 43 = .ok (.aload_n 0, 1) := by decide +kernel
theorem dX4_set_44 : decode cX4_set 44 = .ok (.getfield 12, 3) := by decide +kernel
theorem dX4_set_47 : decode cX4_set 47 = .ok (.iload_n 1, 1) := by decide +kernel
theorem dX4_set_48 : decode cX4_set 48 = .ok (.iload_n 2, 1) := by decide +kernel
theorem dX4_set_49 : decode cX4_set 49 = .ok (.invokevirtual 61, 3) := by decide +kernel
theorem dX4_set_52 : decode cX4_set 52 = .ok (.ireturn, 1) := by decide +kernel
set_option maxRecDepth 20000 in
theorem ggX4_film_X4_isWithin : GoodIn wsX4_film wsX4_isWithin := goodIn_r _ [6] (by decide +kernel) (by decide +kernel)
set_option maxRecDepth 20000 in
theorem gX4_film_X4_isWithin : GoodIn wsX4_film (va_wsS RX4 46 yX4_isWithin wsX4_isWithin) := goodIn_app (goodIn_of _ (by decide +kernel)) ggX4_film_X4_isWithin
set_option maxRecDepth 20000 in
theorem ggX4_film_X4_isDay : GoodIn wsX4_film wsX4_isDay := goodIn_r _ [9, 3, 4, 5, 6] (by decide +kernel) (by decide +kernel)
set_option maxRecDepth 20000 in
theorem gX4_film_X4_isDay : GoodIn wsX4_film (va_wsS RX4 65 yX4_isDay wsX4_isDay) := goodIn_app (goodIn_of _ (by decide +kernel)) ggX4_film_X4_isDay
set_option maxRecDepth 20000 in
theorem ggX4_film_X1_films : GoodIn wsX4_film wsX1_films := goodIn_r _ [14, 15, 43] (by decide +kernel) (by decide +kernel)
set_option maxRecDepth 20000 in
theorem gX4_film_X1_films : GoodIn wsX4_film (wsV RX4 69 RX1 yX1_films wsX1_films) := goodIn_app (goodIn_of _ (by decide +kernel)) ggX4_film_X1_films
set_option maxRecDepth 20000 in
theorem ggX4_film_X2_record : GoodIn wsX4_film wsX2_record := goodIn_r _ [20, 21, 22, 23, 24, 25, 26, 13, 27, 15, 28, 29, 30, 31, 44, 45, 46, 43] (by decide +kernel) (by decide +kernel)
set_option maxRecDepth 20000 in
theorem gX4_film_X2_record : GoodIn wsX4_film (wsV RX4 57 RX2 yX2_record wsX2_record) := goodIn_app (goodIn_of _ (by decide +kernel)) ggX4_film_X2_record
set_option maxRecDepth 20000 in
theorem ggX4_film_X1_addFilm : GoodIn wsX4_film wsX1_addFilm := goodIn_r _ [35, 15, 36, 11, 12, 13, 14, 43] (by decide +kernel) (by decide +kernel)
set_option maxRecDepth 20000 in
theorem gX4_film_X1_addFilm : GoodIn wsX4_film (wsV RX4 73 RX1 yX1_addFilm wsX1_addFilm) := goodIn_app (goodIn_of _ (by decide +kernel)) ggX4_film_X1_addFilm
theorem dX4_film_0 : decode cX4_film 0 = .ok (.iload_n 1, 1) := by decide +kernel
theorem dX4_film_1 : decode cX4_film 1 = .ok (.iconst 0, 1) := by decide +kernel
theorem dX4_film_2 : decode cX4_film 2 = .ok (.iconst 3, 1) := by decide +kernel
theorem dX4_film_3 : decode cX4_film 3 = .ok (.invokestatic 46, 3) := by decide +kernel
theorem dX4_film_6 : decode cX4_film 6 = .ok (.ifCond .eq 14, 3) := by decide +kernel
theorem dX4_film_9 : decode cX4_film 9 = .ok (.iload_n 2, 1) := by decide +kernel
theorem dX4_film_10 : decode cX4_film 10 = .ok (.iconst 1, 1) := by decide +kernel
theorem dX4_film_11 : decode cX4_film 11 = .ok (.sipush 999, 3) := by decide +kernel
theorem dX4_film_14 : decode cX4_film 14 = .ok (.invokestatic 46, 3) := by decide +kernel
theorem dX4_film_17 : decode cX4_film 17 = .ok (.ifCond .ne 6, 3) := by decide +kernel
theorem dX4_film_20 : decode cX4_film 20 = .ok (.bipush (-2), 2) := by decide +kernel
theorem dX4_film_22 : decode cX4_film 22 = .ok (.ireturn, 1) := by decide +kernel
theorem dX4_film_23 : decode cX4_film 23 = .ok (.iload_n 3, 1) := by decide +kernel
theorem dX4_film_24 : decode cX4_film 24 = .ok (.iconst 0, 1) := by decide +kernel
theorem dX4_film_25 : decode cX4_film 25 = .ok (.sipush 500, 3) := by decide +kernel
theorem dX4_film_28 : decode cX4_film 28 = .ok (.invokestatic 46, 3) := by decide +kernel
theorem dX4_film_31 : decode cX4_film 31 = .ok (.ifCond .eq 23, 3) := by decide +kernel
theorem dX4_film_34 : decode cX4_film 34 = .ok (.iload 4, 2) := by decide +kernel
theorem dX4_film_36 : decode cX4_film 36 = .ok (.bipush 20, 2) := by decide +kernel
theorem dX4_film_38 : decode cX4_film 38 = .ok (.bipush 90, 2) := by decide +kernel
theorem dX4_film_40 : decode cX4_film 40 = .ok (.invokestatic 46, 3) := by decide +kernel
theorem dX4_film_43 : decode cX4_film 43 = .ok (.ifCond .eq 11, 3) := by decide +kernel
theorem dX4_film_46 : decode cX4_film 46 = .ok (.iload 5, 2) := by decide +kernel
theorem dX4_film_48 : decode cX4_film 48 = .ok (.invokestatic 65, 3) := by decide +kernel
theorem dX4_film_51 : decode cX4_film 51 = .ok (.ifCond .ne 6, 3) := by decide +kernel
theorem dX4_film_54 : decode cX4_film 54 = .ok (.bipush (-2), 2) := by decide +kernel
theorem dX4_film_56 : decode cX4_film 56 = .ok (.ireturn, 1) := by decide +kernel
theorem dX4_film_57 : decode cX4_film 57 = .ok (.aload_n 0, 1) := by decide +kernel
theorem dX4_film_58 : decode cX4_film 58 = .ok (.getfield 12, 3) := by decide +kernel
theorem dX4_film_61 : decode cX4_film 61 = .ok (.invokevirtual 69, 3) := by decide +kernel
theorem dX4_film_64 : decode cX4_film 64 = .ok (.bipush 8, 2) := by decide +kernel
theorem dX4_film_66 : decode cX4_film 66 = .ok (.if_icmp .lt 6, 3) := by decide +kernel
theorem dX4_film_69 : decode cX4_film 69 = .ok (.bipush (-4), 2) := by decide +kernel
theorem dX4_film_71 : decode cX4_film 71 = .ok (.ireturn, 1) := by decide +kernel
theorem dX4_film_72 : decode cX4_film 72 = .ok (.aload_n 0, 1) := by decide +kernel
theorem dX4_film_73 : decode cX4_film 73 = .ok (.getfield 33, 3) := by decide +kernel
theorem dX4_film_76 : decode cX4_film 76 = .ok (.aload_n 0, 1) := by decide +kernel
theorem dX4_film_77 : decode cX4_film 77 = .ok (.getfield 12, 3) := by decide +kernel
theorem dX4_film_80 : decode cX4_film 80 = .ok (.invokevirtual 57, 3) := by decide +kernel
theorem dX4_film_83 : decode cX4_film 83 = .ok (.aload_n 0, 1) := by decide +kernel
theorem dX4_film_84 : decode cX4_film 84 = .ok (.getfield 12, 3) := by decide +kernel
theorem dX4_film_87 : decode cX4_film 87 = .ok (.iload_n 1, 1) := by decide +kernel
theorem dX4_film_88 : decode cX4_film 88 = .ok (.iload_n 2, 1) := by decide +kernel
theorem dX4_film_89 : decode cX4_film 89 = .ok (.iload_n 3, 1) := by decide +kernel
theorem dX4_film_90 : decode cX4_film 90 = .ok (.iload 4, 2) := by decide +kernel
theorem dX4_film_92 : decode cX4_film 92 = .ok (.iload 5, 2) := by decide +kernel
theorem dX4_film_94 : decode cX4_film 94 = .ok (.invokevirtual 73, 3) := by decide +kernel
theorem dX4_film_97 : decode cX4_film 97 = .ok (.ireturn, 1) := by decide +kernel
set_option maxRecDepth 20000 in
theorem ggX4_show_X4_errorOfShow : GoodIn wsX4_show wsX4_errorOfShow := goodIn_r _ [7, 2, 8, 9, 10, 11, 12, 13, 14, 15, 16, 17, 18, 19, 6, 20, 21, 22, 23, 24, 25, 26, 27, 28, 29, 30, 31, 32, 33, 34, 35, 36, 37, 38, 39, 63, 64, 65, 66, 67, 68, 69] (by decide +kernel) (by decide +kernel)
set_option maxRecDepth 20000 in
theorem gX4_show_X4_errorOfShow : GoodIn wsX4_show (wsV RX4 77 RX4 yX4_errorOfShow wsX4_errorOfShow) := goodIn_app (goodIn_of _ (by decide +kernel)) ggX4_show_X4_errorOfShow
set_option maxRecDepth 20000 in
theorem ggX4_show_X2_record : GoodIn wsX4_show wsX2_record := goodIn_r _ [44, 45, 46, 47, 48, 49, 50, 11, 51, 17, 52, 53, 54, 55, 70, 71, 72, 69] (by decide +kernel) (by decide +kernel)
set_option maxRecDepth 20000 in
theorem gX4_show_X2_record : GoodIn wsX4_show (wsV RX4 57 RX2 yX2_record wsX2_record) := goodIn_app (goodIn_of _ (by decide +kernel)) ggX4_show_X2_record
set_option maxRecDepth 20000 in
theorem ggX4_show_X4_placeOf : GoodIn wsX4_show wsX4_placeOf := goodIn_r _ [58] (by decide +kernel) (by decide +kernel)
set_option maxRecDepth 20000 in
theorem gX4_show_X4_placeOf : GoodIn wsX4_show (va_wsS RX4 81 yX4_placeOf wsX4_placeOf) := goodIn_app (goodIn_of _ (by decide +kernel)) ggX4_show_X4_placeOf
set_option maxRecDepth 20000 in
theorem ggX4_show_X1_replaceShow : GoodIn wsX4_show wsX1_replaceShow := goodIn_r _ [62, 17, 69] (by decide +kernel) (by decide +kernel)
set_option maxRecDepth 20000 in
theorem gX4_show_X1_replaceShow : GoodIn wsX4_show (wsV RX4 84 RX1 yX1_replaceShow wsX1_replaceShow) := goodIn_app (goodIn_of _ (by decide +kernel)) ggX4_show_X1_replaceShow
theorem dX4_show_0 : decode cX4_show 0 = .ok (.aload_n 0, 1) := by decide +kernel
theorem dX4_show_1 : decode cX4_show 1 = .ok (.iload_n 1, 1) := by decide +kernel
theorem dX4_show_2 : decode cX4_show 2 = .ok (.iload_n 2, 1) := by decide +kernel
theorem dX4_show_3 : decode cX4_show 3 = .ok (.iload_n 3, 1) := by decide +kernel
theorem dX4_show_4 : decode cX4_show 4 = .ok (.invokevirtual 77, 3) := by decide +kernel
theorem dX4_show_7 : decode cX4_show 7 = .ok (.istore 4, 2) := by decide +kernel
theorem dX4_show_9 : decode cX4_show 9 = .ok (.iload 4, 2) := by decide +kernel
theorem dX4_show_11 : decode cX4_show 11 = .ok (.ifCond .eq 6, 3) := by decide +kernel
theorem dX4_show_14 : decode cX4_show 14 = .ok (.iload 4, 2) := by decide +kernel
theorem dX4_show_16 : decode cX4_show 16 = .ok (.ireturn, 1) := by decide +kernel
theorem dX4_show_17 : decode cX4_show 17 = .ok (.aload_n 0, 1) := by decide +kernel
theorem dX4_show_18 : decode cX4_show 18 = .ok (.getfield 33, 3) := by decide +kernel
theorem dX4_show_21 : decode cX4_show 21 = .ok (.aload_n 0, 1) := by decide +kernel
theorem dX4_show_22 : decode cX4_show 22 = .ok (.getfield 12, 3) := by decide +kernel
theorem dX4_show_25 : decode cX4_show 25 = .ok (.invokevirtual 57, 3) := by decide +kernel
theorem dX4_show_28 : decode cX4_show 28 = .ok (.aload_n 0, 1) := by decide +kernel
theorem dX4_show_29 : decode cX4_show 29 = .ok (.getfield 12, 3) := by decide +kernel
theorem dX4_show_32 : decode cX4_show 32 = .ok (.iload_n 2, 1) := by decide +kernel
theorem dX4_show_33 : decode cX4_show 33 = .ok (.iload_n 3, 1) := by decide +kernel
theorem dX4_show_34 : decode cX4_show 34 = .ok (.invokestatic 81, 3) := by decide +kernel
theorem dX4_show_37 : decode cX4_show 37 = .ok (.iload_n 1, 1) := by decide +kernel
theorem dX4_show_38 : decode cX4_show 38 = .ok (.invokevirtual 84, 3) := by decide +kernel
theorem dX4_show_41 : decode cX4_show 41 = .ok (.ireturn, 1) := by decide +kernel
set_option maxRecDepth 20000 in
theorem ggX4_drop_X4_isPlace : GoodIn wsX4_drop wsX4_isPlace := goodIn_r _ [6, 7, 8, 5, 9, 10, 11, 12] (by decide +kernel) (by decide +kernel)
set_option maxRecDepth 20000 in
theorem gX4_drop_X4_isPlace : GoodIn wsX4_drop (va_wsS RX4 87 yX4_isPlace wsX4_isPlace) := goodIn_app (goodIn_of _ (by decide +kernel)) ggX4_drop_X4_isPlace
set_option maxRecDepth 20000 in
theorem ggX4_drop_X4_placeOf : GoodIn wsX4_drop wsX4_placeOf := goodIn_r _ [15] (by decide +kernel) (by decide +kernel)
set_option maxRecDepth 20000 in
theorem gX4_drop_X4_placeOf : GoodIn wsX4_drop (va_wsS RX4 81 yX4_placeOf wsX4_placeOf) := goodIn_app (goodIn_of _ (by decide +kernel)) ggX4_drop_X4_placeOf
set_option maxRecDepth 20000 in
theorem ggX4_drop_X1_showAt : GoodIn wsX4_drop wsX1_showAt := goodIn_r _ [20, 21, 48] (by decide +kernel) (by decide +kernel)
set_option maxRecDepth 20000 in
theorem gX4_drop_X1_showAt : GoodIn wsX4_drop (wsV RX4 91 RX1 yX1_showAt wsX1_showAt) := goodIn_app (goodIn_of _ (by decide +kernel)) ggX4_drop_X1_showAt
set_option maxRecDepth 20000 in
theorem ggX4_drop_X2_record : GoodIn wsX4_drop wsX2_record := goodIn_r _ [26, 27, 28, 29, 30, 31, 32, 19, 33, 21, 34, 35, 36, 37, 49, 50, 51, 48] (by decide +kernel) (by decide +kernel)
set_option maxRecDepth 20000 in
theorem gX4_drop_X2_record : GoodIn wsX4_drop (wsV RX4 57 RX2 yX2_record wsX2_record) := goodIn_app (goodIn_of _ (by decide +kernel)) ggX4_drop_X2_record
set_option maxRecDepth 20000 in
theorem ggX4_drop_X1_replaceShow : GoodIn wsX4_drop wsX1_replaceShow := goodIn_r _ [41, 21, 48] (by decide +kernel) (by decide +kernel)
set_option maxRecDepth 20000 in
theorem gX4_drop_X1_replaceShow : GoodIn wsX4_drop (wsV RX4 84 RX1 yX1_replaceShow wsX1_replaceShow) := goodIn_app (goodIn_of _ (by decide +kernel)) ggX4_drop_X1_replaceShow
theorem dX4_drop_0 : decode cX4_drop 0 = .ok (.iload_n 1, 1) := by decide +kernel
theorem dX4_drop_1 : decode cX4_drop 1 = .ok (.iload_n 2, 1) := by decide +kernel
theorem dX4_drop_2 : decode cX4_drop 2 = .ok (.invokestatic 87, 3) := by decide +kernel
theorem dX4_drop_5 : decode cX4_drop 5 = .ok (.ifCond .ne 6, 3) := by decide +kernel
theorem dX4_drop_8 : decode cX4_drop 8 = .ok (.bipush (-2), 2) := by decide +kernel
theorem dX4_drop_10 : decode cX4_drop 10 = .ok (.ireturn, 1) := by decide +kernel
theorem dX4_drop_11 : decode cX4_drop 11 = .ok (.iload_n 1, 1) := by decide +kernel
theorem dX4_drop_12 : decode cX4_drop 12 = .ok (.iload_n 2, 1) := by decide +kernel
theorem dX4_drop_13 : decode cX4_drop 13 = .ok (.invokestatic 81, 3) := by decide +kernel
theorem dX4_drop_16 : decode cX4_drop 16 = .ok (.istore_n 3, 1) := by decide +kernel
theorem dX4_drop_17 : decode cX4_drop 17 = .ok (.aload_n 0, 1) := by decide +kernel
theorem dX4_drop_18 : decode cX4_drop 18 = .ok (.getfield 12, 3) := by decide +kernel
theorem dX4_drop_21 : decode cX4_drop 21 = .ok (.iload_n 3, 1) := by decide +kernel
theorem dX4_drop_22 : decode cX4_drop 22 = .ok (.invokevirtual 91, 3) := by decide +kernel
theorem dX4_drop_25 : decode cX4_drop 25 = .ok (.bipush (-6), 2) := by decide +kernel
theorem dX4_drop_27 : decode cX4_drop 27 = .ok (.if_icmp .ne 6, 3) := by decide +kernel
theorem dX4_drop_30 : decode cX4_drop 30 = .ok (.bipush (-5), 2) := by decide +kernel
theorem dX4_drop_32 : decode cX4_drop 32 = .ok (.ireturn, 1) := by decide +kernel
theorem dX4_drop_33 : decode cX4_drop 33 = .ok (.aload_n 0, 1) := by decide +kernel
theorem dX4_drop_34 : decode cX4_drop 34 = .ok (.getfield 33, 3) := by decide +kernel
theorem dX4_drop_37 : decode cX4_drop 37 = .ok (.aload_n 0, 1) := by decide +kernel
theorem dX4_drop_38 : decode cX4_drop 38 = .ok (.getfield 12, 3) := by decide +kernel
theorem dX4_drop_41 : decode cX4_drop 41 = .ok (.invokevirtual 57, 3) := by decide +kernel
theorem dX4_drop_44 : decode cX4_drop 44 = .ok (.aload_n 0, 1) := by decide +kernel
theorem dX4_drop_45 : decode cX4_drop 45 = .ok (.getfield 12, 3) := by decide +kernel
theorem dX4_drop_48 : decode cX4_drop 48 = .ok (.iload_n 3, 1) := by decide +kernel
theorem dX4_drop_49 : decode cX4_drop 49 = .ok (.bipush (-6), 2) := by decide +kernel
theorem dX4_drop_51 : decode cX4_drop 51 = .ok (.invokevirtual 84, 3) := by decide +kernel
theorem dX4_drop_54 : decode cX4_drop 54 = .ok (.ireturn, 1) := by decide +kernel
set_option maxRecDepth 20000 in
theorem ggX4_exchange_X4_isPlace : GoodIn wsX4_exchange wsX4_isPlace := goodIn_r _ [7, 8, 9, 6, 10, 11, 12, 13] (by decide +kernel) (by decide +kernel)
set_option maxRecDepth 20000 in
theorem gX4_exchange_X4_isPlace : GoodIn wsX4_exchange (va_wsS RX4 87 yX4_isPlace wsX4_isPlace) := goodIn_app (goodIn_of _ (by decide +kernel)) ggX4_exchange_X4_isPlace
set_option maxRecDepth 20000 in
theorem ggX4_exchange_X4_placeOf : GoodIn wsX4_exchange wsX4_placeOf := goodIn_r _ [16] (by decide +kernel) (by decide +kernel)
set_option maxRecDepth 20000 in
theorem gX4_exchange_X4_placeOf : GoodIn wsX4_exchange (va_wsS RX4 81 yX4_placeOf wsX4_placeOf) := goodIn_app (goodIn_of _ (by decide +kernel)) ggX4_exchange_X4_placeOf
set_option maxRecDepth 20000 in
theorem ggX4_exchange_X1_showAt : GoodIn wsX4_exchange wsX1_showAt := goodIn_r _ [21, 22, 129] (by decide +kernel) (by decide +kernel)
set_option maxRecDepth 20000 in
theorem gX4_exchange_X1_showAt : GoodIn wsX4_exchange (wsV RX4 91 RX1 yX1_showAt wsX1_showAt) := goodIn_app (goodIn_of _ (by decide +kernel)) ggX4_exchange_X1_showAt
set_option maxRecDepth 20000 in
theorem ggX4_exchange_X1_canHold : GoodIn wsX4_exchange wsX1_canHold := goodIn_r _ [26, 27, 28, 29, 20, 30, 22, 31, 32, 33, 34, 35, 36, 37, 38, 39, 40, 41, 42, 129] (by decide +kernel) (by decide +kernel)
set_option maxRecDepth 20000 in
theorem gX4_exchange_X1_canHold : GoodIn wsX4_exchange (wsV RX4 95 RX1 yX1_canHold wsX1_canHold) := goodIn_app (goodIn_of _ (by decide +kernel)) ggX4_exchange_X1_canHold
set_option maxRecDepth 20000 in
theorem ggX4_exchange_X4_sumOfFilms : GoodIn wsX4_exchange wsX4_sumOfFilms := goodIn_r _ [46, 1, 47, 36, 37, 20, 38, 22, 48, 49, 50, 6, 51, 52, 53, 54, 55, 56, 57, 58, 59, 60, 61, 40, 41, 42, 62, 63, 64, 65, 66, 67, 68, 69, 18, 19, 21, 70, 71, 72, 73, 74, 75, 76, 77, 78, 79, 80, 81, 82, 83, 84, 85, 86, 87, 88, 89, 90, 91, 92, 93, 94, 95, 96, 97, 98, 99, 100, 101, 102, 123, 124, 125, 126, 127, 128, 129, 130, 131, 132, 133, 134, 135] (by decide +kernel) (by decide +kernel)
set_option maxRecDepth 20000 in
theorem gX4_exchange_X4_sumOfFilms : GoodIn wsX4_exchange (wsV RX4 98 RX4 yX4_sumOfFilms wsX4_sumOfFilms) := goodIn_app (goodIn_of _ (by decide +kernel)) ggX4_exchange_X4_sumOfFilms
set_option maxRecDepth 20000 in
theorem ggX4_exchange_X2_record : GoodIn wsX4_exchange wsX2_record := goodIn_r _ [107, 108, 109, 110, 111, 112, 113, 20, 114, 22, 115, 116, 117, 118, 136, 137, 138, 129] (by decide +kernel) (by decide +kernel)
set_option maxRecDepth 20000 in
theorem gX4_exchange_X2_record : GoodIn wsX4_exchange (wsV RX4 57 RX2 yX2_record wsX2_record) := goodIn_app (goodIn_of _ (by decide +kernel)) ggX4_exchange_X2_record
set_option maxRecDepth 20000 in
theorem ggX4_exchange_X1_replaceShow : GoodIn wsX4_exchange wsX1_replaceShow := goodIn_r _ [122, 22, 129] (by decide +kernel) (by decide +kernel)
set_option maxRecDepth 20000 in
theorem gX4_exchange_X1_replaceShow : GoodIn wsX4_exchange (wsV RX4 84 RX1 yX1_replaceShow wsX1_replaceShow) := goodIn_app (goodIn_of _ (by decide +kernel)) ggX4_exchange_X1_replaceShow
theorem dX4_exchange_0 : decode cX4_exchange 0 = .ok (.iload_n 1, 1) := by decide +kernel
theorem dX4_exchange_1 : decode cX4_exchange 1 = .ok (.iload_n 2, 1) := by decide +kernel
theorem dX4_exchange_2 : decode cX4_exchange 2 = .ok (.invokestatic 87, 3) := by decide +kernel
theorem dX4_exchange_5 : decode cX4_exchange 5 = .ok (.ifCond .eq 12, 3) := by decide +kernel
theorem dX4_exchange_8 : decode cX4_exchange 8 = .ok (.iload_n 3, 1) := by decide +kernel
theorem dX4_exchange_9 : decode cX4_exchange 9 = .ok (.iload 4, 2) := by decide +kernel
theorem dX4_exchange_11 : decode cX4_exchange 11 = .ok (.invokestatic 87, 3) := by decide +kernel
theorem dX4_exchange_14 : decode cX4_exchange 14 = .ok (.ifCond .ne 6, 3) := by decide +kernel
theorem dX4_exchange_17 : decode cX4_exchange 17 = .ok (.bipush (-2), 2) := by decide +kernel
theorem dX4_exchange_19 : decode cX4_exchange 19 = .ok (.ireturn, 1) := by decide +kernel
theorem dX4_exchange_20 : decode cX4_exchange 20 = .ok (.iload_n 1, 1) := by decide +kernel
theorem dX4_exchange_21 : decode cX4_exchange 21 = .ok (.iload_n 2, 1) := by decide +kernel
theorem dX4_exchange_22 : decode cX4_exchange 22 = .ok (.invokestatic 81, 3) := by decide +kernel
theorem dX4_exchange_25 : decode cX4_exchange 25 = .ok (.istore 5, 2) := by decide +kernel
theorem dX4_exchange_27 : decode cX4_exchange 27 = .ok (.iload_n 3, 1) := by decide +kernel
theorem dX4_exchange_28 : decode cX4_exchange 28 = .ok (.iload 4, 2) := by decide +kernel
theorem dX4_exchange_30 : decode cX4_exchange 30 = .ok (.invokestatic 81, 3) := by decide +kernel
theorem dX4_exchange_33 : decode cX4_exchange 33 = .ok (.istore 6, 2) := by decide +kernel
theorem dX4_exchange_35 : decode cX4_exchange 35 = .ok (.aload_n 0, 1) := by decide +kernel
theorem dX4_exchange_36 : decode cX4_exchange 36 = .ok (.getfield 12, 3) := by decide +kernel
theorem dX4_exchange_39 : decode cX4_exchange 39 = .ok (.iload_n 3, 1) := by decide +kernel
theorem dX4_exchange_40 : decode cX4_exchange 40 = .ok (.aload_n 0, 1) := by decide +kernel
theorem dX4_exchange_41 : decode cX4_exchange 41 = .ok (.getfield 12, 3) := by decide +kernel
theorem dX4_exchange_44 : decode cX4_exchange 44 = .ok (.iload 5, 2) := by decide +kernel
theorem dX4_exchange_46 : decode cX4_exchange 46 = .ok (.invokevirtual 91, 3) := by decide +kernel
theorem dX4_exchange_49 : decode cX4_exchange 49 = .ok (.invokevirtual 95, 3) := by decide +kernel
theorem dX4_exchange_52 : decode cX4_exchange 52 = .ok (.ifCond .eq 23, 3) := by decide +kernel
theorem dX4_exchange_55 : decode cX4_exchange 55 = .ok (.aload_n 0, 1) := by decide +kernel
theorem dX4_exchange_56 : decode cX4_exchange 56 = .ok (.getfield 12, 3) := by decide +kernel
theorem dX4_exchange_59 : decode cX4_exchange 59 = .ok (.iload_n 1, 1) := by decide +kernel
theorem dX4_exchange_60 : decode cX4_exchange 60 = .ok (.aload_n 0, 1) := by decide +kernel
theorem dX4_exchange_61 : decode cX4_exchange 61 = .ok (.getfield 12, 3) := by decide +kernel
theorem dX4_exchange_64 : decode cX4_exchange 64 = .ok (.iload 6, 2) := by decide +kernel
theorem dX4_exchange_66 : decode cX4_exchange 66 = .ok (.invokevirtual 91, 3) := by decide +kernel
theorem dX4_exchange_69 : decode cX4_exchange 69 = .ok (.invokevirtual 95, 3) := by decide +kernel
theorem dX4_exchange_72 : decode cX4_exchange 72 = .ok (.ifCond .ne 6, 3) := by decide +kernel
theorem dX4_exchange_75 : decode cX4_exchange 75 = .ok (.bipush (-5), 2) := by decide +kernel
theorem dX4_exchange_77 : decode cX4_exchange 77 = .ok (.ireturn, 1) := by decide +kernel
theorem dX4_exchange_78 : decode cX4_exchange 78 = .ok (.aload_n 0, 1) := by decide +kernel
theorem dX4_exchange_79 : decode cX4_exchange 79 = .ok (.iconst 4, 1) := by decide +kernel
theorem dX4_exchange_80 : decode cX4_exchange 80 = .ok (.invokevirtual 98, 3) := by decide +kernel
theorem dX4_exchange_83 : decode cX4_exchange 83 = .ok (.istore 7, 2) := by decide +kernel
theorem dX4_exchange_85 : decode cX4_exchange 85 = .ok (.aload_n 0, 1) := by decide +kernel
theorem dX4_exchange_86 : decode cX4_exchange 86 = .ok (.getfield 33, 3) := by decide +kernel
theorem dX4_exchange_89 : decode cX4_exchange 89 = .ok (.aload_n 0, 1) := by decide +kernel
theorem dX4_exchange_90 : decode cX4_exchange 90 = .ok (.getfield 12, 3) := by decide +kernel
theorem dX4_exchange_93 : decode cX4_exchange 93 = .ok (.invokevirtual 57, 3) := by decide +kernel
theorem dX4_exchange_96 : decode cX4_exchange 96 = .ok (.aload_n 0, 1) := by decide +kernel
theorem dX4_exchange_97 : decode cX4_exchange 97 = .ok (.getfield 12, 3) := by decide +kernel
theorem dX4_exchange_100 : decode cX4_exchange 100 = .ok (.iload 5, 2) := by decide +kernel
theorem dX4_exchange_102 : decode cX4_exchange 102 = .ok (.aload_n 0, 1) := by decide +kernel
theorem dX4_exchange_103 : decode cX4_exchange 103 = .ok (.getfield 12, 3) := by decide +kernel
theorem dX4_exchange_106 : decode cX4_exchange 106 = .ok (.iload 6, 2) := by decide +kernel
theorem dX4_exchange_108 : decode cX4_exchange 108 = .ok (.invokevirtual 91, 3) := by decide +kernel
theorem dX4_exchange_111 : decode cX4_exchange 111 = .ok (.invokevirtual 84, 3) := by decide +kernel
theorem dX4_exchange_114 : decode cX4_exchange 114 = .ok (.istore 8, 2) := by decide +kernel
theorem dX4_exchange_116 : decode cX4_exchange 116 = .ok (.aload_n 0, 1) := by decide +kernel
theorem dX4_exchange_117 : decode cX4_exchange 117 = .ok (.getfield 12, 3) := by decide +kernel
theorem dX4_exchange_120 : decode cX4_exchange 120 = .ok (.iload 6, 2) := by decide +kernel
theorem dX4_exchange_122 : decode cX4_exchange 122 = .ok (.iload 8, 2) := by decide +kernel
theorem dX4_exchange_124 : decode cX4_exchange 124 = .ok (.invokevirtual 84, 3) := by decide +kernel
theorem dX4_exchange_127 : decode cX4_exchange 127 = .ok (.pop, 1) := by decide +kernel
theorem dX4_exchange_128 : decode cX4_exchange 128 = .ok (.aload_n 0, 1) := by decide +kernel
theorem dX4_exchange_129 : decode cX4_exchange 129 = .ok (.iconst 4, 1) := by decide +kernel
theorem dX4_exchange_130 : decode cX4_exchange 130 = .ok (.invokevirtual 98, 3) := by decide +kernel
theorem dX4_exchange_133 : decode cX4_exchange 133 = .ok (.iload 7, 2) := by decide +kernel
theorem dX4_exchange_135 : decode cX4_exchange 135 = .ok (.isub, 1) := by decide +kernel
theorem dX4_exchange_136 : decode cX4_exchange 136 = .ok (.ldc 101, 2) := by decide +kernel
theorem dX4_exchange_138 : decode cX4_exchange 138 = .ok (.iadd, 1) := by decide +kernel
theorem dX4_exchange_139 : decode cX4_exchange 139 = .ok (.ireturn, 1) := by decide +kernel
set_option maxRecDepth 20000 in
theorem ggX4_let_X4_isDay : GoodIn wsX4_let wsX4_isDay := goodIn_r _ [6, 7, 8, 5, 9] (by decide +kernel) (by decide +kernel)
set_option maxRecDepth 20000 in
theorem gX4_let_X4_isDay : GoodIn wsX4_let (va_wsS RX4 65 yX4_isDay wsX4_isDay) := goodIn_app (goodIn_of _ (by decide +kernel)) ggX4_let_X4_isDay
set_option maxRecDepth 20000 in
theorem ggX4_let_X4_isWithin : GoodIn wsX4_let wsX4_isWithin := goodIn_r _ [9] (by decide +kernel) (by decide +kernel)
set_option maxRecDepth 20000 in
theorem gX4_let_X4_isWithin : GoodIn wsX4_let (va_wsS RX4 46 yX4_isWithin wsX4_isWithin) := goodIn_app (goodIn_of _ (by decide +kernel)) ggX4_let_X4_isWithin
set_option maxRecDepth 20000 in
theorem ggX4_let_X2_record : GoodIn wsX4_let wsX2_record := goodIn_r _ [14, 15, 16, 17, 18, 19, 20, 21, 22, 23, 24, 25, 26, 27, 49, 50, 51, 52] (by decide +kernel) (by decide +kernel)
set_option maxRecDepth 20000 in
theorem gX4_let_X2_record : GoodIn wsX4_let (wsV RX4 57 RX2 yX2_record wsX2_record) := goodIn_app (goodIn_of _ (by decide +kernel)) ggX4_let_X2_record
set_option maxRecDepth 20000 in
theorem ggX4_let_X1_changeRent : GoodIn wsX4_let wsX1_changeRent := goodIn_r _ [31, 23, 52] (by decide +kernel) (by decide +kernel)
set_option maxRecDepth 20000 in
theorem gX4_let_X1_changeRent : GoodIn wsX4_let (wsV RX4 102 RX1 yX1_changeRent wsX1_changeRent) := goodIn_app (goodIn_of _ (by decide +kernel)) ggX4_let_X1_changeRent
set_option maxRecDepth 20000 in
theorem ggX4_let_X4_dropShowsOfDay : GoodIn wsX4_let wsX4_dropShowsOfDay := goodIn_r _ [35, 2, 36, 37, 5, 38, 39, 40, 41, 21, 42, 23, 43, 44, 45, 46, 47, 48, 52] (by decide +kernel) (by decide +kernel)
set_option maxRecDepth 20000 in
theorem gX4_let_X4_dropShowsOfDay : GoodIn wsX4_let (wsV RX4 106 RX4 yX4_dropShowsOfDay wsX4_dropShowsOfDay) := goodIn_app (goodIn_of _ (by decide +kernel)) ggX4_let_X4_dropShowsOfDay
theorem dX4_let_0 : decode cX4_let 0 = .ok (.iload_n 1, 1) := by decide +kernel
theorem dX4_let_1 : decode cX4_let 1 = .ok (.invokestatic 65, 3) := by decide +kernel
theorem dX4_let_4 : decode cX4_let 4 = .ok (.ifCond .eq 14, 3) := by decide +kernel
theorem dX4_let_7 : decode cX4_let 7 = .ok (.iload_n 2, 1) := by decide +kernel
theorem dX4_let_8 : decode cX4_let 8 = .ok (.iconst 0, 1) := by decide +kernel
theorem dX4_let_9 : decode cX4_let 9 = .ok (.sipush 999, 3) := by decide +kernel
theorem dX4_let_12 : decode cX4_let 12 = .ok (.invokestatic 46, 3) := by decide +kernel
theorem dX4_let_15 : decode cX4_let 15 = .ok (.ifCond .ne 6, 3) := by decide +kernel
theorem dX4_let_18 : decode cX4_let 18 = .ok (.bipush (-2), 2) := by decide +kernel
theorem dX4_let_20 : decode cX4_let 20 = .ok (.ireturn, 1) := by decide +kernel
theorem dX4_let_21 : decode cX4_let 21 = .ok (.aload_n 0, 1) := by decide +kernel
theorem dX4_let_22 : decode cX4_let 22 = .ok (.getfield 33, 3) := by decide +kernel
theorem dX4_let_25 : decode cX4_let 25 = .ok (.aload_n 0, 1) := by decide +kernel
theorem dX4_let_26 : decode cX4_let 26 = .ok (.getfield 12, 3) := by decide +kernel
theorem dX4_let_29 : decode cX4_let 29 = .ok (.invokevirtual 57, 3) := by decide +kernel
theorem dX4_let_32 : decode cX4_let 32 = .ok (.aload_n 0, 1) := by decide +kernel
theorem dX4_let_33 : decode cX4_let 33 = .ok (.getfield 12, 3) := by decide +kernel
theorem dX4_let_36 : decode cX4_let 36 = .ok (.iload_n 1, 1) := by decide +kernel
theorem dX4_let_37 : decode cX4_let 37 = .ok (.iload_n 2, 1) := by decide +kernel
theorem dX4_let_38 : decode cX4_let 38 = .ok (.invokevirtual 102, 3) := by decide +kernel
theorem dX4_let_41 : decode cX4_let 41 = .ok (.iload_n 2, 1) := by decide +kernel
theorem dX4_let_42 : decode cX4_let 42 = .ok (.ifCond .ne 7, 3) := by decide +kernel
theorem dX4_let_45 : decode cX4_let 45 = .ok (.iconst 0, 1) := by decide +kernel
theorem dX4_let_46 : decode cX4_let 46 = .ok (.goto 8, 3) := by decide +kernel
theorem dX4_let_49 : decode cX4_let 49 = .ok (.aload_n 0, 1) := by decide +kernel
theorem dX4_let_50 : decode cX4_let 50 = .ok (.iload_n 1, 1) := by decide +kernel
theorem dX4_let_51 : decode cX4_let 51 = .ok (.invokevirtual 106, 3) := by decide +kernel
theorem dX4_let_54 : decode cX4_let 54 = .ok (.ireturn, 1) := by decide +kernel
set_option maxRecDepth 20000 in
theorem ggX4_carryOut_X3_firstFault : GoodIn wsX4_carryOut wsX3_firstFault := goodIn_r _ [8, 9, 10, 11, 12, 7, 13, 14, 15, 16, 17, 18, 19, 20, 21, 22, 121, 122] (by decide +kernel) (by decide +kernel)
set_option maxRecDepth 20000 in
theorem gX4_carryOut_X3_firstFault : GoodIn wsX4_carryOut (wsV RX4 109 RX3 yX3_firstFault wsX3_firstFault) := goodIn_app (goodIn_of _ (by decide +kernel)) ggX4_carryOut_X3_firstFault
set_option maxRecDepth 20000 in
theorem ggX4_carryOut_X2_record : GoodIn wsX4_carryOut wsX2_record := goodIn_r _ [27, 28, 29, 30, 31, 32, 33, 34, 35, 36, 37, 38, 39, 40, 123, 124, 125, 126] (by decide +kernel) (by decide +kernel)
set_option maxRecDepth 20000 in
theorem gX4_carryOut_X2_record : GoodIn wsX4_carryOut (wsV RX4 57 RX2 yX2_record wsX2_record) := goodIn_app (goodIn_of _ (by decide +kernel)) ggX4_carryOut_X2_record
set_option maxRecDepth 20000 in
theorem ggX4_carryOut_X4_putInShowsOfPad : GoodIn wsX4_carryOut wsX4_putInShowsOfPad := goodIn_r _ [45, 1, 3, 46, 47, 48, 7, 49, 9, 50, 51, 52, 53, 54, 55, 56, 57, 10, 58, 59, 60, 61, 62, 63, 64, 65, 66, 67, 68, 69, 70, 71, 72, 44, 73, 74, 75, 76, 34, 77, 78, 79, 80, 81, 36, 82, 83, 84, 85, 86, 87, 88, 89, 90, 91, 92, 93, 94, 95, 96, 97, 98, 99, 100, 101, 102, 103, 104, 105, 106, 107, 108, 109, 110, 115, 116, 117, 118, 119, 120, 121, 122, 126] (by decide +kernel) (by decide +kernel)
set_option maxRecDepth 20000 in
theorem gX4_carryOut_X4_putInShowsOfPad : GoodIn wsX4_carryOut (wsV RX4 112 RX4 yX4_putInShowsOfPad wsX4_putInShowsOfPad) := goodIn_app (goodIn_of _ (by decide +kernel)) ggX4_carryOut_X4_putInShowsOfPad
set_option maxRecDepth 20000 in
theorem ggX4_carryOut_X3_empty : GoodIn wsX4_carryOut wsX3_empty := goodIn_r _ [114, 9, 121, 122] (by decide +kernel) (by decide +kernel)
set_option maxRecDepth 20000 in
theorem gX4_carryOut_X3_empty : GoodIn wsX4_carryOut (wsV RX4 115 RX3 yX3_empty wsX3_empty) := goodIn_app (goodIn_of _ (by decide +kernel)) ggX4_carryOut_X3_empty
theorem dX4_carryOut_0 : decode cX4_carryOut 0 = .ok (.aload_n 0, 1) := by decide +kernel
theorem dX4_carryOut_1 : decode cX4_carryOut 1 = .ok (.getfield 26, 3) := by decide +kernel
theorem dX4_carryOut_4 : decode cX4_carryOut 4 = .ok (.invokevirtual 109, 3) := by decide +kernel
theorem dX4_carryOut_7 : decode cX4_carryOut 7 = .ok (.bipush (-6), 2) := by decide +kernel
theorem dX4_carryOut_9 : decode cX4_carryOut 9 = .ok (.if_icmp .eq 6, 3) := by decide +kernel
theorem dX4_carryOut_12 : decode cX4_carryOut 12 = .ok (.bipush (-3), 2) := by decide +kernel
theorem dX4_carryOut_14 : decode cX4_carryOut 14 = .ok (.ireturn, 1) := by decide +kernel
theorem dX4_carryOut_15 : decode cX4_carryOut 15 = .ok (.aload_n 0, 1) := by decide +kernel
theorem dX4_carryOut_16 : decode cX4_carryOut 16 = .ok (.getfield 33, 3) := by decide +kernel
theorem dX4_carryOut_19 : decode cX4_carryOut 19 = .ok (.aload_n 0, 1) := by decide +kernel
theorem dX4_carryOut_20 : decode cX4_carryOut 20 = .ok (.getfield 12, 3) := by decide +kernel
theorem dX4_carryOut_23 : decode cX4_carryOut 23 = .ok (.invokevirtual 57, 3) := by decide +kernel
theorem dX4_carryOut_26 : decode cX4_carryOut 26 = .ok (.aload_n 0, 1) := by decide +kernel
theorem dX4_carryOut_27 : decode cX4_carryOut 27 = .ok (.invokevirtual 112, 3) := by decide +kernel
theorem dX4_carryOut_30 : decode cX4_carryOut 30 = .ok (.istore_n 1, 1) := by decide +kernel
theorem dX4_carryOut_31 : decode cX4_carryOut 31 = .ok (.aload_n 0, 1) := by decide +kernel
theorem dX4_carryOut_32 : decode cX4_carryOut 32 = .ok (.getfield 26, 3) := by decide +kernel
theorem dX4_carryOut_35 : decode cX4_carryOut 35 = .ok (.invokevirtual 115, 3) := by decide +kernel
theorem dX4_carryOut_38 : decode cX4_carryOut 38 = .ok (.iload_n 1, 1) := by decide +kernel
theorem dX4_carryOut_39 : decode cX4_carryOut 39 = .ok (.ireturn, 1) := by decide +kernel
set_option maxRecDepth 20000 in
theorem ggX4_at_X4_isPlace : GoodIn wsX4_at wsX4_isPlace := goodIn_r _ [6, 7, 8, 5, 9, 10, 11, 12] (by decide +kernel) (by decide +kernel)
set_option maxRecDepth 20000 in
theorem gX4_at_X4_isPlace : GoodIn wsX4_at (va_wsS RX4 87 yX4_isPlace wsX4_isPlace) := goodIn_app (goodIn_of _ (by decide +kernel)) ggX4_at_X4_isPlace
set_option maxRecDepth 20000 in
theorem ggX4_at_X4_isWithin : GoodIn wsX4_at wsX4_isWithin := goodIn_r _ [12] (by decide +kernel) (by decide +kernel)
set_option maxRecDepth 20000 in
theorem gX4_at_X4_isWithin : GoodIn wsX4_at (va_wsS RX4 46 yX4_isWithin wsX4_isWithin) := goodIn_app (goodIn_of _ (by decide +kernel)) ggX4_at_X4_isWithin
set_option maxRecDepth 20000 in
theorem ggX4_at_X4_placeOf : GoodIn wsX4_at wsX4_placeOf := goodIn_r _ [15] (by decide +kernel) (by decide +kernel)
set_option maxRecDepth 20000 in
theorem gX4_at_X4_placeOf : GoodIn wsX4_at (va_wsS RX4 81 yX4_placeOf wsX4_placeOf) := goodIn_app (goodIn_of _ (by decide +kernel)) ggX4_at_X4_placeOf
set_option maxRecDepth 20000 in
theorem ggX4_at_X1_showAt : GoodIn wsX4_at wsX1_showAt := goodIn_r _ [20, 21, 94] (by decide +kernel) (by decide +kernel)
set_option maxRecDepth 20000 in
theorem gX4_at_X1_showAt : GoodIn wsX4_at (wsV RX4 91 RX1 yX1_showAt wsX1_showAt) := goodIn_app (goodIn_of _ (by decide +kernel)) ggX4_at_X1_showAt
set_option maxRecDepth 20000 in
theorem ggX4_at_X1_hasFilm : GoodIn wsX4_at wsX1_hasFilm := goodIn_r _ [25, 26, 27, 28, 19, 29, 21, 94] (by decide +kernel) (by decide +kernel)
set_option maxRecDepth 20000 in
theorem gX4_at_X1_hasFilm : GoodIn wsX4_at (wsV RX4 118 RX1 yX1_hasFilm wsX1_hasFilm) := goodIn_app (goodIn_of _ (by decide +kernel)) ggX4_at_X1_hasFilm
set_option maxRecDepth 20000 in
theorem ggX4_at_X0_follow : GoodIn wsX4_at wsX0_follow := goodIn_r _ [34, 35, 36, 37, 38, 39, 40, 19, 41, 21, 42, 43, 44, 33, 45, 46, 47, 48, 49, 17, 18, 20, 50, 51, 52, 53, 54, 55, 56, 57, 58, 59, 60, 61, 62, 63, 64, 65, 66, 67, 68, 69, 70, 71, 72, 73, 74, 75, 76, 77, 78, 95, 96, 97, 98, 99, 100, 94] (by decide +kernel) (by decide +kernel)
set_option maxRecDepth 20000 in
theorem gX4_at_X0_follow : GoodIn wsX4_at (wsV RX4 121 RX0 yX0_follow wsX0_follow) := goodIn_app (goodIn_of _ (by decide +kernel)) ggX4_at_X0_follow
set_option maxRecDepth 20000 in
theorem ggX4_at_X0_peopleAt : GoodIn wsX4_at wsX0_peopleAt := goodIn_r _ [82, 46, 95, 96, 97, 98, 99, 100] (by decide +kernel) (by decide +kernel)
set_option maxRecDepth 20000 in
theorem gX4_at_X0_peopleAt : GoodIn wsX4_at (wsV RX4 125 RX0 yX0_peopleAt wsX0_peopleAt) := goodIn_app (goodIn_of _ (by decide +kernel)) ggX4_at_X0_peopleAt
set_option maxRecDepth 20000 in
theorem ggX4_at_X1_setting : GoodIn wsX4_at wsX1_setting := goodIn_r _ [60, 21, 94] (by decide +kernel) (by decide +kernel)
set_option maxRecDepth 20000 in
theorem gX4_at_X1_setting : GoodIn wsX4_at (wsV RX4 128 RX1 yX1_setting wsX1_setting) := goodIn_app (goodIn_of _ (by decide +kernel)) ggX4_at_X1_setting
set_option maxRecDepth 20000 in
theorem ggX4_at_X0_leftBehind : GoodIn wsX4_at wsX0_leftBehind := goodIn_r _ [87, 47, 95, 96, 97, 98, 99, 100] (by decide +kernel) (by decide +kernel)
set_option maxRecDepth 20000 in
theorem gX4_at_X0_leftBehind : GoodIn wsX4_at (wsV RX4 131 RX0 yX0_leftBehind wsX0_leftBehind) := goodIn_app (goodIn_of _ (by decide +kernel)) ggX4_at_X0_leftBehind
theorem dX4_at_0 : decode cX4_at 0 = .ok (.iload_n 1, 1) := by decide +kernel
theorem dX4_at_1 : decode cX4_at 1 = .ok (.iload_n 2, 1) := by decide +kernel
theorem dX4_at_2 : decode cX4_at 2 = .ok (.invokestatic 87, 3) := by decide +kernel
theorem dX4_at_5 : decode cX4_at 5 = .ok (.ifCond .eq 12, 3) := by decide +kernel
theorem dX4_at_8 : decode cX4_at 8 = .ok (.iload_n 3, 1) := by decide +kernel
theorem dX4_at_9 : decode cX4_at 9 = .ok (.iconst 0, 1) := by decide +kernel
theorem dX4_at_10 : decode cX4_at 10 = .ok (.iconst 3, 1) := by decide +kernel
theorem dX4_at_11 : decode cX4_at 11 = .ok (.invokestatic 46, 3) := by decide +kernel
theorem dX4_at_14 : decode cX4_at 14 = .ok (.ifCond .ne 6, 3) := by decide +kernel
theorem dX4_at_17 : decode cX4_at 17 = .ok (.bipush (-2), 2) := by decide +kernel
theorem dX4_at_19 : decode cX4_at 19 = .ok (.ireturn, 1) := by decide +kernel
theorem dX4_at_20 : decode cX4_at 20 = .ok (.iload_n 1, 1) := by decide +kernel
theorem dX4_at_21 : decode cX4_at 21 = .ok (.iload_n 2, 1) := by decide +kernel
theorem dX4_at_22 : decode cX4_at 22 = .ok (.invokestatic 81, 3) := by decide +kernel
theorem dX4_at_25 : decode cX4_at 25 = .ok (.istore 4, 2) := by decide +kernel
theorem dX4_at_27 : decode cX4_at 27 = .ok (.aload_n 0, 1) := by decide +kernel
theorem dX4_at_28 : decode cX4_at 28 = .ok (.getfield 12, 3) := by decide +kernel
theorem dX4_at_31 : decode cX4_at 31 = .ok (.iload 4, 2) := by decide +kernel
theorem dX4_at_33 : decode cX4_at 33 = .ok (.invokevirtual 91, 3) := by decide +kernel
theorem dX4_at_36 : decode cX4_at 36 = .ok (.istore 5, 2) := by decide +kernel
theorem dX4_at_38 : decode cX4_at 38 = .ok (.aload_n 0, 1) := by decide +kernel
theorem dX4_at_39 : decode cX4_at 39 = .ok (.getfield 12, 3) := by decide +kernel
theorem dX4_at_42 : decode cX4_at 42 = .ok (.iload 5, 2) := by decide +kernel
theorem dX4_at_44 : decode cX4_at 44 = .ok (.invokevirtual 118, 3) := by decide +kernel
theorem dX4_at_47 : decode cX4_at 47 = .ok (.ifCond .ne 20, 3) := by decide +kernel
theorem dX4_at_50 : decode cX4_at 50 = .ok (.iload_n 3, 1) := by decide +kernel
theorem dX4_at_51 : decode cX4_at 51 = .ok (.iconst 1, 1) := by decide +kernel
theorem dX4_at_52 : decode cX4_at 52 = .ok (.if_icmp .eq 8, 3) := by decide +kernel
theorem dX4_at_55 : decode cX4_at 55 = .ok (.iload_n 3, 1) := by decide +kernel
theorem dX4_at_56 : decode cX4_at 56 = .ok (.iconst 2, 1) := by decide +kernel
theorem dX4_at_57 : decode cX4_at 57 = .ok (.if_icmp .ne 7, 3) := by decide +kernel
theorem dX4_at_60 : decode cX4_at 60 = .ok (.iconst 0, 1) := by decide +kernel
theorem dX4_at_61 : decode cX4_at 61 = .ok (.goto 5, 3) := by decide +kernel
theorem dX4_at_64 : decode cX4_at 64 = .ok (.bipush (-6), 2) := by decide +kernel
theorem dX4_at_66 : decode cX4_at 66 = .ok (.ireturn, 1) := by decide +kernel
theorem dX4_at_67 : decode cX4_at 67 = .ok (.aload_n 0, 1) := by decide +kernel
theorem dX4_at_68 : decode cX4_at 68 = .ok (.getfield 19, 3) := by decide +kernel
theorem dX4_at_71 : decode cX4_at 71 = .ok (.aload_n 0, 1) := by decide +kernel
theorem dX4_at_72 : decode cX4_at 72 = .ok (.getfield 12, 3) := by decide +kernel
theorem dX4_at_75 : decode cX4_at 75 = .ok (.iload 5, 2) := by decide +kernel
theorem dX4_at_77 : decode cX4_at 77 = .ok (.invokevirtual 121, 3) := by decide +kernel
theorem dX4_at_80 : decode cX4_at 80 = .ok (.iload_n 3, 1) := by decide +kernel
theorem dX4_at_81 : decode cX4_at 81 = .ok (.tableswitch 59 0 2 #[27, 30, 40], 27) := by decide +kernel
theorem dX4_at_108 : decode cX4_at 108 = .ok (.iload 5, 2) := by decide +kernel
theorem dX4_at_110 : decode cX4_at 110 = .ok (.ireturn, 1) := by decide +kernel
theorem dX4_at_111 : decode cX4_at 111 = .ok (.aload_n 0, 1) := by decide +kernel
theorem dX4_at_112 : decode cX4_at 112 = .ok (.getfield 19, 3) := by decide +kernel
theorem dX4_at_115 : decode cX4_at 115 = .ok (.iload 4, 2) := by decide +kernel
theorem dX4_at_117 : decode cX4_at 117 = .ok (.invokevirtual 125, 3) := by decide +kernel
theorem dX4_at_120 : decode cX4_at 120 = .ok (.ireturn, 1) := by decide +kernel
theorem dX4_at_121 : decode cX4_at 121 = .ok (.aload_n 0, 1) := by decide +kernel
theorem dX4_at_122 : decode cX4_at 122 = .ok (.getfield 19, 3) := by decide +kernel
theorem dX4_at_125 : decode cX4_at 125 = .ok (.iload 4, 2) := by decide +kernel
theorem dX4_at_127 : decode cX4_at 127 = .ok (.invokevirtual 125, 3) := by decide +kernel
theorem dX4_at_130 : decode cX4_at 130 = .ok (.aload_n 0, 1) := by decide +kernel
theorem dX4_at_131 : decode cX4_at 131 = .ok (.getfield 12, 3) := by decide +kernel
theorem dX4_at_134 : decode cX4_at 134 = .ok (.iconst 1, 1) := by decide +kernel
theorem dX4_at_135 : decode cX4_at 135 = .ok (.invokevirtual 128, 3) := by decide +kernel
theorem dX4_at_138 : decode cX4_at 138 = .ok (.imul, 1) := by decide +kernel
theorem dX4_at_139 : decode cX4_at 139 = .ok (.ireturn, 1) := by decide +kernel
theorem dX4_at_140 : decode cX4_at 140 = .ok (.aload_n 0, 1) := by decide +kernel
theorem dX4_at_141 : decode cX4_at 141 = .ok (.getfield 19, 3) := by decide +kernel
theorem dX4_at_144 : decode cX4_at 144 = .ok (.iload 4, 2) := by decide +kernel
theorem dX4_at_146 : decode cX4_at 146 = .ok (.invokevirtual 131, 3) := by decide +kernel
theorem dX4_at_149 : decode cX4_at 149 = .ok (.ireturn, 1) := by decide +kernel
set_option maxRecDepth 20000 in
theorem ggX4_of_X1_hasFilm : GoodIn wsX4_of wsX1_hasFilm := goodIn_r _ [7, 8, 9, 10, 6, 11, 12, 89] (by decide +kernel) (by decide +kernel)
set_option maxRecDepth 20000 in
theorem gX4_of_X1_hasFilm : GoodIn wsX4_of (wsV RX4 118 RX1 yX1_hasFilm wsX1_hasFilm) := goodIn_app (goodIn_of _ (by decide +kernel)) ggX4_of_X1_hasFilm
set_option maxRecDepth 20000 in
theorem ggX4_of_X4_isWithin : GoodIn wsX4_of wsX4_isWithin := goodIn_r _ [16] (by decide +kernel) (by decide +kernel)
set_option maxRecDepth 20000 in
theorem gX4_of_X4_isWithin : GoodIn wsX4_of (va_wsS RX4 46 yX4_isWithin wsX4_isWithin) := goodIn_app (goodIn_of _ (by decide +kernel)) ggX4_of_X4_isWithin
set_option maxRecDepth 20000 in
theorem ggX4_of_X1_fact : GoodIn wsX4_of wsX1_fact := goodIn_r _ [20, 12, 89] (by decide +kernel) (by decide +kernel)
set_option maxRecDepth 20000 in
theorem gX4_of_X1_fact : GoodIn wsX4_of (wsV RX4 134 RX1 yX1_fact wsX1_fact) := goodIn_app (goodIn_of _ (by decide +kernel)) ggX4_of_X1_fact
set_option maxRecDepth 20000 in
theorem ggX4_of_X1_firstDayShown : GoodIn wsX4_of wsX1_firstDayShown := goodIn_r _ [24, 25, 26, 27, 6, 28, 12, 89] (by decide +kernel) (by decide +kernel)
set_option maxRecDepth 20000 in
theorem gX4_of_X1_firstDayShown : GoodIn wsX4_of (wsV RX4 137 RX1 yX1_firstDayShown wsX1_firstDayShown) := goodIn_app (goodIn_of _ (by decide +kernel)) ggX4_of_X1_firstDayShown
set_option maxRecDepth 20000 in
theorem ggX4_of_X0_follow : GoodIn wsX4_of wsX0_follow := goodIn_r _ [33, 34, 35, 36, 37, 18, 19, 6, 20, 12, 38, 39, 40, 32, 41, 42, 43, 44, 45, 26, 27, 28, 46, 47, 48, 49, 50, 51, 52, 53, 54, 55, 56, 57, 58, 59, 60, 61, 62, 63, 64, 65, 66, 67, 68, 69, 70, 71, 72, 73, 74, 90, 91, 92, 93, 94, 95, 89] (by decide +kernel) (by decide +kernel)
set_option maxRecDepth 20000 in
theorem gX4_of_X0_follow : GoodIn wsX4_of (wsV RX4 121 RX0 yX0_follow wsX0_follow) := goodIn_app (goodIn_of _ (by decide +kernel)) ggX4_of_X0_follow
set_option maxRecDepth 20000 in
theorem ggX4_of_X0_leftAtEnd : GoodIn wsX4_of wsX0_leftAtEnd := goodIn_r _ [78, 36, 90, 91, 92, 93, 94, 95] (by decide +kernel) (by decide +kernel)
set_option maxRecDepth 20000 in
theorem gX4_of_X0_leftAtEnd : GoodIn wsX4_of (wsV RX4 140 RX0 yX0_leftAtEnd wsX0_leftAtEnd) := goodIn_app (goodIn_of _ (by decide +kernel)) ggX4_of_X0_leftAtEnd
set_option maxRecDepth 20000 in
theorem ggX4_of_X0_sum : GoodIn wsX4_of wsX0_sum := goodIn_r _ [82, 57, 58, 59, 32, 60, 44, 90, 91, 92, 93, 94, 95] (by decide +kernel) (by decide +kernel)
set_option maxRecDepth 20000 in
theorem gX4_of_X0_sum : GoodIn wsX4_of (wsV RX4 143 RX0 yX0_sum wsX0_sum) := goodIn_app (goodIn_of _ (by decide +kernel)) ggX4_of_X0_sum
theorem dX4_of_0 : decode cX4_of 0 = .ok (.aload_n 0, 1) := by decide +kernel
theorem dX4_of_1 : decode cX4_of 1 = .ok (.getfield 12, 3) := by decide +kernel
theorem dX4_of_4 : decode cX4_of 4 = .ok (.iload_n 1, 1) := by decide +kernel
theorem dX4_of_5 : decode cX4_of 5 = .ok (.invokevirtual 118, 3) := by decide +kernel
theorem dX4_of_8 : decode cX4_of 8 = .ok (.ifCond .ne 5, 3) := by decide +kernel
theorem dX4_of_11 : decode cX4_of 11 = .ok (.iconst (-1), 1) := by decide +kernel
theorem dX4_of_12 : decode cX4_of 12 = .ok (.ireturn, 1) := by decide +kernel
theorem dX4_of_13 : decode cX4_of 13 = .ok (.iload_n 2, 1) := by decide +kernel
theorem dX4_of_14 : decode cX4_of 14 = .ok (.iconst 0, 1) := by decide +kernel
theorem dX4_of_15 : decode cX4_of 15 = .ok (.bipush 10, 2) := by decide +kernel
theorem dX4_of_17 : decode cX4_of 17 = .ok (.invokestatic 46, 3) := by decide +kernel
theorem dX4_of_20 : decode cX4_of 20 = .ok (.ifCond .ne 6, 3) := by decide +kernel
theorem dX4_of_23 : decode cX4_of 23 = .ok (.bipush (-2), 2) := by decide +kernel
theorem dX4_of_25 : decode cX4_of 25 = .ok (.ireturn, 1) := by decide +kernel
theorem dX4_of_26 : decode cX4_of 26 = .ok (.iload_n 2, 1) := by decide +kernel
theorem dX4_of_27 : decode cX4_of 27 = .ok (.iconst 5, 1) := by decide +kernel
theorem dX4_of_28 : decode cX4_of 28 = .ok (.if_icmp .ge 13, 3) := by decide +kernel
theorem dX4_of_31 : decode cX4_of 31 = .ok (.aload_n 0, 1) := by decide +kernel
theorem dX4_of_32 : decode cX4_of 32 = .ok (.getfield 12, 3) := by decide +kernel
theorem dX4_of_35 : decode cX4_of 35 = .ok (.iload_n 1, 1) := by decide +kernel
theorem dX4_of_36 : decode cX4_of 36 = .ok (.iload_n 2, 1) := by decide +kernel
theorem dX4_of_37 : decode cX4_of 37 = .ok (.invokevirtual 134, 3) := by decide +kernel
theorem dX4_of_40 : decode cX4_of 40 = .ok (.ireturn, 1) := by decide +kernel
theorem dX4_of_41 : decode cX4_of 41 = .ok (.iload_n 2, 1) := by decide +kernel
theorem dX4_of_42 : decode cX4_of 42 = .ok (.bipush 10, 2) := by decide +kernel
theorem dX4_of_44 : decode cX4_of 44 = .ok (.if_icmp .ne 12, 3) := by decide +kernel
theorem dX4_of_47 : decode cX4_of 47 = .ok (.aload_n 0, 1) := by decide +kernel
theorem dX4_of_48 : decode cX4_of 48 = .ok (.getfield 12, 3) := by decide +kernel
theorem dX4_of_51 : decode cX4_of 51 = .ok (.iload_n 1, 1) := by decide +kernel
theorem dX4_of_52 : decode cX4_of 52 = .ok (.invokevirtual 137, 3) := by decide +kernel
theorem dX4_of_55 : decode cX4_of 55 = .ok (.ireturn, 1) := by decide +kernel
theorem dX4_of_56 : decode cX4_of 56 = .ok (.aload_n 0, 1) := by decide +kernel
theorem dX4_of_57 : decode cX4_of 57 = .ok (.getfield 19, 3) := by decide +kernel
theorem dX4_of_60 : decode cX4_of 60 = .ok (.aload_n 0, 1) := by decide +kernel
theorem dX4_of_61 : decode cX4_of 61 = .ok (.getfield 12, 3) := by decide +kernel
theorem dX4_of_64 : decode cX4_of 64 = .ok (.iload_n 1, 1) := by decide +kernel
theorem dX4_of_65 : decode cX4_of 65 = .ok (.invokevirtual 121, 3) := by decide +kernel
theorem dX4_of_68 : decode cX4_of 68 = .ok (.iload_n 2, 1) := by decide +kernel
theorem dX4_of_69 : decode cX4_of 69 = .ok (.bipush 9, 2) := by decide +kernel
theorem dX4_of_71 : decode cX4_of 71 = .ok (.if_icmp .ne 13, 3) := by decide +kernel
theorem dX4_of_74 : decode cX4_of 74 = .ok (.aload_n 0, 1) := by decide +kernel
theorem dX4_of_75 : decode cX4_of 75 = .ok (.getfield 19, 3) := by decide +kernel
theorem dX4_of_78 : decode cX4_of 78 = .ok (.invokevirtual 140, 3) := by decide +kernel
theorem dX4_of_81 : decode cX4_of 81 = .ok (.goto 13, 3) := by decide +kernel
theorem dX4_of_84 : decode cX4_of 84 = .ok (.aload_n 0, 1) := by decide +kernel
theorem dX4_of_85 : decode cX4_of 85 = .ok (.getfield 19, 3) := by decide +kernel
theorem dX4_of_88 : decode cX4_of 88 = .ok (.iload_n 2, 1) := by decide +kernel
theorem dX4_of_89 : decode cX4_of 89 = .ok (.iconst 5, 1) := by decide +kernel
theorem dX4_of_90 : decode cX4_of 90 = .ok (.isub, 1) := by decide +kernel
theorem dX4_of_91 : decode cX4_of 91 = .ok (.invokevirtual 143, 3) := by decide +kernel
theorem dX4_of_94 : decode cX4_of 94 = .ok (.ireturn, 1) := by decide +kernel
set_option maxRecDepth 20000 in
theorem ggX4_inWeek_X1_hasFilm : GoodIn wsX4_inWeek wsX1_hasFilm := goodIn_r _ [7, 8, 9, 10, 6, 11, 12, 87] (by decide +kernel) (by decide +kernel)
set_option maxRecDepth 20000 in
theorem gX4_inWeek_X1_hasFilm : GoodIn wsX4_inWeek (wsV RX4 118 RX1 yX1_hasFilm wsX1_hasFilm) := goodIn_app (goodIn_of _ (by decide +kernel)) ggX4_inWeek_X1_hasFilm
set_option maxRecDepth 20000 in
theorem ggX4_inWeek_X4_isWeek : GoodIn wsX4_inWeek wsX4_isWeek := goodIn_r _ [16, 17, 18, 15, 19] (by decide +kernel) (by decide +kernel)
set_option maxRecDepth 20000 in
theorem gX4_inWeek_X4_isWeek : GoodIn wsX4_inWeek (va_wsS RX4 146 yX4_isWeek wsX4_isWeek) := goodIn_app (goodIn_of _ (by decide +kernel)) ggX4_inWeek_X4_isWeek
set_option maxRecDepth 20000 in
theorem ggX4_inWeek_X4_isWithin : GoodIn wsX4_inWeek wsX4_isWithin := goodIn_r _ [19] (by decide +kernel) (by decide +kernel)
set_option maxRecDepth 20000 in
theorem gX4_inWeek_X4_isWithin : GoodIn wsX4_inWeek (va_wsS RX4 46 yX4_isWithin wsX4_isWithin) := goodIn_app (goodIn_of _ (by decide +kernel)) ggX4_inWeek_X4_isWithin
set_option maxRecDepth 20000 in
theorem ggX4_inWeek_X0_follow : GoodIn wsX4_inWeek wsX0_follow := goodIn_r _ [24, 25, 26, 27, 28, 29, 30, 6, 31, 12, 32, 33, 34, 23, 35, 36, 37, 38, 39, 40, 41, 42, 43, 44, 45, 46, 47, 48, 49, 50, 51, 52, 53, 54, 55, 56, 57, 58, 59, 60, 61, 62, 63, 64, 65, 66, 67, 68, 69, 70, 71, 88, 89, 90, 91, 92, 93, 87] (by decide +kernel) (by decide +kernel)
set_option maxRecDepth 20000 in
theorem gX4_inWeek_X0_follow : GoodIn wsX4_inWeek (wsV RX4 121 RX0 yX0_follow wsX0_follow) := goodIn_app (goodIn_of _ (by decide +kernel)) ggX4_inWeek_X0_follow
set_option maxRecDepth 20000 in
theorem ggX4_inWeek_X0_sumOfWeek : GoodIn wsX4_inWeek wsX0_sumOfWeek := goodIn_r _ [57, 38, 88, 89, 90, 91, 92, 93] (by decide +kernel) (by decide +kernel)
set_option maxRecDepth 20000 in
theorem gX4_inWeek_X0_sumOfWeek : GoodIn wsX4_inWeek (wsV RX4 149 RX0 yX0_sumOfWeek wsX0_sumOfWeek) := goodIn_app (goodIn_of _ (by decide +kernel)) ggX4_inWeek_X0_sumOfWeek
set_option maxRecDepth 20000 in
theorem ggX4_inWeek_X0_shareIn : GoodIn wsX4_inWeek wsX0_shareIn := goodIn_r _ [76, 26, 88, 89, 90, 91, 92, 93] (by decide +kernel) (by decide +kernel)
set_option maxRecDepth 20000 in
theorem gX4_inWeek_X0_shareIn : GoodIn wsX4_inWeek (wsV RX4 152 RX0 yX0_shareIn wsX0_shareIn) := goodIn_app (goodIn_of _ (by decide +kernel)) ggX4_inWeek_X0_shareIn
set_option maxRecDepth 20000 in
theorem ggX4_inWeek_X0_dueAboveShare : GoodIn wsX4_inWeek wsX0_dueAboveShare := goodIn_r _ [80, 54, 55, 56, 23, 57, 38, 68, 69, 70, 71, 26, 88, 89, 90, 91, 92, 93] (by decide +kernel) (by decide +kernel)
set_option maxRecDepth 20000 in
theorem gX4_inWeek_X0_dueAboveShare : GoodIn wsX4_inWeek (wsV RX4 155 RX0 yX0_dueAboveShare wsX0_dueAboveShare) := goodIn_app (goodIn_of _ (by decide +kernel)) ggX4_inWeek_X0_dueAboveShare
theorem dX4_inWeek_0 : decode cX4_inWeek 0 = .ok (.aload_n 0, 1) := by decide +kernel
theorem dX4_inWeek_1 : decode cX4_inWeek 1 = .ok (.getfield 12, 3) := by decide +kernel
theorem dX4_inWeek_4 : decode cX4_inWeek 4 = .ok (.iload_n 1, 1) := by decide +kernel
theorem dX4_inWeek_5 : decode cX4_inWeek 5 = .ok (.invokevirtual 118, 3) := by decide +kernel
theorem dX4_inWeek_8 : decode cX4_inWeek 8 = .ok (.ifCond .ne 5, 3) := by decide +kernel
theorem dX4_inWeek_11 : decode cX4_inWeek 11 = .ok (.iconst (-1), 1) := by decide +kernel
theorem dX4_inWeek_12 : decode cX4_inWeek 12 = .ok (.ireturn, 1) := by decide +kernel
theorem dX4_inWeek_13 : decode cX4_inWeek 13 = .ok (.iload_n 2, 1) := by decide +kernel
theorem dX4_inWeek_14 : decode cX4_inWeek 14 = .ok (.invokestatic 146, 3) := by decide +kernel
theorem dX4_inWeek_17 : decode cX4_inWeek 17 = .ok (.ifCond .eq 12, 3) := by decide +kernel
theorem dX4_inWeek_20 : decode cX4_inWeek 20 = .ok (.iload_n 3, 1) := by decide +kernel
theorem dX4_inWeek_21 : decode cX4_inWeek 21 = .ok (.iconst 0, 1) := by decide +kernel
theorem dX4_inWeek_22 : decode cX4_inWeek 22 = .ok (.iconst 3, 1) := by decide +kernel
theorem dX4_inWeek_23 : decode cX4_inWeek 23 = .ok (.invokestatic 46, 3) := by decide +kernel
theorem dX4_inWeek_26 : decode cX4_inWeek 26 = .ok (.ifCond .ne 6, 3) := by decide +kernel
theorem dX4_inWeek_29 : decode cX4_inWeek 29 = .ok (.bipush (-2), 2) := by decide +kernel
theorem dX4_inWeek_31 : decode cX4_inWeek 31 = .ok (.ireturn, 1) := by decide +kernel
theorem dX4_inWeek_32 : decode cX4_inWeek 32 = .ok (.aload_n 0, 1) := by decide +kernel
theorem dX4_inWeek_33 : decode cX4_inWeek 33 = .ok (.getfield 19, 3) := by decide +kernel
theorem dX4_inWeek_36 : decode cX4_inWeek 36 = .ok (.aload_n 0, 1) := by decide +kernel
theorem dX4_inWeek_37 : decode cX4_inWeek 37 = .ok (.getfield 12, 3) := by decide +kernel
theorem dX4_inWeek_40 : decode cX4_inWeek 40 = .ok (.iload_n 1, 1) := by decide +kernel
theorem dX4_inWeek_41 : decode cX4_inWeek 41 = .ok (.invokevirtual 121, 3) := by decide +kernel
theorem dX4_inWeek_44 : decode cX4_inWeek 44 = .ok (.iload_n 3, 1) := by decide +kernel
theorem dX4_inWeek_45 : decode cX4_inWeek 45 = .ok (.tableswitch 56 0 2 #[27, 37, 46], 27) := by decide +kernel
theorem dX4_inWeek_72 : decode cX4_inWeek 72 = .ok (.aload_n 0, 1) := by decide +kernel
theorem dX4_inWeek_73 : decode cX4_inWeek 73 = .ok (.getfield 19, 3) := by decide +kernel
theorem dX4_inWeek_76 : decode cX4_inWeek 76 = .ok (.iload_n 2, 1) := by decide +kernel
theorem dX4_inWeek_77 : decode cX4_inWeek 77 = .ok (.iconst 2, 1) := by decide +kernel
theorem dX4_inWeek_78 : decode cX4_inWeek 78 = .ok (.invokevirtual 149, 3) := by decide +kernel
theorem dX4_inWeek_81 : decode cX4_inWeek 81 = .ok (.ireturn, 1) := by decide +kernel
theorem dX4_inWeek_82 : decode cX4_inWeek 82 = .ok (.aload_n 0, 1) := by decide +kernel
theorem dX4_inWeek_83 : decode cX4_inWeek 83 = .ok (.getfield 19, 3) := by decide +kernel
theorem dX4_inWeek_86 : decode cX4_inWeek 86 = .ok (.iload_n 2, 1) := by decide +kernel
theorem dX4_inWeek_87 : decode cX4_inWeek 87 = .ok (.invokevirtual 152, 3) := by decide +kernel
theorem dX4_inWeek_90 : decode cX4_inWeek 90 = .ok (.ireturn, 1) := by decide +kernel
theorem dX4_inWeek_91 : decode cX4_inWeek 91 = .ok (.aload_n 0, 1) := by decide +kernel
theorem dX4_inWeek_92 : decode cX4_inWeek 92 = .ok (.getfield 19, 3) := by decide +kernel
theorem dX4_inWeek_95 : decode cX4_inWeek 95 = .ok (.iload_n 2, 1) := by decide +kernel
theorem dX4_inWeek_96 : decode cX4_inWeek 96 = .ok (.iconst 3, 1) := by decide +kernel
theorem dX4_inWeek_97 : decode cX4_inWeek 97 = .ok (.invokevirtual 149, 3) := by decide +kernel
theorem dX4_inWeek_100 : decode cX4_inWeek 100 = .ok (.ireturn, 1) := by decide +kernel
theorem dX4_inWeek_101 : decode cX4_inWeek 101 = .ok (.aload_n 0, 1) := by decide +kernel
theorem dX4_inWeek_102 : decode cX4_inWeek 102 = .ok (.getfield 19, 3) := by decide +kernel
theorem dX4_inWeek_105 : decode cX4_inWeek 105 = .ok (.iload_n 2, 1) := by decide +kernel
theorem dX4_inWeek_106 : decode cX4_inWeek 106 = .ok (.invokevirtual 155, 3) := by decide +kernel
theorem dX4_inWeek_109 : decode cX4_inWeek 109 = .ok (.ireturn, 1) := by decide +kernel
set_option maxRecDepth 20000 in
theorem ggX4_week_X4_isWeek : GoodIn wsX4_week wsX4_isWeek := goodIn_r _ [6, 7, 8, 5, 9] (by decide +kernel) (by decide +kernel)
set_option maxRecDepth 20000 in
theorem gX4_week_X4_isWeek : GoodIn wsX4_week (va_wsS RX4 146 yX4_isWeek wsX4_isWeek) := goodIn_app (goodIn_of _ (by decide +kernel)) ggX4_week_X4_isWeek
set_option maxRecDepth 20000 in
theorem ggX4_week_X4_isWithin : GoodIn wsX4_week wsX4_isWithin := goodIn_r _ [9] (by decide +kernel) (by decide +kernel)
set_option maxRecDepth 20000 in
theorem gX4_week_X4_isWithin : GoodIn wsX4_week (va_wsS RX4 46 yX4_isWithin wsX4_isWithin) := goodIn_app (goodIn_of _ (by decide +kernel)) ggX4_week_X4_isWithin
set_option maxRecDepth 20000 in
theorem ggX4_week_X4_sumOfFilmsInWeek : GoodIn wsX4_week wsX4_sumOfFilmsInWeek := goodIn_r _ [13, 1, 14, 15, 16, 17, 18, 19, 20, 21, 22, 23, 24, 25, 26, 27, 28, 29, 30, 31, 32, 33, 34, 35, 36, 37, 38, 39, 40, 41, 42, 43, 44, 45, 46, 47, 48, 49, 50, 51, 52, 53, 54, 55, 56, 57, 58, 59, 60, 61, 62, 63, 64, 65, 66, 67, 68, 69, 70, 71, 72, 73, 82, 83, 84, 85, 86, 87, 88, 89, 90, 91, 92, 93, 94] (by decide +kernel) (by decide +kernel)
set_option maxRecDepth 20000 in
theorem gX4_week_X4_sumOfFilmsInWeek : GoodIn wsX4_week (wsV RX4 158 RX4 yX4_sumOfFilmsInWeek wsX4_sumOfFilmsInWeek) := goodIn_app (goodIn_of _ (by decide +kernel)) ggX4_week_X4_sumOfFilmsInWeek
set_option maxRecDepth 20000 in
theorem ggX4_week_X1_rentsOf : GoodIn wsX4_week wsX1_rentsOf := goodIn_r _ [77, 78, 79, 80, 18, 81, 20, 88] (by decide +kernel) (by decide +kernel)
set_option maxRecDepth 20000 in
theorem gX4_week_X1_rentsOf : GoodIn wsX4_week (wsV RX4 161 RX1 yX1_rentsOf wsX1_rentsOf) := goodIn_app (goodIn_of _ (by decide +kernel)) ggX4_week_X1_rentsOf
theorem dX4_week_0 : decode cX4_week 0 = .ok (.iload_n 1, 1) := by decide +kernel
theorem dX4_week_1 : decode cX4_week 1 = .ok (.invokestatic 146, 3) := by decide +kernel
theorem dX4_week_4 : decode cX4_week 4 = .ok (.ifCond .eq 12, 3) := by decide +kernel
theorem dX4_week_7 : decode cX4_week 7 = .ok (.iload_n 2, 1) := by decide +kernel
theorem dX4_week_8 : decode cX4_week 8 = .ok (.iconst 0, 1) := by decide +kernel
theorem dX4_week_9 : decode cX4_week 9 = .ok (.iconst 4, 1) := by decide +kernel
theorem dX4_week_10 : decode cX4_week 10 = .ok (.invokestatic 46, 3) := by decide +kernel
theorem dX4_week_13 : decode cX4_week 13 = .ok (.ifCond .ne 6, 3) := by decide +kernel
theorem dX4_week_16 : decode cX4_week 16 = .ok (.bipush (-2), 2) := by decide +kernel
theorem dX4_week_18 : decode cX4_week 18 = .ok (.ireturn, 1) := by decide +kernel
theorem dX4_week_19 : decode cX4_week 19 = .ok (.aload_n 0, 1) := by decide +kernel
theorem dX4_week_20 : decode cX4_week 20 = .ok (.iload_n 1, 1) := by decide +kernel
theorem dX4_week_21 : decode cX4_week 21 = .ok (.iload_n 2, 1) := by decide +kernel
theorem dX4_week_22 : decode cX4_week 22 = .ok (.invokevirtual 158, 3) := by decide +kernel
theorem dX4_week_25 : decode cX4_week 25 = .ok (.istore_n 3, 1) := by decide +kernel
theorem dX4_week_26 : decode cX4_week 26 = .ok (.iload_n 2, 1) := by decide +kernel
theorem dX4_week_27 : decode cX4_week 27 = .ok (.iconst 4, 1) := by decide +kernel
theorem dX4_week_28 : decode cX4_week 28 = .ok (.if_icmp .eq 5, 3) := by decide +kernel
theorem dX4_week_31 : decode cX4_week 31 = .ok (.iload_n 3, 1) := by decide +kernel
theorem dX4_week_32 : decode cX4_week 32 = .ok (.ireturn, 1) := by decide +kernel
theorem dX4_week_33 : decode cX4_week 33 = .ok (.iload_n 1, 1) := by decide +kernel
theorem dX4_week_34 : decode cX4_week 34 = .ok (.bipush 7, 2) := by decide +kernel
theorem dX4_week_36 : decode cX4_week 36 = .ok (.imul, 1) := by decide +kernel
theorem dX4_week_37 : decode cX4_week 37 = .ok (.istore 4, 2) := by decide +kernel
theorem dX4_week_39 : decode cX4_week 39 = .ok (.iload_n 3, 1) := by decide +kernel
theorem dX4_week_40 : decode cX4_week 40 = .ok (.aload_n 0, 1) := by decide +kernel
theorem dX4_week_41 : decode cX4_week 41 = .ok (.getfield 12, 3) := by decide +kernel
theorem dX4_week_44 : decode cX4_week 44 = .ok (.iload 4, 2) := by decide +kernel
theorem dX4_week_46 : decode cX4_week 46 = .ok (.iload 4, 2) := by decide +kernel
theorem dX4_week_48 : decode cX4_week 48 = .ok (.bipush 7, 2) := by decide +kernel
theorem dX4_week_50 : decode cX4_week 50 = .ok (.iadd, 1) := by decide +kernel
theorem dX4_week_51 : decode cX4_week 51 = .ok (.invokevirtual 161, 3) := by decide +kernel
theorem dX4_week_54 : decode cX4_week 54 = .ok (.iadd, 1) := by decide +kernel
theorem dX4_week_55 : decode cX4_week 55 = .ok (.ldc 101, 2) := by decide +kernel
theorem dX4_week_57 : decode cX4_week 57 = .ok (.iadd, 1) := by decide +kernel
theorem dX4_week_58 : decode cX4_week 58 = .ok (.ireturn, 1) := by decide +kernel
set_option maxRecDepth 20000 in
theorem ggX4_distributor_X4_isWithin : GoodIn wsX4_distributor wsX4_isWithin := goodIn_r _ [5] (by decide +kernel) (by decide +kernel)
set_option maxRecDepth 20000 in
theorem gX4_distributor_X4_isWithin : GoodIn wsX4_distributor (va_wsS RX4 46 yX4_isWithin wsX4_isWithin) := goodIn_app (goodIn_of _ (by decide +kernel)) ggX4_distributor_X4_isWithin
set_option maxRecDepth 20000 in
theorem ggX4_distributor_X1_films : GoodIn wsX4_distributor wsX1_films := goodIn_r _ [10, 11, 80] (by decide +kernel) (by decide +kernel)
set_option maxRecDepth 20000 in
theorem gX4_distributor_X1_films : GoodIn wsX4_distributor (wsV RX4 69 RX1 yX1_films wsX1_films) := goodIn_app (goodIn_of _ (by decide +kernel)) ggX4_distributor_X1_films
set_option maxRecDepth 20000 in
theorem ggX4_distributor_X1_fact : GoodIn wsX4_distributor wsX1_fact := goodIn_r _ [15, 11, 80] (by decide +kernel) (by decide +kernel)
set_option maxRecDepth 20000 in
theorem gX4_distributor_X1_fact : GoodIn wsX4_distributor (wsV RX4 134 RX1 yX1_fact wsX1_fact) := goodIn_app (goodIn_of _ (by decide +kernel)) ggX4_distributor_X1_fact
set_option maxRecDepth 20000 in
theorem ggX4_distributor_X4_sumOfFilm : GoodIn wsX4_distributor wsX4_sumOfFilm := goodIn_r _ [19, 20, 1, 21, 22, 23, 24, 25, 26, 27, 28, 29, 13, 14, 9, 15, 11, 30, 31, 32, 33, 34, 35, 36, 37, 38, 39, 40, 41, 42, 43, 44, 45, 46, 47, 48, 49, 50, 51, 52, 53, 54, 55, 56, 57, 58, 59, 60, 61, 62, 63, 64, 65, 66, 67, 68, 69, 70, 71, 72, 73, 74, 75, 76, 77, 78, 79, 81, 82, 83, 84, 85, 86, 80] (by decide +kernel) (by decide +kernel)
set_option maxRecDepth 20000 in
theorem gX4_distributor_X4_sumOfFilm : GoodIn wsX4_distributor (wsV RX4 164 RX4 yX4_sumOfFilm wsX4_sumOfFilm) := goodIn_app (goodIn_of _ (by decide +kernel)) ggX4_distributor_X4_sumOfFilm
theorem dX4_distributor_0 : decode cX4_distributor 0 = .ok (.iload_n 1, 1) := by decide +kernel
theorem dX4_distributor_1 : decode cX4_distributor 1 = .ok (.iconst 0, 1) := by decide +kernel
theorem dX4_distributor_2 : decode cX4_distributor 2 = .ok (.iconst 3, 1) := by decide +kernel
theorem dX4_distributor_3 : decode cX4_distributor 3 = .ok (.invokestatic 46, 3) := by decide +kernel
theorem dX4_distributor_6 : decode cX4_distributor 6 = .ok (.ifCond .eq 12, 3) := by decide +kernel
theorem dX4_distributor_9 : decode cX4_distributor 9 = .ok (.iload_n 2, 1) := by decide +kernel
theorem dX4_distributor_10 : decode cX4_distributor 10 = .ok (.iconst 0, 1) := by decide +kernel
theorem dX4_distributor_11 : decode cX4_distributor 11 = .ok (.iconst 2, 1) := by decide +kernel
theorem dX4_distributor_12 : decode cX4_distributor 12 = .ok (.invokestatic 46, 3) := by decide +kernel
theorem dX4_distributor_15 : decode cX4_distributor 15 = .ok (.ifCond .ne 6, 3) := by decide +kernel
theorem dX4_distributor_18 : decode cX4_distributor 18 = .ok (.bipush (-2), 2) := by decide +kernel
theorem dX4_distributor_20 : decode cX4_distributor 20 = .ok (.ireturn, 1) := by decide +kernel
theorem dX4_distributor_21 : decode cX4_distributor 21 = .ok (.iconst 0, 1) := by decide +kernel
theorem dX4_distributor_22 : decode cX4_distributor 22 = .ok (.istore_n 3, 1) := by decide +kernel
theorem dX4_distributor_23 : decode cX4_distributor 23 = .ok (.iconst 0, 1) := by decide +kernel
theorem dX4_distributor_24 : decode cX4_distributor 24 = .ok (.istore 4, 2) := by decide +kernel
theorem dX4_distributor_26 : decode cX4_distributor 26 = .ok (.iload 4, 2) := by decide +kernel
theorem dX4_distributor_28 : decode cX4_distributor 28 = .ok (.aload_n 0, 1) := by decide +kernel
theorem dX4_distributor_29 : decode cX4_distributor 29 = .ok (.getfield 12, 3) := by decide +kernel
theorem dX4_distributor_32 : decode cX4_distributor 32 = .ok (.invokevirtual 69, 3) := by decide +kernel
theorem dX4_distributor_35 : decode cX4_distributor 35 = .ok (.if_icmp .ge 50, 3) := by decide +kernel
theorem dX4_distributor_38 : decode cX4_distributor 38 = .ok (.aload_n 0, 1) := by decide +kernel
theorem dX4_distributor_39 : decode cX4_distributor 39 = .ok (.getfield 12, 3) := by decide +kernel
theorem dX4_distributor_42 : decode cX4_distributor 42 = .ok (.iload 4, 2) := by decide +kernel
theorem dX4_distributor_44 : decode cX4_distributor 44 = .ok (.iconst 0, 1) := by decide +kernel
theorem dX4_distributor_45 : decode cX4_distributor 45 = .ok (.invokevirtual 134, 3) := by decide +kernel
theorem dX4_distributor_48 : decode cX4_distributor 48 = .ok (.iload_n 1, 1) := by decide +kernel
theorem dX4_distributor_49 : decode cX4_distributor 49 = .ok (.if_icmp .ne 30, 3) := by decide +kernel
theorem dX4_distributor_52 : decode cX4_distributor 52 = .ok (.iload_n 3, 1) := by decide +kernel
theorem dX4_distributor_53 : decode cX4_distributor 53 = .ok (.iload_n 2, 1) := by decide +kernel
theorem dX4_distributor_54 : decode cX4_distributor 54 = .ok (.ifCond .ne 7, 3) := by decide +kernel
theorem dX4_distributor_57 : decode cX4_distributor 57 = .ok (.iconst 1, 1) := by decide +kernel
theorem dX4_distributor_58 : decode cX4_distributor 58 = .ok (.goto 19, 3) := by decide +kernel
theorem dX4_distributor_61 : decode cX4_distributor 61 = .ok (.aload_n 0, 1) := by decide +kernel
theorem dX4_distributor_62 : decode cX4_distributor 62 = .ok (.iload 4, 2) := by decide +kernel
theorem dX4_distributor_64 : decode cX4_distributor 64 = .ok (.iload_n 2, 1) := by decide +kernel
theorem dX4_distributor_65 : decode cX4_distributor 65 = .ok (.iconst 1, 1) := by decide +kernel
theorem dX4_distributor_66 : decode cX4_distributor 66 = .ok (.if_icmp .ne 7, 3) := by decide +kernel
theorem dX4_distributor_69 : decode cX4_distributor 69 = .ok (.iconst 0, 1) := by decide +kernel
theorem dX4_distributor_70 : decode cX4_distributor 70 = .ok (.goto 4, 3) := by decide +kernel
theorem dX4_distributor_73 : decode cX4_distributor 73 = .ok (.iconst 3, 1) := by decide +kernel
theorem dX4_distributor_74 : decode cX4_distributor 74 = .ok (.invokevirtual 164, 3) := by decide +kernel
theorem dX4_distributor_77 : decode cX4_distributor 77 = .ok (.iadd, 1) := by decide +kernel
theorem dX4_distributor_78 : decode cX4_distributor 78 = .ok (.istore_n 3, 1) := by decide +kernel
theorem dX4_distributor_79 : decode cX4_distributor 79 = .ok (.iinc 4 1, 3) := by decide +kernel
theorem dX4_distributor_82 : decode cX4_distributor 82 = .ok (.goto (-56), 3) := by decide +kernel
theorem dX4_distributor_85 : decode cX4_distributor 85 = .ok (.iload_n 3, 1) := by decide +kernel
theorem dX4_distributor_86 : decode cX4_distributor 86 = .ok (.ireturn, 1) := by decide +kernel
set_option maxRecDepth 20000 in
theorem ggX4_rent_X4_isDay : GoodIn wsX4_rent wsX4_isDay := goodIn_r _ [5, 6, 7, 4, 8] (by decide +kernel) (by decide +kernel)
set_option maxRecDepth 20000 in
theorem gX4_rent_X4_isDay : GoodIn wsX4_rent (va_wsS RX4 65 yX4_isDay wsX4_isDay) := goodIn_app (goodIn_of _ (by decide +kernel)) ggX4_rent_X4_isDay
set_option maxRecDepth 20000 in
theorem ggX4_rent_X1_rentOf : GoodIn wsX4_rent wsX1_rentOf := goodIn_r _ [13, 14, 21] (by decide +kernel) (by decide +kernel)
set_option maxRecDepth 20000 in
theorem gX4_rent_X1_rentOf : GoodIn wsX4_rent (wsV RX4 167 RX1 yX1_rentOf wsX1_rentOf) := goodIn_app (goodIn_of _ (by decide +kernel)) ggX4_rent_X1_rentOf
theorem dX4_rent_0 : decode cX4_rent 0 = .ok (.iload_n 1, 1) := by decide +kernel
theorem dX4_rent_1 : decode cX4_rent 1 = .ok (.invokestatic 65, 3) := by decide +kernel
theorem dX4_rent_4 : decode cX4_rent 4 = .ok (.ifCond .eq 14, 3) := by decide +kernel
theorem dX4_rent_7 : decode cX4_rent 7 = .ok (.aload_n 0, 1) := by decide +kernel
theorem dX4_rent_8 : decode cX4_rent 8 = .ok (.getfield 12, 3) := by decide +kernel
theorem dX4_rent_11 : decode cX4_rent 11 = .ok (.iload_n 1, 1) := by decide +kernel
theorem dX4_rent_12 : decode cX4_rent 12 = .ok (.invokevirtual 167, 3) := by decide +kernel
theorem dX4_rent_15 : decode cX4_rent 15 = .ok (.goto 5, 3) := by decide +kernel
theorem dX4_rent_18 : decode cX4_rent 18 = .ok (.bipush (-2), 2) := by decide +kernel
theorem dX4_rent_20 : decode cX4_rent 20 = .ok (.ireturn, 1) := by decide +kernel
set_option maxRecDepth 20000 in
theorem ggX4_count_X4_isWithin : GoodIn wsX4_count wsX4_isWithin := goodIn_r _ [8] (by decide +kernel) (by decide +kernel)
set_option maxRecDepth 20000 in
theorem gX4_count_X4_isWithin : GoodIn wsX4_count (va_wsS RX4 46 yX4_isWithin wsX4_isWithin) := goodIn_app (goodIn_of _ (by decide +kernel)) ggX4_count_X4_isWithin
set_option maxRecDepth 20000 in
theorem ggX4_count_X1_setting : GoodIn wsX4_count wsX1_setting := goodIn_r _ [13, 14, 115] (by decide +kernel) (by decide +kernel)
set_option maxRecDepth 20000 in
theorem gX4_count_X1_setting : GoodIn wsX4_count (wsV RX4 128 RX1 yX1_setting wsX1_setting) := goodIn_app (goodIn_of _ (by decide +kernel)) ggX4_count_X1_setting
set_option maxRecDepth 20000 in
theorem ggX4_count_X1_films : GoodIn wsX4_count wsX1_films := goodIn_r _ [18, 14, 115] (by decide +kernel) (by decide +kernel)
set_option maxRecDepth 20000 in
theorem gX4_count_X1_films : GoodIn wsX4_count (wsV RX4 69 RX1 yX1_films wsX1_films) := goodIn_app (goodIn_of _ (by decide +kernel)) ggX4_count_X1_films
set_option maxRecDepth 20000 in
theorem ggX4_count_X4_sumOfFilms : GoodIn wsX4_count wsX4_sumOfFilms := goodIn_r _ [22, 1, 15, 16, 17, 12, 18, 14, 23, 24, 25, 7, 26, 27, 28, 29, 30, 31, 32, 33, 34, 35, 36, 37, 38, 39, 40, 41, 42, 43, 44, 45, 46, 47, 48, 49, 50, 51, 52, 53, 54, 55, 56, 57, 58, 10, 11, 13, 59, 60, 61, 62, 63, 64, 65, 66, 67, 68, 69, 70, 71, 72, 73, 74, 75, 76, 77, 78, 79, 80, 109, 110, 111, 112, 113, 114, 115, 116, 117, 118, 119, 120, 121] (by decide +kernel) (by decide +kernel)
set_option maxRecDepth 20000 in
theorem gX4_count_X4_sumOfFilms : GoodIn wsX4_count (wsV RX4 98 RX4 yX4_sumOfFilms wsX4_sumOfFilms) := goodIn_app (goodIn_of _ (by decide +kernel)) ggX4_count_X4_sumOfFilms
set_option maxRecDepth 20000 in
theorem ggX4_count_X1_rentsOf : GoodIn wsX4_count wsX1_rentsOf := goodIn_r _ [84, 85, 86, 87, 12, 88, 14, 115] (by decide +kernel) (by decide +kernel)
set_option maxRecDepth 20000 in
theorem gX4_count_X1_rentsOf : GoodIn wsX4_count (wsV RX4 161 RX1 yX1_rentsOf wsX1_rentsOf) := goodIn_app (goodIn_of _ (by decide +kernel)) ggX4_count_X1_rentsOf
set_option maxRecDepth 20000 in
theorem ggX4_count_X4_fullShows : GoodIn wsX4_count wsX4_fullShows := goodIn_r _ [92, 1, 27, 15, 16, 17, 12, 18, 14, 28, 29, 30, 31, 32, 33, 34, 35, 36, 37, 38, 39, 40, 41, 42, 43, 44, 45, 46, 47, 48, 49, 50, 51, 52, 53, 54, 55, 56, 57, 58, 10, 11, 13, 59, 60, 61, 62, 63, 64, 65, 66, 67, 68, 69, 70, 71, 72, 73, 74, 75, 76, 93, 94, 95, 96, 109, 110, 111, 112, 113, 114, 115, 116, 117, 118, 119, 120, 121] (by decide +kernel) (by decide +kernel)
set_option maxRecDepth 20000 in
theorem gX4_count_X4_fullShows : GoodIn wsX4_count (wsV RX4 170 RX4 yX4_fullShows wsX4_fullShows) := goodIn_app (goodIn_of _ (by decide +kernel)) ggX4_count_X4_fullShows
set_option maxRecDepth 20000 in
theorem ggX4_count_X3_length : GoodIn wsX4_count wsX3_length := goodIn_r _ [101, 102, 122, 123] (by decide +kernel) (by decide +kernel)
set_option maxRecDepth 20000 in
theorem gX4_count_X3_length : GoodIn wsX4_count (wsV RX4 173 RX3 yX3_length wsX3_length) := goodIn_app (goodIn_of _ (by decide +kernel)) ggX4_count_X3_length
set_option maxRecDepth 20000 in
theorem ggX4_count_X2_size : GoodIn wsX4_count wsX2_size := goodIn_r _ [107, 108, 124, 125, 126] (by decide +kernel) (by decide +kernel)
set_option maxRecDepth 20000 in
theorem gX4_count_X2_size : GoodIn wsX4_count (wsV RX4 176 RX2 yX2_size wsX2_size) := goodIn_app (goodIn_of _ (by decide +kernel)) ggX4_count_X2_size
theorem dX4_count_0 : decode cX4_count 0 = .ok (.iload_n 1, 1) := by decide +kernel
theorem dX4_count_1 : decode cX4_count 1 = .ok (.iconst 0, 1) := by decide +kernel
theorem dX4_count_2 : decode cX4_count 2 = .ok (.bipush 14, 2) := by decide +kernel
theorem dX4_count_4 : decode cX4_count 4 = .ok (.invokestatic 46, 3) := by decide +kernel
theorem dX4_count_7 : decode cX4_count 7 = .ok (.ifCond .ne 6, 3) := by decide +kernel
theorem dX4_count_10 : decode cX4_count 10 = .ok (.bipush (-2), 2) := by decide +kernel
theorem dX4_count_12 : decode cX4_count 12 = .ok (.ireturn, 1) := by decide +kernel
theorem dX4_count_13 : decode cX4_count 13 = .ok (.iload_n 1, 1) := by decide +kernel
theorem dX4_count_14 : decode cX4_count 14 = .ok (.bipush 8, 2) := by decide +kernel
theorem dX4_count_16 : decode cX4_count 16 = .ok (.bipush 12, 2) := by decide +kernel
theorem dX4_count_18 : decode cX4_count 18 = .ok (.invokestatic 46, 3) := by decide +kernel
theorem dX4_count_21 : decode cX4_count 21 = .ok (.ifCond .eq 15, 3) := by decide +kernel
theorem dX4_count_24 : decode cX4_count 24 = .ok (.aload_n 0, 1) := by decide +kernel
theorem dX4_count_25 : decode cX4_count 25 = .ok (.getfield 12, 3) := by decide +kernel
theorem dX4_count_28 : decode cX4_count 28 = .ok (.iload_n 1, 1) := by decide +kernel
theorem dX4_count_29 : decode cX4_count 29 = .ok (.bipush 8, 2) := by decide +kernel
theorem dX4_count_31 : decode cX4_count 31 = .ok (.isub, 1) := by decide +kernel
theorem dX4_count_32 : decode cX4_count 32 = .ok (.invokevirtual 128, 3) := by decide +kernel
theorem dX4_count_35 : decode cX4_count 35 = .ok (.ireturn, 1) := by decide +kernel
theorem dX4_count_36 : decode cX4_count 36 = .ok (.iload_n 1, 1) := by decide +kernel
theorem dX4_count_37 : decode cX4_count 37 = .ok (.tableswitch 135 0 14 #[75, 135, 135, 135, 135, 83, 103, 114, 135, 135, 135, 135, 135, 119, 127], 75) := by decide +kernel
theorem dX4_count_112 : decode cX4_count 112 = .ok (.aload_n 0, 1) := by decide +kernel
theorem dX4_count_113 : decode cX4_count 113 = .ok (.getfield 12, 3) := by decide +kernel
theorem dX4_count_116 : decode cX4_count 116 = .ok (.invokevirtual 69, 3) := by decide +kernel
theorem dX4_count_119 : decode cX4_count 119 = .ok (.ireturn, 1) := by decide +kernel
theorem dX4_count_120 : decode cX4_count 120 = .ok (.aload_n 0, 1) := by decide +kernel
theorem dX4_count_121 : decode cX4_count 121 = .ok (.iconst 4, 1) := by decide +kernel
theorem dX4_count_122 : decode cX4_count 122 = .ok (.invokevirtual 98, 3) := by decide +kernel
theorem dX4_count_125 : decode cX4_count 125 = .ok (.aload_n 0, 1) := by decide +kernel
theorem dX4_count_126 : decode cX4_count 126 = .ok (.getfield 12, 3) := by decide +kernel
theorem dX4_count_129 : decode cX4_count 129 = .ok (.iconst 0, 1) := by decide +kernel
theorem dX4_count_130 : decode cX4_count 130 = .ok (.bipush 35, 2) := by decide +kernel
theorem dX4_count_132 : decode cX4_count 132 = .ok (.invokevirtual 161, 3) := by decide +kernel
theorem dX4_count_135 : decode cX4_count 135 = .ok (.iadd, 1) := by decide +kernel
theorem dX4_count_136 : decode cX4_count 136 = .ok (.ldc 101, 2) := by decide +kernel
theorem dX4_count_138 : decode cX4_count 138 = .ok (.iadd, 1) := by decide +kernel
theorem dX4_count_139 : decode cX4_count 139 = .ok (.ireturn, 1) := by decide +kernel
theorem dX4_count_140 : decode cX4_count 140 = .ok (.aload_n 0, 1) := by decide +kernel
theorem dX4_count_141 : decode cX4_count 141 = .ok (.getfield 12, 3) := by decide +kernel
theorem dX4_count_144 : decode cX4_count 144 = .ok (.iconst 0, 1) := by decide +kernel
theorem dX4_count_145 : decode cX4_count 145 = .ok (.bipush 35, 2) := by decide +kernel
theorem dX4_count_147 : decode cX4_count 147 = .ok (.invokevirtual 161, 3) := by decide +kernel
theorem dX4_count_150 : decode cX4_count 150 = .ok (.ireturn, 1) := by decide +kernel
theorem dX4_count_151 : decode cX4_count 151 = .ok (.aload_n 0, 1) := by decide +kernel
theorem dX4_count_152 : decode cX4_count 152 = .ok (.invokevirtual 170, 3) := by decide +kernel
theorem dX4_count_155 : decode cX4_count 155 = .ok (.ireturn, 1) := by decide +kernel
theorem dX4_count_156 : decode cX4_count 156 = .ok (.aload_n 0, 1) := by decide +kernel
theorem dX4_count_157 : decode cX4_count 157 = .ok (.getfield 26, 3) := by decide +kernel
theorem dX4_count_160 : decode cX4_count 160 = .ok (.invokevirtual 173, 3) := by decide +kernel
theorem dX4_count_163 : decode cX4_count 163 = .ok (.ireturn, 1) := by decide +kernel
theorem dX4_count_164 : decode cX4_count 164 = .ok (.aload_n 0, 1) := by decide +kernel
theorem dX4_count_165 : decode cX4_count 165 = .ok (.getfield 33, 3) := by decide +kernel
theorem dX4_count_168 : decode cX4_count 168 = .ok (.invokevirtual 176, 3) := by decide +kernel
theorem dX4_count_171 : decode cX4_count 171 = .ok (.ireturn, 1) := by decide +kernel
theorem dX4_count_172 : decode cX4_count 172 = .ok (.aload_n 0, 1) := by decide +kernel
theorem dX4_count_173 : decode cX4_count 173 = .ok (.iload_n 1, 1) := by decide +kernel
theorem dX4_count_174 : decode cX4_count 174 = .ok (.iconst 1, 1) := by decide +kernel
theorem dX4_count_175 : decode cX4_count 175 = .ok (.isub, 1) := by decide +kernel
theorem dX4_count_176 : decode cX4_count 176 = .ok (.invokevirtual 98, 3) := by decide +kernel
theorem dX4_count_179 : decode cX4_count 179 = .ok (.ireturn, 1) := by decide +kernel
set_option maxRecDepth 20000 in
theorem ggX4_ifShown_X4_errorOfShow : GoodIn wsX4_ifShown wsX4_errorOfShow := goodIn_r _ [6, 7, 8, 9, 10, 11, 12, 13, 14, 15, 16, 17, 18, 19, 5, 20, 21, 22, 23, 24, 25, 26, 27, 28, 29, 30, 31, 32, 33, 34, 35, 36, 37, 38, 39, 110, 111, 112, 113, 114, 115, 116] (by decide +kernel) (by decide +kernel)
set_option maxRecDepth 20000 in
theorem gX4_ifShown_X4_errorOfShow : GoodIn wsX4_ifShown (wsV RX4 77 RX4 yX4_errorOfShow wsX4_errorOfShow) := goodIn_app (goodIn_of _ (by decide +kernel)) ggX4_ifShown_X4_errorOfShow
set_option maxRecDepth 20000 in
theorem ggX4_ifShown_X4_placeOf : GoodIn wsX4_ifShown wsX4_placeOf := goodIn_r _ [42] (by decide +kernel) (by decide +kernel)
set_option maxRecDepth 20000 in
theorem gX4_ifShown_X4_placeOf : GoodIn wsX4_ifShown (va_wsS RX4 81 yX4_placeOf wsX4_placeOf) := goodIn_app (goodIn_of _ (by decide +kernel)) ggX4_ifShown_X4_placeOf
set_option maxRecDepth 20000 in
theorem ggX4_ifShown_X4_gainWith : GoodIn wsX4_ifShown wsX4_gainWith := goodIn_r _ [46, 7, 47, 48, 49, 11, 50, 17, 51, 52, 53, 5, 54, 55, 8, 9, 10, 12, 13, 14, 15, 16, 56, 57, 58, 59, 60, 61, 62, 63, 64, 37, 38, 39, 65, 66, 67, 68, 69, 70, 71, 72, 73, 74, 75, 76, 77, 78, 79, 80, 81, 82, 83, 84, 85, 86, 87, 88, 89, 90, 91, 92, 93, 94, 95, 96, 97, 98, 99, 100, 101, 102, 103, 104, 105, 106, 107, 108, 109, 110, 111, 112, 113, 114, 115, 116, 117, 118, 119, 120, 121, 122] (by decide +kernel) (by decide +kernel)
set_option maxRecDepth 20000 in
theorem gX4_ifShown_X4_gainWith : GoodIn wsX4_ifShown (wsV RX4 179 RX4 yX4_gainWith wsX4_gainWith) := goodIn_app (goodIn_of _ (by decide +kernel)) ggX4_ifShown_X4_gainWith
theorem dX4_ifShown_0 : decode cX4_ifShown 0 = .ok (.aload_n 0, 1) := by decide +kernel
theorem dX4_ifShown_1 : decode cX4_ifShown 1 = .ok (.iload_n 1, 1) := by decide +kernel
theorem dX4_ifShown_2 : decode cX4_ifShown 2 = .ok (.iload_n 2, 1) := by decide +kernel
theorem dX4_ifShown_3 : decode cX4_ifShown 3 = .ok (.iload_n 3, 1) := by decide +kernel
theorem dX4_ifShown_4 : decode cX4_ifShown 4 = .ok (.invokevirtual 77, 3) := by decide +kernel
theorem dX4_ifShown_7 : decode cX4_ifShown 7 = .ok (.istore 4, 2) := by decide +kernel
theorem dX4_ifShown_9 : decode cX4_ifShown 9 = .ok (.iload 4, 2) := by decide +kernel
theorem dX4_ifShown_11 : decode cX4_ifShown 11 = .ok (.ifCond .eq 6, 3) := by decide +kernel
theorem dX4_ifShown_14 : decode cX4_ifShown 14 = .ok (.iload 4, 2) := by decide +kernel
theorem dX4_ifShown_16 : decode cX4_ifShown 16 = .ok (.ireturn, 1) := by decide +kernel
theorem dX4_ifShown_17 : decode cX4_ifShown 17 = .ok (.aload_n 0, 1) := by decide +kernel
theorem dX4_ifShown_18 : decode cX4_ifShown 18 = .ok (.iload_n 2, 1) := by decide +kernel
theorem dX4_ifShown_19 : decode cX4_ifShown 19 = .ok (.iload_n 3, 1) := by decide +kernel
theorem dX4_ifShown_20 : decode cX4_ifShown 20 = .ok (.invokestatic 81, 3) := by decide +kernel
theorem dX4_ifShown_23 : decode cX4_ifShown 23 = .ok (.iload_n 1, 1) := by decide +kernel
theorem dX4_ifShown_24 : decode cX4_ifShown 24 = .ok (.invokevirtual 179, 3) := by decide +kernel
theorem dX4_ifShown_27 : decode cX4_ifShown 27 = .ok (.ldc 101, 2) := by decide +kernel
theorem dX4_ifShown_29 : decode cX4_ifShown 29 = .ok (.iadd, 1) := by decide +kernel
theorem dX4_ifShown_30 : decode cX4_ifShown 30 = .ok (.ireturn, 1) := by decide +kernel
set_option maxRecDepth 20000 in
theorem ggX4_bestFilm_X4_isPlace : GoodIn wsX4_bestFilm wsX4_isPlace := goodIn_r _ [6, 7, 8, 5, 9, 10, 11, 12] (by decide +kernel) (by decide +kernel)
set_option maxRecDepth 20000 in
theorem gX4_bestFilm_X4_isPlace : GoodIn wsX4_bestFilm (va_wsS RX4 87 yX4_isPlace wsX4_isPlace) := goodIn_app (goodIn_of _ (by decide +kernel)) ggX4_bestFilm_X4_isPlace
set_option maxRecDepth 20000 in
theorem ggX4_bestFilm_X4_isWithin : GoodIn wsX4_bestFilm wsX4_isWithin := goodIn_r _ [12] (by decide +kernel) (by decide +kernel)
set_option maxRecDepth 20000 in
theorem gX4_bestFilm_X4_isWithin : GoodIn wsX4_bestFilm (va_wsS RX4 46 yX4_isWithin wsX4_isWithin) := goodIn_app (goodIn_of _ (by decide +kernel)) ggX4_bestFilm_X4_isWithin
set_option maxRecDepth 20000 in
theorem ggX4_bestFilm_X1_rentOf : GoodIn wsX4_bestFilm wsX1_rentOf := goodIn_r _ [17, 18, 114] (by decide +kernel) (by decide +kernel)
set_option maxRecDepth 20000 in
theorem gX4_bestFilm_X1_rentOf : GoodIn wsX4_bestFilm (wsV RX4 167 RX1 yX1_rentOf wsX1_rentOf) := goodIn_app (goodIn_of _ (by decide +kernel)) ggX4_bestFilm_X1_rentOf
set_option maxRecDepth 20000 in
theorem ggX4_bestFilm_X1_films : GoodIn wsX4_bestFilm wsX1_films := goodIn_r _ [22, 18, 114] (by decide +kernel) (by decide +kernel)
set_option maxRecDepth 20000 in
theorem gX4_bestFilm_X1_films : GoodIn wsX4_bestFilm (wsV RX4 69 RX1 yX1_films wsX1_films) := goodIn_app (goodIn_of _ (by decide +kernel)) ggX4_bestFilm_X1_films
set_option maxRecDepth 20000 in
theorem ggX4_bestFilm_X1_canHold : GoodIn wsX4_bestFilm wsX1_canHold := goodIn_r _ [26, 27, 14, 15, 16, 17, 18, 28, 29, 30, 31, 32, 20, 21, 22, 33, 34, 35, 36, 114] (by decide +kernel) (by decide +kernel)
set_option maxRecDepth 20000 in
theorem gX4_bestFilm_X1_canHold : GoodIn wsX4_bestFilm (wsV RX4 95 RX1 yX1_canHold wsX1_canHold) := goodIn_app (goodIn_of _ (by decide +kernel)) ggX4_bestFilm_X1_canHold
set_option maxRecDepth 20000 in
theorem ggX4_bestFilm_X4_placeOf : GoodIn wsX4_bestFilm wsX4_placeOf := goodIn_r _ [39] (by decide +kernel) (by decide +kernel)
set_option maxRecDepth 20000 in
theorem gX4_bestFilm_X4_placeOf : GoodIn wsX4_bestFilm (va_wsS RX4 81 yX4_placeOf wsX4_placeOf) := goodIn_app (goodIn_of _ (by decide +kernel)) ggX4_bestFilm_X4_placeOf
set_option maxRecDepth 20000 in
theorem ggX4_bestFilm_X4_gainWith : GoodIn wsX4_bestFilm wsX4_gainWith := goodIn_r _ [43, 1, 44, 45, 46, 16, 47, 18, 48, 49, 50, 5, 51, 52, 53, 29, 30, 31, 32, 20, 21, 22, 54, 55, 56, 57, 58, 59, 60, 61, 62, 34, 35, 36, 63, 64, 65, 66, 67, 68, 69, 70, 71, 72, 73, 74, 75, 76, 77, 78, 79, 80, 81, 82, 83, 84, 85, 86, 87, 88, 89, 90, 91, 92, 93, 94, 95, 96, 97, 98, 99, 100, 101, 102, 103, 104, 105, 106, 107, 108, 109, 110, 111, 112, 113, 114, 115, 116, 117, 118, 119, 120] (by decide +kernel) (by decide +kernel)
set_option maxRecDepth 20000 in
theorem gX4_bestFilm_X4_gainWith : GoodIn wsX4_bestFilm (wsV RX4 179 RX4 yX4_gainWith wsX4_gainWith) := goodIn_app (goodIn_of _ (by decide +kernel)) ggX4_bestFilm_X4_gainWith
theorem dX4_bestFilm_0 : decode cX4_bestFilm 0 = .ok (.iload_n 1, 1) := by decide +kernel
theorem dX4_bestFilm_1 : decode cX4_bestFilm 1 = .ok (.iload_n 2, 1) := by decide +kernel
theorem dX4_bestFilm_2 : decode cX4_bestFilm 2 = .ok (.invokestatic 87, 3) := by decide +kernel
theorem dX4_bestFilm_5 : decode cX4_bestFilm 5 = .ok (.ifCond .eq 12, 3) := by decide +kernel
theorem dX4_bestFilm_8 : decode cX4_bestFilm 8 = .ok (.iload_n 3, 1) := by decide +kernel
theorem dX4_bestFilm_9 : decode cX4_bestFilm 9 = .ok (.iconst 0, 1) := by decide +kernel
theorem dX4_bestFilm_10 : decode cX4_bestFilm 10 = .ok (.iconst 1, 1) := by decide +kernel
theorem dX4_bestFilm_11 : decode cX4_bestFilm 11 = .ok (.invokestatic 46, 3) := by decide +kernel
theorem dX4_bestFilm_14 : decode cX4_bestFilm 14 = .ok (.ifCond .ne 6, 3) := by decide +kernel
theorem dX4_bestFilm_17 : decode cX4_bestFilm 17 = .ok (.bipush (-2), 2) := by decide +kernel
theorem dX4_bestFilm_19 : decode cX4_bestFilm 19 = .ok (.ireturn, 1) := by decide +kernel
theorem dX4_bestFilm_20 : decode cX4_bestFilm 20 = .ok (.aload_n 0, 1) := by decide +kernel
theorem dX4_bestFilm_21 : decode cX4_bestFilm 21 = .ok (.getfield 12, 3) := by decide +kernel
theorem dX4_bestFilm_24 : decode cX4_bestFilm 24 = .ok (.iload_n 1, 1) := by decide +kernel
theorem dX4_bestFilm_25 : decode cX4_bestFilm 25 = .ok (.invokevirtual 167, 3) := by decide +kernel
theorem dX4_bestFilm_28 : decode cX4_bestFilm 28 = .ok (.ifCond .eq 6, 3) := by decide +kernel
theorem dX4_bestFilm_31 : decode cX4_bestFilm 31 = .ok (.bipush (-5), 2) := by decide +kernel
theorem dX4_bestFilm_33 : decode cX4_bestFilm 33 = .ok (.ireturn, 1) := by decide +kernel
theorem dX4_bestFilm_34 : decode cX4_bestFilm 34 = .ok (.bipush (-6), 2) := by decide +kernel
theorem dX4_bestFilm_36 : decode cX4_bestFilm 36 = .ok (.istore 4, 2) := by decide +kernel
theorem dX4_bestFilm_38 : decode cX4_bestFilm 38 = .ok (.iconst 0, 1) := by decide +kernel
theorem dX4_bestFilm_39 : decode cX4_bestFilm 39 = .ok (.istore 5, 2) := by decide +kernel
theorem dX4_bestFilm_41 : decode cX4_bestFilm 41 = .ok (.iconst 0, 1) := by decide +kernel
theorem dX4_bestFilm_42 : decode cX4_bestFilm 42 = .ok (.istore 6, 2) := by decide +kernel
theorem dX4_bestFilm_44 : decode cX4_bestFilm 44 = .ok (.iload 6, 2) := by decide +kernel
theorem dX4_bestFilm_46 : decode cX4_bestFilm 46 = .ok (.aload_n 0, 1) := by decide +kernel
theorem dX4_bestFilm_47 : decode cX4_bestFilm 47 = .ok (.getfield 12, 3) := by decide +kernel
theorem dX4_bestFilm_50 : decode cX4_bestFilm 50 = .ok (.invokevirtual 69, 3) := by decide +kernel
theorem dX4_bestFilm_53 : decode cX4_bestFilm 53 = .ok (.if_icmp .ge 57, 3) := by decide +kernel
theorem dX4_bestFilm_56 : decode cX4_bestFilm 56 = .ok (.aload_n 0, 1) := by decide +kernel
theorem dX4_bestFilm_57 : decode cX4_bestFilm 57 = .ok (.getfield 12, 3) := by decide +kernel
theorem dX4_bestFilm_60 : decode cX4_bestFilm 60 = .ok (.iload_n 1, 1) := by decide +kernel
theorem dX4_bestFilm_61 : decode cX4_bestFilm 61 = .ok (.iload 6, 2) := by decide +kernel
theorem dX4_bestFilm_63 : decode cX4_bestFilm 63 = .ok (.invokevirtual 95, 3) := by decide +kernel
theorem dX4_bestFilm_66 : decode cX4_bestFilm 66 = .ok (.ifCond .eq 38, 3) := by decide +kernel
theorem dX4_bestFilm_69 : decode cX4_bestFilm 69 = .ok (.aload_n 0, 1) := by decide +kernel
theorem dX4_bestFilm_70 : decode cX4_bestFilm 70 = .ok (.iload_n 1, 1) := by decide +kernel
theorem dX4_bestFilm_71 : decode cX4_bestFilm 71 = .ok (.iload_n 2, 1) := by decide +kernel
theorem dX4_bestFilm_72 : decode cX4_bestFilm 72 = .ok (.invokestatic 81, 3) := by decide +kernel
theorem dX4_bestFilm_75 : decode cX4_bestFilm 75 = .ok (.iload 6, 2) := by decide +kernel
theorem dX4_bestFilm_77 : decode cX4_bestFilm 77 = .ok (.invokevirtual 179, 3) := by decide +kernel
theorem dX4_bestFilm_80 : decode cX4_bestFilm 80 = .ok (.istore 7, 2) := by decide +kernel
theorem dX4_bestFilm_82 : decode cX4_bestFilm 82 = .ok (.iload 4, 2) := by decide +kernel
theorem dX4_bestFilm_84 : decode cX4_bestFilm 84 = .ok (.bipush (-6), 2) := by decide +kernel
theorem dX4_bestFilm_86 : decode cX4_bestFilm 86 = .ok (.if_icmp .eq 10, 3) := by decide +kernel
theorem dX4_bestFilm_89 : decode cX4_bestFilm 89 = .ok (.iload 7, 2) := by decide +kernel
theorem dX4_bestFilm_91 : decode cX4_bestFilm 91 = .ok (.iload 5, 2) := by decide +kernel
theorem dX4_bestFilm_93 : decode cX4_bestFilm 93 = .ok (.if_icmp .le 11, 3) := by decide +kernel
theorem dX4_bestFilm_96 : decode cX4_bestFilm 96 = .ok (.iload 6, 2) := by decide +kernel
theorem dX4_bestFilm_98 : decode cX4_bestFilm 98 = .ok (.istore 4, 2) := by decide +kernel
theorem dX4_bestFilm_100 : decode cX4_bestFilm 100 = .ok (.iload 7, 2) := by decide +kernel
theorem dX4_bestFilm_102 : decode cX4_bestFilm 102 = .ok (.istore 5, 2) := by decide +kernel
theorem dX4_bestFilm_104 : decode cX4_bestFilm 104 = .ok (.iinc 6 1, 3) := by decide +kernel
theorem dX4_bestFilm_107 : decode cX4_bestFilm 107 = .ok (.goto (-63), 3) := by decide +kernel
theorem dX4_bestFilm_110 : decode cX4_bestFilm 110 = .ok (.iload 4, 2) := by decide +kernel
theorem dX4_bestFilm_112 : decode cX4_bestFilm 112 = .ok (.bipush (-6), 2) := by decide +kernel
theorem dX4_bestFilm_114 : decode cX4_bestFilm 114 = .ok (.if_icmp .ne 6, 3) := by decide +kernel
theorem dX4_bestFilm_117 : decode cX4_bestFilm 117 = .ok (.bipush (-6), 2) := by decide +kernel
theorem dX4_bestFilm_119 : decode cX4_bestFilm 119 = .ok (.ireturn, 1) := by decide +kernel
theorem dX4_bestFilm_120 : decode cX4_bestFilm 120 = .ok (.iload_n 3, 1) := by decide +kernel
theorem dX4_bestFilm_121 : decode cX4_bestFilm 121 = .ok (.ifCond .ne 8, 3) := by decide +kernel
theorem dX4_bestFilm_124 : decode cX4_bestFilm 124 = .ok (.iload 4, 2) := by decide +kernel
theorem dX4_bestFilm_126 : decode cX4_bestFilm 126 = .ok (.goto 8, 3) := by decide +kernel
theorem dX4_bestFilm_129 : decode cX4_bestFilm 129 = .ok (.iload 5, 2) := by decide +kernel
theorem dX4_bestFilm_131 : decode cX4_bestFilm 131 = .ok (.ldc 101, 2) := by decide +kernel
theorem dX4_bestFilm_133 : decode cX4_bestFilm 133 = .ok (.iadd, 1) := by decide +kernel
theorem dX4_bestFilm_134 : decode cX4_bestFilm 134 = .ok (.ireturn, 1) := by decide +kernel
set_option maxRecDepth 20000 in
theorem ggX4_worstShow_X4_isWithin : GoodIn wsX4_worstShow wsX4_isWithin := goodIn_r _ [6] (by decide +kernel) (by decide +kernel)
set_option maxRecDepth 20000 in
theorem gX4_worstShow_X4_isWithin : GoodIn wsX4_worstShow (va_wsS RX4 46 yX4_isWithin wsX4_isWithin) := goodIn_app (goodIn_of _ (by decide +kernel)) ggX4_worstShow_X4_isWithin
set_option maxRecDepth 20000 in
theorem ggX4_worstShow_X1_showAt : GoodIn wsX4_worstShow wsX1_showAt := goodIn_r _ [11, 12, 93] (by decide +kernel) (by decide +kernel)
set_option maxRecDepth 20000 in
theorem gX4_worstShow_X1_showAt : GoodIn wsX4_worstShow (wsV RX4 91 RX1 yX1_showAt wsX1_showAt) := goodIn_app (goodIn_of _ (by decide +kernel)) ggX4_worstShow_X1_showAt
set_option maxRecDepth 20000 in
theorem ggX4_worstShow_X4_gainWith : GoodIn wsX4_worstShow wsX4_gainWith := goodIn_r _ [16, 1, 7, 8, 9, 10, 11, 12, 17, 18, 19, 5, 20, 21, 22, 23, 24, 25, 26, 27, 28, 29, 30, 31, 32, 33, 34, 35, 36, 37, 38, 39, 40, 41, 42, 43, 44, 45, 46, 47, 48, 49, 50, 51, 52, 53, 54, 55, 56, 57, 58, 59, 60, 61, 62, 63, 64, 65, 66, 67, 68, 69, 70, 71, 72, 73, 74, 75, 76, 77, 78, 79, 80, 81, 82, 83, 84, 85, 86, 87, 88, 89, 90, 91, 92, 93, 94, 95, 96, 97, 98, 99] (by decide +kernel) (by decide +kernel)
set_option maxRecDepth 20000 in
theorem gX4_worstShow_X4_gainWith : GoodIn wsX4_worstShow (wsV RX4 179 RX4 yX4_gainWith wsX4_gainWith) := goodIn_app (goodIn_of _ (by decide +kernel)) ggX4_worstShow_X4_gainWith
theorem dX4_worstShow_0 : decode cX4_worstShow 0 = .ok (.iload_n 1, 1) := by decide +kernel
theorem dX4_worstShow_1 : decode cX4_worstShow 1 = .ok (.iconst 0, 1) := by decide +kernel
theorem dX4_worstShow_2 : decode cX4_worstShow 2 = .ok (.iconst 2, 1) := by decide +kernel
theorem dX4_worstShow_3 : decode cX4_worstShow 3 = .ok (.invokestatic 46, 3) := by decide +kernel
theorem dX4_worstShow_6 : decode cX4_worstShow 6 = .ok (.ifCond .ne 6, 3) := by decide +kernel
theorem dX4_worstShow_9 : decode cX4_worstShow 9 = .ok (.bipush (-2), 2) := by decide +kernel
theorem dX4_worstShow_11 : decode cX4_worstShow 11 = .ok (.ireturn, 1) := by decide +kernel
theorem dX4_worstShow_12 : decode cX4_worstShow 12 = .ok (.bipush (-6), 2) := by decide +kernel
theorem dX4_worstShow_14 : decode cX4_worstShow 14 = .ok (.istore_n 2, 1) := by decide +kernel
theorem dX4_worstShow_15 : decode cX4_worstShow 15 = .ok (.iconst 0, 1) := by decide +kernel
theorem dX4_worstShow_16 : decode cX4_worstShow 16 = .ok (.istore_n 3, 1) := by decide +kernel
theorem dX4_worstShow_17 : decode cX4_worstShow 17 = .ok (.iconst 0, 1) := by decide +kernel
theorem dX4_worstShow_18 : decode cX4_worstShow 18 = .ok (.istore 4, 2) := by decide +kernel
theorem dX4_worstShow_20 : decode cX4_worstShow 20 = .ok (.iload 4, 2) := by decide +kernel
theorem dX4_worstShow_22 : decode cX4_worstShow 22 = .ok (.bipush 70, 2) := by decide +kernel
theorem dX4_worstShow_24 : decode cX4_worstShow 24 = .ok (.if_icmp .ge 51, 3) := by decide +kernel
theorem dX4_worstShow_27 : decode cX4_worstShow 27 = .ok (.aload_n 0, 1) := by decide +kernel
theorem dX4_worstShow_28 : decode cX4_worstShow 28 = .ok (.getfield 12, 3) := by decide +kernel
theorem dX4_worstShow_31 : decode cX4_worstShow 31 = .ok (.iload 4, 2) := by decide +kernel
theorem dX4_worstShow_33 : decode cX4_worstShow 33 = .ok (.invokevirtual 91, 3) := by decide +kernel
theorem dX4_worstShow_36 : decode cX4_worstShow 36 = .ok (.bipush (-6), 2) := by decide +kernel
theorem dX4_worstShow_38 : decode cX4_worstShow 38 = .ok (.if_icmp .eq 31, 3) := by decide +kernel
theorem dX4_worstShow_41 : decode cX4_worstShow 41 = .ok (.aload_n 0, 1) := by decide +kernel
theorem dX4_worstShow_42 : decode cX4_worstShow 42 = .ok (.iload 4, 2) := by decide +kernel
theorem dX4_worstShow_44 : decode cX4_worstShow 44 = .ok (.bipush (-6), 2) := by decide +kernel
theorem dX4_worstShow_46 : decode cX4_worstShow 46 = .ok (.invokevirtual 179, 3) := by decide +kernel
theorem dX4_worstShow_49 : decode cX4_worstShow 49 = .ok (.istore 5, 2) := by decide +kernel
theorem dX4_worstShow_51 : decode cX4_worstShow 51 = .ok (.iload_n 2, 1) := by decide +kernel
theorem dX4_worstShow_52 : decode cX4_worstShow 52 = .ok (.bipush (-6), 2) := by decide +kernel
theorem dX4_worstShow_54 : decode cX4_worstShow 54 = .ok (.if_icmp .eq 9, 3) := by decide +kernel
theorem dX4_worstShow_57 : decode cX4_worstShow 57 = .ok (.iload 5, 2) := by decide +kernel
theorem dX4_worstShow_59 : decode cX4_worstShow 59 = .ok (.iload_n 3, 1) := by decide +kernel
theorem dX4_worstShow_60 : decode cX4_worstShow 60 = .ok (.if_icmp .le 9, 3) := by decide +kernel
theorem dX4_worstShow_63 : decode cX4_worstShow 63 = .ok (.iload 4, 2) := by decide +kernel
theorem dX4_worstShow_65 : decode cX4_worstShow 65 = .ok (.istore_n 2, 1) := by decide +kernel
theorem dX4_worstShow_66 : decode cX4_worstShow 66 = .ok (.iload 5, 2) := by decide +kernel
theorem dX4_worstShow_68 : decode cX4_worstShow 68 = .ok (.istore_n 3, 1) := by decide +kernel
theorem dX4_worstShow_69 : decode cX4_worstShow 69 = .ok (.iinc 4 1, 3) := by decide +kernel
theorem dX4_worstShow_72 : decode cX4_worstShow 72 = .ok (.goto (-52), 3) := by decide +kernel
theorem dX4_worstShow_75 : decode cX4_worstShow 75 = .ok (.iload_n 2, 1) := by decide +kernel
theorem dX4_worstShow_76 : decode cX4_worstShow 76 = .ok (.bipush (-6), 2) := by decide +kernel
theorem dX4_worstShow_78 : decode cX4_worstShow 78 = .ok (.if_icmp .ne 6, 3) := by decide +kernel
theorem dX4_worstShow_81 : decode cX4_worstShow 81 = .ok (.bipush (-6), 2) := by decide +kernel
theorem dX4_worstShow_83 : decode cX4_worstShow 83 = .ok (.ireturn, 1) := by decide +kernel
theorem dX4_worstShow_84 : decode cX4_worstShow 84 = .ok (.iload_n 1, 1) := by decide +kernel
theorem dX4_worstShow_85 : decode cX4_worstShow 85 = .ok (.lookupswitch 35 #[(0, 27), (1, 31)], 27) := by decide +kernel
theorem dX4_worstShow_112 : decode cX4_worstShow 112 = .ok (.iload_n 2, 1) := by decide +kernel
theorem dX4_worstShow_113 : decode cX4_worstShow 113 = .ok (.iconst 2, 1) := by decide +kernel
theorem dX4_worstShow_114 : decode cX4_worstShow 114 = .ok (.idiv, 1) := by decide +kernel
theorem dX4_worstShow_115 : decode cX4_worstShow 115 = .ok (.ireturn, 1) := by decide +kernel
theorem dX4_worstShow_116 : decode cX4_worstShow 116 = .ok (.iload_n 2, 1) := by decide +kernel
theorem dX4_worstShow_117 : decode cX4_worstShow 117 = .ok (.iconst 2, 1) := by decide +kernel
theorem dX4_worstShow_118 : decode cX4_worstShow 118 = .ok (.irem, 1) := by decide +kernel
theorem dX4_worstShow_119 : decode cX4_worstShow 119 = .ok (.ireturn, 1) := by decide +kernel
theorem dX4_worstShow_120 : decode cX4_worstShow 120 = .ok (.iload_n 3, 1) := by decide +kernel
theorem dX4_worstShow_121 : decode cX4_worstShow 121 = .ok (.ldc 101, 2) := by decide +kernel
theorem dX4_worstShow_123 : decode cX4_worstShow 123 = .ok (.iadd, 1) := by decide +kernel
theorem dX4_worstShow_124 : decode cX4_worstShow 124 = .ok (.ireturn, 1) := by decide +kernel
set_option maxRecDepth 20000 in
theorem ggX4_priceFor_X4_isPlace : GoodIn wsX4_priceFor wsX4_isPlace := goodIn_r _ [8, 9, 10, 7, 11, 12, 13, 14] (by decide +kernel) (by decide +kernel)
set_option maxRecDepth 20000 in
theorem gX4_priceFor_X4_isPlace : GoodIn wsX4_priceFor (va_wsS RX4 87 yX4_isPlace wsX4_isPlace) := goodIn_app (goodIn_of _ (by decide +kernel)) ggX4_priceFor_X4_isPlace
set_option maxRecDepth 20000 in
theorem ggX4_priceFor_X4_isWithin : GoodIn wsX4_priceFor wsX4_isWithin := goodIn_r _ [14] (by decide +kernel) (by decide +kernel)
set_option maxRecDepth 20000 in
theorem gX4_priceFor_X4_isWithin : GoodIn wsX4_priceFor (va_wsS RX4 46 yX4_isWithin wsX4_isWithin) := goodIn_app (goodIn_of _ (by decide +kernel)) ggX4_priceFor_X4_isWithin
set_option maxRecDepth 20000 in
theorem ggX4_priceFor_X4_placeOf : GoodIn wsX4_priceFor wsX4_placeOf := goodIn_r _ [17] (by decide +kernel) (by decide +kernel)
set_option maxRecDepth 20000 in
theorem gX4_priceFor_X4_placeOf : GoodIn wsX4_priceFor (va_wsS RX4 81 yX4_placeOf wsX4_placeOf) := goodIn_app (goodIn_of _ (by decide +kernel)) ggX4_priceFor_X4_placeOf
set_option maxRecDepth 20000 in
theorem ggX4_priceFor_X1_showAt : GoodIn wsX4_priceFor wsX1_showAt := goodIn_r _ [22, 23, 91] (by decide +kernel) (by decide +kernel)
set_option maxRecDepth 20000 in
theorem gX4_priceFor_X1_showAt : GoodIn wsX4_priceFor (wsV RX4 91 RX1 yX1_showAt wsX1_showAt) := goodIn_app (goodIn_of _ (by decide +kernel)) ggX4_priceFor_X1_showAt
set_option maxRecDepth 20000 in
theorem ggX4_priceFor_X1_hasFilm : GoodIn wsX4_priceFor wsX1_hasFilm := goodIn_r _ [27, 28, 29, 30, 21, 31, 23, 91] (by decide +kernel) (by decide +kernel)
set_option maxRecDepth 20000 in
theorem gX4_priceFor_X1_hasFilm : GoodIn wsX4_priceFor (wsV RX4 118 RX1 yX1_hasFilm wsX1_hasFilm) := goodIn_app (goodIn_of _ (by decide +kernel)) ggX4_priceFor_X1_hasFilm
set_option maxRecDepth 20000 in
theorem ggX4_priceFor_X0_follow : GoodIn wsX4_priceFor wsX0_follow := goodIn_r _ [36, 37, 38, 39, 40, 41, 42, 21, 43, 23, 44, 45, 46, 35, 47, 48, 49, 50, 51, 19, 20, 22, 52, 53, 54, 55, 56, 57, 58, 59, 60, 61, 62, 63, 64, 65, 66, 67, 68, 69, 70, 71, 72, 73, 74, 75, 76, 77, 78, 79, 80, 92, 93, 94, 95, 96, 97, 91] (by decide +kernel) (by decide +kernel)
set_option maxRecDepth 20000 in
theorem gX4_priceFor_X0_follow : GoodIn wsX4_priceFor (wsV RX4 121 RX0 yX0_follow wsX0_follow) := goodIn_app (goodIn_of _ (by decide +kernel)) ggX4_priceFor_X0_follow
set_option maxRecDepth 20000 in
theorem ggX4_priceFor_X0_peopleAt : GoodIn wsX4_priceFor wsX0_peopleAt := goodIn_r _ [84, 48, 92, 93, 94, 95, 96, 97] (by decide +kernel) (by decide +kernel)
set_option maxRecDepth 20000 in
theorem gX4_priceFor_X0_peopleAt : GoodIn wsX4_priceFor (wsV RX4 125 RX0 yX0_peopleAt wsX0_peopleAt) := goodIn_app (goodIn_of _ (by decide +kernel)) ggX4_priceFor_X0_peopleAt
theorem dX4_priceFor_0 : decode cX4_priceFor 0 = .ok (.iload_n 1, 1) := by decide +kernel
theorem dX4_priceFor_1 : decode cX4_priceFor 1 = .ok (.iload_n 2, 1) := by decide +kernel
theorem dX4_priceFor_2 : decode cX4_priceFor 2 = .ok (.invokestatic 87, 3) := by decide +kernel
theorem dX4_priceFor_5 : decode cX4_priceFor 5 = .ok (.ifCond .eq 14, 3) := by decide +kernel
theorem dX4_priceFor_8 : decode cX4_priceFor 8 = .ok (.iload_n 3, 1) := by decide +kernel
theorem dX4_priceFor_9 : decode cX4_priceFor 9 = .ok (.iconst 1, 1) := by decide +kernel
theorem dX4_priceFor_10 : decode cX4_priceFor 10 = .ok (.sipush 5000, 3) := by decide +kernel
theorem dX4_priceFor_13 : decode cX4_priceFor 13 = .ok (.invokestatic 46, 3) := by decide +kernel
theorem dX4_priceFor_16 : decode cX4_priceFor 16 = .ok (.ifCond .ne 6, 3) := by decide +kernel
theorem dX4_priceFor_19 : decode cX4_priceFor 19 = .ok (.bipush (-2), 2) := by decide +kernel
theorem dX4_priceFor_21 : decode cX4_priceFor 21 = .ok (.ireturn, 1) := by decide +kernel
theorem dX4_priceFor_22 : decode cX4_priceFor 22 = .ok (.iload_n 1, 1) := by decide +kernel
theorem dX4_priceFor_23 : decode cX4_priceFor 23 = .ok (.iload_n 2, 1) := by decide +kernel
theorem dX4_priceFor_24 : decode cX4_priceFor 24 = .ok (.invokestatic 81, 3) := by decide +kernel
theorem dX4_priceFor_27 : decode cX4_priceFor 27 = .ok (.istore 4, 2) := by decide +kernel
theorem dX4_priceFor_29 : decode cX4_priceFor 29 = .ok (.aload_n 0, 1) := by decide +kernel
theorem dX4_priceFor_30 : decode cX4_priceFor 30 = .ok (.getfield 12, 3) := by decide +kernel
theorem dX4_priceFor_33 : decode cX4_priceFor 33 = .ok (.iload 4, 2) := by decide +kernel
theorem dX4_priceFor_35 : decode cX4_priceFor 35 = .ok (.invokevirtual 91, 3) := by decide +kernel
theorem dX4_priceFor_38 : decode cX4_priceFor 38 = .ok (.istore 5, 2) := by decide +kernel
theorem dX4_priceFor_40 : decode cX4_priceFor 40 = .ok (.aload_n 0, 1) := by decide +kernel
theorem dX4_priceFor_41 : decode cX4_priceFor 41 = .ok (.getfield 12, 3) := by decide +kernel
theorem dX4_priceFor_44 : decode cX4_priceFor 44 = .ok (.iload 5, 2) := by decide +kernel
theorem dX4_priceFor_46 : decode cX4_priceFor 46 = .ok (.invokevirtual 118, 3) := by decide +kernel
theorem dX4_priceFor_49 : decode cX4_priceFor 49 = .ok (.ifCond .ne 6, 3) := by decide +kernel
theorem dX4_priceFor_52 : decode cX4_priceFor 52 = .ok (.bipush (-5), 2) := by decide +kernel
theorem dX4_priceFor_54 : decode cX4_priceFor 54 = .ok (.ireturn, 1) := by decide +kernel
theorem dX4_priceFor_55 : decode cX4_priceFor 55 = .ok (.aload_n 0, 1) := by decide +kernel
theorem dX4_priceFor_56 : decode cX4_priceFor 56 = .ok (.getfield 19, 3) := by decide +kernel
theorem dX4_priceFor_59 : decode cX4_priceFor 59 = .ok (.aload_n 0, 1) := by decide +kernel
theorem dX4_priceFor_60 : decode cX4_priceFor 60 = .ok (.getfield 12, 3) := by decide +kernel
theorem dX4_priceFor_63 : decode cX4_priceFor 63 = .ok (.iload 5, 2) := by decide +kernel
theorem dX4_priceFor_65 : decode cX4_priceFor 65 = .ok (.invokevirtual 121, 3) := by decide +kernel
theorem dX4_priceFor_68 : decode cX4_priceFor 68 = .ok (.getstatic 50, 3) := by decide +kernel
theorem dX4_priceFor_71 : decode cX4_priceFor 71 = .ok (.iconst 1, 1) := by decide +kernel
theorem dX4_priceFor_72 : decode cX4_priceFor 72 = .ok (.iaload, 1) := by decide +kernel
theorem dX4_priceFor_73 : decode cX4_priceFor 73 = .ok (.istore 6, 2) := by decide +kernel
theorem dX4_priceFor_75 : decode cX4_priceFor 75 = .ok (.iload 6, 2) := by decide +kernel
theorem dX4_priceFor_77 : decode cX4_priceFor 77 = .ok (.getstatic 54, 3) := by decide +kernel
theorem dX4_priceFor_80 : decode cX4_priceFor 80 = .ok (.iconst 1, 1) := by decide +kernel
theorem dX4_priceFor_81 : decode cX4_priceFor 81 = .ok (.iaload, 1) := by decide +kernel
theorem dX4_priceFor_82 : decode cX4_priceFor 82 = .ok (.if_icmp .gt 28, 3) := by decide +kernel
theorem dX4_priceFor_85 : decode cX4_priceFor 85 = .ok (.aload_n 0, 1) := by decide +kernel
theorem dX4_priceFor_86 : decode cX4_priceFor 86 = .ok (.getfield 19, 3) := by decide +kernel
theorem dX4_priceFor_89 : decode cX4_priceFor 89 = .ok (.iload 4, 2) := by decide +kernel
theorem dX4_priceFor_91 : decode cX4_priceFor 91 = .ok (.invokevirtual 125, 3) := by decide +kernel
theorem dX4_priceFor_94 : decode cX4_priceFor 94 = .ok (.iload 6, 2) := by decide +kernel
theorem dX4_priceFor_96 : decode cX4_priceFor 96 = .ok (.imul, 1) := by decide +kernel
theorem dX4_priceFor_97 : decode cX4_priceFor 97 = .ok (.iload_n 3, 1) := by decide +kernel
theorem dX4_priceFor_98 : decode cX4_priceFor 98 = .ok (.if_icmp .lt 6, 3) := by decide +kernel
theorem dX4_priceFor_101 : decode cX4_priceFor 101 = .ok (.iload 6, 2) := by decide +kernel
theorem dX4_priceFor_103 : decode cX4_priceFor 103 = .ok (.ireturn, 1) := by decide +kernel
theorem dX4_priceFor_104 : decode cX4_priceFor 104 = .ok (.iinc 6 1, 3) := by decide +kernel
theorem dX4_priceFor_107 : decode cX4_priceFor 107 = .ok (.goto (-32), 3) := by decide +kernel
theorem dX4_priceFor_110 : decode cX4_priceFor 110 = .ok (.bipush (-6), 2) := by decide +kernel
theorem dX4_priceFor_112 : decode cX4_priceFor 112 = .ok (.ireturn, 1) := by decide +kernel
set_option maxRecDepth 20000 in
theorem ggX4_put_X3_append : GoodIn wsX4_put wsX3_append := goodIn_r _ [6, 7, 8, 9, 10, 11, 5, 12, 13, 14, 21, 22] (by decide +kernel) (by decide +kernel)
set_option maxRecDepth 20000 in
theorem gX4_put_X3_append : GoodIn wsX4_put (wsV RX4 182 RX3 yX3_append wsX3_append) := goodIn_app (goodIn_of _ (by decide +kernel)) ggX4_put_X3_append
theorem dX4_put_0 : decode cX4_put 0 = .ok (.aload_n 0, 1) := by decide +kernel
theorem dX4_put_1 : decode cX4_put 1 = .ok (.getfield 26, 3) := by decide +kernel
theorem dX4_put_4 : decode cX4_put 4 = .ok (.lload_n 1, 1) := by decide +kernel
theorem dX4_put_5 : decode cX4_put 5 = .ok (.invokevirtual 182, 3) := by decide +kernel
theorem dX4_put_8 : decode cX4_put 8 = .ok (.ireturn, 1) := by decide +kernel
set_option maxRecDepth 20000 in
theorem ggX4_wipe_X3_length : GoodIn wsX4_wipe wsX3_length := goodIn_r _ [6, 7, 18, 19] (by decide +kernel) (by decide +kernel)
set_option maxRecDepth 20000 in
theorem gX4_wipe_X3_length : GoodIn wsX4_wipe (wsV RX4 173 RX3 yX3_length wsX3_length) := goodIn_app (goodIn_of _ (by decide +kernel)) ggX4_wipe_X3_length
set_option maxRecDepth 20000 in
theorem ggX4_wipe_X3_empty : GoodIn wsX4_wipe wsX3_empty := goodIn_r _ [11, 7, 18, 19] (by decide +kernel) (by decide +kernel)
set_option maxRecDepth 20000 in
theorem gX4_wipe_X3_empty : GoodIn wsX4_wipe (wsV RX4 115 RX3 yX3_empty wsX3_empty) := goodIn_app (goodIn_of _ (by decide +kernel)) ggX4_wipe_X3_empty
theorem dX4_wipe_0 : decode cX4_wipe 0 = .ok (.aload_n 0, 1) := by decide +kernel
theorem dX4_wipe_1 : decode cX4_wipe 1 = .ok (.getfield 26, 3) := by decide +kernel
theorem dX4_wipe_4 : decode cX4_wipe 4 = .ok (.invokevirtual 173, 3) := by decide +kernel
theorem dX4_wipe_7 : decode cX4_wipe 7 = .ok (.istore_n 1, 1) := by decide +kernel
theorem dX4_wipe_8 : decode cX4_wipe 8 = .ok (.aload_n 0, 1) := by decide +kernel
theorem dX4_wipe_9 : decode cX4_wipe 9 = .ok (.getfield 26, 3) := by decide +kernel
theorem dX4_wipe_12 : decode cX4_wipe 12 = .ok (.invokevirtual 115, 3) := by decide +kernel
theorem dX4_wipe_15 : decode cX4_wipe 15 = .ok (.iload_n 1, 1) := by decide +kernel
theorem dX4_wipe_16 : decode cX4_wipe 16 = .ok (.ireturn, 1) := by decide +kernel
set_option maxRecDepth 20000 in
theorem ggX4_fault_X3_firstFault : GoodIn wsX4_fault wsX3_firstFault := goodIn_r _ [6, 7, 8, 9, 10, 5, 11, 12, 13, 14, 15, 16, 17, 18, 19, 20, 27, 28] (by decide +kernel) (by decide +kernel)
set_option maxRecDepth 20000 in
theorem gX4_fault_X3_firstFault : GoodIn wsX4_fault (wsV RX4 109 RX3 yX3_firstFault wsX3_firstFault) := goodIn_app (goodIn_of _ (by decide +kernel)) ggX4_fault_X3_firstFault
theorem dX4_fault_0 : decode cX4_fault 0 = .ok (.aload_n 0, 1) := by decide +kernel
theorem dX4_fault_1 : decode cX4_fault 1 = .ok (.getfield 26, 3) := by decide +kernel
theorem dX4_fault_4 : decode cX4_fault 4 = .ok (.invokevirtual 109, 3) := by decide +kernel
theorem dX4_fault_7 : decode cX4_fault 7 = .ok (.ireturn, 1) := by decide +kernel
set_option maxRecDepth 20000 in
theorem ggX4_undo_X2_size : GoodIn wsX4_undo wsX2_size := goodIn_r _ [7, 8, 31, 32, 33] (by decide +kernel) (by decide +kernel)
set_option maxRecDepth 20000 in
theorem gX4_undo_X2_size : GoodIn wsX4_undo (wsV RX4 176 RX2 yX2_size wsX2_size) := goodIn_app (goodIn_of _ (by decide +kernel)) ggX4_undo_X2_size
set_option maxRecDepth 20000 in
theorem ggX4_undo_X2_takeBack : GoodIn wsX4_undo wsX2_takeBack := goodIn_r _ [12, 8, 13, 14, 15, 16, 17, 18, 19, 20, 21, 22, 23, 24, 31, 32, 33, 34] (by decide +kernel) (by decide +kernel)
set_option maxRecDepth 20000 in
theorem gX4_undo_X2_takeBack : GoodIn wsX4_undo (wsV RX4 186 RX2 yX2_takeBack wsX2_takeBack) := goodIn_app (goodIn_of _ (by decide +kernel)) ggX4_undo_X2_takeBack
theorem dX4_undo_0 : decode cX4_undo 0 = .ok (.aload_n 0, 1) := by decide +kernel
theorem dX4_undo_1 : decode cX4_undo 1 = .ok (.getfield 33, 3) := by decide +kernel
theorem dX4_undo_4 : decode cX4_undo 4 = .ok (.invokevirtual 176, 3) := by decide +kernel
theorem dX4_undo_7 : decode cX4_undo 7 = .ok (.ifCond .ne 6, 3) := by decide +kernel
theorem dX4_undo_10 : decode cX4_undo 10 = .ok (.bipush (-5), 2) := by decide +kernel
theorem dX4_undo_12 : decode cX4_undo 12 = .ok (.ireturn, 1) := by decide +kernel
theorem dX4_undo_13 : decode cX4_undo 13 = .ok (.aload_n 0, 1) := by decide +kernel
theorem dX4_undo_14 : decode cX4_undo 14 = .ok (.getfield 33, 3) := by decide +kernel
theorem dX4_undo_17 : decode cX4_undo 17 = .ok (.aload_n 0, 1) := by decide +kernel
theorem dX4_undo_18 : decode cX4_undo 18 = .ok (.getfield 12, 3) := by decide +kernel
theorem dX4_undo_21 : decode cX4_undo 21 = .ok (.invokevirtual 186, 3) := by decide +kernel
theorem dX4_undo_24 : decode cX4_undo 24 = .ok (.aload_n 0, 1) := by decide +kernel
theorem dX4_undo_25 : decode cX4_undo 25 = .ok (.getfield 33, 3) := by decide +kernel
theorem dX4_undo_28 : decode cX4_undo 28 = .ok (.invokevirtual 176, 3) := by decide +kernel
theorem dX4_undo_31 : decode cX4_undo 31 = .ok (.ireturn, 1) := by decide +kernel
set_option maxRecDepth 20000 in
theorem ggX4_save_X4_isWithin : GoodIn wsX4_save wsX4_isWithin := goodIn_r _ [7] (by decide +kernel) (by decide +kernel)
set_option maxRecDepth 20000 in
theorem gX4_save_X4_isWithin : GoodIn wsX4_save (va_wsS RX4 46 yX4_isWithin wsX4_isWithin) := goodIn_app (goodIn_of _ (by decide +kernel)) ggX4_save_X4_isWithin
set_option maxRecDepth 20000 in
theorem ggX4_save_X1_copyTo : GoodIn wsX4_save wsX1_copyTo := goodIn_r _ [12, 13, 14, 15, 16, 17, 32] (by decide +kernel) (by decide +kernel)
set_option maxRecDepth 20000 in
theorem gX4_save_X1_copyTo : GoodIn wsX4_save (wsV RX4 189 RX1 yX1_copyTo wsX1_copyTo) := goodIn_app (goodIn_of _ (by decide +kernel)) ggX4_save_X1_copyTo
set_option maxRecDepth 20000 in
theorem ggX4_save_X1_shows : GoodIn wsX4_save wsX1_shows := goodIn_r _ [21, 22, 23, 24, 11, 25, 13, 32] (by decide +kernel) (by decide +kernel)
set_option maxRecDepth 20000 in
theorem gX4_save_X1_shows : GoodIn wsX4_save (wsV RX4 193 RX1 yX1_shows wsX1_shows) := goodIn_app (goodIn_of _ (by decide +kernel)) ggX4_save_X1_shows
theorem dX4_save_0 : decode cX4_save 0 = .ok (.iload_n 1, 1) := by decide +kernel
theorem dX4_save_1 : decode cX4_save 1 = .ok (.iconst 0, 1) := by decide +kernel
theorem dX4_save_2 : decode cX4_save 2 = .ok (.iconst 1, 1) := by decide +kernel
theorem dX4_save_3 : decode cX4_save 3 = .ok (.invokestatic 46, 3) := by decide +kernel
theorem dX4_save_6 : decode cX4_save 6 = .ok (.ifCond .ne 6, 3) := by decide +kernel
theorem dX4_save_9 : decode cX4_save 9 = .ok (.bipush (-2), 2) := by decide +kernel
theorem dX4_save_11 : decode cX4_save 11 = .ok (.ireturn, 1) := by decide +kernel
theorem dX4_save_12 : decode cX4_save 12 = .ok (.aload_n 0, 1) := by decide +kernel
theorem dX4_save_13 : decode cX4_save 13 = .ok (.getfield 12, 3) := by decide +kernel
theorem dX4_save_16 : decode cX4_save 16 = .ok (.aload_n 0, 1) := by decide +kernel
theorem dX4_save_17 : decode cX4_save 17 = .ok (.getfield 39, 3) := by decide +kernel
theorem dX4_save_20 : decode cX4_save 20 = .ok (.iload_n 1, 1) := by decide +kernel
theorem dX4_save_21 : decode cX4_save 21 = .ok (.aaload, 1) := by decide +kernel
theorem dX4_save_22 : decode cX4_save 22 = .ok (.invokevirtual 189, 3) := by decide +kernel
theorem dX4_save_25 : decode cX4_save 25 = .ok (.aload_n 0, 1) := by decide +kernel
theorem dX4_save_26 : decode cX4_save 26 = .ok (.getfield 42, 3) := by decide +kernel
theorem dX4_save_29 : decode cX4_save 29 = .ok (.iload_n 1, 1) := by decide +kernel
theorem dX4_save_30 : decode cX4_save 30 = .ok (.iconst 1, 1) := by decide +kernel
theorem dX4_save_31 : decode cX4_save 31 = .ok (.bastore, 1) := by decide +kernel
theorem dX4_save_32 : decode cX4_save 32 = .ok (.aload_n 0, 1) := by decide +kernel
theorem dX4_save_33 : decode cX4_save 33 = .ok (.getfield 12, 3) := by decide +kernel
theorem dX4_save_36 : decode cX4_save 36 = .ok (.invokevirtual 193, 3) := by decide +kernel
theorem dX4_save_39 : decode cX4_save 39 = .ok (.ireturn, 1) := by decide +kernel
set_option maxRecDepth 20000 in
theorem ggX4_restore_X4_isWithin : GoodIn wsX4_restore wsX4_isWithin := goodIn_r _ [8] (by decide +kernel) (by decide +kernel)
set_option maxRecDepth 20000 in
theorem gX4_restore_X4_isWithin : GoodIn wsX4_restore (va_wsS RX4 46 yX4_isWithin wsX4_isWithin) := goodIn_app (goodIn_of _ (by decide +kernel)) ggX4_restore_X4_isWithin
set_option maxRecDepth 20000 in
theorem ggX4_restore_X2_record : GoodIn wsX4_restore wsX2_record := goodIn_r _ [13, 14, 15, 16, 17, 18, 19, 20, 21, 22, 23, 24, 25, 26, 45, 46, 47, 48] (by decide +kernel) (by decide +kernel)
set_option maxRecDepth 20000 in
theorem gX4_restore_X2_record : GoodIn wsX4_restore (wsV RX4 57 RX2 yX2_record wsX2_record) := goodIn_app (goodIn_of _ (by decide +kernel)) ggX4_restore_X2_record
set_option maxRecDepth 20000 in
theorem ggX4_restore_X1_copyFrom : GoodIn wsX4_restore wsX1_copyFrom := goodIn_r _ [30, 22, 23, 24, 25, 26, 48] (by decide +kernel) (by decide +kernel)
set_option maxRecDepth 20000 in
theorem gX4_restore_X1_copyFrom : GoodIn wsX4_restore (wsV RX4 196 RX1 yX1_copyFrom wsX1_copyFrom) := goodIn_app (goodIn_of _ (by decide +kernel)) ggX4_restore_X1_copyFrom
set_option maxRecDepth 20000 in
theorem ggX4_restore_X1_shows : GoodIn wsX4_restore wsX1_shows := goodIn_r _ [34, 35, 36, 37, 20, 38, 22, 48] (by decide +kernel) (by decide +kernel)
set_option maxRecDepth 20000 in
theorem gX4_restore_X1_shows : GoodIn wsX4_restore (wsV RX4 193 RX1 yX1_shows wsX1_shows) := goodIn_app (goodIn_of _ (by decide +kernel)) ggX4_restore_X1_shows
theorem dX4_restore_0 : decode cX4_restore 0 = .ok (.iload_n 1, 1) := by decide +kernel
theorem dX4_restore_1 : decode cX4_restore 1 = .ok (.iconst 0, 1) := by decide +kernel
theorem dX4_restore_2 : decode cX4_restore 2 = .ok (.iconst 1, 1) := by decide +kernel
theorem dX4_restore_3 : decode cX4_restore 3 = .ok (.invokestatic 46, 3) := by decide +kernel
theorem dX4_restore_6 : decode cX4_restore 6 = .ok (.ifCond .ne 6, 3) := by decide +kernel
theorem dX4_restore_9 : decode cX4_restore 9 = .ok (.bipush (-2), 2) := by decide +kernel
theorem dX4_restore_11 : decode cX4_restore 11 = .ok (.ireturn, 1) := by decide +kernel
theorem dX4_restore_12 : decode cX4_restore 12 = .ok (.aload_n 0, 1) := by decide +kernel
theorem dX4_restore_13 : decode cX4_restore 13 = .ok (.getfield 42, 3) := by decide +kernel
theorem dX4_restore_16 : decode cX4_restore 16 = .ok (.iload_n 1, 1) := by decide +kernel
theorem dX4_restore_17 : decode cX4_restore 17 = .ok (.baload, 1) := by decide +kernel
theorem dX4_restore_18 : decode cX4_restore 18 = .ok (.ifCond .ne 6, 3) := by decide +kernel
theorem dX4_restore_21 : decode cX4_restore 21 = .ok (.bipush (-5), 2) := by decide +kernel
theorem dX4_restore_23 : decode cX4_restore 23 = .ok (.ireturn, 1) := by decide +kernel
theorem dX4_restore_24 : decode cX4_restore 24 = .ok (.aload_n 0, 1) := by decide +kernel
theorem dX4_restore_25 : decode cX4_restore 25 = .ok (.getfield 33, 3) := by decide +kernel
theorem dX4_restore_28 : decode cX4_restore 28 = .ok (.aload_n 0, 1) := by decide +kernel
theorem dX4_restore_29 : decode cX4_restore 29 = .ok (.getfield 12, 3) := by decide +kernel
theorem dX4_restore_32 : decode cX4_restore 32 = .ok (.invokevirtual 57, 3) := by decide +kernel
theorem dX4_restore_35 : decode cX4_restore 35 = .ok (.aload_n 0, 1) := by decide +kernel
theorem dX4_restore_36 : decode cX4_restore 36 = .ok (.getfield 12, 3) := by decide +kernel
theorem dX4_restore_39 : decode cX4_restore 39 = .ok (.aload_n 0, 1) := by decide +kernel
theorem dX4_restore_40 : decode cX4_restore 40 = .ok (.getfield 39, 3) := by decide +kernel
theorem dX4_restore_43 : decode cX4_restore 43 = .ok (.iload_n 1, 1) := by decide +kernel
theorem dX4_restore_44 : decode cX4_restore 44 = .ok (.aaload, 1) := by decide +kernel
theorem dX4_restore_45 : decode cX4_restore 45 = .ok (.invokevirtual 196, 3) := by decide +kernel
theorem dX4_restore_48 : decode cX4_restore 48 = .ok (.aload_n 0, 1) := by decide +kernel
theorem dX4_restore_49 : decode cX4_restore 49 = .ok (.getfield 12, 3) := by decide +kernel
theorem dX4_restore_52 : decode cX4_restore 52 = .ok (.invokevirtual 193, 3) := by decide +kernel
theorem dX4_restore_55 : decode cX4_restore 55 = .ok (.ireturn, 1) := by decide +kernel
theorem dX4_isWithin_0 : decode cX4_isWithin 0 = .ok (.iload_n 0, 1) := by decide +kernel
theorem dX4_isWithin_1 : decode cX4_isWithin 1 = .ok (.iload_n 1, 1) := by decide +kernel
theorem dX4_isWithin_2 : decode cX4_isWithin 2 = .ok (.if_icmp .lt 12, 3) := by decide +kernel
theorem dX4_isWithin_5 : decode cX4_isWithin 5 = .ok (.iload_n 0, 1) := by decide +kernel
theorem dX4_isWithin_6 : decode cX4_isWithin 6 = .ok (.iload_n 2, 1) := by decide +kernel
theorem dX4_isWithin_7 : decode cX4_isWithin 7 = .ok (.if_icmp .gt 7, 3) := by decide +kernel
theorem dX4_isWithin_10 : decode cX4_isWithin 10 = .ok (.iconst 1, 1) := by decide +kernel
theorem dX4_isWithin_11 : decode cX4_isWithin 11 = .ok (.goto 4, 3) := by decide +kernel
theorem dX4_isWithin_14 : decode cX4_isWithin 14 = .ok (.iconst 0, 1) := by decide +kernel
theorem dX4_isWithin_15 : decode cX4_isWithin 15 = .ok (.ireturn, 1) := by decide +kernel
set_option maxRecDepth 20000 in
theorem ggX4_isDay_X4_isWithin : GoodIn wsX4_isDay wsX4_isWithin := goodIn_r _ [4] (by decide +kernel) (by decide +kernel)
set_option maxRecDepth 20000 in
theorem gX4_isDay_X4_isWithin : GoodIn wsX4_isDay (va_wsS RX4 46 yX4_isWithin wsX4_isWithin) := goodIn_app (goodIn_of _ (by decide +kernel)) ggX4_isDay_X4_isWithin
theorem dX4_isDay_0 : decode cX4_isDay 0 = .ok (.iload_n 0, 1) := by decide +kernel
theorem dX4_isDay_1 : decode cX4_isDay 1 = .ok (.iconst 0, 1) := by decide +kernel
theorem dX4_isDay_2 : decode cX4_isDay 2 = .ok (.bipush 34, 2) := by decide +kernel
theorem dX4_isDay_4 : decode cX4_isDay 4 = .ok (.invokestatic 46, 3) := by decide +kernel
theorem dX4_isDay_7 : decode cX4_isDay 7 = .ok (.ireturn, 1) := by decide +kernel
set_option maxRecDepth 20000 in
theorem ggX4_isWeek_X4_isWithin : GoodIn wsX4_isWeek wsX4_isWithin := goodIn_r _ [4] (by decide +kernel) (by decide +kernel)
set_option maxRecDepth 20000 in
theorem gX4_isWeek_X4_isWithin : GoodIn wsX4_isWeek (va_wsS RX4 46 yX4_isWithin wsX4_isWithin) := goodIn_app (goodIn_of _ (by decide +kernel)) ggX4_isWeek_X4_isWithin
theorem dX4_isWeek_0 : decode cX4_isWeek 0 = .ok (.iload_n 0, 1) := by decide +kernel
theorem dX4_isWeek_1 : decode cX4_isWeek 1 = .ok (.iconst 0, 1) := by decide +kernel
theorem dX4_isWeek_2 : decode cX4_isWeek 2 = .ok (.iconst 4, 1) := by decide +kernel
theorem dX4_isWeek_3 : decode cX4_isWeek 3 = .ok (.invokestatic 46, 3) := by decide +kernel
theorem dX4_isWeek_6 : decode cX4_isWeek 6 = .ok (.ireturn, 1) := by decide +kernel
set_option maxRecDepth 20000 in
theorem ggX4_isPlace_X4_isDay : GoodIn wsX4_isPlace wsX4_isDay := goodIn_r _ [4, 5, 6, 3, 7] (by decide +kernel) (by decide +kernel)
set_option maxRecDepth 20000 in
theorem gX4_isPlace_X4_isDay : GoodIn wsX4_isPlace (va_wsS RX4 65 yX4_isDay wsX4_isDay) := goodIn_app (goodIn_of _ (by decide +kernel)) ggX4_isPlace_X4_isDay
set_option maxRecDepth 20000 in
theorem ggX4_isPlace_X4_isWithin : GoodIn wsX4_isPlace wsX4_isWithin := goodIn_r _ [7] (by decide +kernel) (by decide +kernel)
set_option maxRecDepth 20000 in
theorem gX4_isPlace_X4_isWithin : GoodIn wsX4_isPlace (va_wsS RX4 46 yX4_isWithin wsX4_isWithin) := goodIn_app (goodIn_of _ (by decide +kernel)) ggX4_isPlace_X4_isWithin
theorem dX4_isPlace_0 : decode cX4_isPlace 0 = .ok (.iload_n 0, 1) := by decide +kernel
theorem dX4_isPlace_1 : decode cX4_isPlace 1 = .ok (.invokestatic 65, 3) := by decide +kernel
theorem dX4_isPlace_4 : decode cX4_isPlace 4 = .ok (.ifCond .eq 16, 3) := by decide +kernel
theorem dX4_isPlace_7 : decode cX4_isPlace 7 = .ok (.iload_n 1, 1) := by decide +kernel
theorem dX4_isPlace_8 : decode cX4_isPlace 8 = .ok (.iconst 0, 1) := by decide +kernel
theorem dX4_isPlace_9 : decode cX4_isPlace 9 = .ok (.iconst 1, 1) := by decide +kernel
theorem dX4_isPlace_10 : decode cX4_isPlace 10 = .ok (.invokestatic 46, 3) := by decide +kernel
theorem dX4_isPlace_13 : decode cX4_isPlace 13 = .ok (.ifCond .eq 7, 3) := by decide +kernel
theorem dX4_isPlace_16 : decode cX4_isPlace 16 = .ok (.iconst 1, 1) := by decide +kernel
theorem dX4_isPlace_17 : decode cX4_isPlace 17 = .ok (.goto 4, 3) := by decide +kernel
theorem dX4_isPlace_20 : decode cX4_isPlace 20 = .ok (.iconst 0, 1) := by decide +kernel
theorem dX4_isPlace_21 : decode cX4_isPlace 21 = .ok (.ireturn, 1) := by decide +kernel
theorem dX4_placeOf_0 : decode cX4_placeOf 0 = .ok (.iload_n 0, 1) := by decide +kernel
theorem dX4_placeOf_1 : decode cX4_placeOf 1 = .ok (.iconst 2, 1) := by decide +kernel
theorem dX4_placeOf_2 : decode cX4_placeOf 2 = .ok (.imul, 1) := by decide +kernel
theorem dX4_placeOf_3 : decode cX4_placeOf 3 = .ok (.iload_n 1, 1) := by decide +kernel
theorem dX4_placeOf_4 : decode cX4_placeOf 4 = .ok (.iadd, 1) := by decide +kernel
theorem dX4_placeOf_5 : decode cX4_placeOf 5 = .ok (.ireturn, 1) := by decide +kernel
set_option maxRecDepth 20000 in
theorem ggX4_errorOfShow_X1_hasFilm : GoodIn wsX4_errorOfShow wsX1_hasFilm := goodIn_r _ [6, 7, 8, 9, 5, 10, 11, 41] (by decide +kernel) (by decide +kernel)
set_option maxRecDepth 20000 in
theorem gX4_errorOfShow_X1_hasFilm : GoodIn wsX4_errorOfShow (wsV RX4 118 RX1 yX1_hasFilm wsX1_hasFilm) := goodIn_app (goodIn_of _ (by decide +kernel)) ggX4_errorOfShow_X1_hasFilm
set_option maxRecDepth 20000 in
theorem ggX4_errorOfShow_X4_isPlace : GoodIn wsX4_errorOfShow wsX4_isPlace := goodIn_r _ [15, 16, 17, 14, 18, 19, 20, 21] (by decide +kernel) (by decide +kernel)
set_option maxRecDepth 20000 in
theorem gX4_errorOfShow_X4_isPlace : GoodIn wsX4_errorOfShow (va_wsS RX4 87 yX4_isPlace wsX4_isPlace) := goodIn_app (goodIn_of _ (by decide +kernel)) ggX4_errorOfShow_X4_isPlace
set_option maxRecDepth 20000 in
theorem ggX4_errorOfShow_X1_canHold : GoodIn wsX4_errorOfShow wsX1_canHold := goodIn_r _ [25, 26, 27, 28, 5, 29, 11, 30, 3, 4, 6, 7, 8, 9, 10, 31, 32, 33, 34, 41] (by decide +kernel) (by decide +kernel)
set_option maxRecDepth 20000 in
theorem gX4_errorOfShow_X1_canHold : GoodIn wsX4_errorOfShow (wsV RX4 95 RX1 yX1_canHold wsX1_canHold) := goodIn_app (goodIn_of _ (by decide +kernel)) ggX4_errorOfShow_X1_canHold
theorem dX4_errorOfShow_0 : decode cX4_errorOfShow 0 = .ok (.aload_n 0, 1) := by decide +kernel
theorem dX4_errorOfShow_1 : decode cX4_errorOfShow 1 = .ok (.getfield 12, 3) := by decide +kernel
theorem dX4_errorOfShow_4 : decode cX4_errorOfShow 4 = .ok (.iload_n 1, 1) := by decide +kernel
theorem dX4_errorOfShow_5 : decode cX4_errorOfShow 5 = .ok (.invokevirtual 118, 3) := by decide +kernel
theorem dX4_errorOfShow_8 : decode cX4_errorOfShow 8 = .ok (.ifCond .ne 5, 3) := by decide +kernel
theorem dX4_errorOfShow_11 : decode cX4_errorOfShow 11 = .ok (.iconst (-1), 1) := by decide +kernel
theorem dX4_errorOfShow_12 : decode cX4_errorOfShow 12 = .ok (.ireturn, 1) := by decide +kernel
theorem dX4_errorOfShow_13 : decode cX4_errorOfShow 13 = .ok (.iload_n 2, 1) := by decide +kernel
theorem dX4_errorOfShow_14 : decode cX4_errorOfShow 14 = .ok (.iload_n 3, 1) := by decide +kernel
theorem dX4_errorOfShow_15 : decode cX4_errorOfShow 15 = .ok (.invokestatic 87, 3) := by decide +kernel
theorem dX4_errorOfShow_18 : decode cX4_errorOfShow 18 = .ok (.ifCond .ne 6, 3) := by decide +kernel
theorem dX4_errorOfShow_21 : decode cX4_errorOfShow 21 = .ok (.bipush (-2), 2) := by decide +kernel
theorem dX4_errorOfShow_23 : decode cX4_errorOfShow 23 = .ok (.ireturn, 1) := by decide +kernel
theorem dX4_errorOfShow_24 : decode cX4_errorOfShow 24 = .ok (.aload_n 0, 1) := by decide +kernel
theorem dX4_errorOfShow_25 : decode cX4_errorOfShow 25 = .ok (.getfield 12, 3) := by decide +kernel
theorem dX4_errorOfShow_28 : decode cX4_errorOfShow 28 = .ok (.iload_n 2, 1) := by decide +kernel
theorem dX4_errorOfShow_29 : decode cX4_errorOfShow 29 = .ok (.iload_n 1, 1) := by decide +kernel
theorem dX4_errorOfShow_30 : decode cX4_errorOfShow 30 = .ok (.invokevirtual 95, 3) := by decide +kernel
theorem dX4_errorOfShow_33 : decode cX4_errorOfShow 33 = .ok (.ifCond .eq 7, 3) := by decide +kernel
theorem dX4_errorOfShow_36 : decode cX4_errorOfShow 36 = .ok (.iconst 0, 1) := by decide +kernel
theorem dX4_errorOfShow_37 : decode cX4_errorOfShow 37 = .ok (.goto 5, 3) := by decide +kernel
theorem dX4_errorOfShow_40 : decode cX4_errorOfShow 40 = .ok (.bipush (-5), 2) := by decide +kernel
theorem dX4_errorOfShow_42 : decode cX4_errorOfShow 42 = .ok (.ireturn, 1) := by decide +kernel
set_option maxRecDepth 20000 in
theorem ggX4_dropShowsOfDay_X4_placeOf : GoodIn wsX4_dropShowsOfDay wsX4_placeOf := goodIn_r _ [5] (by decide +kernel) (by decide +kernel)
set_option maxRecDepth 20000 in
theorem gX4_dropShowsOfDay_X4_placeOf : GoodIn wsX4_dropShowsOfDay (va_wsS RX4 81 yX4_placeOf wsX4_placeOf) := goodIn_app (goodIn_of _ (by decide +kernel)) ggX4_dropShowsOfDay_X4_placeOf
set_option maxRecDepth 20000 in
theorem ggX4_dropShowsOfDay_X1_replaceShow : GoodIn wsX4_dropShowsOfDay wsX1_replaceShow := goodIn_r _ [10, 11, 18] (by decide +kernel) (by decide +kernel)
set_option maxRecDepth 20000 in
theorem gX4_dropShowsOfDay_X1_replaceShow : GoodIn wsX4_dropShowsOfDay (wsV RX4 84 RX1 yX1_replaceShow wsX1_replaceShow) := goodIn_app (goodIn_of _ (by decide +kernel)) ggX4_dropShowsOfDay_X1_replaceShow
theorem dX4_dropShowsOfDay_0 : decode cX4_dropShowsOfDay 0 = .ok (.iconst 0, 1) := by decide +kernel
theorem dX4_dropShowsOfDay_1 : decode cX4_dropShowsOfDay 1 = .ok (.istore_n 2, 1) := by decide +kernel
theorem dX4_dropShowsOfDay_2 : decode cX4_dropShowsOfDay 2 = .ok (.iconst 0, 1) := by decide +kernel
theorem dX4_dropShowsOfDay_3 : decode cX4_dropShowsOfDay 3 = .ok (.istore_n 3, 1) := by decide +kernel
theorem dX4_dropShowsOfDay_4 : decode cX4_dropShowsOfDay 4 = .ok (.iload_n 3, 1) := by decide +kernel
theorem dX4_dropShowsOfDay_5 : decode cX4_dropShowsOfDay 5 = .ok (.iconst 2, 1) := by decide +kernel
theorem dX4_dropShowsOfDay_6 : decode cX4_dropShowsOfDay 6 = .ok (.if_icmp .ge 31, 3) := by decide +kernel
theorem dX4_dropShowsOfDay_9 : decode cX4_dropShowsOfDay 9 = .ok (.aload_n 0, 1) := by decide +kernel
theorem dX4_dropShowsOfDay_10 : decode cX4_dropShowsOfDay 10 = .ok (.getfield 12, 3) := by decide +kernel
theorem dX4_dropShowsOfDay_13 : decode cX4_dropShowsOfDay 13 = .ok (.iload_n 1, 1) := by decide +kernel
theorem dX4_dropShowsOfDay_14 : decode cX4_dropShowsOfDay 14 = .ok (.iload_n 3, 1) := by decide +kernel
theorem dX4_dropShowsOfDay_15 : decode cX4_dropShowsOfDay 15 = .ok (.invokestatic 81, 3) := by decide +kernel
theorem dX4_dropShowsOfDay_18 : decode cX4_dropShowsOfDay 18 = .ok (.bipush (-6), 2) := by decide +kernel
theorem dX4_dropShowsOfDay_20 : decode cX4_dropShowsOfDay 20 = .ok (.invokevirtual 84, 3) := by decide +kernel
theorem dX4_dropShowsOfDay_23 : decode cX4_dropShowsOfDay 23 = .ok (.bipush (-6), 2) := by decide +kernel
theorem dX4_dropShowsOfDay_25 : decode cX4_dropShowsOfDay 25 = .ok (.if_icmp .eq 6, 3) := by decide +kernel
theorem dX4_dropShowsOfDay_28 : decode cX4_dropShowsOfDay 28 = .ok (.iinc 2 1, 3) := by decide +kernel
theorem dX4_dropShowsOfDay_31 : decode cX4_dropShowsOfDay 31 = .ok (.iinc 3 1, 3) := by decide +kernel
theorem dX4_dropShowsOfDay_34 : decode cX4_dropShowsOfDay 34 = .ok (.goto (-30), 3) := by decide +kernel
theorem dX4_dropShowsOfDay_37 : decode cX4_dropShowsOfDay 37 = .ok (.iload_n 2, 1) := by decide +kernel
theorem dX4_dropShowsOfDay_38 : decode cX4_dropShowsOfDay 38 = .ok (.ireturn, 1) := by decide +kernel
set_option maxRecDepth 20000 in
theorem ggX4_putInShowsOfPad_X3_length : GoodIn wsX4_putInShowsOfPad wsX3_length := goodIn_r _ [7, 8, 80, 81] (by decide +kernel) (by decide +kernel)
set_option maxRecDepth 20000 in
theorem gX4_putInShowsOfPad_X3_length : GoodIn wsX4_putInShowsOfPad (wsV RX4 173 RX3 yX3_length wsX3_length) := goodIn_app (goodIn_of _ (by decide +kernel)) ggX4_putInShowsOfPad_X3_length
set_option maxRecDepth 20000 in
theorem ggX4_putInShowsOfPad_X3_endOfShow : GoodIn wsX4_putInShowsOfPad wsX3_endOfShow := goodIn_r _ [12, 8, 13, 14, 15, 6, 16, 17, 80, 81] (by decide +kernel) (by decide +kernel)
set_option maxRecDepth 20000 in
theorem gX4_putInShowsOfPad_X3_endOfShow : GoodIn wsX4_putInShowsOfPad (wsV RX4 199 RX3 yX3_endOfShow wsX3_endOfShow) := goodIn_app (goodIn_of _ (by decide +kernel)) ggX4_putInShowsOfPad_X3_endOfShow
set_option maxRecDepth 20000 in
theorem ggX4_putInShowsOfPad_X3_filmAt : GoodIn wsX4_putInShowsOfPad wsX3_filmAt := goodIn_r _ [21, 13, 14, 15, 6, 16, 8, 17, 80, 81] (by decide +kernel) (by decide +kernel)
set_option maxRecDepth 20000 in
theorem gX4_putInShowsOfPad_X3_filmAt : GoodIn wsX4_putInShowsOfPad (wsV RX4 202 RX3 yX3_filmAt wsX3_filmAt) := goodIn_app (goodIn_of _ (by decide +kernel)) ggX4_putInShowsOfPad_X3_filmAt
set_option maxRecDepth 20000 in
theorem ggX4_putInShowsOfPad_X3_partAt : GoodIn wsX4_putInShowsOfPad wsX3_partAt := goodIn_r _ [25, 13, 14, 15, 6, 16, 8, 17, 80, 81] (by decide +kernel) (by decide +kernel)
set_option maxRecDepth 20000 in
theorem gX4_putInShowsOfPad_X3_partAt : GoodIn wsX4_putInShowsOfPad (wsV RX4 205 RX3 yX3_partAt wsX3_partAt) := goodIn_app (goodIn_of _ (by decide +kernel)) ggX4_putInShowsOfPad_X3_partAt
set_option maxRecDepth 20000 in
theorem ggX4_putInShowsOfPad_X3_dayAt : GoodIn wsX4_putInShowsOfPad wsX3_dayAt := goodIn_r _ [29, 13, 14, 15, 6, 16, 8, 17, 80, 81] (by decide +kernel) (by decide +kernel)
set_option maxRecDepth 20000 in
theorem gX4_putInShowsOfPad_X3_dayAt : GoodIn wsX4_putInShowsOfPad (wsV RX4 208 RX3 yX3_dayAt wsX3_dayAt) := goodIn_app (goodIn_of _ (by decide +kernel)) ggX4_putInShowsOfPad_X3_dayAt
set_option maxRecDepth 20000 in
theorem ggX4_putInShowsOfPad_X4_errorOfShow : GoodIn wsX4_putInShowsOfPad wsX4_errorOfShow := goodIn_r _ [34, 2, 35, 36, 37, 38, 39, 40, 41, 42, 43, 44, 45, 46, 33, 47, 48, 49, 50, 51, 52, 53, 54, 55, 56, 57, 58, 59, 60, 61, 62, 63, 64, 65, 66, 74, 75, 76, 77, 78, 79, 82] (by decide +kernel) (by decide +kernel)
set_option maxRecDepth 20000 in
theorem gX4_putInShowsOfPad_X4_errorOfShow : GoodIn wsX4_putInShowsOfPad (wsV RX4 77 RX4 yX4_errorOfShow wsX4_errorOfShow) := goodIn_app (goodIn_of _ (by decide +kernel)) ggX4_putInShowsOfPad_X4_errorOfShow
set_option maxRecDepth 20000 in
theorem ggX4_putInShowsOfPad_X4_placeOf : GoodIn wsX4_putInShowsOfPad wsX4_placeOf := goodIn_r _ [69] (by decide +kernel) (by decide +kernel)
set_option maxRecDepth 20000 in
theorem gX4_putInShowsOfPad_X4_placeOf : GoodIn wsX4_putInShowsOfPad (va_wsS RX4 81 yX4_placeOf wsX4_placeOf) := goodIn_app (goodIn_of _ (by decide +kernel)) ggX4_putInShowsOfPad_X4_placeOf
set_option maxRecDepth 20000 in
theorem ggX4_putInShowsOfPad_X1_replaceShow : GoodIn wsX4_putInShowsOfPad wsX1_replaceShow := goodIn_r _ [73, 44, 82] (by decide +kernel) (by decide +kernel)
set_option maxRecDepth 20000 in
theorem gX4_putInShowsOfPad_X1_replaceShow : GoodIn wsX4_putInShowsOfPad (wsV RX4 84 RX1 yX1_replaceShow wsX1_replaceShow) := goodIn_app (goodIn_of _ (by decide +kernel)) ggX4_putInShowsOfPad_X1_replaceShow
theorem dX4_putInShowsOfPad_0 : decode cX4_putInShowsOfPad 0 = .ok (.iconst 0, 1) := by decide +kernel
theorem dX4_putInShowsOfPad_1 : decode cX4_putInShowsOfPad 1 = .ok (.istore_n 1, 1) := by decide +kernel
theorem dX4_putInShowsOfPad_2 : decode cX4_putInShowsOfPad 2 = .ok (.iconst 0, 1) := by decide +kernel
theorem dX4_putInShowsOfPad_3 : decode cX4_putInShowsOfPad 3 = .ok (.istore_n 2, 1) := by decide +kernel
theorem dX4_putInShowsOfPad_4 : decode cX4_putInShowsOfPad 4 = .ok (.iload_n 2, 1) := by decide +kernel
theorem dX4_putInShowsOfPad_5 : decode cX4_putInShowsOfPad 5 = .ok (.aload_n 0, 1) := by decide +kernel
theorem dX4_putInShowsOfPad_6 : decode cX4_putInShowsOfPad 6 = .ok (.getfield 26, 3) := by decide +kernel
theorem dX4_putInShowsOfPad_9 : decode cX4_putInShowsOfPad 9 = .ok (.invokevirtual 173, 3) := by decide +kernel
theorem dX4_putInShowsOfPad_12 : decode cX4_putInShowsOfPad 12 = .ok (.if_icmp .ge 90, 3) := by decide +kernel
theorem dX4_putInShowsOfPad_15 : decode cX4_putInShowsOfPad 15 = .ok (.aload_n 0, 1) := by decide +kernel
theorem dX4_putInShowsOfPad_16 : decode cX4_putInShowsOfPad 16 = .ok (.getfield 26, 3) := by decide +kernel
theorem dX4_putInShowsOfPad_19 : decode cX4_putInShowsOfPad 19 = .ok (.iload_n 2, 1) := by decide +kernel
theorem dX4_putInShowsOfPad_20 : decode cX4_putInShowsOfPad 20 = .ok (.invokevirtual 199, 3) := by decide +kernel
theorem dX4_putInShowsOfPad_23 : decode cX4_putInShowsOfPad 23 = .ok (.istore_n 3, 1) := by decide +kernel
theorem dX4_putInShowsOfPad_24 : decode cX4_putInShowsOfPad 24 = .ok (.aload_n 0, 1) := by decide +kernel
theorem dX4_putInShowsOfPad_25 : decode cX4_putInShowsOfPad 25 = .ok (.getfield 26, 3) := by decide +kernel
theorem dX4_putInShowsOfPad_28 : decode cX4_putInShowsOfPad 28 = .ok (.iload_n 2, 1) := by decide +kernel
theorem dX4_putInShowsOfPad_29 : decode cX4_putInShowsOfPad 29 = .ok (.invokevirtual 202, 3) := by decide +kernel
theorem dX4_putInShowsOfPad_32 : decode cX4_putInShowsOfPad 32 = .ok (.istore 4, 2) := by decide +kernel
theorem dX4_putInShowsOfPad_34 : decode cX4_putInShowsOfPad 34 = .ok (.aload_n 0, 1) := by decide +kernel
theorem dX4_putInShowsOfPad_35 : decode cX4_putInShowsOfPad 35 = .ok (.getfield 26, 3) := by decide +kernel
theorem dX4_putInShowsOfPad_38 : decode cX4_putInShowsOfPad 38 = .ok (.iload_n 2, 1) := by decide +kernel
theorem dX4_putInShowsOfPad_39 : decode cX4_putInShowsOfPad 39 = .ok (.iconst 1, 1) := by decide +kernel
theorem dX4_putInShowsOfPad_40 : decode cX4_putInShowsOfPad 40 = .ok (.iadd, 1) := by decide +kernel
theorem dX4_putInShowsOfPad_41 : decode cX4_putInShowsOfPad 41 = .ok (.invokevirtual 205, 3) := by decide +kernel
theorem dX4_putInShowsOfPad_44 : decode cX4_putInShowsOfPad 44 = .ok (.istore 5, 2) := by decide +kernel
theorem dX4_putInShowsOfPad_46 : decode cX4_putInShowsOfPad 46 = .ok (.aload_n 0, 1) := by decide +kernel
theorem dX4_putInShowsOfPad_47 : decode cX4_putInShowsOfPad 47 = .ok (.getfield 26, 3) := by decide +kernel
theorem dX4_putInShowsOfPad_50 : decode cX4_putInShowsOfPad 50 = .ok (.iload_n 2, 1) := by decide +kernel
theorem dX4_putInShowsOfPad_51 : decode cX4_putInShowsOfPad 51 = .ok (.iconst 2, 1) := by decide +kernel
theorem dX4_putInShowsOfPad_52 : decode cX4_putInShowsOfPad 52 = .ok (.iadd, 1) := by decide +kernel
theorem dX4_putInShowsOfPad_53 : decode cX4_putInShowsOfPad 53 = .ok (.iload_n 3, 1) := by decide +kernel
theorem dX4_putInShowsOfPad_54 : decode cX4_putInShowsOfPad 54 = .ok (.invokevirtual 208, 3) := by decide +kernel
theorem dX4_putInShowsOfPad_57 : decode cX4_putInShowsOfPad 57 = .ok (.istore 6, 2) := by decide +kernel
theorem dX4_putInShowsOfPad_59 : decode cX4_putInShowsOfPad 59 = .ok (.aload_n 0, 1) := by decide +kernel
theorem dX4_putInShowsOfPad_60 : decode cX4_putInShowsOfPad 60 = .ok (.iload 4, 2) := by decide +kernel
theorem dX4_putInShowsOfPad_62 : decode cX4_putInShowsOfPad 62 = .ok (.iload 6, 2) := by decide +kernel
theorem dX4_putInShowsOfPad_64 : decode cX4_putInShowsOfPad 64 = .ok (.iload 5, 2) := by decide +kernel
theorem dX4_putInShowsOfPad_66 : decode cX4_putInShowsOfPad 66 = .ok (.invokevirtual 77, 3) := by decide +kernel
theorem dX4_putInShowsOfPad_69 : decode cX4_putInShowsOfPad 69 = .ok (.ifCond .eq 6, 3) := by decide +kernel
theorem dX4_putInShowsOfPad_72 : decode cX4_putInShowsOfPad 72 = .ok (.goto 30, 3) := by decide +kernel
theorem dX4_putInShowsOfPad_75 : decode cX4_putInShowsOfPad 75 = .ok (.aload_n 0, 1) := by decide +kernel
theorem dX4_putInShowsOfPad_76 : decode cX4_putInShowsOfPad 76 = .ok (.getfield 12, 3) := by decide +kernel
theorem dX4_putInShowsOfPad_79 : decode cX4_putInShowsOfPad 79 = .ok (.iload 6, 2) := by decide +kernel
theorem dX4_putInShowsOfPad_81 : decode cX4_putInShowsOfPad 81 = .ok (.iload 5, 2) := by decide +kernel
theorem dX4_putInShowsOfPad_83 : decode cX4_putInShowsOfPad 83 = .ok (.invokestatic 81, 3) := by decide +kernel
theorem dX4_putInShowsOfPad_86 : decode cX4_putInShowsOfPad 86 = .ok (.iload 4, 2) := by decide +kernel
theorem dX4_putInShowsOfPad_88 : decode cX4_putInShowsOfPad 88 = .ok (.invokevirtual 84, 3) := by decide +kernel
theorem dX4_putInShowsOfPad_91 : decode cX4_putInShowsOfPad 91 = .ok (.pop, 1) := by decide +kernel
theorem dX4_putInShowsOfPad_92 : decode cX4_putInShowsOfPad 92 = .ok (.iinc 1 1, 3) := by decide +kernel
theorem dX4_putInShowsOfPad_95 : decode cX4_putInShowsOfPad 95 = .ok (.iload_n 3, 1) := by decide +kernel
theorem dX4_putInShowsOfPad_96 : decode cX4_putInShowsOfPad 96 = .ok (.iconst 1, 1) := by decide +kernel
theorem dX4_putInShowsOfPad_97 : decode cX4_putInShowsOfPad 97 = .ok (.iadd, 1) := by decide +kernel
theorem dX4_putInShowsOfPad_98 : decode cX4_putInShowsOfPad 98 = .ok (.istore_n 2, 1) := by decide +kernel
theorem dX4_putInShowsOfPad_99 : decode cX4_putInShowsOfPad 99 = .ok (.goto (-95), 3) := by decide +kernel
theorem dX4_putInShowsOfPad_102 : decode cX4_putInShowsOfPad 102 = .ok (.iload_n 1, 1) := by decide +kernel
theorem dX4_putInShowsOfPad_103 : decode cX4_putInShowsOfPad 103 = .ok (.ireturn, 1) := by decide +kernel
set_option maxRecDepth 20000 in
theorem ggX4_sumOfFilm_X0_follow : GoodIn wsX4_sumOfFilm wsX0_follow := goodIn_r _ [7, 8, 9, 10, 11, 12, 13, 14, 15, 16, 17, 18, 19, 6, 20, 21, 22, 23, 24, 25, 26, 27, 28, 29, 30, 31, 32, 33, 34, 35, 36, 37, 38, 39, 40, 41, 42, 43, 44, 45, 46, 47, 48, 49, 50, 51, 52, 53, 54, 55, 56, 67, 68, 69, 70, 71, 72, 73] (by decide +kernel) (by decide +kernel)
set_option maxRecDepth 20000 in
theorem gX4_sumOfFilm_X0_follow : GoodIn wsX4_sumOfFilm (wsV RX4 121 RX0 yX0_follow wsX0_follow) := goodIn_app (goodIn_of _ (by decide +kernel)) ggX4_sumOfFilm_X0_follow
set_option maxRecDepth 20000 in
theorem ggX4_sumOfFilm_X0_sum : GoodIn wsX4_sumOfFilm wsX0_sum := goodIn_r _ [60, 39, 40, 41, 6, 42, 23, 67, 68, 69, 70, 71, 72] (by decide +kernel) (by decide +kernel)
set_option maxRecDepth 20000 in
theorem gX4_sumOfFilm_X0_sum : GoodIn wsX4_sumOfFilm (wsV RX4 143 RX0 yX0_sum wsX0_sum) := goodIn_app (goodIn_of _ (by decide +kernel)) ggX4_sumOfFilm_X0_sum
theorem dX4_sumOfFilm_0 : decode cX4_sumOfFilm 0 = .ok (.aload_n 0, 1) := by decide +kernel
theorem dX4_sumOfFilm_1 : decode cX4_sumOfFilm 1 = .ok (.getfield 19, 3) := by decide +kernel
theorem dX4_sumOfFilm_4 : decode cX4_sumOfFilm 4 = .ok (.aload_n 0, 1) := by decide +kernel
theorem dX4_sumOfFilm_5 : decode cX4_sumOfFilm 5 = .ok (.getfield 12, 3) := by decide +kernel
theorem dX4_sumOfFilm_8 : decode cX4_sumOfFilm 8 = .ok (.iload_n 1, 1) := by decide +kernel
theorem dX4_sumOfFilm_9 : decode cX4_sumOfFilm 9 = .ok (.invokevirtual 121, 3) := by decide +kernel
theorem dX4_sumOfFilm_12 : decode cX4_sumOfFilm 12 = .ok (.aload_n 0, 1) := by decide +kernel
theorem dX4_sumOfFilm_13 : decode cX4_sumOfFilm 13 = .ok (.getfield 19, 3) := by decide +kernel
theorem dX4_sumOfFilm_16 : decode cX4_sumOfFilm 16 = .ok (.iload_n 2, 1) := by decide +kernel
theorem dX4_sumOfFilm_17 : decode cX4_sumOfFilm 17 = .ok (.invokevirtual 143, 3) := by decide +kernel
theorem dX4_sumOfFilm_20 : decode cX4_sumOfFilm 20 = .ok (.ireturn, 1) := by decide +kernel
set_option maxRecDepth 20000 in
theorem ggX4_sumOfFilms_X1_films : GoodIn wsX4_sumOfFilms wsX1_films := goodIn_r _ [6, 7, 76] (by decide +kernel) (by decide +kernel)
set_option maxRecDepth 20000 in
theorem gX4_sumOfFilms_X1_films : GoodIn wsX4_sumOfFilms (wsV RX4 69 RX1 yX1_films wsX1_films) := goodIn_app (goodIn_of _ (by decide +kernel)) ggX4_sumOfFilms_X1_films
set_option maxRecDepth 20000 in
theorem ggX4_sumOfFilms_X4_sumOfFilm : GoodIn wsX4_sumOfFilms wsX4_sumOfFilm := goodIn_r _ [12, 13, 1, 14, 15, 16, 17, 18, 19, 20, 21, 22, 23, 24, 5, 25, 7, 26, 27, 28, 29, 30, 31, 32, 33, 34, 35, 36, 37, 38, 39, 40, 41, 42, 43, 44, 45, 46, 47, 48, 49, 50, 51, 52, 53, 54, 55, 56, 57, 58, 59, 60, 61, 62, 63, 64, 65, 66, 67, 68, 69, 70, 71, 72, 73, 74, 75, 77, 78, 79, 80, 81, 82, 76] (by decide +kernel) (by decide +kernel)
set_option maxRecDepth 20000 in
theorem gX4_sumOfFilms_X4_sumOfFilm : GoodIn wsX4_sumOfFilms (wsV RX4 164 RX4 yX4_sumOfFilm wsX4_sumOfFilm) := goodIn_app (goodIn_of _ (by decide +kernel)) ggX4_sumOfFilms_X4_sumOfFilm
theorem dX4_sumOfFilms_0 : decode cX4_sumOfFilms 0 = .ok (.iconst 0, 1) := by decide +kernel
theorem dX4_sumOfFilms_1 : decode cX4_sumOfFilms 1 = .ok (.istore_n 2, 1) := by decide +kernel
theorem dX4_sumOfFilms_2 : decode cX4_sumOfFilms 2 = .ok (.iconst 0, 1) := by decide +kernel
theorem dX4_sumOfFilms_3 : decode cX4_sumOfFilms 3 = .ok (.istore_n 3, 1) := by decide +kernel
theorem dX4_sumOfFilms_4 : decode cX4_sumOfFilms 4 = .ok (.iload_n 3, 1) := by decide +kernel
theorem dX4_sumOfFilms_5 : decode cX4_sumOfFilms 5 = .ok (.aload_n 0, 1) := by decide +kernel
theorem dX4_sumOfFilms_6 : decode cX4_sumOfFilms 6 = .ok (.getfield 12, 3) := by decide +kernel
theorem dX4_sumOfFilms_9 : decode cX4_sumOfFilms 9 = .ok (.invokevirtual 69, 3) := by decide +kernel
theorem dX4_sumOfFilms_12 : decode cX4_sumOfFilms 12 = .ok (.if_icmp .ge 18, 3) := by decide +kernel
theorem dX4_sumOfFilms_15 : decode cX4_sumOfFilms 15 = .ok (.iload_n 2, 1) := by decide +kernel
theorem dX4_sumOfFilms_16 : decode cX4_sumOfFilms 16 = .ok (.aload_n 0, 1) := by decide +kernel
theorem dX4_sumOfFilms_17 : decode cX4_sumOfFilms 17 = .ok (.iload_n 3, 1) := by decide +kernel
theorem dX4_sumOfFilms_18 : decode cX4_sumOfFilms 18 = .ok (.iload_n 1, 1) := by decide +kernel
theorem dX4_sumOfFilms_19 : decode cX4_sumOfFilms 19 = .ok (.invokevirtual 164, 3) := by decide +kernel
theorem dX4_sumOfFilms_22 : decode cX4_sumOfFilms 22 = .ok (.iadd, 1) := by decide +kernel
theorem dX4_sumOfFilms_23 : decode cX4_sumOfFilms 23 = .ok (.istore_n 2, 1) := by decide +kernel
theorem dX4_sumOfFilms_24 : decode cX4_sumOfFilms 24 = .ok (.iinc 3 1, 3) := by decide +kernel
theorem dX4_sumOfFilms_27 : decode cX4_sumOfFilms 27 = .ok (.goto (-23), 3) := by decide +kernel
theorem dX4_sumOfFilms_30 : decode cX4_sumOfFilms 30 = .ok (.iload_n 2, 1) := by decide +kernel
theorem dX4_sumOfFilms_31 : decode cX4_sumOfFilms 31 = .ok (.ireturn, 1) := by decide +kernel
set_option maxRecDepth 20000 in
theorem ggX4_sumOfFilmsInWeek_X1_films : GoodIn wsX4_sumOfFilmsInWeek wsX1_films := goodIn_r _ [7, 8, 68] (by decide +kernel) (by decide +kernel)
set_option maxRecDepth 20000 in
theorem gX4_sumOfFilmsInWeek_X1_films : GoodIn wsX4_sumOfFilmsInWeek (wsV RX4 69 RX1 yX1_films wsX1_films) := goodIn_app (goodIn_of _ (by decide +kernel)) ggX4_sumOfFilmsInWeek_X1_films
set_option maxRecDepth 20000 in
theorem ggX4_sumOfFilmsInWeek_X0_follow : GoodIn wsX4_sumOfFilmsInWeek wsX0_follow := goodIn_r _ [13, 14, 15, 16, 17, 18, 19, 6, 20, 8, 21, 22, 23, 12, 24, 25, 26, 27, 28, 29, 30, 31, 32, 33, 34, 35, 36, 37, 38, 39, 40, 41, 42, 43, 44, 45, 46, 47, 48, 49, 50, 51, 52, 53, 54, 55, 56, 57, 58, 59, 60, 69, 70, 71, 72, 73, 74, 68] (by decide +kernel) (by decide +kernel)
set_option maxRecDepth 20000 in
theorem gX4_sumOfFilmsInWeek_X0_follow : GoodIn wsX4_sumOfFilmsInWeek (wsV RX4 121 RX0 yX0_follow wsX0_follow) := goodIn_app (goodIn_of _ (by decide +kernel)) ggX4_sumOfFilmsInWeek_X0_follow
set_option maxRecDepth 20000 in
theorem ggX4_sumOfFilmsInWeek_X0_sumOfWeek : GoodIn wsX4_sumOfFilmsInWeek wsX0_sumOfWeek := goodIn_r _ [46, 27, 69, 70, 71, 72, 73, 74] (by decide +kernel) (by decide +kernel)
set_option maxRecDepth 20000 in
theorem gX4_sumOfFilmsInWeek_X0_sumOfWeek : GoodIn wsX4_sumOfFilmsInWeek (wsV RX4 149 RX0 yX0_sumOfWeek wsX0_sumOfWeek) := goodIn_app (goodIn_of _ (by decide +kernel)) ggX4_sumOfFilmsInWeek_X0_sumOfWeek
theorem dX4_sumOfFilmsInWeek_0 : decode cX4_sumOfFilmsInWeek 0 = .ok (.iconst 0, 1) := by decide +kernel
theorem dX4_sumOfFilmsInWeek_1 : decode cX4_sumOfFilmsInWeek 1 = .ok (.istore_n 3, 1) := by decide +kernel
theorem dX4_sumOfFilmsInWeek_2 : decode cX4_sumOfFilmsInWeek 2 = .ok (.iconst 0, 1) := by decide +kernel
theorem dX4_sumOfFilmsInWeek_3 : decode cX4_sumOfFilmsInWeek 3 = .ok (.istore 4, 2) := by decide +kernel
theorem dX4_sumOfFilmsInWeek_5 : decode cX4_sumOfFilmsInWeek 5 = .ok (.iload 4, 2) := by decide +kernel
theorem dX4_sumOfFilmsInWeek_7 : decode cX4_sumOfFilmsInWeek 7 = .ok (.aload_n 0, 1) := by decide +kernel
theorem dX4_sumOfFilmsInWeek_8 : decode cX4_sumOfFilmsInWeek 8 = .ok (.getfield 12, 3) := by decide +kernel
theorem dX4_sumOfFilmsInWeek_11 : decode cX4_sumOfFilmsInWeek 11 = .ok (.invokevirtual 69, 3) := by decide +kernel
theorem dX4_sumOfFilmsInWeek_14 : decode cX4_sumOfFilmsInWeek 14 = .ok (.if_icmp .ge 34, 3) := by decide +kernel
theorem dX4_sumOfFilmsInWeek_17 : decode cX4_sumOfFilmsInWeek 17 = .ok (.aload_n 0, 1) := by decide +kernel
theorem dX4_sumOfFilmsInWeek_18 : decode cX4_sumOfFilmsInWeek 18 = .ok (.getfield 19, 3) := by decide +kernel
theorem dX4_sumOfFilmsInWeek_21 : decode cX4_sumOfFilmsInWeek 21 = .ok (.aload_n 0, 1) := by decide +kernel
theorem dX4_sumOfFilmsInWeek_22 : decode cX4_sumOfFilmsInWeek 22 = .ok (.getfield 12, 3) := by decide +kernel
theorem dX4_sumOfFilmsInWeek_25 : decode cX4_sumOfFilmsInWeek 25 = .ok (.iload 4, 2) := by decide +kernel
theorem dX4_sumOfFilmsInWeek_27 : decode cX4_sumOfFilmsInWeek 27 = .ok (.invokevirtual 121, 3) := by decide +kernel
theorem dX4_sumOfFilmsInWeek_30 : decode cX4_sumOfFilmsInWeek 30 = .ok (.iload_n 3, 1) := by decide +kernel
theorem dX4_sumOfFilmsInWeek_31 : decode cX4_sumOfFilmsInWeek 31 = .ok (.aload_n 0, 1) := by decide +kernel
theorem dX4_sumOfFilmsInWeek_32 : decode cX4_sumOfFilmsInWeek 32 = .ok (.getfield 19, 3) := by decide +kernel
theorem dX4_sumOfFilmsInWeek_35 : decode cX4_sumOfFilmsInWeek 35 = .ok (.iload_n 1, 1) := by decide +kernel
theorem dX4_sumOfFilmsInWeek_36 : decode cX4_sumOfFilmsInWeek 36 = .ok (.iload_n 2, 1) := by decide +kernel
theorem dX4_sumOfFilmsInWeek_37 : decode cX4_sumOfFilmsInWeek 37 = .ok (.invokevirtual 149, 3) := by decide +kernel
theorem dX4_sumOfFilmsInWeek_40 : decode cX4_sumOfFilmsInWeek 40 = .ok (.iadd, 1) := by decide +kernel
theorem dX4_sumOfFilmsInWeek_41 : decode cX4_sumOfFilmsInWeek 41 = .ok (.istore_n 3, 1) := by decide +kernel
theorem dX4_sumOfFilmsInWeek_42 : decode cX4_sumOfFilmsInWeek 42 = .ok (.iinc 4 1, 3) := by decide +kernel
theorem dX4_sumOfFilmsInWeek_45 : decode cX4_sumOfFilmsInWeek 45 = .ok (.goto (-40), 3) := by decide +kernel
theorem dX4_sumOfFilmsInWeek_48 : decode cX4_sumOfFilmsInWeek 48 = .ok (.iload_n 3, 1) := by decide +kernel
theorem dX4_sumOfFilmsInWeek_49 : decode cX4_sumOfFilmsInWeek 49 = .ok (.ireturn, 1) := by decide +kernel
set_option maxRecDepth 20000 in
theorem ggX4_fullShows_X1_films : GoodIn wsX4_fullShows wsX1_films := goodIn_r _ [7, 8, 71] (by decide +kernel) (by decide +kernel)
set_option maxRecDepth 20000 in
theorem gX4_fullShows_X1_films : GoodIn wsX4_fullShows (wsV RX4 69 RX1 yX1_films wsX1_films) := goodIn_app (goodIn_of _ (by decide +kernel)) ggX4_fullShows_X1_films
set_option maxRecDepth 20000 in
theorem ggX4_fullShows_X0_follow : GoodIn wsX4_fullShows wsX0_follow := goodIn_r _ [13, 14, 15, 16, 17, 18, 19, 6, 20, 8, 21, 22, 23, 12, 24, 25, 26, 27, 28, 29, 30, 31, 32, 33, 34, 35, 36, 37, 38, 39, 40, 41, 42, 43, 44, 45, 46, 47, 48, 49, 50, 51, 52, 53, 54, 55, 56, 57, 58, 59, 60, 72, 73, 74, 75, 76, 77, 71] (by decide +kernel) (by decide +kernel)
set_option maxRecDepth 20000 in
theorem gX4_fullShows_X0_follow : GoodIn wsX4_fullShows (wsV RX4 121 RX0 yX0_follow wsX0_follow) := goodIn_app (goodIn_of _ (by decide +kernel)) ggX4_fullShows_X0_follow
set_option maxRecDepth 20000 in
theorem ggX4_fullShows_X0_fullShows : GoodIn wsX4_fullShows wsX0_fullShows := goodIn_r _ [64, 14, 72, 73, 74, 75, 76, 77] (by decide +kernel) (by decide +kernel)
set_option maxRecDepth 20000 in
theorem gX4_fullShows_X0_fullShows : GoodIn wsX4_fullShows (wsV RX4 211 RX0 yX0_fullShows wsX0_fullShows) := goodIn_app (goodIn_of _ (by decide +kernel)) ggX4_fullShows_X0_fullShows
theorem dX4_fullShows_0 : decode cX4_fullShows 0 = .ok (.iconst 0, 1) := by decide +kernel
theorem dX4_fullShows_1 : decode cX4_fullShows 1 = .ok (.istore_n 1, 1) := by decide +kernel
theorem dX4_fullShows_2 : decode cX4_fullShows 2 = .ok (.iconst 0, 1) := by decide +kernel
theorem dX4_fullShows_3 : decode cX4_fullShows 3 = .ok (.istore_n 2, 1) := by decide +kernel
theorem dX4_fullShows_4 : decode cX4_fullShows 4 = .ok (.iload_n 2, 1) := by decide +kernel
theorem dX4_fullShows_5 : decode cX4_fullShows 5 = .ok (.aload_n 0, 1) := by decide +kernel
theorem dX4_fullShows_6 : decode cX4_fullShows 6 = .ok (.getfield 12, 3) := by decide +kernel
theorem dX4_fullShows_9 : decode cX4_fullShows 9 = .ok (.invokevirtual 69, 3) := by decide +kernel
theorem dX4_fullShows_12 : decode cX4_fullShows 12 = .ok (.if_icmp .ge 31, 3) := by decide +kernel
theorem dX4_fullShows_15 : decode cX4_fullShows 15 = .ok (.aload_n 0, 1) := by decide +kernel
theorem dX4_fullShows_16 : decode cX4_fullShows 16 = .ok (.getfield 19, 3) := by decide +kernel
theorem dX4_fullShows_19 : decode cX4_fullShows 19 = .ok (.aload_n 0, 1) := by decide +kernel
theorem dX4_fullShows_20 : decode cX4_fullShows 20 = .ok (.getfield 12, 3) := by decide +kernel
theorem dX4_fullShows_23 : decode cX4_fullShows 23 = .ok (.iload_n 2, 1) := by decide +kernel
theorem dX4_fullShows_24 : decode cX4_fullShows 24 = .ok (.invokevirtual 121, 3) := by decide +kernel
theorem dX4_fullShows_27 : decode cX4_fullShows 27 = .ok (.iload_n 1, 1) := by decide +kernel
theorem dX4_fullShows_28 : decode cX4_fullShows 28 = .ok (.aload_n 0, 1) := by decide +kernel
theorem dX4_fullShows_29 : decode cX4_fullShows 29 = .ok (.getfield 19, 3) := by decide +kernel
theorem dX4_fullShows_32 : decode cX4_fullShows 32 = .ok (.invokevirtual 211, 3) := by decide +kernel
theorem dX4_fullShows_35 : decode cX4_fullShows 35 = .ok (.iadd, 1) := by decide +kernel
theorem dX4_fullShows_36 : decode cX4_fullShows 36 = .ok (.istore_n 1, 1) := by decide +kernel
theorem dX4_fullShows_37 : decode cX4_fullShows 37 = .ok (.iinc 2 1, 3) := by decide +kernel
theorem dX4_fullShows_40 : decode cX4_fullShows 40 = .ok (.goto (-36), 3) := by decide +kernel
theorem dX4_fullShows_43 : decode cX4_fullShows 43 = .ok (.iload_n 1, 1) := by decide +kernel
theorem dX4_fullShows_44 : decode cX4_fullShows 44 = .ok (.ireturn, 1) := by decide +kernel
set_option maxRecDepth 20000 in
theorem ggX4_leftOfFilm_X1_hasFilm : GoodIn wsX4_leftOfFilm wsX1_hasFilm := goodIn_r _ [7, 8, 9, 10, 6, 11, 12, 75] (by decide +kernel) (by decide +kernel)
set_option maxRecDepth 20000 in
theorem gX4_leftOfFilm_X1_hasFilm : GoodIn wsX4_leftOfFilm (wsV RX4 118 RX1 yX1_hasFilm wsX1_hasFilm) := goodIn_app (goodIn_of _ (by decide +kernel)) ggX4_leftOfFilm_X1_hasFilm
set_option maxRecDepth 20000 in
theorem ggX4_leftOfFilm_X0_follow : GoodIn wsX4_leftOfFilm wsX0_follow := goodIn_r _ [17, 18, 19, 20, 21, 22, 23, 6, 24, 12, 25, 26, 27, 16, 28, 29, 30, 31, 32, 33, 34, 35, 36, 37, 38, 39, 40, 41, 42, 43, 44, 45, 46, 47, 48, 49, 50, 51, 52, 53, 54, 55, 56, 57, 58, 59, 60, 61, 62, 63, 64, 76, 77, 78, 79, 80, 81, 75] (by decide +kernel) (by decide +kernel)
set_option maxRecDepth 20000 in
theorem gX4_leftOfFilm_X0_follow : GoodIn wsX4_leftOfFilm (wsV RX4 121 RX0 yX0_follow wsX0_follow) := goodIn_app (goodIn_of _ (by decide +kernel)) ggX4_leftOfFilm_X0_follow
set_option maxRecDepth 20000 in
theorem ggX4_leftOfFilm_X0_sum : GoodIn wsX4_leftOfFilm wsX0_sum := goodIn_r _ [68, 47, 48, 49, 16, 50, 31, 76, 77, 78, 79, 80, 81] (by decide +kernel) (by decide +kernel)
set_option maxRecDepth 20000 in
theorem gX4_leftOfFilm_X0_sum : GoodIn wsX4_leftOfFilm (wsV RX4 143 RX0 yX0_sum wsX0_sum) := goodIn_app (goodIn_of _ (by decide +kernel)) ggX4_leftOfFilm_X0_sum
theorem dX4_leftOfFilm_0 : decode cX4_leftOfFilm 0 = .ok (.aload_n 0, 1) := by decide +kernel
theorem dX4_leftOfFilm_1 : decode cX4_leftOfFilm 1 = .ok (.getfield 12, 3) := by decide +kernel
theorem dX4_leftOfFilm_4 : decode cX4_leftOfFilm 4 = .ok (.iload_n 1, 1) := by decide +kernel
theorem dX4_leftOfFilm_5 : decode cX4_leftOfFilm 5 = .ok (.invokevirtual 118, 3) := by decide +kernel
theorem dX4_leftOfFilm_8 : decode cX4_leftOfFilm 8 = .ok (.ifCond .ne 5, 3) := by decide +kernel
theorem dX4_leftOfFilm_11 : decode cX4_leftOfFilm 11 = .ok (.iconst 0, 1) := by decide +kernel
theorem dX4_leftOfFilm_12 : decode cX4_leftOfFilm 12 = .ok (.ireturn, 1) := by decide +kernel
theorem dX4_leftOfFilm_13 : decode cX4_leftOfFilm 13 = .ok (.aload_n 0, 1) := by decide +kernel
theorem dX4_leftOfFilm_14 : decode cX4_leftOfFilm 14 = .ok (.getfield 19, 3) := by decide +kernel
theorem dX4_leftOfFilm_17 : decode cX4_leftOfFilm 17 = .ok (.aload_n 0, 1) := by decide +kernel
theorem dX4_leftOfFilm_18 : decode cX4_leftOfFilm 18 = .ok (.getfield 12, 3) := by decide +kernel
theorem dX4_leftOfFilm_21 : decode cX4_leftOfFilm 21 = .ok (.iload_n 1, 1) := by decide +kernel
theorem dX4_leftOfFilm_22 : decode cX4_leftOfFilm 22 = .ok (.invokevirtual 121, 3) := by decide +kernel
theorem dX4_leftOfFilm_25 : decode cX4_leftOfFilm 25 = .ok (.aload_n 0, 1) := by decide +kernel
theorem dX4_leftOfFilm_26 : decode cX4_leftOfFilm 26 = .ok (.getfield 19, 3) := by decide +kernel
theorem dX4_leftOfFilm_29 : decode cX4_leftOfFilm 29 = .ok (.iconst 4, 1) := by decide +kernel
theorem dX4_leftOfFilm_30 : decode cX4_leftOfFilm 30 = .ok (.invokevirtual 143, 3) := by decide +kernel
theorem dX4_leftOfFilm_33 : decode cX4_leftOfFilm 33 = .ok (.ireturn, 1) := by decide +kernel
set_option maxRecDepth 20000 in
theorem ggX4_gainWith_X1_showAt : GoodIn wsX4_gainWith wsX1_showAt := goodIn_r _ [6, 7, 85] (by decide +kernel) (by decide +kernel)
set_option maxRecDepth 20000 in
theorem gX4_gainWith_X1_showAt : GoodIn wsX4_gainWith (wsV RX4 91 RX1 yX1_showAt wsX1_showAt) := goodIn_app (goodIn_of _ (by decide +kernel)) ggX4_gainWith_X1_showAt
set_option maxRecDepth 20000 in
theorem ggX4_gainWith_X4_leftOfFilm : GoodIn wsX4_gainWith wsX4_leftOfFilm := goodIn_r _ [12, 1, 13, 14, 15, 16, 5, 17, 18, 19, 20, 21, 7, 22, 23, 24, 25, 26, 27, 28, 29, 30, 31, 32, 33, 34, 35, 36, 37, 38, 39, 40, 41, 3, 4, 6, 42, 43, 44, 45, 46, 47, 48, 49, 50, 51, 52, 53, 54, 55, 56, 57, 58, 59, 60, 61, 62, 63, 64, 65, 66, 67, 68, 69, 70, 71, 72, 73, 74, 79, 80, 81, 82, 83, 84, 85, 86, 87, 88, 89, 90, 91] (by decide +kernel) (by decide +kernel)
set_option maxRecDepth 20000 in
theorem gX4_gainWith_X4_leftOfFilm : GoodIn wsX4_gainWith (wsV RX4 212 RX4 yX4_leftOfFilm wsX4_leftOfFilm) := goodIn_app (goodIn_of _ (by decide +kernel)) ggX4_gainWith_X4_leftOfFilm
set_option maxRecDepth 20000 in
theorem ggX4_gainWith_X1_replaceShow : GoodIn wsX4_gainWith wsX1_replaceShow := goodIn_r _ [78, 7, 85] (by decide +kernel) (by decide +kernel)
set_option maxRecDepth 20000 in
theorem gX4_gainWith_X1_replaceShow : GoodIn wsX4_gainWith (wsV RX4 84 RX1 yX1_replaceShow wsX1_replaceShow) := goodIn_app (goodIn_of _ (by decide +kernel)) ggX4_gainWith_X1_replaceShow
theorem dX4_gainWith_0 : decode cX4_gainWith 0 = .ok (.aload_n 0, 1) := by decide +kernel
theorem dX4_gainWith_1 : decode cX4_gainWith 1 = .ok (.getfield 12, 3) := by decide +kernel
theorem dX4_gainWith_4 : decode cX4_gainWith 4 = .ok (.iload_n 1, 1) := by decide +kernel
theorem dX4_gainWith_5 : decode cX4_gainWith 5 = .ok (.invokevirtual 91, 3) := by decide +kernel
theorem dX4_gainWith_8 : decode cX4_gainWith 8 = .ok (.istore_n 3, 1) := by decide +kernel
theorem dX4_gainWith_9 : decode cX4_gainWith 9 = .ok (.aload_n 0, 1) := by decide +kernel
theorem dX4_gainWith_10 : decode cX4_gainWith 10 = .ok (.iload_n 3, 1) := by decide +kernel
theorem dX4_gainWith_11 : decode cX4_gainWith 11 = .ok (.invokevirtual 212, 3) := by decide +kernel
theorem dX4_gainWith_14 : decode cX4_gainWith 14 = .ok (.aload_n 0, 1) := by decide +kernel
theorem dX4_gainWith_15 : decode cX4_gainWith 15 = .ok (.iload_n 2, 1) := by decide +kernel
theorem dX4_gainWith_16 : decode cX4_gainWith 16 = .ok (.invokevirtual 212, 3) := by decide +kernel
theorem dX4_gainWith_19 : decode cX4_gainWith 19 = .ok (.iadd, 1) := by decide +kernel
theorem dX4_gainWith_20 : decode cX4_gainWith 20 = .ok (.istore 4, 2) := by decide +kernel
theorem dX4_gainWith_22 : decode cX4_gainWith 22 = .ok (.aload_n 0, 1) := by decide +kernel
theorem dX4_gainWith_23 : decode cX4_gainWith 23 = .ok (.getfield 12, 3) := by decide +kernel
theorem dX4_gainWith_26 : decode cX4_gainWith 26 = .ok (.iload_n 1, 1) := by decide +kernel
theorem dX4_gainWith_27 : decode cX4_gainWith 27 = .ok (.iload_n 2, 1) := by decide +kernel
theorem dX4_gainWith_28 : decode cX4_gainWith 28 = .ok (.invokevirtual 84, 3) := by decide +kernel
theorem dX4_gainWith_31 : decode cX4_gainWith 31 = .ok (.pop, 1) := by decide +kernel
theorem dX4_gainWith_32 : decode cX4_gainWith 32 = .ok (.aload_n 0, 1) := by decide +kernel
theorem dX4_gainWith_33 : decode cX4_gainWith 33 = .ok (.iload_n 3, 1) := by decide +kernel
theorem dX4_gainWith_34 : decode cX4_gainWith 34 = .ok (.invokevirtual 212, 3) := by decide +kernel
theorem dX4_gainWith_37 : decode cX4_gainWith 37 = .ok (.aload_n 0, 1) := by decide +kernel
theorem dX4_gainWith_38 : decode cX4_gainWith 38 = .ok (.iload_n 2, 1) := by decide +kernel
theorem dX4_gainWith_39 : decode cX4_gainWith 39 = .ok (.invokevirtual 212, 3) := by decide +kernel
theorem dX4_gainWith_42 : decode cX4_gainWith 42 = .ok (.iadd, 1) := by decide +kernel
theorem dX4_gainWith_43 : decode cX4_gainWith 43 = .ok (.istore 5, 2) := by decide +kernel
theorem dX4_gainWith_45 : decode cX4_gainWith 45 = .ok (.aload_n 0, 1) := by decide +kernel
theorem dX4_gainWith_46 : decode cX4_gainWith 46 = .ok (.getfield 12, 3) := by decide +kernel
theorem dX4_gainWith_49 : decode cX4_gainWith 49 = .ok (.iload_n 1, 1) := by decide +kernel
theorem dX4_gainWith_50 : decode cX4_gainWith 50 = .ok (.iload_n 3, 1) := by decide +kernel
theorem dX4_gainWith_51 : decode cX4_gainWith 51 = .ok (.invokevirtual 84, 3) := by decide +kernel
theorem dX4_gainWith_54 : decode cX4_gainWith 54 = .ok (.pop, 1) := by decide +kernel
theorem dX4_gainWith_55 : decode cX4_gainWith 55 = .ok (.iload 5, 2) := by decide +kernel
theorem dX4_gainWith_57 : decode cX4_gainWith 57 = .ok (.iload 4, 2) := by decide +kernel
theorem dX4_gainWith_59 : decode cX4_gainWith 59 = .ok (.isub, 1) := by decide +kernel
theorem dX4_gainWith_60 : decode cX4_gainWith 60 = .ok (.ireturn, 1) := by decide +kernel
end
section
theorem dX5_init_0 : decode cX5_init 0 = .ok (.aload_n 0, 1) := by decide +kernel
theorem dX5_init_1 : decode cX5_init 1 = .ok (.invokespecial 1, 3) := by decide +kernel
theorem dX5_init_4 : decode cX5_init 4 = .ok (.aload_n 0, 1) := by decide +kernel
theorem dX5_init_5 : decode cX5_init 5 = .ok (.sipush 151, 3) := by decide +kernel
theorem dX5_init_8 : decode cX5_init 8 = .ok (.newarray .int, 2) := by decide +kernel
theorem dX5_init_10 : decode cX5_init 10 = .ok (.putfield 7, 3) := by decide +kernel
theorem dX5_init_13 : decode cX5_init 13 = .ok (.aload_n 0, 1) := by decide +kernel
theorem dX5_init_14 : decode cX5_init 14 = .ok (.sipush 906, 3) := by decide +kernel
theorem dX5_init_17 : decode cX5_init 17 = .ok (.newarray .int, 2) := by decide +kernel
theorem dX5_init_19 : decode cX5_init 19 = .ok (.putfield 13, 3) := by decide +kernel
theorem dX5_init_22 : decode cX5_init 22 = .ok (.aload_n 0, 1) := by decide +kernel
theorem dX5_init_23 : decode cX5_init 23 = .ok (.sipush 302, 3) := by decide +kernel
theorem dX5_init_26 : decode cX5_init 26 = .ok (.newarray .int, 2) := by decide +kernel
theorem dX5_init_28 : decode cX5_init 28 = .ok (.putfield 16, 3) := by decide +kernel
theorem dX5_init_31 : decode cX5_init 31 = .ok (.aload_n 0, 1) := by decide +kernel
theorem dX5_init_32 : decode cX5_init 32 = .ok (.iconst 2, 1) := by decide +kernel
theorem dX5_init_33 : decode cX5_init 33 = .ok (.newarray .int, 2) := by decide +kernel
theorem dX5_init_35 : decode cX5_init 35 = .ok (.putfield 19, 3) := by decide +kernel
theorem dX5_init_38 : decode cX5_init 38 = .ok (.aload_n 0, 1) := by decide +kernel
theorem dX5_init_39 : decode cX5_init 39 = .ok (.bipush 60, 2) := by decide +kernel
theorem dX5_init_41 : decode cX5_init 41 = .ok (.newarray .int, 2) := by decide +kernel
theorem dX5_init_43 : decode cX5_init 43 = .ok (.putfield 22, 3) := by decide +kernel
theorem dX5_init_46 : decode cX5_init 46 = .ok (.aload_n 0, 1) := by decide +kernel
theorem dX5_init_47 : decode cX5_init 47 = .ok (.bipush 70, 2) := by decide +kernel
theorem dX5_init_49 : decode cX5_init 49 = .ok (.newarray .int, 2) := by decide +kernel
theorem dX5_init_51 : decode cX5_init 51 = .ok (.putfield 25, 3) := by decide +kernel
theorem dX5_init_54 : decode cX5_init 54 = .ok (.aload_n 0, 1) := by decide +kernel
theorem dX5_init_55 : decode cX5_init 55 = .ok (.bipush 70, 2) := by decide +kernel
theorem dX5_init_57 : decode cX5_init 57 = .ok (.newarray .int, 2) := by decide +kernel
theorem dX5_init_59 : decode cX5_init 59 = .ok (.putfield 28, 3) := by decide +kernel
theorem dX5_init_62 : decode cX5_init 62 = .ok (.aload_n 0, 1) := by decide +kernel
theorem dX5_init_63 : decode cX5_init 63 = .ok (.bipush 8, 2) := by decide +kernel
theorem dX5_init_65 : decode cX5_init 65 = .ok (.newarray .int, 2) := by decide +kernel
theorem dX5_init_67 : decode cX5_init 67 = .ok (.putfield 31, 3) := by decide +kernel
theorem dX5_init_70 : decode cX5_init 70 = .ok (.aload_n 0, 1) := by decide +kernel
theorem dX5_init_71 : decode cX5_init 71 = .ok (.bipush 40, 2) := by decide +kernel
theorem dX5_init_73 : decode cX5_init 73 = .ok (.newarray .int, 2) := by decide +kernel
theorem dX5_init_75 : decode cX5_init 75 = .ok (.putfield 34, 3) := by decide +kernel
theorem dX5_init_78 : decode cX5_init 78 = .ok (.aload_n 0, 1) := by decide +kernel
theorem dX5_init_79 : decode cX5_init 79 = .ok (.bipush 40, 2) := by decide +kernel
theorem dX5_init_81 : decode cX5_init 81 = .ok (.newarray .int, 2) := by decide +kernel
theorem dX5_init_83 : decode cX5_init 83 = .ok (.putfield 37, 3) := by decide +kernel
theorem dX5_init_86 : decode cX5_init 86 = .ok (.aload_n 0, 1) := by decide +kernel
theorem dX5_init_87 : decode cX5_init 87 = .ok (.bipush 40, 2) := by decide +kernel
theorem dX5_init_89 : decode cX5_init 89 = .ok (.newarray .int, 2) := by decide +kernel
theorem dX5_init_91 : decode cX5_init 91 = .ok (.putfield 40, 3) := by decide +kernel
theorem dX5_init_94 : decode cX5_init 94 = .ok (.aload_n 0, 1) := by decide +kernel
theorem dX5_init_95 : decode cX5_init 95 = .ok (.bipush 40, 2) := by decide +kernel
theorem dX5_init_97 : decode cX5_init 97 = .ok (.newarray .int, 2) := by decide +kernel
theorem dX5_init_99 : decode cX5_init 99 = .ok (.putfield 43, 3) := by decide +kernel
theorem dX5_init_102 : decode cX5_init 102 = .ok (.aload_n 0, 1) := by decide +kernel
theorem dX5_init_103 : decode cX5_init 103 = .ok (.getfield 7, 3) := by decide +kernel
theorem dX5_init_106 : decode cX5_init 106 = .ok (.iconst 0, 1) := by decide +kernel
theorem dX5_init_107 : decode cX5_init 107 = .ok (.bipush 80, 2) := by decide +kernel
theorem dX5_init_109 : decode cX5_init 109 = .ok (.iastore, 1) := by decide +kernel
theorem dX5_init_110 : decode cX5_init 110 = .ok (.aload_n 0, 1) := by decide +kernel
theorem dX5_init_111 : decode cX5_init 111 = .ok (.getfield 7, 3) := by decide +kernel
theorem dX5_init_114 : decode cX5_init 114 = .ok (.iconst 1, 1) := by decide +kernel
theorem dX5_init_115 : decode cX5_init 115 = .ok (.bipush 6, 2) := by decide +kernel
theorem dX5_init_117 : decode cX5_init 117 = .ok (.iastore, 1) := by decide +kernel
theorem dX5_init_118 : decode cX5_init 118 = .ok (.aload_n 0, 1) := by decide +kernel
theorem dX5_init_119 : decode cX5_init 119 = .ok (.getfield 7, 3) := by decide +kernel
theorem dX5_init_122 : decode cX5_init 122 = .ok (.iconst 2, 1) := by decide +kernel
theorem dX5_init_123 : decode cX5_init 123 = .ok (.bipush 30, 2) := by decide +kernel
theorem dX5_init_125 : decode cX5_init 125 = .ok (.iastore, 1) := by decide +kernel
theorem dX5_init_126 : decode cX5_init 126 = .ok (.aload_n 0, 1) := by decide +kernel
theorem dX5_init_127 : decode cX5_init 127 = .ok (.getfield 7, 3) := by decide +kernel
theorem dX5_init_130 : decode cX5_init 130 = .ok (.iconst 3, 1) := by decide +kernel
theorem dX5_init_131 : decode cX5_init 131 = .ok (.bipush 40, 2) := by decide +kernel
theorem dX5_init_133 : decode cX5_init 133 = .ok (.iastore, 1) := by decide +kernel
theorem dX5_init_134 : decode cX5_init 134 = .ok (.aload_n 0, 1) := by decide +kernel
theorem dX5_init_135 : decode cX5_init 135 = .ok (.getfield 7, 3) := by decide +kernel
theorem dX5_init_138 : decode cX5_init 138 = .ok (.iconst 4, 1) := by decide +kernel
theorem dX5_init_139 : decode cX5_init 139 = .ok (.bipush 20, 2) := by decide +kernel
theorem dX5_init_141 : decode cX5_init 141 = .ok (.iastore, 1) := by decide +kernel
theorem dX5_init_142 : decode cX5_init 142 = .ok (.iconst 0, 1) := by decide +kernel
theorem dX5_init_143 : decode cX5_init 143 = .ok (.istore_n 1, 1) := by decide +kernel
theorem dX5_init_144 : decode cX5_init 144 = .ok (.iload_n 1, 1) := by decide +kernel
theorem dX5_init_145 : decode cX5_init 145 = .ok (.bipush 70, 2) := by decide +kernel
theorem dX5_init_147 : decode cX5_init 147 = .ok (.if_icmp .ge 20, 3) := by decide +kernel
theorem dX5_init_150 : decode cX5_init 150 = .ok (.aload_n 0, 1) := by decide +kernel
theorem dX5_init_151 : decode cX5_init 151 = .ok (.getfield 7, 3) := by decide +kernel
theorem dX5_init_154 : decode cX5_init 154 = .ok (.bipush 46, 2) := by decide +kernel
theorem dX5_init_156 : decode cX5_init 156 = .ok (.iload_n 1, 1) := by decide +kernel
theorem dX5_init_157 : decode cX5_init 157 = .ok (.iadd, 1) := by decide +kernel
theorem dX5_init_158 : decode cX5_init 158 = .ok (.bipush (-6), 2) := by decide +kernel
theorem dX5_init_160 : decode cX5_init 160 = .ok (.iastore, 1) := by decide +kernel
theorem dX5_init_161 : decode cX5_init 161 = .ok (.iinc 1 1, 3) := by decide +kernel
theorem dX5_init_164 : decode cX5_init 164 = .ok (.goto (-20), 3) := by decide +kernel
theorem dX5_init_167 : decode cX5_init 167 = .ok (.return_, 1) := by decide +kernel
theorem dX5_moves_0 : decode cX5_moves 0 = .ok (.iconst 0, 1) := by decide +kernel
theorem dX5_moves_1 : decode cX5_moves 1 = .ok (.istore 4, 2) := by decide +kernel
theorem dX5_moves_3 : decode cX5_moves 3 = .ok (.iload 4, 2) := by decide +kernel
theorem dX5_moves_5 : decode cX5_moves 5 = .ok (.sipush 151, 3) := by decide +kernel
theorem dX5_moves_8 : decode cX5_moves 8 = .ok (.if_icmp .ge 21, 3) := by decide +kernel
theorem dX5_moves_11 : decode cX5_moves 11 = .ok (.aload_n 2, 1) := by decide +kernel
theorem dX5_moves_12 : decode cX5_moves 12 = .ok (.iload_n 3, 1) := by decide +kernel
theorem dX5_moves_13 : decode cX5_moves 13 = .ok (.iload 4, 2) := by decide +kernel
theorem dX5_moves_15 : decode cX5_moves 15 = .ok (.iadd, 1) := by decide +kernel
theorem dX5_moves_16 : decode cX5_moves 16 = .ok (.aload_n 0, 1) := by decide +kernel
theorem dX5_moves_17 : decode cX5_moves 17 = .ok (.iload_n 1, 1) := by decide +kernel
theorem dX5_moves_18 : decode cX5_moves 18 = .ok (.iload 4, 2) := by decide +kernel
theorem dX5_moves_20 : decode cX5_moves 20 = .ok (.iadd, 1) := by decide +kernel
theorem dX5_moves_21 : decode cX5_moves 21 = .ok (.iaload, 1) := by decide +kernel
theorem dX5_moves_22 : decode cX5_moves 22 = .ok (.iastore, 1) := by decide +kernel
theorem dX5_moves_23 : decode cX5_moves 23 = .ok (.iinc 4 1, 3) := by decide +kernel
theorem dX5_moves_26 : decode cX5_moves 26 = .ok (.goto (-23), 3) := by decide +kernel
theorem dX5_moves_29 : decode cX5_moves 29 = .ok (.return_, 1) := by decide +kernel
theorem dX5_within_0 : decode cX5_within 0 = .ok (.iload_n 0, 1) := by decide +kernel
theorem dX5_within_1 : decode cX5_within 1 = .ok (.iload_n 1, 1) := by decide +kernel
theorem dX5_within_2 : decode cX5_within 2 = .ok (.if_icmp .lt 12, 3) := by decide +kernel
theorem dX5_within_5 : decode cX5_within 5 = .ok (.iload_n 0, 1) := by decide +kernel
theorem dX5_within_6 : decode cX5_within 6 = .ok (.iload_n 2, 1) := by decide +kernel
theorem dX5_within_7 : decode cX5_within 7 = .ok (.if_icmp .gt 7, 3) := by decide +kernel
theorem dX5_within_10 : decode cX5_within 10 = .ok (.iconst 1, 1) := by decide +kernel
theorem dX5_within_11 : decode cX5_within 11 = .ok (.goto 4, 3) := by decide +kernel
theorem dX5_within_14 : decode cX5_within 14 = .ok (.iconst 0, 1) := by decide +kernel
theorem dX5_within_15 : decode cX5_within 15 = .ok (.ireturn, 1) := by decide +kernel
set_option maxRecDepth 20000 in
theorem ggX5_record_X5_moves : GoodIn wsX5_record wsX5_moves := goodIn_r _ [7] (by decide +kernel) (by decide +kernel)
set_option maxRecDepth 20000 in
theorem gX5_record_X5_moves : GoodIn wsX5_record (va_wsS RX5 50 yX5_moves wsX5_moves) := goodIn_app (goodIn_of _ (by decide +kernel)) ggX5_record_X5_moves
theorem dX5_record_0 : decode cX5_record 0 = .ok (.aload_n 0, 1) := by decide +kernel
theorem dX5_record_1 : decode cX5_record 1 = .ok (.getfield 46, 3) := by decide +kernel
theorem dX5_record_4 : decode cX5_record 4 = .ok (.bipush 6, 2) := by decide +kernel
theorem dX5_record_6 : decode cX5_record 6 = .ok (.if_icmp .ne 44, 3) := by decide +kernel
theorem dX5_record_9 : decode cX5_record 9 = .ok (.iconst 0, 1) := by decide +kernel
theorem dX5_record_10 : decode cX5_record 10 = .ok (.istore_n 1, 1) := by decide +kernel
theorem dX5_record_11 : decode cX5_record 11 = .ok (.iload_n 1, 1) := by decide +kernel
theorem dX5_record_12 : decode cX5_record 12 = .ok (.sipush 755, 3) := by decide +kernel
theorem dX5_record_15 : decode cX5_record 15 = .ok (.if_icmp .ge 25, 3) := by decide +kernel
theorem dX5_record_18 : decode cX5_record 18 = .ok (.aload_n 0, 1) := by decide +kernel
theorem dX5_record_19 : decode cX5_record 19 = .ok (.getfield 13, 3) := by decide +kernel
theorem dX5_record_22 : decode cX5_record 22 = .ok (.iload_n 1, 1) := by decide +kernel
theorem dX5_record_23 : decode cX5_record 23 = .ok (.aload_n 0, 1) := by decide +kernel
theorem dX5_record_24 : decode cX5_record 24 = .ok (.getfield 13, 3) := by decide +kernel
theorem dX5_record_27 : decode cX5_record 27 = .ok (.iload_n 1, 1) := by decide +kernel
theorem dX5_record_28 : decode cX5_record 28 = .ok (.sipush 151, 3) := by decide +kernel
theorem dX5_record_31 : decode cX5_record 31 = .ok (.iadd, 1) := by decide +kernel
theorem dX5_record_32 : decode cX5_record 32 = .ok (.iaload, 1) := by decide +kernel
theorem dX5_record_33 : decode cX5_record 33 = .ok (.iastore, 1) := by decide +kernel
theorem dX5_record_34 : decode cX5_record 34 = .ok (.iinc 1 1, 3) := by decide +kernel
theorem dX5_record_37 : decode cX5_record 37 = .ok (.goto (-26), 3) := by decide +kernel
theorem dX5_record_40 : decode cX5_record 40 = .ok (.aload_n 0, 1) := by decide +kernel
theorem dX5_record_41 : decode cX5_record 41 = .ok (.dup, 1) := by decide +kernel
theorem dX5_record_42 : decode cX5_record 42 = .ok (.getfield 46, 3) := by decide +kernel
theorem dX5_record_45 : decode cX5_record 45 = .ok (.iconst 1, 1) := by decide +kernel
theorem dX5_record_46 : decode cX5_record 46 = .ok (.isub, 1) := by decide +kernel
theorem dX5_record_47 : decode cX5_record 47 = .ok (.putfield 46, 3) := by decide +kernel
theorem dX5_record_50 : decode cX5_record 50 = .ok (.aload_n 0, 1) := by decide +kernel
theorem dX5_record_51 : decode cX5_record 51 = .ok (.getfield 7, 3) := by decide +kernel
theorem dX5_record_54 : decode cX5_record 54 = .ok (.iconst 0, 1) := by decide +kernel
theorem dX5_record_55 : decode cX5_record 55 = .ok (.aload_n 0, 1) := by decide +kernel
theorem dX5_record_56 : decode cX5_record 56 = .ok (.getfield 13, 3) := by decide +kernel
theorem dX5_record_59 : decode cX5_record 59 = .ok (.aload_n 0, 1) := by decide +kernel
theorem dX5_record_60 : decode cX5_record 60 = .ok (.getfield 46, 3) := by decide +kernel
theorem dX5_record_63 : decode cX5_record 63 = .ok (.sipush 151, 3) := by decide +kernel
theorem dX5_record_66 : decode cX5_record 66 = .ok (.imul, 1) := by decide +kernel
theorem dX5_record_67 : decode cX5_record 67 = .ok (.invokestatic 50, 3) := by decide +kernel
theorem dX5_record_70 : decode cX5_record 70 = .ok (.aload_n 0, 1) := by decide +kernel
theorem dX5_record_71 : decode cX5_record 71 = .ok (.dup, 1) := by decide +kernel
theorem dX5_record_72 : decode cX5_record 72 = .ok (.getfield 46, 3) := by decide +kernel
theorem dX5_record_75 : decode cX5_record 75 = .ok (.iconst 1, 1) := by decide +kernel
theorem dX5_record_76 : decode cX5_record 76 = .ok (.iadd, 1) := by decide +kernel
theorem dX5_record_77 : decode cX5_record 77 = .ok (.putfield 46, 3) := by decide +kernel
theorem dX5_record_80 : decode cX5_record 80 = .ok (.return_, 1) := by decide +kernel
set_option maxRecDepth 20000 in
theorem ggX5_isFilm_X5_within : GoodIn wsX5_isFilm wsX5_within := goodIn_r _ [5] (by decide +kernel) (by decide +kernel)
set_option maxRecDepth 20000 in
theorem gX5_isFilm_X5_within : GoodIn wsX5_isFilm (va_wsS RX5 54 yX5_within wsX5_within) := goodIn_app (goodIn_of _ (by decide +kernel)) ggX5_isFilm_X5_within
theorem dX5_isFilm_0 : decode cX5_isFilm 0 = .ok (.iload_n 1, 1) := by decide +kernel
theorem dX5_isFilm_1 : decode cX5_isFilm 1 = .ok (.iconst 0, 1) := by decide +kernel
theorem dX5_isFilm_2 : decode cX5_isFilm 2 = .ok (.aload_n 0, 1) := by decide +kernel
theorem dX5_isFilm_3 : decode cX5_isFilm 3 = .ok (.getfield 7, 3) := by decide +kernel
theorem dX5_isFilm_6 : decode cX5_isFilm 6 = .ok (.iconst 5, 1) := by decide +kernel
theorem dX5_isFilm_7 : decode cX5_isFilm 7 = .ok (.iaload, 1) := by decide +kernel
theorem dX5_isFilm_8 : decode cX5_isFilm 8 = .ok (.iconst 1, 1) := by decide +kernel
theorem dX5_isFilm_9 : decode cX5_isFilm 9 = .ok (.isub, 1) := by decide +kernel
theorem dX5_isFilm_10 : decode cX5_isFilm 10 = .ok (.invokestatic 54, 3) := by decide +kernel
theorem dX5_isFilm_13 : decode cX5_isFilm 13 = .ok (.ireturn, 1) := by decide +kernel
theorem dX5_filmPart_0 : decode cX5_filmPart 0 = .ok (.aload_n 0, 1) := by decide +kernel
theorem dX5_filmPart_1 : decode cX5_filmPart 1 = .ok (.getfield 7, 3) := by decide +kernel
theorem dX5_filmPart_4 : decode cX5_filmPart 4 = .ok (.bipush 6, 2) := by decide +kernel
theorem dX5_filmPart_6 : decode cX5_filmPart 6 = .ok (.iconst 5, 1) := by decide +kernel
theorem dX5_filmPart_7 : decode cX5_filmPart 7 = .ok (.iload_n 1, 1) := by decide +kernel
theorem dX5_filmPart_8 : decode cX5_filmPart 8 = .ok (.imul, 1) := by decide +kernel
theorem dX5_filmPart_9 : decode cX5_filmPart 9 = .ok (.iadd, 1) := by decide +kernel
theorem dX5_filmPart_10 : decode cX5_filmPart 10 = .ok (.iload_n 2, 1) := by decide +kernel
theorem dX5_filmPart_11 : decode cX5_filmPart 11 = .ok (.iadd, 1) := by decide +kernel
theorem dX5_filmPart_12 : decode cX5_filmPart 12 = .ok (.iaload, 1) := by decide +kernel
theorem dX5_filmPart_13 : decode cX5_filmPart 13 = .ok (.ireturn, 1) := by decide +kernel
set_option maxRecDepth 20000 in
theorem ggX5_isPart_X5_within : GoodIn wsX5_isPart wsX5_within := goodIn_r _ [4] (by decide +kernel) (by decide +kernel)
set_option maxRecDepth 20000 in
theorem gX5_isPart_X5_within : GoodIn wsX5_isPart (va_wsS RX5 54 yX5_within wsX5_within) := goodIn_app (goodIn_of _ (by decide +kernel)) ggX5_isPart_X5_within
theorem dX5_isPart_0 : decode cX5_isPart 0 = .ok (.iload_n 0, 1) := by decide +kernel
theorem dX5_isPart_1 : decode cX5_isPart 1 = .ok (.iconst 0, 1) := by decide +kernel
theorem dX5_isPart_2 : decode cX5_isPart 2 = .ok (.bipush 34, 2) := by decide +kernel
theorem dX5_isPart_4 : decode cX5_isPart 4 = .ok (.invokestatic 54, 3) := by decide +kernel
theorem dX5_isPart_7 : decode cX5_isPart 7 = .ok (.ifCond .eq 16, 3) := by decide +kernel
theorem dX5_isPart_10 : decode cX5_isPart 10 = .ok (.iload_n 1, 1) := by decide +kernel
theorem dX5_isPart_11 : decode cX5_isPart 11 = .ok (.iconst 0, 1) := by decide +kernel
theorem dX5_isPart_12 : decode cX5_isPart 12 = .ok (.iconst 1, 1) := by decide +kernel
theorem dX5_isPart_13 : decode cX5_isPart 13 = .ok (.invokestatic 54, 3) := by decide +kernel
theorem dX5_isPart_16 : decode cX5_isPart 16 = .ok (.ifCond .eq 7, 3) := by decide +kernel
theorem dX5_isPart_19 : decode cX5_isPart 19 = .ok (.iconst 1, 1) := by decide +kernel
theorem dX5_isPart_20 : decode cX5_isPart 20 = .ok (.goto 4, 3) := by decide +kernel
theorem dX5_isPart_23 : decode cX5_isPart 23 = .ok (.iconst 0, 1) := by decide +kernel
theorem dX5_isPart_24 : decode cX5_isPart 24 = .ok (.ireturn, 1) := by decide +kernel
theorem dX5_showAt_0 : decode cX5_showAt 0 = .ok (.aload_n 0, 1) := by decide +kernel
theorem dX5_showAt_1 : decode cX5_showAt 1 = .ok (.getfield 7, 3) := by decide +kernel
theorem dX5_showAt_4 : decode cX5_showAt 4 = .ok (.bipush 46, 2) := by decide +kernel
theorem dX5_showAt_6 : decode cX5_showAt 6 = .ok (.iconst 2, 1) := by decide +kernel
theorem dX5_showAt_7 : decode cX5_showAt 7 = .ok (.iload_n 1, 1) := by decide +kernel
theorem dX5_showAt_8 : decode cX5_showAt 8 = .ok (.imul, 1) := by decide +kernel
theorem dX5_showAt_9 : decode cX5_showAt 9 = .ok (.iadd, 1) := by decide +kernel
theorem dX5_showAt_10 : decode cX5_showAt 10 = .ok (.iload_n 2, 1) := by decide +kernel
theorem dX5_showAt_11 : decode cX5_showAt 11 = .ok (.iadd, 1) := by decide +kernel
theorem dX5_showAt_12 : decode cX5_showAt 12 = .ok (.iaload, 1) := by decide +kernel
theorem dX5_showAt_13 : decode cX5_showAt 13 = .ok (.ireturn, 1) := by decide +kernel
theorem dX5_isLet_0 : decode cX5_isLet 0 = .ok (.aload_n 0, 1) := by decide +kernel
theorem dX5_isLet_1 : decode cX5_isLet 1 = .ok (.getfield 7, 3) := by decide +kernel
theorem dX5_isLet_4 : decode cX5_isLet 4 = .ok (.bipush 116, 2) := by decide +kernel
theorem dX5_isLet_6 : decode cX5_isLet 6 = .ok (.iload_n 1, 1) := by decide +kernel
theorem dX5_isLet_7 : decode cX5_isLet 7 = .ok (.iadd, 1) := by decide +kernel
theorem dX5_isLet_8 : decode cX5_isLet 8 = .ok (.iaload, 1) := by decide +kernel
theorem dX5_isLet_9 : decode cX5_isLet 9 = .ok (.ifCond .le 7, 3) := by decide +kernel
theorem dX5_isLet_12 : decode cX5_isLet 12 = .ok (.iconst 1, 1) := by decide +kernel
theorem dX5_isLet_13 : decode cX5_isLet 13 = .ok (.goto 4, 3) := by decide +kernel
theorem dX5_isLet_16 : decode cX5_isLet 16 = .ok (.iconst 0, 1) := by decide +kernel
theorem dX5_isLet_17 : decode cX5_isLet 17 = .ok (.ireturn, 1) := by decide +kernel
set_option maxRecDepth 20000 in
theorem ggX5_fade_X5_filmPart : GoodIn wsX5_fade wsX5_filmPart := goodIn_r _ [7, 1, 8, 9, 10, 11, 12, 13, 14, 15, 16, 17, 18, 19, 20, 21, 22, 23, 24, 25] (by decide +kernel) (by decide +kernel)
set_option maxRecDepth 20000 in
theorem gX5_fade_X5_filmPart : GoodIn wsX5_fade (wsV RX5 58 RX5 yX5_filmPart wsX5_filmPart) := goodIn_app (goodIn_of _ (by decide +kernel)) ggX5_fade_X5_filmPart
theorem dX5_fade_0 : decode cX5_fade 0 = .ok (.iconst 0, 1) := by decide +kernel
theorem dX5_fade_1 : decode cX5_fade 1 = .ok (.istore_n 2, 1) := by decide +kernel
theorem dX5_fade_2 : decode cX5_fade 2 = .ok (.iload_n 2, 1) := by decide +kernel
theorem dX5_fade_3 : decode cX5_fade 3 = .ok (.aload_n 0, 1) := by decide +kernel
theorem dX5_fade_4 : decode cX5_fade 4 = .ok (.getfield 7, 3) := by decide +kernel
theorem dX5_fade_7 : decode cX5_fade 7 = .ok (.iconst 5, 1) := by decide +kernel
theorem dX5_fade_8 : decode cX5_fade 8 = .ok (.iaload, 1) := by decide +kernel
theorem dX5_fade_9 : decode cX5_fade 9 = .ok (.if_icmp .ge 43, 3) := by decide +kernel
theorem dX5_fade_12 : decode cX5_fade 12 = .ok (.aload_n 0, 1) := by decide +kernel
theorem dX5_fade_13 : decode cX5_fade 13 = .ok (.getfield 31, 3) := by decide +kernel
theorem dX5_fade_16 : decode cX5_fade 16 = .ok (.iload_n 2, 1) := by decide +kernel
theorem dX5_fade_17 : decode cX5_fade 17 = .ok (.dup2, 1) := by decide +kernel
theorem dX5_fade_18 : decode cX5_fade 18 = .ok (.iaload, 1) := by decide +kernel
theorem dX5_fade_19 : decode cX5_fade 19 = .ok (.iload_n 1, 1) := by decide +kernel
theorem dX5_fade_20 : decode cX5_fade 20 = .ok (.aload_n 0, 1) := by decide +kernel
theorem dX5_fade_21 : decode cX5_fade 21 = .ok (.iload_n 2, 1) := by decide +kernel
theorem dX5_fade_22 : decode cX5_fade 22 = .ok (.iconst 4, 1) := by decide +kernel
theorem dX5_fade_23 : decode cX5_fade 23 = .ok (.invokevirtual 58, 3) := by decide +kernel
theorem dX5_fade_26 : decode cX5_fade 26 = .ok (.bipush 7, 2) := by decide +kernel
theorem dX5_fade_28 : decode cX5_fade 28 = .ok (.idiv, 1) := by decide +kernel
theorem dX5_fade_29 : decode cX5_fade 29 = .ok (.if_icmp .le 14, 3) := by decide +kernel
theorem dX5_fade_32 : decode cX5_fade 32 = .ok (.aload_n 0, 1) := by decide +kernel
theorem dX5_fade_33 : decode cX5_fade 33 = .ok (.getfield 31, 3) := by decide +kernel
theorem dX5_fade_36 : decode cX5_fade 36 = .ok (.iload_n 2, 1) := by decide +kernel
theorem dX5_fade_37 : decode cX5_fade 37 = .ok (.iaload, 1) := by decide +kernel
theorem dX5_fade_38 : decode cX5_fade 38 = .ok (.iconst 4, 1) := by decide +kernel
theorem dX5_fade_39 : decode cX5_fade 39 = .ok (.idiv, 1) := by decide +kernel
theorem dX5_fade_40 : decode cX5_fade 40 = .ok (.goto 4, 3) := by decide +kernel
theorem dX5_fade_43 : decode cX5_fade 43 = .ok (.iconst 0, 1) := by decide +kernel
theorem dX5_fade_44 : decode cX5_fade 44 = .ok (.isub, 1) := by decide +kernel
theorem dX5_fade_45 : decode cX5_fade 45 = .ok (.iastore, 1) := by decide +kernel
theorem dX5_fade_46 : decode cX5_fade 46 = .ok (.iinc 2 1, 3) := by decide +kernel
theorem dX5_fade_49 : decode cX5_fade 49 = .ok (.goto (-47), 3) := by decide +kernel
theorem dX5_fade_52 : decode cX5_fade 52 = .ok (.return_, 1) := by decide +kernel
set_option maxRecDepth 20000 in
theorem ggX5_findPeople_X5_filmPart : GoodIn wsX5_findPeople wsX5_filmPart := goodIn_r _ [9, 2, 14, 15, 16, 17, 18, 19, 20, 21, 22, 23, 24, 25, 26, 27, 28, 29, 30, 31] (by decide +kernel) (by decide +kernel)
set_option maxRecDepth 20000 in
theorem gX5_findPeople_X5_filmPart : GoodIn wsX5_findPeople (wsV RX5 58 RX5 yX5_filmPart wsX5_filmPart) := goodIn_app (goodIn_of _ (by decide +kernel)) ggX5_findPeople_X5_filmPart
set_option maxRecDepth 20000 in
theorem ggX5_findPeople_X5_fade : GoodIn wsX5_findPeople wsX5_fade := goodIn_r _ [13, 2, 1, 5, 6, 7, 8, 9, 14, 15, 16, 17, 18, 19, 20, 21, 22, 23, 24, 25, 26, 27, 28, 29, 30, 31] (by decide +kernel) (by decide +kernel)
set_option maxRecDepth 20000 in
theorem gX5_findPeople_X5_fade : GoodIn wsX5_findPeople (wsV RX5 62 RX5 yX5_fade wsX5_fade) := goodIn_app (goodIn_of _ (by decide +kernel)) ggX5_findPeople_X5_fade
theorem dX5_findPeople_0 : decode cX5_findPeople 0 = .ok (.iconst 0, 1) := by decide +kernel
theorem dX5_findPeople_1 : decode cX5_findPeople 1 = .ok (.istore_n 1, 1) := by decide +kernel
theorem dX5_findPeople_2 : decode cX5_findPeople 2 = .ok (.iload_n 1, 1) := by decide +kernel
theorem dX5_findPeople_3 : decode cX5_findPeople 3 = .ok (.bipush 8, 2) := by decide +kernel
theorem dX5_findPeople_5 : decode cX5_findPeople 5 = .ok (.if_icmp .ge 21, 3) := by decide +kernel
theorem dX5_findPeople_8 : decode cX5_findPeople 8 = .ok (.aload_n 0, 1) := by decide +kernel
theorem dX5_findPeople_9 : decode cX5_findPeople 9 = .ok (.getfield 31, 3) := by decide +kernel
theorem dX5_findPeople_12 : decode cX5_findPeople 12 = .ok (.iload_n 1, 1) := by decide +kernel
theorem dX5_findPeople_13 : decode cX5_findPeople 13 = .ok (.aload_n 0, 1) := by decide +kernel
theorem dX5_findPeople_14 : decode cX5_findPeople 14 = .ok (.iload_n 1, 1) := by decide +kernel
theorem dX5_findPeople_15 : decode cX5_findPeople 15 = .ok (.iconst 1, 1) := by decide +kernel
theorem dX5_findPeople_16 : decode cX5_findPeople 16 = .ok (.invokevirtual 58, 3) := by decide +kernel
theorem dX5_findPeople_19 : decode cX5_findPeople 19 = .ok (.iastore, 1) := by decide +kernel
theorem dX5_findPeople_20 : decode cX5_findPeople 20 = .ok (.iinc 1 1, 3) := by decide +kernel
theorem dX5_findPeople_23 : decode cX5_findPeople 23 = .ok (.goto (-21), 3) := by decide +kernel
theorem dX5_findPeople_26 : decode cX5_findPeople 26 = .ok (.iconst 0, 1) := by decide +kernel
theorem dX5_findPeople_27 : decode cX5_findPeople 27 = .ok (.istore_n 1, 1) := by decide +kernel
theorem dX5_findPeople_28 : decode cX5_findPeople 28 = .ok (.iload_n 1, 1) := by decide +kernel
theorem dX5_findPeople_29 : decode cX5_findPeople 29 = .ok (.bipush 70, 2) := by decide +kernel
theorem dX5_findPeople_31 : decode cX5_findPeople 31 = .ok (.if_icmp .ge 140, 3) := by decide +kernel
theorem dX5_findPeople_34 : decode cX5_findPeople 34 = .ok (.aload_n 0, 1) := by decide +kernel
theorem dX5_findPeople_35 : decode cX5_findPeople 35 = .ok (.getfield 7, 3) := by decide +kernel
theorem dX5_findPeople_38 : decode cX5_findPeople 38 = .ok (.bipush 46, 2) := by decide +kernel
theorem dX5_findPeople_40 : decode cX5_findPeople 40 = .ok (.iload_n 1, 1) := by decide +kernel
theorem dX5_findPeople_41 : decode cX5_findPeople 41 = .ok (.iadd, 1) := by decide +kernel
theorem dX5_findPeople_42 : decode cX5_findPeople 42 = .ok (.iaload, 1) := by decide +kernel
theorem dX5_findPeople_43 : decode cX5_findPeople 43 = .ok (.istore_n 2, 1) := by decide +kernel
theorem dX5_findPeople_44 : decode cX5_findPeople 44 = .ok (.iload_n 1, 1) := by decide +kernel
theorem dX5_findPeople_45 : decode cX5_findPeople 45 = .ok (.bipush 14, 2) := by decide +kernel
theorem dX5_findPeople_47 : decode cX5_findPeople 47 = .ok (.irem, 1) := by decide +kernel
theorem dX5_findPeople_48 : decode cX5_findPeople 48 = .ok (.ifCond .ne 11, 3) := by decide +kernel
theorem dX5_findPeople_51 : decode cX5_findPeople 51 = .ok (.aload_n 0, 1) := by decide +kernel
theorem dX5_findPeople_52 : decode cX5_findPeople 52 = .ok (.iload_n 1, 1) := by decide +kernel
theorem dX5_findPeople_53 : decode cX5_findPeople 53 = .ok (.bipush 14, 2) := by decide +kernel
theorem dX5_findPeople_55 : decode cX5_findPeople 55 = .ok (.idiv, 1) := by decide +kernel
theorem dX5_findPeople_56 : decode cX5_findPeople 56 = .ok (.invokevirtual 62, 3) := by decide +kernel
theorem dX5_findPeople_59 : decode cX5_findPeople 59 = .ok (.aload_n 0, 1) := by decide +kernel
theorem dX5_findPeople_60 : decode cX5_findPeople 60 = .ok (.getfield 25, 3) := by decide +kernel
theorem dX5_findPeople_63 : decode cX5_findPeople 63 = .ok (.iload_n 1, 1) := by decide +kernel
theorem dX5_findPeople_64 : decode cX5_findPeople 64 = .ok (.iconst 0, 1) := by decide +kernel
theorem dX5_findPeople_65 : decode cX5_findPeople 65 = .ok (.iastore, 1) := by decide +kernel
theorem dX5_findPeople_66 : decode cX5_findPeople 66 = .ok (.aload_n 0, 1) := by decide +kernel
theorem dX5_findPeople_67 : decode cX5_findPeople 67 = .ok (.getfield 28, 3) := by decide +kernel
theorem dX5_findPeople_70 : decode cX5_findPeople 70 = .ok (.iload_n 1, 1) := by decide +kernel
theorem dX5_findPeople_71 : decode cX5_findPeople 71 = .ok (.bipush (-6), 2) := by decide +kernel
theorem dX5_findPeople_73 : decode cX5_findPeople 73 = .ok (.iastore, 1) := by decide +kernel
theorem dX5_findPeople_74 : decode cX5_findPeople 74 = .ok (.iload_n 2, 1) := by decide +kernel
theorem dX5_findPeople_75 : decode cX5_findPeople 75 = .ok (.bipush (-6), 2) := by decide +kernel
theorem dX5_findPeople_77 : decode cX5_findPeople 77 = .ok (.if_icmp .eq 88, 3) := by decide +kernel
theorem dX5_findPeople_80 : decode cX5_findPeople 80 = .ok (.aload_n 0, 1) := by decide +kernel
theorem dX5_findPeople_81 : decode cX5_findPeople 81 = .ok (.getfield 31, 3) := by decide +kernel
theorem dX5_findPeople_84 : decode cX5_findPeople 84 = .ok (.iload_n 2, 1) := by decide +kernel
theorem dX5_findPeople_85 : decode cX5_findPeople 85 = .ok (.iaload, 1) := by decide +kernel
theorem dX5_findPeople_86 : decode cX5_findPeople 86 = .ok (.iload_n 1, 1) := by decide +kernel
theorem dX5_findPeople_87 : decode cX5_findPeople 87 = .ok (.iconst 2, 1) := by decide +kernel
theorem dX5_findPeople_88 : decode cX5_findPeople 88 = .ok (.irem, 1) := by decide +kernel
theorem dX5_findPeople_89 : decode cX5_findPeople 89 = .ok (.ifCond .ne 12, 3) := by decide +kernel
theorem dX5_findPeople_92 : decode cX5_findPeople 92 = .ok (.aload_n 0, 1) := by decide +kernel
theorem dX5_findPeople_93 : decode cX5_findPeople 93 = .ok (.getfield 7, 3) := by decide +kernel
theorem dX5_findPeople_96 : decode cX5_findPeople 96 = .ok (.iconst 4, 1) := by decide +kernel
theorem dX5_findPeople_97 : decode cX5_findPeople 97 = .ok (.iaload, 1) := by decide +kernel
theorem dX5_findPeople_98 : decode cX5_findPeople 98 = .ok (.goto 9, 3) := by decide +kernel
theorem dX5_findPeople_101 : decode cX5_findPeople 101 = .ok (.aload_n 0, 1) := by decide +kernel
theorem dX5_findPeople_102 : decode cX5_findPeople 102 = .ok (.getfield 7, 3) := by decide +kernel
theorem dX5_findPeople_105 : decode cX5_findPeople 105 = .ok (.iconst 3, 1) := by decide +kernel
theorem dX5_findPeople_106 : decode cX5_findPeople 106 = .ok (.iaload, 1) := by decide +kernel
theorem dX5_findPeople_107 : decode cX5_findPeople 107 = .ok (.imul, 1) := by decide +kernel
theorem dX5_findPeople_108 : decode cX5_findPeople 108 = .ok (.bipush 100, 2) := by decide +kernel
theorem dX5_findPeople_110 : decode cX5_findPeople 110 = .ok (.idiv, 1) := by decide +kernel
theorem dX5_findPeople_111 : decode cX5_findPeople 111 = .ok (.istore_n 3, 1) := by decide +kernel
theorem dX5_findPeople_112 : decode cX5_findPeople 112 = .ok (.aload_n 0, 1) := by decide +kernel
theorem dX5_findPeople_113 : decode cX5_findPeople 113 = .ok (.getfield 25, 3) := by decide +kernel
theorem dX5_findPeople_116 : decode cX5_findPeople 116 = .ok (.iload_n 1, 1) := by decide +kernel
theorem dX5_findPeople_117 : decode cX5_findPeople 117 = .ok (.iload_n 3, 1) := by decide +kernel
theorem dX5_findPeople_118 : decode cX5_findPeople 118 = .ok (.aload_n 0, 1) := by decide +kernel
theorem dX5_findPeople_119 : decode cX5_findPeople 119 = .ok (.getfield 7, 3) := by decide +kernel
theorem dX5_findPeople_122 : decode cX5_findPeople 122 = .ok (.iconst 0, 1) := by decide +kernel
theorem dX5_findPeople_123 : decode cX5_findPeople 123 = .ok (.iaload, 1) := by decide +kernel
theorem dX5_findPeople_124 : decode cX5_findPeople 124 = .ok (.if_icmp .ge 7, 3) := by decide +kernel
theorem dX5_findPeople_127 : decode cX5_findPeople 127 = .ok (.iload_n 3, 1) := by decide +kernel
theorem dX5_findPeople_128 : decode cX5_findPeople 128 = .ok (.goto 9, 3) := by decide +kernel
theorem dX5_findPeople_131 : decode cX5_findPeople 131 = .ok (.aload_n 0, 1) := by decide +kernel
theorem dX5_findPeople_132 : decode cX5_findPeople 132 = .ok (.getfield 7, 3) := by decide +kernel
theorem dX5_findPeople_135 : decode cX5_findPeople 135 = .ok (.iconst 0, 1) := by decide +kernel
theorem dX5_findPeople_136 : decode cX5_findPeople 136 = .ok (.iaload, 1) := by decide +kernel
theorem dX5_findPeople_137 : decode cX5_findPeople 137 = .ok (.iastore, 1) := by decide +kernel
theorem dX5_findPeople_138 : decode cX5_findPeople 138 = .ok (.aload_n 0, 1) := by decide +kernel
theorem dX5_findPeople_139 : decode cX5_findPeople 139 = .ok (.getfield 31, 3) := by decide +kernel
theorem dX5_findPeople_142 : decode cX5_findPeople 142 = .ok (.iload_n 2, 1) := by decide +kernel
theorem dX5_findPeople_143 : decode cX5_findPeople 143 = .ok (.dup2, 1) := by decide +kernel
theorem dX5_findPeople_144 : decode cX5_findPeople 144 = .ok (.iaload, 1) := by decide +kernel
theorem dX5_findPeople_145 : decode cX5_findPeople 145 = .ok (.aload_n 0, 1) := by decide +kernel
theorem dX5_findPeople_146 : decode cX5_findPeople 146 = .ok (.getfield 25, 3) := by decide +kernel
theorem dX5_findPeople_149 : decode cX5_findPeople 149 = .ok (.iload_n 1, 1) := by decide +kernel
theorem dX5_findPeople_150 : decode cX5_findPeople 150 = .ok (.iaload, 1) := by decide +kernel
theorem dX5_findPeople_151 : decode cX5_findPeople 151 = .ok (.isub, 1) := by decide +kernel
theorem dX5_findPeople_152 : decode cX5_findPeople 152 = .ok (.iastore, 1) := by decide +kernel
theorem dX5_findPeople_153 : decode cX5_findPeople 153 = .ok (.aload_n 0, 1) := by decide +kernel
theorem dX5_findPeople_154 : decode cX5_findPeople 154 = .ok (.getfield 28, 3) := by decide +kernel
theorem dX5_findPeople_157 : decode cX5_findPeople 157 = .ok (.iload_n 1, 1) := by decide +kernel
theorem dX5_findPeople_158 : decode cX5_findPeople 158 = .ok (.aload_n 0, 1) := by decide +kernel
theorem dX5_findPeople_159 : decode cX5_findPeople 159 = .ok (.getfield 31, 3) := by decide +kernel
theorem dX5_findPeople_162 : decode cX5_findPeople 162 = .ok (.iload_n 2, 1) := by decide +kernel
theorem dX5_findPeople_163 : decode cX5_findPeople 163 = .ok (.iaload, 1) := by decide +kernel
theorem dX5_findPeople_164 : decode cX5_findPeople 164 = .ok (.iastore, 1) := by decide +kernel
theorem dX5_findPeople_165 : decode cX5_findPeople 165 = .ok (.iinc 1 1, 3) := by decide +kernel
theorem dX5_findPeople_168 : decode cX5_findPeople 168 = .ok (.goto (-140), 3) := by decide +kernel
theorem dX5_findPeople_171 : decode cX5_findPeople 171 = .ok (.return_, 1) := by decide +kernel
theorem dX5_findTakings_0 : decode cX5_findTakings 0 = .ok (.iconst 0, 1) := by decide +kernel
theorem dX5_findTakings_1 : decode cX5_findTakings 1 = .ok (.istore_n 1, 1) := by decide +kernel
theorem dX5_findTakings_2 : decode cX5_findTakings 2 = .ok (.iload_n 1, 1) := by decide +kernel
theorem dX5_findTakings_3 : decode cX5_findTakings 3 = .ok (.bipush 40, 2) := by decide +kernel
theorem dX5_findTakings_5 : decode cX5_findTakings 5 = .ok (.if_icmp .ge 23, 3) := by decide +kernel
theorem dX5_findTakings_8 : decode cX5_findTakings 8 = .ok (.aload_n 0, 1) := by decide +kernel
theorem dX5_findTakings_9 : decode cX5_findTakings 9 = .ok (.getfield 34, 3) := by decide +kernel
theorem dX5_findTakings_12 : decode cX5_findTakings 12 = .ok (.iload_n 1, 1) := by decide +kernel
theorem dX5_findTakings_13 : decode cX5_findTakings 13 = .ok (.iconst 0, 1) := by decide +kernel
theorem dX5_findTakings_14 : decode cX5_findTakings 14 = .ok (.iastore, 1) := by decide +kernel
theorem dX5_findTakings_15 : decode cX5_findTakings 15 = .ok (.aload_n 0, 1) := by decide +kernel
theorem dX5_findTakings_16 : decode cX5_findTakings 16 = .ok (.getfield 37, 3) := by decide +kernel
theorem dX5_findTakings_19 : decode cX5_findTakings 19 = .ok (.iload_n 1, 1) := by decide +kernel
theorem dX5_findTakings_20 : decode cX5_findTakings 20 = .ok (.iconst 0, 1) := by decide +kernel
theorem dX5_findTakings_21 : decode cX5_findTakings 21 = .ok (.iastore, 1) := by decide +kernel
theorem dX5_findTakings_22 : decode cX5_findTakings 22 = .ok (.iinc 1 1, 3) := by decide +kernel
theorem dX5_findTakings_25 : decode cX5_findTakings 25 = .ok (.goto (-23), 3) := by decide +kernel
theorem dX5_findTakings_28 : decode cX5_findTakings 28 = .ok (.iconst 0, 1) := by decide +kernel
theorem dX5_findTakings_29 : decode cX5_findTakings 29 = .ok (.istore_n 1, 1) := by decide +kernel
theorem dX5_findTakings_30 : decode cX5_findTakings 30 = .ok (.iload_n 1, 1) := by decide +kernel
theorem dX5_findTakings_31 : decode cX5_findTakings 31 = .ok (.bipush 70, 2) := by decide +kernel
theorem dX5_findTakings_33 : decode cX5_findTakings 33 = .ok (.if_icmp .ge 71, 3) := by decide +kernel
theorem dX5_findTakings_36 : decode cX5_findTakings 36 = .ok (.aload_n 0, 1) := by decide +kernel
theorem dX5_findTakings_37 : decode cX5_findTakings 37 = .ok (.getfield 7, 3) := by decide +kernel
theorem dX5_findTakings_40 : decode cX5_findTakings 40 = .ok (.bipush 46, 2) := by decide +kernel
theorem dX5_findTakings_42 : decode cX5_findTakings 42 = .ok (.iload_n 1, 1) := by decide +kernel
theorem dX5_findTakings_43 : decode cX5_findTakings 43 = .ok (.iadd, 1) := by decide +kernel
theorem dX5_findTakings_44 : decode cX5_findTakings 44 = .ok (.iaload, 1) := by decide +kernel
theorem dX5_findTakings_45 : decode cX5_findTakings 45 = .ok (.istore_n 2, 1) := by decide +kernel
theorem dX5_findTakings_46 : decode cX5_findTakings 46 = .ok (.iload_n 2, 1) := by decide +kernel
theorem dX5_findTakings_47 : decode cX5_findTakings 47 = .ok (.bipush (-6), 2) := by decide +kernel
theorem dX5_findTakings_49 : decode cX5_findTakings 49 = .ok (.if_icmp .eq 49, 3) := by decide +kernel
theorem dX5_findTakings_52 : decode cX5_findTakings 52 = .ok (.aload_n 0, 1) := by decide +kernel
theorem dX5_findTakings_53 : decode cX5_findTakings 53 = .ok (.getfield 34, 3) := by decide +kernel
theorem dX5_findTakings_56 : decode cX5_findTakings 56 = .ok (.iconst 5, 1) := by decide +kernel
theorem dX5_findTakings_57 : decode cX5_findTakings 57 = .ok (.iload_n 2, 1) := by decide +kernel
theorem dX5_findTakings_58 : decode cX5_findTakings 58 = .ok (.imul, 1) := by decide +kernel
theorem dX5_findTakings_59 : decode cX5_findTakings 59 = .ok (.iload_n 1, 1) := by decide +kernel
theorem dX5_findTakings_60 : decode cX5_findTakings 60 = .ok (.bipush 14, 2) := by decide +kernel
theorem dX5_findTakings_62 : decode cX5_findTakings 62 = .ok (.idiv, 1) := by decide +kernel
theorem dX5_findTakings_63 : decode cX5_findTakings 63 = .ok (.iadd, 1) := by decide +kernel
theorem dX5_findTakings_64 : decode cX5_findTakings 64 = .ok (.dup2, 1) := by decide +kernel
theorem dX5_findTakings_65 : decode cX5_findTakings 65 = .ok (.iaload, 1) := by decide +kernel
theorem dX5_findTakings_66 : decode cX5_findTakings 66 = .ok (.iconst 1, 1) := by decide +kernel
theorem dX5_findTakings_67 : decode cX5_findTakings 67 = .ok (.iadd, 1) := by decide +kernel
theorem dX5_findTakings_68 : decode cX5_findTakings 68 = .ok (.iastore, 1) := by decide +kernel
theorem dX5_findTakings_69 : decode cX5_findTakings 69 = .ok (.aload_n 0, 1) := by decide +kernel
theorem dX5_findTakings_70 : decode cX5_findTakings 70 = .ok (.getfield 37, 3) := by decide +kernel
theorem dX5_findTakings_73 : decode cX5_findTakings 73 = .ok (.iconst 5, 1) := by decide +kernel
theorem dX5_findTakings_74 : decode cX5_findTakings 74 = .ok (.iload_n 2, 1) := by decide +kernel
theorem dX5_findTakings_75 : decode cX5_findTakings 75 = .ok (.imul, 1) := by decide +kernel
theorem dX5_findTakings_76 : decode cX5_findTakings 76 = .ok (.iload_n 1, 1) := by decide +kernel
theorem dX5_findTakings_77 : decode cX5_findTakings 77 = .ok (.bipush 14, 2) := by decide +kernel
theorem dX5_findTakings_79 : decode cX5_findTakings 79 = .ok (.idiv, 1) := by decide +kernel
theorem dX5_findTakings_80 : decode cX5_findTakings 80 = .ok (.iadd, 1) := by decide +kernel
theorem dX5_findTakings_81 : decode cX5_findTakings 81 = .ok (.dup2, 1) := by decide +kernel
theorem dX5_findTakings_82 : decode cX5_findTakings 82 = .ok (.iaload, 1) := by decide +kernel
theorem dX5_findTakings_83 : decode cX5_findTakings 83 = .ok (.aload_n 0, 1) := by decide +kernel
theorem dX5_findTakings_84 : decode cX5_findTakings 84 = .ok (.getfield 25, 3) := by decide +kernel
theorem dX5_findTakings_87 : decode cX5_findTakings 87 = .ok (.iload_n 1, 1) := by decide +kernel
theorem dX5_findTakings_88 : decode cX5_findTakings 88 = .ok (.iaload, 1) := by decide +kernel
theorem dX5_findTakings_89 : decode cX5_findTakings 89 = .ok (.aload_n 0, 1) := by decide +kernel
theorem dX5_findTakings_90 : decode cX5_findTakings 90 = .ok (.getfield 7, 3) := by decide +kernel
theorem dX5_findTakings_93 : decode cX5_findTakings 93 = .ok (.iconst 1, 1) := by decide +kernel
theorem dX5_findTakings_94 : decode cX5_findTakings 94 = .ok (.iaload, 1) := by decide +kernel
theorem dX5_findTakings_95 : decode cX5_findTakings 95 = .ok (.imul, 1) := by decide +kernel
theorem dX5_findTakings_96 : decode cX5_findTakings 96 = .ok (.iadd, 1) := by decide +kernel
theorem dX5_findTakings_97 : decode cX5_findTakings 97 = .ok (.iastore, 1) := by decide +kernel
theorem dX5_findTakings_98 : decode cX5_findTakings 98 = .ok (.iinc 1 1, 3) := by decide +kernel
theorem dX5_findTakings_101 : decode cX5_findTakings 101 = .ok (.goto (-71), 3) := by decide +kernel
theorem dX5_findTakings_104 : decode cX5_findTakings 104 = .ok (.return_, 1) := by decide +kernel
set_option maxRecDepth 20000 in
theorem ggX5_shareOf_X5_filmPart : GoodIn wsX5_shareOf wsX5_filmPart := goodIn_r _ [5, 6, 7, 8, 9, 10, 11, 12, 13, 14, 15, 16, 17, 18, 19, 20, 21, 22, 23, 24] (by decide +kernel) (by decide +kernel)
set_option maxRecDepth 20000 in
theorem gX5_shareOf_X5_filmPart : GoodIn wsX5_shareOf (wsV RX5 58 RX5 yX5_filmPart wsX5_filmPart) := goodIn_app (goodIn_of _ (by decide +kernel)) ggX5_shareOf_X5_filmPart
theorem dX5_shareOf_0 : decode cX5_shareOf 0 = .ok (.aload_n 0, 1) := by decide +kernel
theorem dX5_shareOf_1 : decode cX5_shareOf 1 = .ok (.iload_n 1, 1) := by decide +kernel
theorem dX5_shareOf_2 : decode cX5_shareOf 2 = .ok (.iconst 3, 1) := by decide +kernel
theorem dX5_shareOf_3 : decode cX5_shareOf 3 = .ok (.invokevirtual 58, 3) := by decide +kernel
theorem dX5_shareOf_6 : decode cX5_shareOf 6 = .ok (.bipush 10, 2) := by decide +kernel
theorem dX5_shareOf_8 : decode cX5_shareOf 8 = .ok (.iload_n 2, 1) := by decide +kernel
theorem dX5_shareOf_9 : decode cX5_shareOf 9 = .ok (.imul, 1) := by decide +kernel
theorem dX5_shareOf_10 : decode cX5_shareOf 10 = .ok (.isub, 1) := by decide +kernel
theorem dX5_shareOf_11 : decode cX5_shareOf 11 = .ok (.istore_n 3, 1) := by decide +kernel
theorem dX5_shareOf_12 : decode cX5_shareOf 12 = .ok (.iload_n 3, 1) := by decide +kernel
theorem dX5_shareOf_13 : decode cX5_shareOf 13 = .ok (.bipush 20, 2) := by decide +kernel
theorem dX5_shareOf_15 : decode cX5_shareOf 15 = .ok (.if_icmp .le 7, 3) := by decide +kernel
theorem dX5_shareOf_18 : decode cX5_shareOf 18 = .ok (.iload_n 3, 1) := by decide +kernel
theorem dX5_shareOf_19 : decode cX5_shareOf 19 = .ok (.goto 5, 3) := by decide +kernel
theorem dX5_shareOf_22 : decode cX5_shareOf 22 = .ok (.bipush 20, 2) := by decide +kernel
theorem dX5_shareOf_24 : decode cX5_shareOf 24 = .ok (.ireturn, 1) := by decide +kernel
theorem dX5_shareOfTakings_0 : decode cX5_shareOfTakings 0 = .ok (.aload_n 0, 1) := by decide +kernel
theorem dX5_shareOfTakings_1 : decode cX5_shareOfTakings 1 = .ok (.getfield 40, 3) := by decide +kernel
theorem dX5_shareOfTakings_4 : decode cX5_shareOfTakings 4 = .ok (.iload_n 1, 1) := by decide +kernel
theorem dX5_shareOfTakings_5 : decode cX5_shareOfTakings 5 = .ok (.iaload, 1) := by decide +kernel
theorem dX5_shareOfTakings_6 : decode cX5_shareOfTakings 6 = .ok (.bipush (-6), 2) := by decide +kernel
theorem dX5_shareOfTakings_8 : decode cX5_shareOfTakings 8 = .ok (.if_icmp .ne 7, 3) := by decide +kernel
theorem dX5_shareOfTakings_11 : decode cX5_shareOfTakings 11 = .ok (.iconst 0, 1) := by decide +kernel
theorem dX5_shareOfTakings_12 : decode cX5_shareOfTakings 12 = .ok (.goto 19, 3) := by decide +kernel
theorem dX5_shareOfTakings_15 : decode cX5_shareOfTakings 15 = .ok (.aload_n 0, 1) := by decide +kernel
theorem dX5_shareOfTakings_16 : decode cX5_shareOfTakings 16 = .ok (.getfield 37, 3) := by decide +kernel
theorem dX5_shareOfTakings_19 : decode cX5_shareOfTakings 19 = .ok (.iload_n 1, 1) := by decide +kernel
theorem dX5_shareOfTakings_20 : decode cX5_shareOfTakings 20 = .ok (.iaload, 1) := by decide +kernel
theorem dX5_shareOfTakings_21 : decode cX5_shareOfTakings 21 = .ok (.aload_n 0, 1) := by decide +kernel
theorem dX5_shareOfTakings_22 : decode cX5_shareOfTakings 22 = .ok (.getfield 40, 3) := by decide +kernel
theorem dX5_shareOfTakings_25 : decode cX5_shareOfTakings 25 = .ok (.iload_n 1, 1) := by decide +kernel
theorem dX5_shareOfTakings_26 : decode cX5_shareOfTakings 26 = .ok (.iaload, 1) := by decide +kernel
theorem dX5_shareOfTakings_27 : decode cX5_shareOfTakings 27 = .ok (.imul, 1) := by decide +kernel
theorem dX5_shareOfTakings_28 : decode cX5_shareOfTakings 28 = .ok (.bipush 100, 2) := by decide +kernel
theorem dX5_shareOfTakings_30 : decode cX5_shareOfTakings 30 = .ok (.idiv, 1) := by decide +kernel
theorem dX5_shareOfTakings_31 : decode cX5_shareOfTakings 31 = .ok (.ireturn, 1) := by decide +kernel
set_option maxRecDepth 20000 in
theorem ggX5_findDues_X5_shareOf : GoodIn wsX5_findDues wsX5_shareOf := goodIn_r _ [8, 9, 10, 11, 7, 12, 13, 19, 20, 21, 22, 23, 24, 25, 26, 27, 28, 29, 30, 31, 32, 33, 34, 35, 36] (by decide +kernel) (by decide +kernel)
set_option maxRecDepth 20000 in
theorem gX5_findDues_X5_shareOf : GoodIn wsX5_findDues (wsV RX5 66 RX5 yX5_shareOf wsX5_shareOf) := goodIn_app (goodIn_of _ (by decide +kernel)) ggX5_findDues_X5_shareOf
set_option maxRecDepth 20000 in
theorem ggX5_findDues_X5_shareOfTakings : GoodIn wsX5_findDues wsX5_shareOfTakings := goodIn_r _ [17, 2, 18, 19, 20, 21, 22, 23, 24, 25, 26, 27, 28, 29, 30, 31, 32, 33, 34, 35, 36] (by decide +kernel) (by decide +kernel)
set_option maxRecDepth 20000 in
theorem gX5_findDues_X5_shareOfTakings : GoodIn wsX5_findDues (wsV RX5 69 RX5 yX5_shareOfTakings wsX5_shareOfTakings) := goodIn_app (goodIn_of _ (by decide +kernel)) ggX5_findDues_X5_shareOfTakings
set_option maxRecDepth 20000 in
theorem ggX5_findDues_X5_filmPart : GoodIn wsX5_findDues wsX5_filmPart := goodIn_r _ [12, 13, 19, 20, 21, 22, 23, 24, 25, 26, 27, 28, 29, 30, 31, 32, 33, 34, 35, 36] (by decide +kernel) (by decide +kernel)
set_option maxRecDepth 20000 in
theorem gX5_findDues_X5_filmPart : GoodIn wsX5_findDues (wsV RX5 58 RX5 yX5_filmPart wsX5_filmPart) := goodIn_app (goodIn_of _ (by decide +kernel)) ggX5_findDues_X5_filmPart
theorem dX5_findDues_0 : decode cX5_findDues 0 = .ok (.iconst 0, 1) := by decide +kernel
theorem dX5_findDues_1 : decode cX5_findDues 1 = .ok (.istore_n 1, 1) := by decide +kernel
theorem dX5_findDues_2 : decode cX5_findDues 2 = .ok (.iload_n 1, 1) := by decide +kernel
theorem dX5_findDues_3 : decode cX5_findDues 3 = .ok (.bipush 8, 2) := by decide +kernel
theorem dX5_findDues_5 : decode cX5_findDues 5 = .ok (.if_icmp .ge 131, 3) := by decide +kernel
theorem dX5_findDues_8 : decode cX5_findDues 8 = .ok (.bipush (-6), 2) := by decide +kernel
theorem dX5_findDues_10 : decode cX5_findDues 10 = .ok (.istore_n 2, 1) := by decide +kernel
theorem dX5_findDues_11 : decode cX5_findDues 11 = .ok (.iconst 0, 1) := by decide +kernel
theorem dX5_findDues_12 : decode cX5_findDues 12 = .ok (.istore_n 3, 1) := by decide +kernel
theorem dX5_findDues_13 : decode cX5_findDues 13 = .ok (.iload_n 3, 1) := by decide +kernel
theorem dX5_findDues_14 : decode cX5_findDues 14 = .ok (.iconst 5, 1) := by decide +kernel
theorem dX5_findDues_15 : decode cX5_findDues 15 = .ok (.if_icmp .ge 115, 3) := by decide +kernel
theorem dX5_findDues_18 : decode cX5_findDues 18 = .ok (.iconst 5, 1) := by decide +kernel
theorem dX5_findDues_19 : decode cX5_findDues 19 = .ok (.iload_n 1, 1) := by decide +kernel
theorem dX5_findDues_20 : decode cX5_findDues 20 = .ok (.imul, 1) := by decide +kernel
theorem dX5_findDues_21 : decode cX5_findDues 21 = .ok (.iload_n 3, 1) := by decide +kernel
theorem dX5_findDues_22 : decode cX5_findDues 22 = .ok (.iadd, 1) := by decide +kernel
theorem dX5_findDues_23 : decode cX5_findDues 23 = .ok (.istore 4, 2) := by decide +kernel
theorem dX5_findDues_25 : decode cX5_findDues 25 = .ok (.iload_n 2, 1) := by decide +kernel
theorem dX5_findDues_26 : decode cX5_findDues 26 = .ok (.bipush (-6), 2) := by decide +kernel
theorem dX5_findDues_28 : decode cX5_findDues 28 = .ok (.if_icmp .ne 17, 3) := by decide +kernel
theorem dX5_findDues_31 : decode cX5_findDues 31 = .ok (.aload_n 0, 1) := by decide +kernel
theorem dX5_findDues_32 : decode cX5_findDues 32 = .ok (.getfield 34, 3) := by decide +kernel
theorem dX5_findDues_35 : decode cX5_findDues 35 = .ok (.iload 4, 2) := by decide +kernel
theorem dX5_findDues_37 : decode cX5_findDues 37 = .ok (.iaload, 1) := by decide +kernel
theorem dX5_findDues_38 : decode cX5_findDues 38 = .ok (.ifCond .le 7, 3) := by decide +kernel
theorem dX5_findDues_41 : decode cX5_findDues 41 = .ok (.iload_n 3, 1) := by decide +kernel
theorem dX5_findDues_42 : decode cX5_findDues 42 = .ok (.goto 4, 3) := by decide +kernel
theorem dX5_findDues_45 : decode cX5_findDues 45 = .ok (.iload_n 2, 1) := by decide +kernel
theorem dX5_findDues_46 : decode cX5_findDues 46 = .ok (.istore_n 2, 1) := by decide +kernel
theorem dX5_findDues_47 : decode cX5_findDues 47 = .ok (.aload_n 0, 1) := by decide +kernel
theorem dX5_findDues_48 : decode cX5_findDues 48 = .ok (.getfield 40, 3) := by decide +kernel
theorem dX5_findDues_51 : decode cX5_findDues 51 = .ok (.iload 4, 2) := by decide +kernel
theorem dX5_findDues_53 : decode cX5_findDues 53 = .ok (.iload_n 2, 1) := by decide +kernel
theorem dX5_findDues_54 : decode cX5_findDues 54 = .ok (.bipush (-6), 2) := by decide +kernel
theorem dX5_findDues_56 : decode cX5_findDues 56 = .ok (.if_icmp .ne 8, 3) := by decide +kernel
theorem dX5_findDues_59 : decode cX5_findDues 59 = .ok (.bipush (-6), 2) := by decide +kernel
theorem dX5_findDues_61 : decode cX5_findDues 61 = .ok (.goto 11, 3) := by decide +kernel
theorem dX5_findDues_64 : decode cX5_findDues 64 = .ok (.aload_n 0, 1) := by decide +kernel
theorem dX5_findDues_65 : decode cX5_findDues 65 = .ok (.iload_n 1, 1) := by decide +kernel
theorem dX5_findDues_66 : decode cX5_findDues 66 = .ok (.iload_n 3, 1) := by decide +kernel
theorem dX5_findDues_67 : decode cX5_findDues 67 = .ok (.iload_n 2, 1) := by decide +kernel
theorem dX5_findDues_68 : decode cX5_findDues 68 = .ok (.isub, 1) := by decide +kernel
theorem dX5_findDues_69 : decode cX5_findDues 69 = .ok (.invokevirtual 66, 3) := by decide +kernel
theorem dX5_findDues_72 : decode cX5_findDues 72 = .ok (.iastore, 1) := by decide +kernel
theorem dX5_findDues_73 : decode cX5_findDues 73 = .ok (.aload_n 0, 1) := by decide +kernel
theorem dX5_findDues_74 : decode cX5_findDues 74 = .ok (.iload 4, 2) := by decide +kernel
theorem dX5_findDues_76 : decode cX5_findDues 76 = .ok (.invokevirtual 69, 3) := by decide +kernel
theorem dX5_findDues_79 : decode cX5_findDues 79 = .ok (.istore 5, 2) := by decide +kernel
theorem dX5_findDues_81 : decode cX5_findDues 81 = .ok (.aload_n 0, 1) := by decide +kernel
theorem dX5_findDues_82 : decode cX5_findDues 82 = .ok (.getfield 43, 3) := by decide +kernel
theorem dX5_findDues_85 : decode cX5_findDues 85 = .ok (.iload 4, 2) := by decide +kernel
theorem dX5_findDues_87 : decode cX5_findDues 87 = .ok (.aload_n 0, 1) := by decide +kernel
theorem dX5_findDues_88 : decode cX5_findDues 88 = .ok (.getfield 34, 3) := by decide +kernel
theorem dX5_findDues_91 : decode cX5_findDues 91 = .ok (.iload 4, 2) := by decide +kernel
theorem dX5_findDues_93 : decode cX5_findDues 93 = .ok (.iaload, 1) := by decide +kernel
theorem dX5_findDues_94 : decode cX5_findDues 94 = .ok (.ifCond .ne 7, 3) := by decide +kernel
theorem dX5_findDues_97 : decode cX5_findDues 97 = .ok (.iconst 0, 1) := by decide +kernel
theorem dX5_findDues_98 : decode cX5_findDues 98 = .ok (.goto 25, 3) := by decide +kernel
theorem dX5_findDues_101 : decode cX5_findDues 101 = .ok (.iload 5, 2) := by decide +kernel
theorem dX5_findDues_103 : decode cX5_findDues 103 = .ok (.aload_n 0, 1) := by decide +kernel
theorem dX5_findDues_104 : decode cX5_findDues 104 = .ok (.iload_n 1, 1) := by decide +kernel
theorem dX5_findDues_105 : decode cX5_findDues 105 = .ok (.iconst 2, 1) := by decide +kernel
theorem dX5_findDues_106 : decode cX5_findDues 106 = .ok (.invokevirtual 58, 3) := by decide +kernel
theorem dX5_findDues_109 : decode cX5_findDues 109 = .ok (.if_icmp .le 8, 3) := by decide +kernel
theorem dX5_findDues_112 : decode cX5_findDues 112 = .ok (.iload 5, 2) := by decide +kernel
theorem dX5_findDues_114 : decode cX5_findDues 114 = .ok (.goto 9, 3) := by decide +kernel
theorem dX5_findDues_117 : decode cX5_findDues 117 = .ok (.aload_n 0, 1) := by decide +kernel
theorem dX5_findDues_118 : decode cX5_findDues 118 = .ok (.iload_n 1, 1) := by decide +kernel
theorem dX5_findDues_119 : decode cX5_findDues 119 = .ok (.iconst 2, 1) := by decide +kernel
theorem dX5_findDues_120 : decode cX5_findDues 120 = .ok (.invokevirtual 58, 3) := by decide +kernel
theorem dX5_findDues_123 : decode cX5_findDues 123 = .ok (.iastore, 1) := by decide +kernel
theorem dX5_findDues_124 : decode cX5_findDues 124 = .ok (.iinc 3 1, 3) := by decide +kernel
theorem dX5_findDues_127 : decode cX5_findDues 127 = .ok (.goto (-114), 3) := by decide +kernel
theorem dX5_findDues_130 : decode cX5_findDues 130 = .ok (.iinc 1 1, 3) := by decide +kernel
theorem dX5_findDues_133 : decode cX5_findDues 133 = .ok (.goto (-131), 3) := by decide +kernel
theorem dX5_findDues_136 : decode cX5_findDues 136 = .ok (.return_, 1) := by decide +kernel
set_option maxRecDepth 20000 in
theorem ggX5_reckon_X5_findPeople : GoodIn wsX5_reckon wsX5_findPeople := goodIn_r _ [5, 6, 7, 8, 9, 10, 11, 12, 4, 13, 14, 15, 16, 17, 38, 39, 40, 41, 42, 43, 44, 45, 46, 47, 48, 49, 50, 51, 52, 53, 54, 55] (by decide +kernel) (by decide +kernel)
set_option maxRecDepth 20000 in
theorem gX5_reckon_X5_findPeople : GoodIn wsX5_reckon (wsV RX5 73 RX5 yX5_findPeople wsX5_findPeople) := goodIn_app (goodIn_of _ (by decide +kernel)) ggX5_reckon_X5_findPeople
set_option maxRecDepth 20000 in
theorem ggX5_reckon_X5_findTakings : GoodIn wsX5_reckon wsX5_findTakings := goodIn_r _ [21, 22, 23, 7, 8, 38, 39, 40, 41, 42, 43, 44, 45, 46, 47, 48, 49, 50, 51, 52, 53, 54, 55] (by decide +kernel) (by decide +kernel)
set_option maxRecDepth 20000 in
theorem gX5_reckon_X5_findTakings : GoodIn wsX5_reckon (wsV RX5 76 RX5 yX5_findTakings wsX5_findTakings) := goodIn_app (goodIn_of _ (by decide +kernel)) ggX5_reckon_X5_findTakings
set_option maxRecDepth 20000 in
theorem ggX5_reckon_X5_findDues : GoodIn wsX5_reckon wsX5_findDues := goodIn_r _ [27, 22, 28, 29, 30, 31, 32, 4, 33, 10, 11, 12, 13, 7, 34, 35, 36, 37, 23, 38, 39, 40, 41, 42, 43, 44, 45, 46, 47, 48, 49, 50, 51, 52, 53, 54, 55] (by decide +kernel) (by decide +kernel)
set_option maxRecDepth 20000 in
theorem gX5_reckon_X5_findDues : GoodIn wsX5_reckon (wsV RX5 79 RX5 yX5_findDues wsX5_findDues) := goodIn_app (goodIn_of _ (by decide +kernel)) ggX5_reckon_X5_findDues
theorem dX5_reckon_0 : decode cX5_reckon 0 = .ok (.aload_n 0, 1) := by decide +kernel
theorem dX5_reckon_1 : decode cX5_reckon 1 = .ok (.invokevirtual 73, 3) := by decide +kernel
theorem dX5_reckon_4 : decode cX5_reckon 4 = .ok (.aload_n 0, 1) := by decide +kernel
theorem dX5_reckon_5 : decode cX5_reckon 5 = .ok (.invokevirtual 76, 3) := by decide +kernel
theorem dX5_reckon_8 : decode cX5_reckon 8 = .ok (.aload_n 0, 1) := by decide +kernel
theorem dX5_reckon_9 : decode cX5_reckon 9 = .ok (.invokevirtual 79, 3) := by decide +kernel
theorem dX5_reckon_12 : decode cX5_reckon 12 = .ok (.return_, 1) := by decide +kernel
theorem dX5_sumOf_0 : decode cX5_sumOf 0 = .ok (.iconst 0, 1) := by decide +kernel
theorem dX5_sumOf_1 : decode cX5_sumOf 1 = .ok (.istore_n 2, 1) := by decide +kernel
theorem dX5_sumOf_2 : decode cX5_sumOf 2 = .ok (.iconst 0, 1) := by decide +kernel
theorem dX5_sumOf_3 : decode cX5_sumOf 3 = .ok (.istore_n 3, 1) := by decide +kernel
theorem dX5_sumOf_4 : decode cX5_sumOf 4 = .ok (.iload_n 3, 1) := by decide +kernel
theorem dX5_sumOf_5 : decode cX5_sumOf 5 = .ok (.bipush 40, 2) := by decide +kernel
theorem dX5_sumOf_7 : decode cX5_sumOf 7 = .ok (.if_icmp .ge 30, 3) := by decide +kernel
theorem dX5_sumOf_10 : decode cX5_sumOf 10 = .ok (.iload_n 2, 1) := by decide +kernel
theorem dX5_sumOf_11 : decode cX5_sumOf 11 = .ok (.iload_n 1, 1) := by decide +kernel
theorem dX5_sumOf_12 : decode cX5_sumOf 12 = .ok (.ifCond .lt 10, 3) := by decide +kernel
theorem dX5_sumOf_15 : decode cX5_sumOf 15 = .ok (.iload_n 3, 1) := by decide +kernel
theorem dX5_sumOf_16 : decode cX5_sumOf 16 = .ok (.iconst 5, 1) := by decide +kernel
theorem dX5_sumOf_17 : decode cX5_sumOf 17 = .ok (.irem, 1) := by decide +kernel
theorem dX5_sumOf_18 : decode cX5_sumOf 18 = .ok (.iload_n 1, 1) := by decide +kernel
theorem dX5_sumOf_19 : decode cX5_sumOf 19 = .ok (.if_icmp .ne 9, 3) := by decide +kernel
theorem dX5_sumOf_22 : decode cX5_sumOf 22 = .ok (.aload_n 0, 1) := by decide +kernel
theorem dX5_sumOf_23 : decode cX5_sumOf 23 = .ok (.iload_n 3, 1) := by decide +kernel
theorem dX5_sumOf_24 : decode cX5_sumOf 24 = .ok (.iaload, 1) := by decide +kernel
theorem dX5_sumOf_25 : decode cX5_sumOf 25 = .ok (.goto 4, 3) := by decide +kernel
theorem dX5_sumOf_28 : decode cX5_sumOf 28 = .ok (.iconst 0, 1) := by decide +kernel
theorem dX5_sumOf_29 : decode cX5_sumOf 29 = .ok (.iadd, 1) := by decide +kernel
theorem dX5_sumOf_30 : decode cX5_sumOf 30 = .ok (.istore_n 2, 1) := by decide +kernel
theorem dX5_sumOf_31 : decode cX5_sumOf 31 = .ok (.iinc 3 1, 3) := by decide +kernel
theorem dX5_sumOf_34 : decode cX5_sumOf 34 = .ok (.goto (-30), 3) := by decide +kernel
theorem dX5_sumOf_37 : decode cX5_sumOf 37 = .ok (.iload_n 2, 1) := by decide +kernel
theorem dX5_sumOf_38 : decode cX5_sumOf 38 = .ok (.ireturn, 1) := by decide +kernel
theorem dX5_sumOfFilm_0 : decode cX5_sumOfFilm 0 = .ok (.iconst 0, 1) := by decide +kernel
theorem dX5_sumOfFilm_1 : decode cX5_sumOfFilm 1 = .ok (.istore_n 2, 1) := by decide +kernel
theorem dX5_sumOfFilm_2 : decode cX5_sumOfFilm 2 = .ok (.iconst 0, 1) := by decide +kernel
theorem dX5_sumOfFilm_3 : decode cX5_sumOfFilm 3 = .ok (.istore_n 3, 1) := by decide +kernel
theorem dX5_sumOfFilm_4 : decode cX5_sumOfFilm 4 = .ok (.iload_n 3, 1) := by decide +kernel
theorem dX5_sumOfFilm_5 : decode cX5_sumOfFilm 5 = .ok (.iconst 5, 1) := by decide +kernel
theorem dX5_sumOfFilm_6 : decode cX5_sumOfFilm 6 = .ok (.if_icmp .ge 19, 3) := by decide +kernel
theorem dX5_sumOfFilm_9 : decode cX5_sumOfFilm 9 = .ok (.iload_n 2, 1) := by decide +kernel
theorem dX5_sumOfFilm_10 : decode cX5_sumOfFilm 10 = .ok (.aload_n 0, 1) := by decide +kernel
theorem dX5_sumOfFilm_11 : decode cX5_sumOfFilm 11 = .ok (.iconst 5, 1) := by decide +kernel
theorem dX5_sumOfFilm_12 : decode cX5_sumOfFilm 12 = .ok (.iload_n 1, 1) := by decide +kernel
theorem dX5_sumOfFilm_13 : decode cX5_sumOfFilm 13 = .ok (.imul, 1) := by decide +kernel
theorem dX5_sumOfFilm_14 : decode cX5_sumOfFilm 14 = .ok (.iload_n 3, 1) := by decide +kernel
theorem dX5_sumOfFilm_15 : decode cX5_sumOfFilm 15 = .ok (.iadd, 1) := by decide +kernel
theorem dX5_sumOfFilm_16 : decode cX5_sumOfFilm 16 = .ok (.iaload, 1) := by decide +kernel
theorem dX5_sumOfFilm_17 : decode cX5_sumOfFilm 17 = .ok (.iadd, 1) := by decide +kernel
theorem dX5_sumOfFilm_18 : decode cX5_sumOfFilm 18 = .ok (.istore_n 2, 1) := by decide +kernel
theorem dX5_sumOfFilm_19 : decode cX5_sumOfFilm 19 = .ok (.iinc 3 1, 3) := by decide +kernel
theorem dX5_sumOfFilm_22 : decode cX5_sumOfFilm 22 = .ok (.goto (-18), 3) := by decide +kernel
theorem dX5_sumOfFilm_25 : decode cX5_sumOfFilm 25 = .ok (.iload_n 2, 1) := by decide +kernel
theorem dX5_sumOfFilm_26 : decode cX5_sumOfFilm 26 = .ok (.ireturn, 1) := by decide +kernel
theorem dX5_rentsOf_0 : decode cX5_rentsOf 0 = .ok (.iconst 0, 1) := by decide +kernel
theorem dX5_rentsOf_1 : decode cX5_rentsOf 1 = .ok (.istore_n 2, 1) := by decide +kernel
theorem dX5_rentsOf_2 : decode cX5_rentsOf 2 = .ok (.iconst 0, 1) := by decide +kernel
theorem dX5_rentsOf_3 : decode cX5_rentsOf 3 = .ok (.istore_n 3, 1) := by decide +kernel
theorem dX5_rentsOf_4 : decode cX5_rentsOf 4 = .ok (.iload_n 3, 1) := by decide +kernel
theorem dX5_rentsOf_5 : decode cX5_rentsOf 5 = .ok (.bipush 35, 2) := by decide +kernel
theorem dX5_rentsOf_7 : decode cX5_rentsOf 7 = .ok (.if_icmp .ge 37, 3) := by decide +kernel
theorem dX5_rentsOf_10 : decode cX5_rentsOf 10 = .ok (.iload_n 2, 1) := by decide +kernel
theorem dX5_rentsOf_11 : decode cX5_rentsOf 11 = .ok (.iload_n 1, 1) := by decide +kernel
theorem dX5_rentsOf_12 : decode cX5_rentsOf 12 = .ok (.ifCond .lt 11, 3) := by decide +kernel
theorem dX5_rentsOf_15 : decode cX5_rentsOf 15 = .ok (.iload_n 3, 1) := by decide +kernel
theorem dX5_rentsOf_16 : decode cX5_rentsOf 16 = .ok (.bipush 7, 2) := by decide +kernel
theorem dX5_rentsOf_18 : decode cX5_rentsOf 18 = .ok (.idiv, 1) := by decide +kernel
theorem dX5_rentsOf_19 : decode cX5_rentsOf 19 = .ok (.iload_n 1, 1) := by decide +kernel
theorem dX5_rentsOf_20 : decode cX5_rentsOf 20 = .ok (.if_icmp .ne 15, 3) := by decide +kernel
theorem dX5_rentsOf_23 : decode cX5_rentsOf 23 = .ok (.aload_n 0, 1) := by decide +kernel
theorem dX5_rentsOf_24 : decode cX5_rentsOf 24 = .ok (.getfield 7, 3) := by decide +kernel
theorem dX5_rentsOf_27 : decode cX5_rentsOf 27 = .ok (.bipush 116, 2) := by decide +kernel
theorem dX5_rentsOf_29 : decode cX5_rentsOf 29 = .ok (.iload_n 3, 1) := by decide +kernel
theorem dX5_rentsOf_30 : decode cX5_rentsOf 30 = .ok (.iadd, 1) := by decide +kernel
theorem dX5_rentsOf_31 : decode cX5_rentsOf 31 = .ok (.iaload, 1) := by decide +kernel
theorem dX5_rentsOf_32 : decode cX5_rentsOf 32 = .ok (.goto 4, 3) := by decide +kernel
theorem dX5_rentsOf_35 : decode cX5_rentsOf 35 = .ok (.iconst 0, 1) := by decide +kernel
theorem dX5_rentsOf_36 : decode cX5_rentsOf 36 = .ok (.iadd, 1) := by decide +kernel
theorem dX5_rentsOf_37 : decode cX5_rentsOf 37 = .ok (.istore_n 2, 1) := by decide +kernel
theorem dX5_rentsOf_38 : decode cX5_rentsOf 38 = .ok (.iinc 3 1, 3) := by decide +kernel
theorem dX5_rentsOf_41 : decode cX5_rentsOf 41 = .ok (.goto (-37), 3) := by decide +kernel
theorem dX5_rentsOf_44 : decode cX5_rentsOf 44 = .ok (.iload_n 2, 1) := by decide +kernel
theorem dX5_rentsOf_45 : decode cX5_rentsOf 45 = .ok (.ireturn, 1) := by decide +kernel
theorem dX5_peopleIn_0 : decode cX5_peopleIn 0 = .ok (.iconst 0, 1) := by decide +kernel
theorem dX5_peopleIn_1 : decode cX5_peopleIn 1 = .ok (.istore_n 2, 1) := by decide +kernel
theorem dX5_peopleIn_2 : decode cX5_peopleIn 2 = .ok (.iconst 0, 1) := by decide +kernel
theorem dX5_peopleIn_3 : decode cX5_peopleIn 3 = .ok (.istore_n 3, 1) := by decide +kernel
theorem dX5_peopleIn_4 : decode cX5_peopleIn 4 = .ok (.iload_n 3, 1) := by decide +kernel
theorem dX5_peopleIn_5 : decode cX5_peopleIn 5 = .ok (.bipush 70, 2) := by decide +kernel
theorem dX5_peopleIn_7 : decode cX5_peopleIn 7 = .ok (.if_icmp .ge 34, 3) := by decide +kernel
theorem dX5_peopleIn_10 : decode cX5_peopleIn 10 = .ok (.iload_n 2, 1) := by decide +kernel
theorem dX5_peopleIn_11 : decode cX5_peopleIn 11 = .ok (.iload_n 1, 1) := by decide +kernel
theorem dX5_peopleIn_12 : decode cX5_peopleIn 12 = .ok (.ifCond .lt 11, 3) := by decide +kernel
theorem dX5_peopleIn_15 : decode cX5_peopleIn 15 = .ok (.iload_n 3, 1) := by decide +kernel
theorem dX5_peopleIn_16 : decode cX5_peopleIn 16 = .ok (.bipush 14, 2) := by decide +kernel
theorem dX5_peopleIn_18 : decode cX5_peopleIn 18 = .ok (.idiv, 1) := by decide +kernel
theorem dX5_peopleIn_19 : decode cX5_peopleIn 19 = .ok (.iload_n 1, 1) := by decide +kernel
theorem dX5_peopleIn_20 : decode cX5_peopleIn 20 = .ok (.if_icmp .ne 12, 3) := by decide +kernel
theorem dX5_peopleIn_23 : decode cX5_peopleIn 23 = .ok (.aload_n 0, 1) := by decide +kernel
theorem dX5_peopleIn_24 : decode cX5_peopleIn 24 = .ok (.getfield 25, 3) := by decide +kernel
theorem dX5_peopleIn_27 : decode cX5_peopleIn 27 = .ok (.iload_n 3, 1) := by decide +kernel
theorem dX5_peopleIn_28 : decode cX5_peopleIn 28 = .ok (.iaload, 1) := by decide +kernel
theorem dX5_peopleIn_29 : decode cX5_peopleIn 29 = .ok (.goto 4, 3) := by decide +kernel
theorem dX5_peopleIn_32 : decode cX5_peopleIn 32 = .ok (.iconst 0, 1) := by decide +kernel
theorem dX5_peopleIn_33 : decode cX5_peopleIn 33 = .ok (.iadd, 1) := by decide +kernel
theorem dX5_peopleIn_34 : decode cX5_peopleIn 34 = .ok (.istore_n 2, 1) := by decide +kernel
theorem dX5_peopleIn_35 : decode cX5_peopleIn 35 = .ok (.iinc 3 1, 3) := by decide +kernel
theorem dX5_peopleIn_38 : decode cX5_peopleIn 38 = .ok (.goto (-34), 3) := by decide +kernel
theorem dX5_peopleIn_41 : decode cX5_peopleIn 41 = .ok (.iload_n 2, 1) := by decide +kernel
theorem dX5_peopleIn_42 : decode cX5_peopleIn 42 = .ok (.ireturn, 1) := by decide +kernel
set_option maxRecDepth 20000 in
theorem ggX5_leftOf_X5_sumOf : GoodIn wsX5_leftOf wsX5_sumOf := goodIn_r _ [8] (by decide +kernel) (by decide +kernel)
set_option maxRecDepth 20000 in
theorem gX5_leftOf_X5_sumOf : GoodIn wsX5_leftOf (va_wsS RX5 82 yX5_sumOf wsX5_sumOf) := goodIn_app (goodIn_of _ (by decide +kernel)) ggX5_leftOf_X5_sumOf
set_option maxRecDepth 20000 in
theorem ggX5_leftOf_X5_rentsOf : GoodIn wsX5_leftOf wsX5_rentsOf := goodIn_r _ [12, 3, 13, 14, 15, 16, 17, 18, 19, 20, 21, 22, 23, 24, 25, 26, 27, 28, 29, 30] (by decide +kernel) (by decide +kernel)
set_option maxRecDepth 20000 in
theorem gX5_leftOf_X5_rentsOf : GoodIn wsX5_leftOf (wsV RX5 86 RX5 yX5_rentsOf wsX5_rentsOf) := goodIn_app (goodIn_of _ (by decide +kernel)) ggX5_leftOf_X5_rentsOf
theorem dX5_leftOf_0 : decode cX5_leftOf 0 = .ok (.aload_n 0, 1) := by decide +kernel
theorem dX5_leftOf_1 : decode cX5_leftOf 1 = .ok (.getfield 37, 3) := by decide +kernel
theorem dX5_leftOf_4 : decode cX5_leftOf 4 = .ok (.iload_n 1, 1) := by decide +kernel
theorem dX5_leftOf_5 : decode cX5_leftOf 5 = .ok (.invokestatic 82, 3) := by decide +kernel
theorem dX5_leftOf_8 : decode cX5_leftOf 8 = .ok (.aload_n 0, 1) := by decide +kernel
theorem dX5_leftOf_9 : decode cX5_leftOf 9 = .ok (.getfield 43, 3) := by decide +kernel
theorem dX5_leftOf_12 : decode cX5_leftOf 12 = .ok (.iload_n 1, 1) := by decide +kernel
theorem dX5_leftOf_13 : decode cX5_leftOf 13 = .ok (.invokestatic 82, 3) := by decide +kernel
theorem dX5_leftOf_16 : decode cX5_leftOf 16 = .ok (.isub, 1) := by decide +kernel
theorem dX5_leftOf_17 : decode cX5_leftOf 17 = .ok (.aload_n 0, 1) := by decide +kernel
theorem dX5_leftOf_18 : decode cX5_leftOf 18 = .ok (.getfield 7, 3) := by decide +kernel
theorem dX5_leftOf_21 : decode cX5_leftOf 21 = .ok (.iconst 2, 1) := by decide +kernel
theorem dX5_leftOf_22 : decode cX5_leftOf 22 = .ok (.iaload, 1) := by decide +kernel
theorem dX5_leftOf_23 : decode cX5_leftOf 23 = .ok (.aload_n 0, 1) := by decide +kernel
theorem dX5_leftOf_24 : decode cX5_leftOf 24 = .ok (.getfield 34, 3) := by decide +kernel
theorem dX5_leftOf_27 : decode cX5_leftOf 27 = .ok (.iload_n 1, 1) := by decide +kernel
theorem dX5_leftOf_28 : decode cX5_leftOf 28 = .ok (.invokestatic 82, 3) := by decide +kernel
theorem dX5_leftOf_31 : decode cX5_leftOf 31 = .ok (.imul, 1) := by decide +kernel
theorem dX5_leftOf_32 : decode cX5_leftOf 32 = .ok (.isub, 1) := by decide +kernel
theorem dX5_leftOf_33 : decode cX5_leftOf 33 = .ok (.aload_n 0, 1) := by decide +kernel
theorem dX5_leftOf_34 : decode cX5_leftOf 34 = .ok (.iload_n 1, 1) := by decide +kernel
theorem dX5_leftOf_35 : decode cX5_leftOf 35 = .ok (.invokevirtual 86, 3) := by decide +kernel
theorem dX5_leftOf_38 : decode cX5_leftOf 38 = .ok (.iadd, 1) := by decide +kernel
theorem dX5_leftOf_39 : decode cX5_leftOf 39 = .ok (.ireturn, 1) := by decide +kernel
set_option maxRecDepth 20000 in
theorem ggX5_leftNow_X5_reckon : GoodIn wsX5_leftNow wsX5_reckon := goodIn_r _ [5, 6, 7, 8, 4, 9, 10, 11, 12, 13, 14, 15, 16, 17, 18, 19, 20, 21, 22, 23, 24, 25, 26, 27, 28, 29, 30, 31, 32, 33, 34, 35, 36, 37, 38, 39, 40, 41, 53, 54, 55, 56, 57, 58, 59, 60, 61, 62, 63, 64, 65, 66, 67, 68, 69, 70] (by decide +kernel) (by decide +kernel)
set_option maxRecDepth 20000 in
theorem gX5_leftNow_X5_reckon : GoodIn wsX5_leftNow (wsV RX5 89 RX5 yX5_reckon wsX5_reckon) := goodIn_app (goodIn_of _ (by decide +kernel)) ggX5_leftNow_X5_reckon
set_option maxRecDepth 20000 in
theorem ggX5_leftNow_X5_leftOf : GoodIn wsX5_leftNow wsX5_leftOf := goodIn_r _ [45, 27, 33, 11, 26, 46, 47, 4, 48, 49, 50, 51, 52, 53, 54, 55, 56, 57, 58, 59, 60, 61, 62, 63, 64, 65, 66, 67, 68, 69, 70] (by decide +kernel) (by decide +kernel)
set_option maxRecDepth 20000 in
theorem gX5_leftNow_X5_leftOf : GoodIn wsX5_leftNow (wsV RX5 92 RX5 yX5_leftOf wsX5_leftOf) := goodIn_app (goodIn_of _ (by decide +kernel)) ggX5_leftNow_X5_leftOf
theorem dX5_leftNow_0 : decode cX5_leftNow 0 = .ok (.aload_n 0, 1) := by decide +kernel
theorem dX5_leftNow_1 : decode cX5_leftNow 1 = .ok (.invokevirtual 89, 3) := by decide +kernel
theorem dX5_leftNow_4 : decode cX5_leftNow 4 = .ok (.aload_n 0, 1) := by decide +kernel
theorem dX5_leftNow_5 : decode cX5_leftNow 5 = .ok (.iconst (-1), 1) := by decide +kernel
theorem dX5_leftNow_6 : decode cX5_leftNow 6 = .ok (.invokevirtual 92, 3) := by decide +kernel
theorem dX5_leftNow_9 : decode cX5_leftNow 9 = .ok (.ireturn, 1) := by decide +kernel
set_option maxRecDepth 20000 in
theorem ggX5_isValue_X5_within : GoodIn wsX5_isValue wsX5_within := goodIn_r _ [4] (by decide +kernel) (by decide +kernel)
set_option maxRecDepth 20000 in
theorem gX5_isValue_X5_within : GoodIn wsX5_isValue (va_wsS RX5 54 yX5_within wsX5_within) := goodIn_app (goodIn_of _ (by decide +kernel)) ggX5_isValue_X5_within
theorem dX5_isValue_0 : decode cX5_isValue 0 = .ok (.iload_n 0, 1) := by decide +kernel
theorem dX5_isValue_1 : decode cX5_isValue 1 = .ok (.tableswitch 70 0 4 #[35, 45, 53, 62, 62], 35) := by decide +kernel
theorem dX5_isValue_36 : decode cX5_isValue 36 = .ok (.iload_n 1, 1) := by decide +kernel
theorem dX5_isValue_37 : decode cX5_isValue 37 = .ok (.bipush 10, 2) := by decide +kernel
theorem dX5_isValue_39 : decode cX5_isValue 39 = .ok (.sipush 300, 3) := by decide +kernel
theorem dX5_isValue_42 : decode cX5_isValue 42 = .ok (.invokestatic 54, 3) := by decide +kernel
theorem dX5_isValue_45 : decode cX5_isValue 45 = .ok (.ireturn, 1) := by decide +kernel
theorem dX5_isValue_46 : decode cX5_isValue 46 = .ok (.iload_n 1, 1) := by decide +kernel
theorem dX5_isValue_47 : decode cX5_isValue 47 = .ok (.iconst 1, 1) := by decide +kernel
theorem dX5_isValue_48 : decode cX5_isValue 48 = .ok (.bipush 20, 2) := by decide +kernel
theorem dX5_isValue_50 : decode cX5_isValue 50 = .ok (.invokestatic 54, 3) := by decide +kernel
theorem dX5_isValue_53 : decode cX5_isValue 53 = .ok (.ireturn, 1) := by decide +kernel
theorem dX5_isValue_54 : decode cX5_isValue 54 = .ok (.iload_n 1, 1) := by decide +kernel
theorem dX5_isValue_55 : decode cX5_isValue 55 = .ok (.iconst 0, 1) := by decide +kernel
theorem dX5_isValue_56 : decode cX5_isValue 56 = .ok (.sipush 200, 3) := by decide +kernel
theorem dX5_isValue_59 : decode cX5_isValue 59 = .ok (.invokestatic 54, 3) := by decide +kernel
theorem dX5_isValue_62 : decode cX5_isValue 62 = .ok (.ireturn, 1) := by decide +kernel
theorem dX5_isValue_63 : decode cX5_isValue 63 = .ok (.iload_n 1, 1) := by decide +kernel
theorem dX5_isValue_64 : decode cX5_isValue 64 = .ok (.iconst 1, 1) := by decide +kernel
theorem dX5_isValue_65 : decode cX5_isValue 65 = .ok (.bipush 100, 2) := by decide +kernel
theorem dX5_isValue_67 : decode cX5_isValue 67 = .ok (.invokestatic 54, 3) := by decide +kernel
theorem dX5_isValue_70 : decode cX5_isValue 70 = .ok (.ireturn, 1) := by decide +kernel
theorem dX5_isValue_71 : decode cX5_isValue 71 = .ok (.iconst 0, 1) := by decide +kernel
theorem dX5_isValue_72 : decode cX5_isValue 72 = .ok (.ireturn, 1) := by decide +kernel
set_option maxRecDepth 20000 in
theorem ggX5_set_X5_isValue : GoodIn wsX5_set wsX5_isValue := goodIn_r _ [5, 6, 7, 4, 8] (by decide +kernel) (by decide +kernel)
set_option maxRecDepth 20000 in
theorem gX5_set_X5_isValue : GoodIn wsX5_set (va_wsS RX5 95 yX5_isValue wsX5_isValue) := goodIn_app (goodIn_of _ (by decide +kernel)) ggX5_set_X5_isValue
set_option maxRecDepth 20000 in
theorem ggX5_set_X5_record : GoodIn wsX5_set wsX5_record := goodIn_r _ [12, 13, 14, 1, 15, 16, 4, 17, 18, 19, 20, 21, 22, 23, 24, 25, 26, 27, 28, 29, 30, 31, 32, 33, 34, 35] (by decide +kernel) (by decide +kernel)
set_option maxRecDepth 20000 in
theorem gX5_set_X5_record : GoodIn wsX5_set (wsV RX5 99 RX5 yX5_record wsX5_record) := goodIn_app (goodIn_of _ (by decide +kernel)) ggX5_set_X5_record
theorem dX5_set_0 : decode cX5_set 0 = .ok (.iload_n 1, 1) := by decide +kernel
theorem dX5_set_1 : decode cX5_set 1 = .ok (.iload_n 2, 1) := by decide +kernel
theorem dX5_set_2 : decode cX5_set 2 = .ok (.invokestatic 95, 3) := by decide +kernel
theorem dX5_set_5 : decode cX5_set 5 = .ok (.ifCond .ne 6, 3) := by decide +kernel
theorem dX5_set_8 : decode cX5_set 8 = .ok (.bipush (-2), 2) := by decide +kernel
theorem dX5_set_10 : decode cX5_set 10 = .ok (.ireturn, 1) := by decide +kernel
theorem dX5_set_11 : decode cX5_set 11 = .ok (.aload_n 0, 1) := by decide +kernel
theorem dX5_set_12 : decode cX5_set 12 = .ok (.invokevirtual 99, 3) := by decide +kernel
theorem dX5_set_15 : decode cX5_set 15 = .ok (.aload_n 0, 1) := by decide +kernel
theorem dX5_set_16 : decode cX5_set 16 = .ok (.getfield 7, 3) := by decide +kernel
theorem dX5_set_19 : decode cX5_set 19 = .ok (.iload_n 1, 1) := by decide +kernel
theorem dX5_set_20 : decode cX5_set 20 = .ok (.iaload, 1) := by decide +kernel
theorem dX5_set_21 : decode cX5_set 21 = .ok (.istore_n 3, 1) := by decide +kernel
theorem dX5_set_22 : decode cX5_set 22 = .ok (.aload_n 0, 1) := by decide +kernel
theorem dX5_set_23 : decode cX5_set 23 = .ok (.getfield 7, 3) := by decide +kernel
theorem dX5_set_26 : decode cX5_set 26 = .ok (.iload_n 1, 1) := by decide +kernel
theorem dX5_set_27 : decode cX5_set 27 = .ok (.iload_n 2, 1) := by decide +kernel
theorem dX5_set_28 : decode cX5_set 28 = .ok (.iastore, 1) := by decide +kernel
theorem dX5_set_29 : decode cX5_set 29 = .ok (.iload_n 3, 1) := by decide +kernel
theorem dX5_set_30 : decode cX5_set 30 = .ok (.ireturn, 1) := by decide +kernel
set_option maxRecDepth 20000 in
theorem ggX5_film_X5_within : GoodIn wsX5_film wsX5_within := goodIn_r _ [5] (by decide +kernel) (by decide +kernel)
set_option maxRecDepth 20000 in
theorem gX5_film_X5_within : GoodIn wsX5_film (va_wsS RX5 54 yX5_within wsX5_within) := goodIn_app (goodIn_of _ (by decide +kernel)) ggX5_film_X5_within
set_option maxRecDepth 20000 in
theorem ggX5_film_X5_record : GoodIn wsX5_film wsX5_record := goodIn_r _ [9, 10, 11, 1, 12, 13, 4, 14, 15, 16, 17, 18, 19, 20, 21, 22, 23, 24, 25, 26, 27, 28, 29, 30, 31, 32] (by decide +kernel) (by decide +kernel)
set_option maxRecDepth 20000 in
theorem gX5_film_X5_record : GoodIn wsX5_film (wsV RX5 99 RX5 yX5_record wsX5_record) := goodIn_app (goodIn_of _ (by decide +kernel)) ggX5_film_X5_record
theorem dX5_film_0 : decode cX5_film 0 = .ok (.iload_n 1, 1) := by decide +kernel
theorem dX5_film_1 : decode cX5_film 1 = .ok (.iconst 0, 1) := by decide +kernel
theorem dX5_film_2 : decode cX5_film 2 = .ok (.iconst 3, 1) := by decide +kernel
theorem dX5_film_3 : decode cX5_film 3 = .ok (.invokestatic 54, 3) := by decide +kernel
theorem dX5_film_6 : decode cX5_film 6 = .ok (.ifCond .eq 48, 3) := by decide +kernel
theorem dX5_film_9 : decode cX5_film 9 = .ok (.iload_n 2, 1) := by decide +kernel
theorem dX5_film_10 : decode cX5_film 10 = .ok (.iconst 1, 1) := by decide +kernel
theorem dX5_film_11 : decode cX5_film 11 = .ok (.sipush 999, 3) := by decide +kernel
theorem dX5_film_14 : decode cX5_film 14 = .ok (.invokestatic 54, 3) := by decide +kernel
theorem dX5_film_17 : decode cX5_film 17 = .ok (.ifCond .eq 37, 3) := by decide +kernel
theorem dX5_film_20 : decode cX5_film 20 = .ok (.iload_n 3, 1) := by decide +kernel
theorem dX5_film_21 : decode cX5_film 21 = .ok (.iconst 0, 1) := by decide +kernel
theorem dX5_film_22 : decode cX5_film 22 = .ok (.sipush 500, 3) := by decide +kernel
theorem dX5_film_25 : decode cX5_film 25 = .ok (.invokestatic 54, 3) := by decide +kernel
theorem dX5_film_28 : decode cX5_film 28 = .ok (.ifCond .eq 26, 3) := by decide +kernel
theorem dX5_film_31 : decode cX5_film 31 = .ok (.iload 4, 2) := by decide +kernel
theorem dX5_film_33 : decode cX5_film 33 = .ok (.bipush 20, 2) := by decide +kernel
theorem dX5_film_35 : decode cX5_film 35 = .ok (.bipush 90, 2) := by decide +kernel
theorem dX5_film_37 : decode cX5_film 37 = .ok (.invokestatic 54, 3) := by decide +kernel
theorem dX5_film_40 : decode cX5_film 40 = .ok (.ifCond .eq 14, 3) := by decide +kernel
theorem dX5_film_43 : decode cX5_film 43 = .ok (.iload 5, 2) := by decide +kernel
theorem dX5_film_45 : decode cX5_film 45 = .ok (.iconst 0, 1) := by decide +kernel
theorem dX5_film_46 : decode cX5_film 46 = .ok (.bipush 34, 2) := by decide +kernel
theorem dX5_film_48 : decode cX5_film 48 = .ok (.invokestatic 54, 3) := by decide +kernel
theorem dX5_film_51 : decode cX5_film 51 = .ok (.ifCond .ne 6, 3) := by decide +kernel
theorem dX5_film_54 : decode cX5_film 54 = .ok (.bipush (-2), 2) := by decide +kernel
theorem dX5_film_56 : decode cX5_film 56 = .ok (.ireturn, 1) := by decide +kernel
theorem dX5_film_57 : decode cX5_film 57 = .ok (.aload_n 0, 1) := by decide +kernel
theorem dX5_film_58 : decode cX5_film 58 = .ok (.getfield 7, 3) := by decide +kernel
theorem dX5_film_61 : decode cX5_film 61 = .ok (.iconst 5, 1) := by decide +kernel
theorem dX5_film_62 : decode cX5_film 62 = .ok (.iaload, 1) := by decide +kernel
theorem dX5_film_63 : decode cX5_film 63 = .ok (.bipush 8, 2) := by decide +kernel
theorem dX5_film_65 : decode cX5_film 65 = .ok (.if_icmp .ne 6, 3) := by decide +kernel
theorem dX5_film_68 : decode cX5_film 68 = .ok (.bipush (-4), 2) := by decide +kernel
theorem dX5_film_70 : decode cX5_film 70 = .ok (.ireturn, 1) := by decide +kernel
theorem dX5_film_71 : decode cX5_film 71 = .ok (.aload_n 0, 1) := by decide +kernel
theorem dX5_film_72 : decode cX5_film 72 = .ok (.invokevirtual 99, 3) := by decide +kernel
theorem dX5_film_75 : decode cX5_film 75 = .ok (.bipush 6, 2) := by decide +kernel
theorem dX5_film_77 : decode cX5_film 77 = .ok (.iconst 5, 1) := by decide +kernel
theorem dX5_film_78 : decode cX5_film 78 = .ok (.aload_n 0, 1) := by decide +kernel
theorem dX5_film_79 : decode cX5_film 79 = .ok (.getfield 7, 3) := by decide +kernel
theorem dX5_film_82 : decode cX5_film 82 = .ok (.iconst 5, 1) := by decide +kernel
theorem dX5_film_83 : decode cX5_film 83 = .ok (.iaload, 1) := by decide +kernel
theorem dX5_film_84 : decode cX5_film 84 = .ok (.imul, 1) := by decide +kernel
theorem dX5_film_85 : decode cX5_film 85 = .ok (.iadd, 1) := by decide +kernel
theorem dX5_film_86 : decode cX5_film 86 = .ok (.istore 6, 2) := by decide +kernel
theorem dX5_film_88 : decode cX5_film 88 = .ok (.aload_n 0, 1) := by decide +kernel
theorem dX5_film_89 : decode cX5_film 89 = .ok (.getfield 7, 3) := by decide +kernel
theorem dX5_film_92 : decode cX5_film 92 = .ok (.iload 6, 2) := by decide +kernel
theorem dX5_film_94 : decode cX5_film 94 = .ok (.iconst 0, 1) := by decide +kernel
theorem dX5_film_95 : decode cX5_film 95 = .ok (.iadd, 1) := by decide +kernel
theorem dX5_film_96 : decode cX5_film 96 = .ok (.iload_n 1, 1) := by decide +kernel
theorem dX5_film_97 : decode cX5_film 97 = .ok (.iastore, 1) := by decide +kernel
theorem dX5_film_98 : decode cX5_film 98 = .ok (.aload_n 0, 1) := by decide +kernel
theorem dX5_film_99 : decode cX5_film 99 = .ok (.getfield 7, 3) := by decide +kernel
theorem dX5_film_102 : decode cX5_film 102 = .ok (.iload 6, 2) := by decide +kernel
theorem dX5_film_104 : decode cX5_film 104 = .ok (.iconst 1, 1) := by decide +kernel
theorem dX5_film_105 : decode cX5_film 105 = .ok (.iadd, 1) := by decide +kernel
theorem dX5_film_106 : decode cX5_film 106 = .ok (.iload_n 2, 1) := by decide +kernel
theorem dX5_film_107 : decode cX5_film 107 = .ok (.iastore, 1) := by decide +kernel
theorem dX5_film_108 : decode cX5_film 108 = .ok (.aload_n 0, 1) := by decide +kernel
theorem dX5_film_109 : decode cX5_film 109 = .ok (.getfield 7, 3) := by decide +kernel
theorem dX5_film_112 : decode cX5_film 112 = .ok (.iload 6, 2) := by decide +kernel
theorem dX5_film_114 : decode cX5_film 114 = .ok (.iconst 2, 1) := by decide +kernel
theorem dX5_film_115 : decode cX5_film 115 = .ok (.iadd, 1) := by decide +kernel
theorem dX5_film_116 : decode cX5_film 116 = .ok (.iload_n 3, 1) := by decide +kernel
theorem dX5_film_117 : decode cX5_film 117 = .ok (.iastore, 1) := by decide +kernel
theorem dX5_film_118 : decode cX5_film 118 = .ok (.aload_n 0, 1) := by decide +kernel
theorem dX5_film_119 : decode cX5_film 119 = .ok (.getfield 7, 3) := by decide +kernel
theorem dX5_film_122 : decode cX5_film 122 = .ok (.iload 6, 2) := by decide +kernel
theorem dX5_film_124 : decode cX5_film 124 = .ok (.iconst 3, 1) := by decide +kernel
theorem dX5_film_125 : decode cX5_film 125 = .ok (.iadd, 1) := by decide +kernel
theorem dX5_film_126 : decode cX5_film 126 = .ok (.iload 4, 2) := by decide +kernel
theorem dX5_film_128 : decode cX5_film 128 = .ok (.iastore, 1) := by decide +kernel
theorem dX5_film_129 : decode cX5_film 129 = .ok (.aload_n 0, 1) := by decide +kernel
theorem dX5_film_130 : decode cX5_film 130 = .ok (.getfield 7, 3) := by decide +kernel
theorem dX5_film_133 : decode cX5_film 133 = .ok (.iload 6, 2) := by decide +kernel
theorem dX5_film_135 : decode cX5_film 135 = .ok (.iconst 4, 1) := by decide +kernel
theorem dX5_film_136 : decode cX5_film 136 = .ok (.iadd, 1) := by decide +kernel
theorem dX5_film_137 : decode cX5_film 137 = .ok (.iload 5, 2) := by decide +kernel
theorem dX5_film_139 : decode cX5_film 139 = .ok (.iastore, 1) := by decide +kernel
theorem dX5_film_140 : decode cX5_film 140 = .ok (.aload_n 0, 1) := by decide +kernel
theorem dX5_film_141 : decode cX5_film 141 = .ok (.getfield 7, 3) := by decide +kernel
theorem dX5_film_144 : decode cX5_film 144 = .ok (.iconst 5, 1) := by decide +kernel
theorem dX5_film_145 : decode cX5_film 145 = .ok (.dup2, 1) := by decide +kernel
theorem dX5_film_146 : decode cX5_film 146 = .ok (.iaload, 1) := by decide +kernel
theorem dX5_film_147 : decode cX5_film 147 = .ok (.iconst 1, 1) := by decide +kernel
theorem dX5_film_148 : decode cX5_film 148 = .ok (.iadd, 1) := by decide +kernel
theorem dX5_film_149 : decode cX5_film 149 = .ok (.iastore, 1) := by decide +kernel
theorem dX5_film_150 : decode cX5_film 150 = .ok (.aload_n 0, 1) := by decide +kernel
theorem dX5_film_151 : decode cX5_film 151 = .ok (.getfield 7, 3) := by decide +kernel
theorem dX5_film_154 : decode cX5_film 154 = .ok (.iconst 5, 1) := by decide +kernel
theorem dX5_film_155 : decode cX5_film 155 = .ok (.iaload, 1) := by decide +kernel
theorem dX5_film_156 : decode cX5_film 156 = .ok (.iconst 1, 1) := by decide +kernel
theorem dX5_film_157 : decode cX5_film 157 = .ok (.isub, 1) := by decide +kernel
theorem dX5_film_158 : decode cX5_film 158 = .ok (.ireturn, 1) := by decide +kernel
set_option maxRecDepth 20000 in
theorem ggX5_canShow_X5_isLet : GoodIn wsX5_canShow wsX5_isLet := goodIn_r _ [5, 6, 11, 12, 13, 14, 15, 16, 17, 18, 19, 20, 21, 22, 23, 24, 25, 26, 27, 28] (by decide +kernel) (by decide +kernel)
set_option maxRecDepth 20000 in
theorem gX5_canShow_X5_isLet : GoodIn wsX5_canShow (wsV RX5 102 RX5 yX5_isLet wsX5_isLet) := goodIn_app (goodIn_of _ (by decide +kernel)) ggX5_canShow_X5_isLet
set_option maxRecDepth 20000 in
theorem ggX5_canShow_X5_filmPart : GoodIn wsX5_canShow wsX5_filmPart := goodIn_r _ [10, 6, 11, 12, 13, 14, 15, 16, 17, 18, 19, 20, 21, 22, 23, 24, 25, 26, 27, 28] (by decide +kernel) (by decide +kernel)
set_option maxRecDepth 20000 in
theorem gX5_canShow_X5_filmPart : GoodIn wsX5_canShow (wsV RX5 58 RX5 yX5_filmPart wsX5_filmPart) := goodIn_app (goodIn_of _ (by decide +kernel)) ggX5_canShow_X5_filmPart
theorem dX5_canShow_0 : decode cX5_canShow 0 = .ok (.aload_n 0, 1) := by decide +kernel
theorem dX5_canShow_1 : decode cX5_canShow 1 = .ok (.iload_n 2, 1) := by decide +kernel
theorem dX5_canShow_2 : decode cX5_canShow 2 = .ok (.invokevirtual 102, 3) := by decide +kernel
theorem dX5_canShow_5 : decode cX5_canShow 5 = .ok (.ifCond .ne 17, 3) := by decide +kernel
theorem dX5_canShow_8 : decode cX5_canShow 8 = .ok (.iload_n 2, 1) := by decide +kernel
theorem dX5_canShow_9 : decode cX5_canShow 9 = .ok (.aload_n 0, 1) := by decide +kernel
theorem dX5_canShow_10 : decode cX5_canShow 10 = .ok (.iload_n 1, 1) := by decide +kernel
theorem dX5_canShow_11 : decode cX5_canShow 11 = .ok (.iconst 4, 1) := by decide +kernel
theorem dX5_canShow_12 : decode cX5_canShow 12 = .ok (.invokevirtual 58, 3) := by decide +kernel
theorem dX5_canShow_15 : decode cX5_canShow 15 = .ok (.if_icmp .lt 7, 3) := by decide +kernel
theorem dX5_canShow_18 : decode cX5_canShow 18 = .ok (.iconst 1, 1) := by decide +kernel
theorem dX5_canShow_19 : decode cX5_canShow 19 = .ok (.goto 4, 3) := by decide +kernel
theorem dX5_canShow_22 : decode cX5_canShow 22 = .ok (.iconst 0, 1) := by decide +kernel
theorem dX5_canShow_23 : decode cX5_canShow 23 = .ok (.ireturn, 1) := by decide +kernel
set_option maxRecDepth 20000 in
theorem ggX5_whyNotShown_X5_isFilm : GoodIn wsX5_whyNotShown wsX5_isFilm := goodIn_r _ [5, 6, 7, 8, 4, 9, 25, 26, 27, 28, 29, 30, 31, 32, 33, 34, 35, 36, 37, 38, 39, 40, 41, 42] (by decide +kernel) (by decide +kernel)
set_option maxRecDepth 20000 in
theorem gX5_whyNotShown_X5_isFilm : GoodIn wsX5_whyNotShown (wsV RX5 106 RX5 yX5_isFilm wsX5_isFilm) := goodIn_app (goodIn_of _ (by decide +kernel)) ggX5_whyNotShown_X5_isFilm
set_option maxRecDepth 20000 in
theorem ggX5_whyNotShown_X5_isPart : GoodIn wsX5_whyNotShown wsX5_isPart := goodIn_r _ [12, 7, 8, 4, 9] (by decide +kernel) (by decide +kernel)
set_option maxRecDepth 20000 in
theorem gX5_whyNotShown_X5_isPart : GoodIn wsX5_whyNotShown (va_wsS RX5 109 yX5_isPart wsX5_isPart) := goodIn_app (goodIn_of _ (by decide +kernel)) ggX5_whyNotShown_X5_isPart
set_option maxRecDepth 20000 in
theorem ggX5_whyNotShown_X5_canShow : GoodIn wsX5_whyNotShown wsX5_canShow := goodIn_r _ [16, 17, 18, 19, 4, 20, 6, 21, 22, 23, 24, 25, 26, 27, 28, 29, 30, 31, 32, 33, 34, 35, 36, 37, 38, 39, 40, 41, 42] (by decide +kernel) (by decide +kernel)
set_option maxRecDepth 20000 in
theorem gX5_whyNotShown_X5_canShow : GoodIn wsX5_whyNotShown (wsV RX5 112 RX5 yX5_canShow wsX5_canShow) := goodIn_app (goodIn_of _ (by decide +kernel)) ggX5_whyNotShown_X5_canShow
theorem dX5_whyNotShown_0 : decode cX5_whyNotShown 0 = .ok (.aload_n 0, 1) := by decide +kernel
theorem dX5_whyNotShown_1 : decode cX5_whyNotShown 1 = .ok (.iload_n 1, 1) := by decide +kernel
theorem dX5_whyNotShown_2 : decode cX5_whyNotShown 2 = .ok (.invokevirtual 106, 3) := by decide +kernel
theorem dX5_whyNotShown_5 : decode cX5_whyNotShown 5 = .ok (.ifCond .ne 5, 3) := by decide +kernel
theorem dX5_whyNotShown_8 : decode cX5_whyNotShown 8 = .ok (.iconst (-1), 1) := by decide +kernel
theorem dX5_whyNotShown_9 : decode cX5_whyNotShown 9 = .ok (.ireturn, 1) := by decide +kernel
theorem dX5_whyNotShown_10 : decode cX5_whyNotShown 10 = .ok (.iload_n 2, 1) := by decide +kernel
theorem dX5_whyNotShown_11 : decode cX5_whyNotShown 11 = .ok (.iload_n 3, 1) := by decide +kernel
theorem dX5_whyNotShown_12 : decode cX5_whyNotShown 12 = .ok (.invokestatic 109, 3) := by decide +kernel
theorem dX5_whyNotShown_15 : decode cX5_whyNotShown 15 = .ok (.ifCond .ne 8, 3) := by decide +kernel
theorem dX5_whyNotShown_18 : decode cX5_whyNotShown 18 = .ok (.bipush (-2), 2) := by decide +kernel
theorem dX5_whyNotShown_20 : decode cX5_whyNotShown 20 = .ok (.goto 18, 3) := by decide +kernel
theorem dX5_whyNotShown_23 : decode cX5_whyNotShown 23 = .ok (.aload_n 0, 1) := by decide +kernel
theorem dX5_whyNotShown_24 : decode cX5_whyNotShown 24 = .ok (.iload_n 1, 1) := by decide +kernel
theorem dX5_whyNotShown_25 : decode cX5_whyNotShown 25 = .ok (.iload_n 2, 1) := by decide +kernel
theorem dX5_whyNotShown_26 : decode cX5_whyNotShown 26 = .ok (.invokevirtual 112, 3) := by decide +kernel
theorem dX5_whyNotShown_29 : decode cX5_whyNotShown 29 = .ok (.ifCond .eq 7, 3) := by decide +kernel
theorem dX5_whyNotShown_32 : decode cX5_whyNotShown 32 = .ok (.iconst 0, 1) := by decide +kernel
theorem dX5_whyNotShown_33 : decode cX5_whyNotShown 33 = .ok (.goto 5, 3) := by decide +kernel
theorem dX5_whyNotShown_36 : decode cX5_whyNotShown 36 = .ok (.bipush (-5), 2) := by decide +kernel
theorem dX5_whyNotShown_38 : decode cX5_whyNotShown 38 = .ok (.ireturn, 1) := by decide +kernel
set_option maxRecDepth 20000 in
theorem ggX5_show_X5_whyNotShown : GoodIn wsX5_show wsX5_whyNotShown := goodIn_r _ [6, 7, 8, 9, 5, 10, 1, 11, 12, 13, 14, 15, 16, 17, 18, 19, 20, 21, 22, 23, 24, 25, 26, 27, 28, 42, 43, 44, 45, 46, 47, 48, 49, 50, 51, 52, 53, 54, 55, 56, 57, 58, 59] (by decide +kernel) (by decide +kernel)
set_option maxRecDepth 20000 in
theorem gX5_show_X5_whyNotShown : GoodIn wsX5_show (wsV RX5 115 RX5 yX5_whyNotShown wsX5_whyNotShown) := goodIn_app (goodIn_of _ (by decide +kernel)) ggX5_show_X5_whyNotShown
set_option maxRecDepth 20000 in
theorem ggX5_show_X5_record : GoodIn wsX5_show wsX5_record := goodIn_r _ [32, 33, 34, 1, 35, 36, 5, 37, 42, 43, 44, 45, 46, 47, 48, 49, 50, 51, 52, 53, 54, 55, 56, 57, 58, 59] (by decide +kernel) (by decide +kernel)
set_option maxRecDepth 20000 in
theorem gX5_show_X5_record : GoodIn wsX5_show (wsV RX5 99 RX5 yX5_record wsX5_record) := goodIn_app (goodIn_of _ (by decide +kernel)) ggX5_show_X5_record
set_option maxRecDepth 20000 in
theorem ggX5_show_X5_showAt : GoodIn wsX5_show wsX5_showAt := goodIn_r _ [41, 1, 42, 43, 44, 45, 46, 47, 48, 49, 50, 51, 52, 53, 54, 55, 56, 57, 58, 59] (by decide +kernel) (by decide +kernel)
set_option maxRecDepth 20000 in
theorem gX5_show_X5_showAt : GoodIn wsX5_show (wsV RX5 119 RX5 yX5_showAt wsX5_showAt) := goodIn_app (goodIn_of _ (by decide +kernel)) ggX5_show_X5_showAt
theorem dX5_show_0 : decode cX5_show 0 = .ok (.aload_n 0, 1) := by decide +kernel
theorem dX5_show_1 : decode cX5_show 1 = .ok (.iload_n 1, 1) := by decide +kernel
theorem dX5_show_2 : decode cX5_show 2 = .ok (.iload_n 2, 1) := by decide +kernel
theorem dX5_show_3 : decode cX5_show 3 = .ok (.iload_n 3, 1) := by decide +kernel
theorem dX5_show_4 : decode cX5_show 4 = .ok (.invokevirtual 115, 3) := by decide +kernel
theorem dX5_show_7 : decode cX5_show 7 = .ok (.istore 4, 2) := by decide +kernel
theorem dX5_show_9 : decode cX5_show 9 = .ok (.iload 4, 2) := by decide +kernel
theorem dX5_show_11 : decode cX5_show 11 = .ok (.ifCond .ge 6, 3) := by decide +kernel
theorem dX5_show_14 : decode cX5_show 14 = .ok (.iload 4, 2) := by decide +kernel
theorem dX5_show_16 : decode cX5_show 16 = .ok (.ireturn, 1) := by decide +kernel
theorem dX5_show_17 : decode cX5_show 17 = .ok (.aload_n 0, 1) := by decide +kernel
theorem dX5_show_18 : decode cX5_show 18 = .ok (.invokevirtual 99, 3) := by decide +kernel
theorem dX5_show_21 : decode cX5_show 21 = .ok (.aload_n 0, 1) := by decide +kernel
theorem dX5_show_22 : decode cX5_show 22 = .ok (.iload_n 2, 1) := by decide +kernel
theorem dX5_show_23 : decode cX5_show 23 = .ok (.iload_n 3, 1) := by decide +kernel
theorem dX5_show_24 : decode cX5_show 24 = .ok (.invokevirtual 119, 3) := by decide +kernel
theorem dX5_show_27 : decode cX5_show 27 = .ok (.istore 5, 2) := by decide +kernel
theorem dX5_show_29 : decode cX5_show 29 = .ok (.aload_n 0, 1) := by decide +kernel
theorem dX5_show_30 : decode cX5_show 30 = .ok (.getfield 7, 3) := by decide +kernel
theorem dX5_show_33 : decode cX5_show 33 = .ok (.bipush 46, 2) := by decide +kernel
theorem dX5_show_35 : decode cX5_show 35 = .ok (.iconst 2, 1) := by decide +kernel
theorem dX5_show_36 : decode cX5_show 36 = .ok (.iload_n 2, 1) := by decide +kernel
theorem dX5_show_37 : decode cX5_show 37 = .ok (.imul, 1) := by decide +kernel
theorem dX5_show_38 : decode cX5_show 38 = .ok (.iadd, 1) := by decide +kernel
theorem dX5_show_39 : decode cX5_show 39 = .ok (.iload_n 3, 1) := by decide +kernel
theorem dX5_show_40 : decode cX5_show 40 = .ok (.iadd, 1) := by decide +kernel
theorem dX5_show_41 : decode cX5_show 41 = .ok (.iload_n 1, 1) := by decide +kernel
theorem dX5_show_42 : decode cX5_show 42 = .ok (.iastore, 1) := by decide +kernel
theorem dX5_show_43 : decode cX5_show 43 = .ok (.iload 5, 2) := by decide +kernel
theorem dX5_show_45 : decode cX5_show 45 = .ok (.ireturn, 1) := by decide +kernel
set_option maxRecDepth 20000 in
theorem ggX5_drop_X5_isPart : GoodIn wsX5_drop wsX5_isPart := goodIn_r _ [5, 6, 7, 4, 8] (by decide +kernel) (by decide +kernel)
set_option maxRecDepth 20000 in
theorem gX5_drop_X5_isPart : GoodIn wsX5_drop (va_wsS RX5 109 yX5_isPart wsX5_isPart) := goodIn_app (goodIn_of _ (by decide +kernel)) ggX5_drop_X5_isPart
set_option maxRecDepth 20000 in
theorem ggX5_drop_X5_showAt : GoodIn wsX5_drop wsX5_showAt := goodIn_r _ [12, 1, 22, 23, 24, 25, 26, 27, 28, 29, 30, 31, 32, 33, 34, 35, 36, 37, 38, 39] (by decide +kernel) (by decide +kernel)
set_option maxRecDepth 20000 in
theorem gX5_drop_X5_showAt : GoodIn wsX5_drop (wsV RX5 119 RX5 yX5_showAt wsX5_showAt) := goodIn_app (goodIn_of _ (by decide +kernel)) ggX5_drop_X5_showAt
set_option maxRecDepth 20000 in
theorem ggX5_drop_X5_record : GoodIn wsX5_drop wsX5_record := goodIn_r _ [16, 17, 18, 1, 19, 20, 4, 21, 22, 23, 24, 25, 26, 27, 28, 29, 30, 31, 32, 33, 34, 35, 36, 37, 38, 39] (by decide +kernel) (by decide +kernel)
set_option maxRecDepth 20000 in
theorem gX5_drop_X5_record : GoodIn wsX5_drop (wsV RX5 99 RX5 yX5_record wsX5_record) := goodIn_app (goodIn_of _ (by decide +kernel)) ggX5_drop_X5_record
theorem dX5_drop_0 : decode cX5_drop 0 = .ok (.iload_n 1, 1) := by decide +kernel
theorem dX5_drop_1 : decode cX5_drop 1 = .ok (.iload_n 2, 1) := by decide +kernel
theorem dX5_drop_2 : decode cX5_drop 2 = .ok (.invokestatic 109, 3) := by decide +kernel
theorem dX5_drop_5 : decode cX5_drop 5 = .ok (.ifCond .ne 6, 3) := by decide +kernel
theorem dX5_drop_8 : decode cX5_drop 8 = .ok (.bipush (-2), 2) := by decide +kernel
theorem dX5_drop_10 : decode cX5_drop 10 = .ok (.ireturn, 1) := by decide +kernel
theorem dX5_drop_11 : decode cX5_drop 11 = .ok (.aload_n 0, 1) := by decide +kernel
theorem dX5_drop_12 : decode cX5_drop 12 = .ok (.iload_n 1, 1) := by decide +kernel
theorem dX5_drop_13 : decode cX5_drop 13 = .ok (.iload_n 2, 1) := by decide +kernel
theorem dX5_drop_14 : decode cX5_drop 14 = .ok (.invokevirtual 119, 3) := by decide +kernel
theorem dX5_drop_17 : decode cX5_drop 17 = .ok (.istore_n 3, 1) := by decide +kernel
theorem dX5_drop_18 : decode cX5_drop 18 = .ok (.iload_n 3, 1) := by decide +kernel
theorem dX5_drop_19 : decode cX5_drop 19 = .ok (.bipush (-6), 2) := by decide +kernel
theorem dX5_drop_21 : decode cX5_drop 21 = .ok (.if_icmp .ne 6, 3) := by decide +kernel
theorem dX5_drop_24 : decode cX5_drop 24 = .ok (.bipush (-5), 2) := by decide +kernel
theorem dX5_drop_26 : decode cX5_drop 26 = .ok (.ireturn, 1) := by decide +kernel
theorem dX5_drop_27 : decode cX5_drop 27 = .ok (.aload_n 0, 1) := by decide +kernel
theorem dX5_drop_28 : decode cX5_drop 28 = .ok (.invokevirtual 99, 3) := by decide +kernel
theorem dX5_drop_31 : decode cX5_drop 31 = .ok (.aload_n 0, 1) := by decide +kernel
theorem dX5_drop_32 : decode cX5_drop 32 = .ok (.getfield 7, 3) := by decide +kernel
theorem dX5_drop_35 : decode cX5_drop 35 = .ok (.bipush 46, 2) := by decide +kernel
theorem dX5_drop_37 : decode cX5_drop 37 = .ok (.iconst 2, 1) := by decide +kernel
theorem dX5_drop_38 : decode cX5_drop 38 = .ok (.iload_n 1, 1) := by decide +kernel
theorem dX5_drop_39 : decode cX5_drop 39 = .ok (.imul, 1) := by decide +kernel
theorem dX5_drop_40 : decode cX5_drop 40 = .ok (.iadd, 1) := by decide +kernel
theorem dX5_drop_41 : decode cX5_drop 41 = .ok (.iload_n 2, 1) := by decide +kernel
theorem dX5_drop_42 : decode cX5_drop 42 = .ok (.iadd, 1) := by decide +kernel
theorem dX5_drop_43 : decode cX5_drop 43 = .ok (.bipush (-6), 2) := by decide +kernel
theorem dX5_drop_45 : decode cX5_drop 45 = .ok (.iastore, 1) := by decide +kernel
theorem dX5_drop_46 : decode cX5_drop 46 = .ok (.iload_n 3, 1) := by decide +kernel
theorem dX5_drop_47 : decode cX5_drop 47 = .ok (.ireturn, 1) := by decide +kernel
set_option maxRecDepth 20000 in
theorem ggX5_canBe_X5_isLet : GoodIn wsX5_canBe wsX5_isLet := goodIn_r _ [5, 6, 11, 12, 13, 14, 15, 16, 17, 18, 19, 20, 21, 22, 23, 24, 25, 26, 27, 28] (by decide +kernel) (by decide +kernel)
set_option maxRecDepth 20000 in
theorem gX5_canBe_X5_isLet : GoodIn wsX5_canBe (wsV RX5 102 RX5 yX5_isLet wsX5_isLet) := goodIn_app (goodIn_of _ (by decide +kernel)) ggX5_canBe_X5_isLet
set_option maxRecDepth 20000 in
theorem ggX5_canBe_X5_filmPart : GoodIn wsX5_canBe wsX5_filmPart := goodIn_r _ [10, 6, 11, 12, 13, 14, 15, 16, 17, 18, 19, 20, 21, 22, 23, 24, 25, 26, 27, 28] (by decide +kernel) (by decide +kernel)
set_option maxRecDepth 20000 in
theorem gX5_canBe_X5_filmPart : GoodIn wsX5_canBe (wsV RX5 58 RX5 yX5_filmPart wsX5_filmPart) := goodIn_app (goodIn_of _ (by decide +kernel)) ggX5_canBe_X5_filmPart
theorem dX5_canBe_0 : decode cX5_canBe 0 = .ok (.aload_n 0, 1) := by decide +kernel
theorem dX5_canBe_1 : decode cX5_canBe 1 = .ok (.iload_n 2, 1) := by decide +kernel
theorem dX5_canBe_2 : decode cX5_canBe 2 = .ok (.invokevirtual 102, 3) := by decide +kernel
theorem dX5_canBe_5 : decode cX5_canBe 5 = .ok (.ifCond .ne 23, 3) := by decide +kernel
theorem dX5_canBe_8 : decode cX5_canBe 8 = .ok (.iload_n 1, 1) := by decide +kernel
theorem dX5_canBe_9 : decode cX5_canBe 9 = .ok (.bipush (-6), 2) := by decide +kernel
theorem dX5_canBe_11 : decode cX5_canBe 11 = .ok (.if_icmp .eq 13, 3) := by decide +kernel
theorem dX5_canBe_14 : decode cX5_canBe 14 = .ok (.iload_n 2, 1) := by decide +kernel
theorem dX5_canBe_15 : decode cX5_canBe 15 = .ok (.aload_n 0, 1) := by decide +kernel
theorem dX5_canBe_16 : decode cX5_canBe 16 = .ok (.iload_n 1, 1) := by decide +kernel
theorem dX5_canBe_17 : decode cX5_canBe 17 = .ok (.iconst 4, 1) := by decide +kernel
theorem dX5_canBe_18 : decode cX5_canBe 18 = .ok (.invokevirtual 58, 3) := by decide +kernel
theorem dX5_canBe_21 : decode cX5_canBe 21 = .ok (.if_icmp .lt 7, 3) := by decide +kernel
theorem dX5_canBe_24 : decode cX5_canBe 24 = .ok (.iconst 1, 1) := by decide +kernel
theorem dX5_canBe_25 : decode cX5_canBe 25 = .ok (.goto 4, 3) := by decide +kernel
theorem dX5_canBe_28 : decode cX5_canBe 28 = .ok (.iconst 0, 1) := by decide +kernel
theorem dX5_canBe_29 : decode cX5_canBe 29 = .ok (.ireturn, 1) := by decide +kernel
set_option maxRecDepth 20000 in
theorem ggX5_exchange_X5_isPart : GoodIn wsX5_exchange wsX5_isPart := goodIn_r _ [6, 7, 8, 5, 9] (by decide +kernel) (by decide +kernel)
set_option maxRecDepth 20000 in
theorem gX5_exchange_X5_isPart : GoodIn wsX5_exchange (va_wsS RX5 109 yX5_isPart wsX5_isPart) := goodIn_app (goodIn_of _ (by decide +kernel)) ggX5_exchange_X5_isPart
set_option maxRecDepth 20000 in
theorem ggX5_exchange_X5_showAt : GoodIn wsX5_exchange wsX5_showAt := goodIn_r _ [13, 1, 85, 86, 87, 88, 89, 90, 91, 92, 93, 94, 95, 96, 97, 98, 99, 100, 101, 102] (by decide +kernel) (by decide +kernel)
set_option maxRecDepth 20000 in
theorem gX5_exchange_X5_showAt : GoodIn wsX5_exchange (wsV RX5 119 RX5 yX5_showAt wsX5_showAt) := goodIn_app (goodIn_of _ (by decide +kernel)) ggX5_exchange_X5_showAt
set_option maxRecDepth 20000 in
theorem ggX5_exchange_X5_canBe : GoodIn wsX5_exchange wsX5_canBe := goodIn_r _ [17, 18, 19, 20, 5, 21, 1, 22, 23, 24, 25, 85, 86, 87, 88, 89, 90, 91, 92, 93, 94, 95, 96, 97, 98, 99, 100, 101, 102] (by decide +kernel) (by decide +kernel)
set_option maxRecDepth 20000 in
theorem gX5_exchange_X5_canBe : GoodIn wsX5_exchange (wsV RX5 122 RX5 yX5_canBe wsX5_canBe) := goodIn_app (goodIn_of _ (by decide +kernel)) ggX5_exchange_X5_canBe
set_option maxRecDepth 20000 in
theorem ggX5_exchange_X5_record : GoodIn wsX5_exchange wsX5_record := goodIn_r _ [29, 30, 31, 1, 32, 33, 5, 34, 85, 86, 87, 88, 89, 90, 91, 92, 93, 94, 95, 96, 97, 98, 99, 100, 101, 102] (by decide +kernel) (by decide +kernel)
set_option maxRecDepth 20000 in
theorem gX5_exchange_X5_record : GoodIn wsX5_exchange (wsV RX5 99 RX5 yX5_record wsX5_record) := goodIn_app (goodIn_of _ (by decide +kernel)) ggX5_exchange_X5_record
set_option maxRecDepth 20000 in
theorem ggX5_exchange_X5_leftNow : GoodIn wsX5_exchange wsX5_leftNow := goodIn_r _ [38, 39, 40, 41, 5, 42, 43, 44, 45, 46, 47, 1, 48, 49, 22, 23, 24, 25, 50, 51, 52, 53, 54, 55, 56, 57, 58, 59, 60, 61, 62, 63, 64, 65, 66, 67, 68, 69, 70, 71, 72, 73, 74, 75, 76, 77, 78, 79, 80, 81, 82, 83, 84, 85, 86, 87, 88, 89, 90, 91, 92, 93, 94, 95, 96, 97, 98, 99, 100, 101, 102] (by decide +kernel) (by decide +kernel)
set_option maxRecDepth 20000 in
theorem gX5_exchange_X5_leftNow : GoodIn wsX5_exchange (wsV RX5 125 RX5 yX5_leftNow wsX5_leftNow) := goodIn_app (goodIn_of _ (by decide +kernel)) ggX5_exchange_X5_leftNow
theorem dX5_exchange_0 : decode cX5_exchange 0 = .ok (.iload_n 1, 1) := by decide +kernel
theorem dX5_exchange_1 : decode cX5_exchange 1 = .ok (.iload_n 2, 1) := by decide +kernel
theorem dX5_exchange_2 : decode cX5_exchange 2 = .ok (.invokestatic 109, 3) := by decide +kernel
theorem dX5_exchange_5 : decode cX5_exchange 5 = .ok (.ifCond .eq 12, 3) := by decide +kernel
theorem dX5_exchange_8 : decode cX5_exchange 8 = .ok (.iload_n 3, 1) := by decide +kernel
theorem dX5_exchange_9 : decode cX5_exchange 9 = .ok (.iload 4, 2) := by decide +kernel
theorem dX5_exchange_11 : decode cX5_exchange 11 = .ok (.invokestatic 109, 3) := by decide +kernel
theorem dX5_exchange_14 : decode cX5_exchange 14 = .ok (.ifCond .ne 6, 3) := by decide +kernel
theorem dX5_exchange_17 : decode cX5_exchange 17 = .ok (.bipush (-2), 2) := by decide +kernel
theorem dX5_exchange_19 : decode cX5_exchange 19 = .ok (.ireturn, 1) := by decide +kernel
theorem dX5_exchange_20 : decode cX5_exchange 20 = .ok (.aload_n 0, 1) := by decide +kernel
theorem dX5_exchange_21 : decode cX5_exchange 21 = .ok (.iload_n 1, 1) := by decide +kernel
theorem dX5_exchange_22 : decode cX5_exchange 22 = .ok (.iload_n 2, 1) := by decide +kernel
theorem dX5_exchange_23 : decode cX5_exchange 23 = .ok (.invokevirtual 119, 3) := by decide +kernel
theorem dX5_exchange_26 : decode cX5_exchange 26 = .ok (.istore 5, 2) := by decide +kernel
theorem dX5_exchange_28 : decode cX5_exchange 28 = .ok (.aload_n 0, 1) := by decide +kernel
theorem dX5_exchange_29 : decode cX5_exchange 29 = .ok (.iload_n 3, 1) := by decide +kernel
theorem dX5_exchange_30 : decode cX5_exchange 30 = .ok (.iload 4, 2) := by decide +kernel
theorem dX5_exchange_32 : decode cX5_exchange 32 = .ok (.invokevirtual 119, 3) := by decide +kernel
theorem dX5_exchange_35 : decode cX5_exchange 35 = .ok (.istore 6, 2) := by decide +kernel
theorem dX5_exchange_37 : decode cX5_exchange 37 = .ok (.aload_n 0, 1) := by decide +kernel
theorem dX5_exchange_38 : decode cX5_exchange 38 = .ok (.iload 6, 2) := by decide +kernel
theorem dX5_exchange_40 : decode cX5_exchange 40 = .ok (.iload_n 1, 1) := by decide +kernel
theorem dX5_exchange_41 : decode cX5_exchange 41 = .ok (.invokevirtual 122, 3) := by decide +kernel
theorem dX5_exchange_44 : decode cX5_exchange 44 = .ok (.ifCond .eq 13, 3) := by decide +kernel
theorem dX5_exchange_47 : decode cX5_exchange 47 = .ok (.aload_n 0, 1) := by decide +kernel
theorem dX5_exchange_48 : decode cX5_exchange 48 = .ok (.iload 5, 2) := by decide +kernel
theorem dX5_exchange_50 : decode cX5_exchange 50 = .ok (.iload_n 3, 1) := by decide +kernel
theorem dX5_exchange_51 : decode cX5_exchange 51 = .ok (.invokevirtual 122, 3) := by decide +kernel
theorem dX5_exchange_54 : decode cX5_exchange 54 = .ok (.ifCond .ne 6, 3) := by decide +kernel
theorem dX5_exchange_57 : decode cX5_exchange 57 = .ok (.bipush (-5), 2) := by decide +kernel
theorem dX5_exchange_59 : decode cX5_exchange 59 = .ok (.ireturn, 1) := by decide +kernel
theorem dX5_exchange_60 : decode cX5_exchange 60 = .ok (.aload_n 0, 1) := by decide +kernel
theorem dX5_exchange_61 : decode cX5_exchange 61 = .ok (.invokevirtual 99, 3) := by decide +kernel
theorem dX5_exchange_64 : decode cX5_exchange 64 = .ok (.aload_n 0, 1) := by decide +kernel
theorem dX5_exchange_65 : decode cX5_exchange 65 = .ok (.invokevirtual 125, 3) := by decide +kernel
theorem dX5_exchange_68 : decode cX5_exchange 68 = .ok (.istore 7, 2) := by decide +kernel
theorem dX5_exchange_70 : decode cX5_exchange 70 = .ok (.aload_n 0, 1) := by decide +kernel
theorem dX5_exchange_71 : decode cX5_exchange 71 = .ok (.getfield 7, 3) := by decide +kernel
theorem dX5_exchange_74 : decode cX5_exchange 74 = .ok (.bipush 46, 2) := by decide +kernel
theorem dX5_exchange_76 : decode cX5_exchange 76 = .ok (.iconst 2, 1) := by decide +kernel
theorem dX5_exchange_77 : decode cX5_exchange 77 = .ok (.iload_n 1, 1) := by decide +kernel
theorem dX5_exchange_78 : decode cX5_exchange 78 = .ok (.imul, 1) := by decide +kernel
theorem dX5_exchange_79 : decode cX5_exchange 79 = .ok (.iadd, 1) := by decide +kernel
theorem dX5_exchange_80 : decode cX5_exchange 80 = .ok (.iload_n 2, 1) := by decide +kernel
theorem dX5_exchange_81 : decode cX5_exchange 81 = .ok (.iadd, 1) := by decide +kernel
theorem dX5_exchange_82 : decode cX5_exchange 82 = .ok (.iload 6, 2) := by decide +kernel
theorem dX5_exchange_84 : decode cX5_exchange 84 = .ok (.iastore, 1) := by decide +kernel
theorem dX5_exchange_85 : decode cX5_exchange 85 = .ok (.aload_n 0, 1) := by decide +kernel
theorem dX5_exchange_86 : decode cX5_exchange 86 = .ok (.getfield 7, 3) := by decide +kernel
theorem dX5_exchange_89 : decode cX5_exchange 89 = .ok (.bipush 46, 2) := by decide +kernel
theorem dX5_exchange_91 : decode cX5_exchange 91 = .ok (.iconst 2, 1) := by decide +kernel
theorem dX5_exchange_92 : decode cX5_exchange 92 = .ok (.iload_n 3, 1) := by decide +kernel
theorem dX5_exchange_93 : decode cX5_exchange 93 = .ok (.imul, 1) := by decide +kernel
theorem dX5_exchange_94 : decode cX5_exchange 94 = .ok (.iadd, 1) := by decide +kernel
theorem dX5_exchange_95 : decode cX5_exchange 95 = .ok (.iload 4, 2) := by decide +kernel
theorem dX5_exchange_97 : decode cX5_exchange 97 = .ok (.iadd, 1) := by decide +kernel
theorem dX5_exchange_98 : decode cX5_exchange 98 = .ok (.iload 5, 2) := by decide +kernel
theorem dX5_exchange_100 : decode cX5_exchange 100 = .ok (.iastore, 1) := by decide +kernel
theorem dX5_exchange_101 : decode cX5_exchange 101 = .ok (.aload_n 0, 1) := by decide +kernel
theorem dX5_exchange_102 : decode cX5_exchange 102 = .ok (.invokevirtual 125, 3) := by decide +kernel
theorem dX5_exchange_105 : decode cX5_exchange 105 = .ok (.iload 7, 2) := by decide +kernel
theorem dX5_exchange_107 : decode cX5_exchange 107 = .ok (.isub, 1) := by decide +kernel
theorem dX5_exchange_108 : decode cX5_exchange 108 = .ok (.ldc 129, 2) := by decide +kernel
theorem dX5_exchange_110 : decode cX5_exchange 110 = .ok (.iadd, 1) := by decide +kernel
theorem dX5_exchange_111 : decode cX5_exchange 111 = .ok (.ireturn, 1) := by decide +kernel
set_option maxRecDepth 20000 in
theorem ggX5_let_X5_within : GoodIn wsX5_let wsX5_within := goodIn_r _ [5] (by decide +kernel) (by decide +kernel)
set_option maxRecDepth 20000 in
theorem gX5_let_X5_within : GoodIn wsX5_let (va_wsS RX5 54 yX5_within wsX5_within) := goodIn_app (goodIn_of _ (by decide +kernel)) ggX5_let_X5_within
set_option maxRecDepth 20000 in
theorem ggX5_let_X5_record : GoodIn wsX5_let wsX5_record := goodIn_r _ [9, 10, 11, 1, 12, 13, 4, 14, 19, 20, 21, 22, 23, 24, 25, 26, 27, 28, 29, 30, 31, 32, 33, 34, 35, 36] (by decide +kernel) (by decide +kernel)
set_option maxRecDepth 20000 in
theorem gX5_let_X5_record : GoodIn wsX5_let (wsV RX5 99 RX5 yX5_record wsX5_record) := goodIn_app (goodIn_of _ (by decide +kernel)) ggX5_let_X5_record
set_option maxRecDepth 20000 in
theorem ggX5_let_X5_showAt : GoodIn wsX5_let wsX5_showAt := goodIn_r _ [18, 1, 19, 20, 21, 22, 23, 24, 25, 26, 27, 28, 29, 30, 31, 32, 33, 34, 35, 36] (by decide +kernel) (by decide +kernel)
set_option maxRecDepth 20000 in
theorem gX5_let_X5_showAt : GoodIn wsX5_let (wsV RX5 119 RX5 yX5_showAt wsX5_showAt) := goodIn_app (goodIn_of _ (by decide +kernel)) ggX5_let_X5_showAt
theorem dX5_let_0 : decode cX5_let 0 = .ok (.iload_n 1, 1) := by decide +kernel
theorem dX5_let_1 : decode cX5_let 1 = .ok (.iconst 0, 1) := by decide +kernel
theorem dX5_let_2 : decode cX5_let 2 = .ok (.bipush 34, 2) := by decide +kernel
theorem dX5_let_4 : decode cX5_let 4 = .ok (.invokestatic 54, 3) := by decide +kernel
theorem dX5_let_7 : decode cX5_let 7 = .ok (.ifCond .eq 14, 3) := by decide +kernel
theorem dX5_let_10 : decode cX5_let 10 = .ok (.iload_n 2, 1) := by decide +kernel
theorem dX5_let_11 : decode cX5_let 11 = .ok (.iconst 0, 1) := by decide +kernel
theorem dX5_let_12 : decode cX5_let 12 = .ok (.sipush 999, 3) := by decide +kernel
theorem dX5_let_15 : decode cX5_let 15 = .ok (.invokestatic 54, 3) := by decide +kernel
theorem dX5_let_18 : decode cX5_let 18 = .ok (.ifCond .ne 6, 3) := by decide +kernel
theorem dX5_let_21 : decode cX5_let 21 = .ok (.bipush (-2), 2) := by decide +kernel
theorem dX5_let_23 : decode cX5_let 23 = .ok (.ireturn, 1) := by decide +kernel
theorem dX5_let_24 : decode cX5_let 24 = .ok (.aload_n 0, 1) := by decide +kernel
theorem dX5_let_25 : decode cX5_let 25 = .ok (.invokevirtual 99, 3) := by decide +kernel
theorem dX5_let_28 : decode cX5_let 28 = .ok (.iconst 0, 1) := by decide +kernel
theorem dX5_let_29 : decode cX5_let 29 = .ok (.istore_n 3, 1) := by decide +kernel
theorem dX5_let_30 : decode cX5_let 30 = .ok (.iconst 0, 1) := by decide +kernel
theorem dX5_let_31 : decode cX5_let 31 = .ok (.istore 4, 2) := by decide +kernel
theorem dX5_let_33 : decode cX5_let 33 = .ok (.iload 4, 2) := by decide +kernel
theorem dX5_let_35 : decode cX5_let 35 = .ok (.iconst 2, 1) := by decide +kernel
theorem dX5_let_36 : decode cX5_let 36 = .ok (.if_icmp .ge 49, 3) := by decide +kernel
theorem dX5_let_39 : decode cX5_let 39 = .ok (.iload_n 2, 1) := by decide +kernel
theorem dX5_let_40 : decode cX5_let 40 = .ok (.ifCond .le 45, 3) := by decide +kernel
theorem dX5_let_43 : decode cX5_let 43 = .ok (.iload_n 3, 1) := by decide +kernel
theorem dX5_let_44 : decode cX5_let 44 = .ok (.aload_n 0, 1) := by decide +kernel
theorem dX5_let_45 : decode cX5_let 45 = .ok (.iload_n 1, 1) := by decide +kernel
theorem dX5_let_46 : decode cX5_let 46 = .ok (.iload 4, 2) := by decide +kernel
theorem dX5_let_48 : decode cX5_let 48 = .ok (.invokevirtual 119, 3) := by decide +kernel
theorem dX5_let_51 : decode cX5_let 51 = .ok (.bipush (-6), 2) := by decide +kernel
theorem dX5_let_53 : decode cX5_let 53 = .ok (.if_icmp .ne 7, 3) := by decide +kernel
theorem dX5_let_56 : decode cX5_let 56 = .ok (.iconst 0, 1) := by decide +kernel
theorem dX5_let_57 : decode cX5_let 57 = .ok (.goto 4, 3) := by decide +kernel
theorem dX5_let_60 : decode cX5_let 60 = .ok (.iconst 1, 1) := by decide +kernel
theorem dX5_let_61 : decode cX5_let 61 = .ok (.iadd, 1) := by decide +kernel
theorem dX5_let_62 : decode cX5_let 62 = .ok (.istore_n 3, 1) := by decide +kernel
theorem dX5_let_63 : decode cX5_let 63 = .ok (.aload_n 0, 1) := by decide +kernel
theorem dX5_let_64 : decode cX5_let 64 = .ok (.getfield 7, 3) := by decide +kernel
theorem dX5_let_67 : decode cX5_let 67 = .ok (.bipush 46, 2) := by decide +kernel
theorem dX5_let_69 : decode cX5_let 69 = .ok (.iconst 2, 1) := by decide +kernel
theorem dX5_let_70 : decode cX5_let 70 = .ok (.iload_n 1, 1) := by decide +kernel
theorem dX5_let_71 : decode cX5_let 71 = .ok (.imul, 1) := by decide +kernel
theorem dX5_let_72 : decode cX5_let 72 = .ok (.iadd, 1) := by decide +kernel
theorem dX5_let_73 : decode cX5_let 73 = .ok (.iload 4, 2) := by decide +kernel
theorem dX5_let_75 : decode cX5_let 75 = .ok (.iadd, 1) := by decide +kernel
theorem dX5_let_76 : decode cX5_let 76 = .ok (.bipush (-6), 2) := by decide +kernel
theorem dX5_let_78 : decode cX5_let 78 = .ok (.iastore, 1) := by decide +kernel
theorem dX5_let_79 : decode cX5_let 79 = .ok (.iinc 4 1, 3) := by decide +kernel
theorem dX5_let_82 : decode cX5_let 82 = .ok (.goto (-49), 3) := by decide +kernel
theorem dX5_let_85 : decode cX5_let 85 = .ok (.aload_n 0, 1) := by decide +kernel
theorem dX5_let_86 : decode cX5_let 86 = .ok (.getfield 7, 3) := by decide +kernel
theorem dX5_let_89 : decode cX5_let 89 = .ok (.bipush 116, 2) := by decide +kernel
theorem dX5_let_91 : decode cX5_let 91 = .ok (.iload_n 1, 1) := by decide +kernel
theorem dX5_let_92 : decode cX5_let 92 = .ok (.iadd, 1) := by decide +kernel
theorem dX5_let_93 : decode cX5_let 93 = .ok (.iload_n 2, 1) := by decide +kernel
theorem dX5_let_94 : decode cX5_let 94 = .ok (.iastore, 1) := by decide +kernel
theorem dX5_let_95 : decode cX5_let 95 = .ok (.iload_n 3, 1) := by decide +kernel
theorem dX5_let_96 : decode cX5_let 96 = .ok (.ireturn, 1) := by decide +kernel
set_option maxRecDepth 20000 in
theorem ggX5_at_X5_isPart : GoodIn wsX5_at wsX5_isPart := goodIn_r _ [7, 8, 9, 6, 10] (by decide +kernel) (by decide +kernel)
set_option maxRecDepth 20000 in
theorem gX5_at_X5_isPart : GoodIn wsX5_at (va_wsS RX5 109 yX5_isPart wsX5_isPart) := goodIn_app (goodIn_of _ (by decide +kernel)) ggX5_at_X5_isPart
set_option maxRecDepth 20000 in
theorem ggX5_at_X5_reckon : GoodIn wsX5_at wsX5_reckon := goodIn_r _ [14, 15, 16, 17, 6, 18, 19, 1, 2, 3, 20, 21, 22, 23, 24, 25, 26, 27, 28, 29, 30, 31, 32, 33, 34, 35, 36, 37, 38, 39, 40, 41, 42, 43, 44, 45, 46, 47, 48, 49, 50, 51, 52, 53, 54, 55, 56, 57, 58, 59, 60, 61, 62, 63, 64, 65] (by decide +kernel) (by decide +kernel)
set_option maxRecDepth 20000 in
theorem gX5_at_X5_reckon : GoodIn wsX5_at (wsV RX5 89 RX5 yX5_reckon wsX5_reckon) := goodIn_app (goodIn_of _ (by decide +kernel)) ggX5_at_X5_reckon
theorem dX5_at_0 : decode cX5_at 0 = .ok (.iload_n 1, 1) := by decide +kernel
theorem dX5_at_1 : decode cX5_at 1 = .ok (.iload_n 2, 1) := by decide +kernel
theorem dX5_at_2 : decode cX5_at 2 = .ok (.invokestatic 109, 3) := by decide +kernel
theorem dX5_at_5 : decode cX5_at 5 = .ok (.ifCond .ne 6, 3) := by decide +kernel
theorem dX5_at_8 : decode cX5_at 8 = .ok (.bipush (-2), 2) := by decide +kernel
theorem dX5_at_10 : decode cX5_at 10 = .ok (.ireturn, 1) := by decide +kernel
theorem dX5_at_11 : decode cX5_at 11 = .ok (.aload_n 0, 1) := by decide +kernel
theorem dX5_at_12 : decode cX5_at 12 = .ok (.invokevirtual 89, 3) := by decide +kernel
theorem dX5_at_15 : decode cX5_at 15 = .ok (.iconst 2, 1) := by decide +kernel
theorem dX5_at_16 : decode cX5_at 16 = .ok (.iload_n 1, 1) := by decide +kernel
theorem dX5_at_17 : decode cX5_at 17 = .ok (.imul, 1) := by decide +kernel
theorem dX5_at_18 : decode cX5_at 18 = .ok (.iload_n 2, 1) := by decide +kernel
theorem dX5_at_19 : decode cX5_at 19 = .ok (.iadd, 1) := by decide +kernel
theorem dX5_at_20 : decode cX5_at 20 = .ok (.istore 4, 2) := by decide +kernel
theorem dX5_at_22 : decode cX5_at 22 = .ok (.iload_n 3, 1) := by decide +kernel
theorem dX5_at_23 : decode cX5_at 23 = .ok (.tableswitch 71 0 3 #[29, 40, 48, 63], 29) := by decide +kernel
theorem dX5_at_52 : decode cX5_at 52 = .ok (.aload_n 0, 1) := by decide +kernel
theorem dX5_at_53 : decode cX5_at 53 = .ok (.getfield 7, 3) := by decide +kernel
theorem dX5_at_56 : decode cX5_at 56 = .ok (.bipush 46, 2) := by decide +kernel
theorem dX5_at_58 : decode cX5_at 58 = .ok (.iload 4, 2) := by decide +kernel
theorem dX5_at_60 : decode cX5_at 60 = .ok (.iadd, 1) := by decide +kernel
theorem dX5_at_61 : decode cX5_at 61 = .ok (.iaload, 1) := by decide +kernel
theorem dX5_at_62 : decode cX5_at 62 = .ok (.ireturn, 1) := by decide +kernel
theorem dX5_at_63 : decode cX5_at 63 = .ok (.aload_n 0, 1) := by decide +kernel
theorem dX5_at_64 : decode cX5_at 64 = .ok (.getfield 25, 3) := by decide +kernel
theorem dX5_at_67 : decode cX5_at 67 = .ok (.iload 4, 2) := by decide +kernel
theorem dX5_at_69 : decode cX5_at 69 = .ok (.iaload, 1) := by decide +kernel
theorem dX5_at_70 : decode cX5_at 70 = .ok (.ireturn, 1) := by decide +kernel
theorem dX5_at_71 : decode cX5_at 71 = .ok (.aload_n 0, 1) := by decide +kernel
theorem dX5_at_72 : decode cX5_at 72 = .ok (.getfield 25, 3) := by decide +kernel
theorem dX5_at_75 : decode cX5_at 75 = .ok (.iload 4, 2) := by decide +kernel
theorem dX5_at_77 : decode cX5_at 77 = .ok (.iaload, 1) := by decide +kernel
theorem dX5_at_78 : decode cX5_at 78 = .ok (.aload_n 0, 1) := by decide +kernel
theorem dX5_at_79 : decode cX5_at 79 = .ok (.getfield 7, 3) := by decide +kernel
theorem dX5_at_82 : decode cX5_at 82 = .ok (.iconst 1, 1) := by decide +kernel
theorem dX5_at_83 : decode cX5_at 83 = .ok (.iaload, 1) := by decide +kernel
theorem dX5_at_84 : decode cX5_at 84 = .ok (.imul, 1) := by decide +kernel
theorem dX5_at_85 : decode cX5_at 85 = .ok (.ireturn, 1) := by decide +kernel
theorem dX5_at_86 : decode cX5_at 86 = .ok (.aload_n 0, 1) := by decide +kernel
theorem dX5_at_87 : decode cX5_at 87 = .ok (.getfield 28, 3) := by decide +kernel
theorem dX5_at_90 : decode cX5_at 90 = .ok (.iload 4, 2) := by decide +kernel
theorem dX5_at_92 : decode cX5_at 92 = .ok (.iaload, 1) := by decide +kernel
theorem dX5_at_93 : decode cX5_at 93 = .ok (.ireturn, 1) := by decide +kernel
theorem dX5_at_94 : decode cX5_at 94 = .ok (.bipush (-2), 2) := by decide +kernel
theorem dX5_at_96 : decode cX5_at 96 = .ok (.ireturn, 1) := by decide +kernel
theorem dX5_peopleOf_0 : decode cX5_peopleOf 0 = .ok (.iconst 0, 1) := by decide +kernel
theorem dX5_peopleOf_1 : decode cX5_peopleOf 1 = .ok (.istore_n 2, 1) := by decide +kernel
theorem dX5_peopleOf_2 : decode cX5_peopleOf 2 = .ok (.iconst 0, 1) := by decide +kernel
theorem dX5_peopleOf_3 : decode cX5_peopleOf 3 = .ok (.istore_n 3, 1) := by decide +kernel
theorem dX5_peopleOf_4 : decode cX5_peopleOf 4 = .ok (.iload_n 3, 1) := by decide +kernel
theorem dX5_peopleOf_5 : decode cX5_peopleOf 5 = .ok (.bipush 70, 2) := by decide +kernel
theorem dX5_peopleOf_7 : decode cX5_peopleOf 7 = .ok (.if_icmp .ge 35, 3) := by decide +kernel
theorem dX5_peopleOf_10 : decode cX5_peopleOf 10 = .ok (.iload_n 2, 1) := by decide +kernel
theorem dX5_peopleOf_11 : decode cX5_peopleOf 11 = .ok (.aload_n 0, 1) := by decide +kernel
theorem dX5_peopleOf_12 : decode cX5_peopleOf 12 = .ok (.getfield 7, 3) := by decide +kernel
theorem dX5_peopleOf_15 : decode cX5_peopleOf 15 = .ok (.bipush 46, 2) := by decide +kernel
theorem dX5_peopleOf_17 : decode cX5_peopleOf 17 = .ok (.iload_n 3, 1) := by decide +kernel
theorem dX5_peopleOf_18 : decode cX5_peopleOf 18 = .ok (.iadd, 1) := by decide +kernel
theorem dX5_peopleOf_19 : decode cX5_peopleOf 19 = .ok (.iaload, 1) := by decide +kernel
theorem dX5_peopleOf_20 : decode cX5_peopleOf 20 = .ok (.iload_n 1, 1) := by decide +kernel
theorem dX5_peopleOf_21 : decode cX5_peopleOf 21 = .ok (.if_icmp .ne 12, 3) := by decide +kernel
theorem dX5_peopleOf_24 : decode cX5_peopleOf 24 = .ok (.aload_n 0, 1) := by decide +kernel
theorem dX5_peopleOf_25 : decode cX5_peopleOf 25 = .ok (.getfield 25, 3) := by decide +kernel
theorem dX5_peopleOf_28 : decode cX5_peopleOf 28 = .ok (.iload_n 3, 1) := by decide +kernel
theorem dX5_peopleOf_29 : decode cX5_peopleOf 29 = .ok (.iaload, 1) := by decide +kernel
theorem dX5_peopleOf_30 : decode cX5_peopleOf 30 = .ok (.goto 4, 3) := by decide +kernel
theorem dX5_peopleOf_33 : decode cX5_peopleOf 33 = .ok (.iconst 0, 1) := by decide +kernel
theorem dX5_peopleOf_34 : decode cX5_peopleOf 34 = .ok (.iadd, 1) := by decide +kernel
theorem dX5_peopleOf_35 : decode cX5_peopleOf 35 = .ok (.istore_n 2, 1) := by decide +kernel
theorem dX5_peopleOf_36 : decode cX5_peopleOf 36 = .ok (.iinc 3 1, 3) := by decide +kernel
theorem dX5_peopleOf_39 : decode cX5_peopleOf 39 = .ok (.goto (-35), 3) := by decide +kernel
theorem dX5_peopleOf_42 : decode cX5_peopleOf 42 = .ok (.iload_n 2, 1) := by decide +kernel
theorem dX5_peopleOf_43 : decode cX5_peopleOf 43 = .ok (.ireturn, 1) := by decide +kernel
theorem dX5_firstShow_0 : decode cX5_firstShow 0 = .ok (.bipush (-6), 2) := by decide +kernel
theorem dX5_firstShow_2 : decode cX5_firstShow 2 = .ok (.istore_n 2, 1) := by decide +kernel
theorem dX5_firstShow_3 : decode cX5_firstShow 3 = .ok (.bipush 69, 2) := by decide +kernel
theorem dX5_firstShow_5 : decode cX5_firstShow 5 = .ok (.istore_n 3, 1) := by decide +kernel
theorem dX5_firstShow_6 : decode cX5_firstShow 6 = .ok (.iload_n 3, 1) := by decide +kernel
theorem dX5_firstShow_7 : decode cX5_firstShow 7 = .ok (.ifCond .lt 30, 3) := by decide +kernel
theorem dX5_firstShow_10 : decode cX5_firstShow 10 = .ok (.aload_n 0, 1) := by decide +kernel
theorem dX5_firstShow_11 : decode cX5_firstShow 11 = .ok (.getfield 7, 3) := by decide +kernel
theorem dX5_firstShow_14 : decode cX5_firstShow 14 = .ok (.bipush 46, 2) := by decide +kernel
theorem dX5_firstShow_16 : decode cX5_firstShow 16 = .ok (.iload_n 3, 1) := by decide +kernel
theorem dX5_firstShow_17 : decode cX5_firstShow 17 = .ok (.iadd, 1) := by decide +kernel
theorem dX5_firstShow_18 : decode cX5_firstShow 18 = .ok (.iaload, 1) := by decide +kernel
theorem dX5_firstShow_19 : decode cX5_firstShow 19 = .ok (.iload_n 1, 1) := by decide +kernel
theorem dX5_firstShow_20 : decode cX5_firstShow 20 = .ok (.if_icmp .ne 9, 3) := by decide +kernel
theorem dX5_firstShow_23 : decode cX5_firstShow 23 = .ok (.iload_n 3, 1) := by decide +kernel
theorem dX5_firstShow_24 : decode cX5_firstShow 24 = .ok (.iconst 2, 1) := by decide +kernel
theorem dX5_firstShow_25 : decode cX5_firstShow 25 = .ok (.idiv, 1) := by decide +kernel
theorem dX5_firstShow_26 : decode cX5_firstShow 26 = .ok (.goto 4, 3) := by decide +kernel
theorem dX5_firstShow_29 : decode cX5_firstShow 29 = .ok (.iload_n 2, 1) := by decide +kernel
theorem dX5_firstShow_30 : decode cX5_firstShow 30 = .ok (.istore_n 2, 1) := by decide +kernel
theorem dX5_firstShow_31 : decode cX5_firstShow 31 = .ok (.iinc 3 (-1), 3) := by decide +kernel
theorem dX5_firstShow_34 : decode cX5_firstShow 34 = .ok (.goto (-28), 3) := by decide +kernel
theorem dX5_firstShow_37 : decode cX5_firstShow 37 = .ok (.iload_n 2, 1) := by decide +kernel
theorem dX5_firstShow_38 : decode cX5_firstShow 38 = .ok (.ireturn, 1) := by decide +kernel
set_option maxRecDepth 20000 in
theorem ggX5_of_X5_isFilm : GoodIn wsX5_of wsX5_isFilm := goodIn_r _ [9, 10, 11, 12, 8, 13, 60, 61, 62, 63, 64, 65, 66, 67, 68, 69, 70, 71, 72, 73, 74, 75, 76, 77] (by decide +kernel) (by decide +kernel)
set_option maxRecDepth 20000 in
theorem gX5_of_X5_isFilm : GoodIn wsX5_of (wsV RX5 106 RX5 yX5_isFilm wsX5_isFilm) := goodIn_app (goodIn_of _ (by decide +kernel)) ggX5_of_X5_isFilm
set_option maxRecDepth 20000 in
theorem ggX5_of_X5_reckon : GoodIn wsX5_of wsX5_reckon := goodIn_r _ [17, 18, 19, 20, 8, 21, 4, 10, 22, 23, 24, 25, 26, 27, 28, 29, 30, 31, 32, 33, 34, 35, 1, 2, 36, 37, 38, 39, 40, 3, 41, 42, 43, 44, 45, 46, 47, 48, 60, 61, 62, 63, 64, 65, 66, 67, 68, 69, 70, 71, 72, 73, 74, 75, 76, 77] (by decide +kernel) (by decide +kernel)
set_option maxRecDepth 20000 in
theorem gX5_of_X5_reckon : GoodIn wsX5_of (wsV RX5 89 RX5 yX5_reckon wsX5_reckon) := goodIn_app (goodIn_of _ (by decide +kernel)) ggX5_of_X5_reckon
set_option maxRecDepth 20000 in
theorem ggX5_of_X5_filmPart : GoodIn wsX5_of wsX5_filmPart := goodIn_r _ [27, 10, 60, 61, 62, 63, 64, 65, 66, 67, 68, 69, 70, 71, 72, 73, 74, 75, 76, 77] (by decide +kernel) (by decide +kernel)
set_option maxRecDepth 20000 in
theorem gX5_of_X5_filmPart : GoodIn wsX5_of (wsV RX5 58 RX5 yX5_filmPart wsX5_filmPart) := goodIn_app (goodIn_of _ (by decide +kernel)) ggX5_of_X5_filmPart
set_option maxRecDepth 20000 in
theorem ggX5_of_X5_sumOfFilm : GoodIn wsX5_of wsX5_sumOfFilm := goodIn_r _ [51] (by decide +kernel) (by decide +kernel)
set_option maxRecDepth 20000 in
theorem gX5_of_X5_sumOfFilm : GoodIn wsX5_of (va_wsS RX5 130 yX5_sumOfFilm wsX5_sumOfFilm) := goodIn_app (goodIn_of _ (by decide +kernel)) ggX5_of_X5_sumOfFilm
set_option maxRecDepth 20000 in
theorem ggX5_of_X5_peopleOf : GoodIn wsX5_of wsX5_peopleOf := goodIn_r _ [55, 10, 22, 60, 61, 62, 63, 64, 65, 66, 67, 68, 69, 70, 71, 72, 73, 74, 75, 76, 77] (by decide +kernel) (by decide +kernel)
set_option maxRecDepth 20000 in
theorem gX5_of_X5_peopleOf : GoodIn wsX5_of (wsV RX5 133 RX5 yX5_peopleOf wsX5_peopleOf) := goodIn_app (goodIn_of _ (by decide +kernel)) ggX5_of_X5_peopleOf
set_option maxRecDepth 20000 in
theorem ggX5_of_X5_firstShow : GoodIn wsX5_of wsX5_firstShow := goodIn_r _ [59, 10, 60, 61, 62, 63, 64, 65, 66, 67, 68, 69, 70, 71, 72, 73, 74, 75, 76, 77] (by decide +kernel) (by decide +kernel)
set_option maxRecDepth 20000 in
theorem gX5_of_X5_firstShow : GoodIn wsX5_of (wsV RX5 136 RX5 yX5_firstShow wsX5_firstShow) := goodIn_app (goodIn_of _ (by decide +kernel)) ggX5_of_X5_firstShow
theorem dX5_of_0 : decode cX5_of 0 = .ok (.aload_n 0, 1) := by decide +kernel
theorem dX5_of_1 : decode cX5_of 1 = .ok (.iload_n 1, 1) := by decide +kernel
theorem dX5_of_2 : decode cX5_of 2 = .ok (.invokevirtual 106, 3) := by decide +kernel
theorem dX5_of_5 : decode cX5_of 5 = .ok (.ifCond .ne 5, 3) := by decide +kernel
theorem dX5_of_8 : decode cX5_of 8 = .ok (.iconst (-1), 1) := by decide +kernel
theorem dX5_of_9 : decode cX5_of 9 = .ok (.ireturn, 1) := by decide +kernel
theorem dX5_of_10 : decode cX5_of 10 = .ok (.aload_n 0, 1) := by decide +kernel
theorem dX5_of_11 : decode cX5_of 11 = .ok (.invokevirtual 89, 3) := by decide +kernel
theorem dX5_of_14 : decode cX5_of 14 = .ok (.iload_n 2, 1) := by decide +kernel
theorem dX5_of_15 : decode cX5_of 15 = .ok (.tableswitch 110 0 10 #[57, 57, 57, 57, 57, 64, 73, 79, 88, 97, 104], 57) := by decide +kernel
theorem dX5_of_72 : decode cX5_of 72 = .ok (.aload_n 0, 1) := by decide +kernel
theorem dX5_of_73 : decode cX5_of 73 = .ok (.iload_n 1, 1) := by decide +kernel
theorem dX5_of_74 : decode cX5_of 74 = .ok (.iload_n 2, 1) := by decide +kernel
theorem dX5_of_75 : decode cX5_of 75 = .ok (.invokevirtual 58, 3) := by decide +kernel
theorem dX5_of_78 : decode cX5_of 78 = .ok (.ireturn, 1) := by decide +kernel
theorem dX5_of_79 : decode cX5_of 79 = .ok (.aload_n 0, 1) := by decide +kernel
theorem dX5_of_80 : decode cX5_of 80 = .ok (.getfield 34, 3) := by decide +kernel
theorem dX5_of_83 : decode cX5_of 83 = .ok (.iload_n 1, 1) := by decide +kernel
theorem dX5_of_84 : decode cX5_of 84 = .ok (.invokestatic 130, 3) := by decide +kernel
theorem dX5_of_87 : decode cX5_of 87 = .ok (.ireturn, 1) := by decide +kernel
theorem dX5_of_88 : decode cX5_of 88 = .ok (.aload_n 0, 1) := by decide +kernel
theorem dX5_of_89 : decode cX5_of 89 = .ok (.iload_n 1, 1) := by decide +kernel
theorem dX5_of_90 : decode cX5_of 90 = .ok (.invokevirtual 133, 3) := by decide +kernel
theorem dX5_of_93 : decode cX5_of 93 = .ok (.ireturn, 1) := by decide +kernel
theorem dX5_of_94 : decode cX5_of 94 = .ok (.aload_n 0, 1) := by decide +kernel
theorem dX5_of_95 : decode cX5_of 95 = .ok (.getfield 37, 3) := by decide +kernel
theorem dX5_of_98 : decode cX5_of 98 = .ok (.iload_n 1, 1) := by decide +kernel
theorem dX5_of_99 : decode cX5_of 99 = .ok (.invokestatic 130, 3) := by decide +kernel
theorem dX5_of_102 : decode cX5_of 102 = .ok (.ireturn, 1) := by decide +kernel
theorem dX5_of_103 : decode cX5_of 103 = .ok (.aload_n 0, 1) := by decide +kernel
theorem dX5_of_104 : decode cX5_of 104 = .ok (.getfield 43, 3) := by decide +kernel
theorem dX5_of_107 : decode cX5_of 107 = .ok (.iload_n 1, 1) := by decide +kernel
theorem dX5_of_108 : decode cX5_of 108 = .ok (.invokestatic 130, 3) := by decide +kernel
theorem dX5_of_111 : decode cX5_of 111 = .ok (.ireturn, 1) := by decide +kernel
theorem dX5_of_112 : decode cX5_of 112 = .ok (.aload_n 0, 1) := by decide +kernel
theorem dX5_of_113 : decode cX5_of 113 = .ok (.getfield 31, 3) := by decide +kernel
theorem dX5_of_116 : decode cX5_of 116 = .ok (.iload_n 1, 1) := by decide +kernel
theorem dX5_of_117 : decode cX5_of 117 = .ok (.iaload, 1) := by decide +kernel
theorem dX5_of_118 : decode cX5_of 118 = .ok (.ireturn, 1) := by decide +kernel
theorem dX5_of_119 : decode cX5_of 119 = .ok (.aload_n 0, 1) := by decide +kernel
theorem dX5_of_120 : decode cX5_of 120 = .ok (.iload_n 1, 1) := by decide +kernel
theorem dX5_of_121 : decode cX5_of 121 = .ok (.invokevirtual 136, 3) := by decide +kernel
theorem dX5_of_124 : decode cX5_of 124 = .ok (.ireturn, 1) := by decide +kernel
theorem dX5_of_125 : decode cX5_of 125 = .ok (.bipush (-2), 2) := by decide +kernel
theorem dX5_of_127 : decode cX5_of 127 = .ok (.ireturn, 1) := by decide +kernel
set_option maxRecDepth 20000 in
theorem ggX5_inWeek_X5_isFilm : GoodIn wsX5_inWeek wsX5_isFilm := goodIn_r _ [8, 9, 10, 11, 7, 12, 49, 50, 51, 52, 53, 54, 55, 56, 57, 58, 59, 60, 61, 62, 63, 64, 65, 66] (by decide +kernel) (by decide +kernel)
set_option maxRecDepth 20000 in
theorem gX5_inWeek_X5_isFilm : GoodIn wsX5_inWeek (wsV RX5 106 RX5 yX5_isFilm wsX5_isFilm) := goodIn_app (goodIn_of _ (by decide +kernel)) ggX5_inWeek_X5_isFilm
set_option maxRecDepth 20000 in
theorem ggX5_inWeek_X5_within : GoodIn wsX5_inWeek wsX5_within := goodIn_r _ [12] (by decide +kernel) (by decide +kernel)
set_option maxRecDepth 20000 in
theorem gX5_inWeek_X5_within : GoodIn wsX5_inWeek (va_wsS RX5 54 yX5_within wsX5_within) := goodIn_app (goodIn_of _ (by decide +kernel)) ggX5_inWeek_X5_within
set_option maxRecDepth 20000 in
theorem ggX5_inWeek_X5_reckon : GoodIn wsX5_inWeek wsX5_reckon := goodIn_r _ [16, 17, 18, 19, 7, 20, 21, 9, 22, 23, 24, 25, 26, 27, 28, 29, 30, 31, 32, 33, 34, 35, 36, 1, 37, 38, 39, 40, 2, 3, 41, 42, 43, 44, 45, 46, 47, 48, 49, 50, 51, 52, 53, 54, 55, 56, 57, 58, 59, 60, 61, 62, 63, 64, 65, 66] (by decide +kernel) (by decide +kernel)
set_option maxRecDepth 20000 in
theorem gX5_inWeek_X5_reckon : GoodIn wsX5_inWeek (wsV RX5 89 RX5 yX5_reckon wsX5_reckon) := goodIn_app (goodIn_of _ (by decide +kernel)) ggX5_inWeek_X5_reckon
set_option maxRecDepth 20000 in
theorem ggX5_inWeek_X5_shareOfTakings : GoodIn wsX5_inWeek wsX5_shareOfTakings := goodIn_r _ [48, 2, 1, 49, 50, 51, 52, 53, 54, 55, 56, 57, 58, 59, 60, 61, 62, 63, 64, 65, 66] (by decide +kernel) (by decide +kernel)
set_option maxRecDepth 20000 in
theorem gX5_inWeek_X5_shareOfTakings : GoodIn wsX5_inWeek (wsV RX5 69 RX5 yX5_shareOfTakings wsX5_shareOfTakings) := goodIn_app (goodIn_of _ (by decide +kernel)) ggX5_inWeek_X5_shareOfTakings
theorem dX5_inWeek_0 : decode cX5_inWeek 0 = .ok (.aload_n 0, 1) := by decide +kernel
theorem dX5_inWeek_1 : decode cX5_inWeek 1 = .ok (.iload_n 1, 1) := by decide +kernel
theorem dX5_inWeek_2 : decode cX5_inWeek 2 = .ok (.invokevirtual 106, 3) := by decide +kernel
theorem dX5_inWeek_5 : decode cX5_inWeek 5 = .ok (.ifCond .ne 5, 3) := by decide +kernel
theorem dX5_inWeek_8 : decode cX5_inWeek 8 = .ok (.iconst (-1), 1) := by decide +kernel
theorem dX5_inWeek_9 : decode cX5_inWeek 9 = .ok (.ireturn, 1) := by decide +kernel
theorem dX5_inWeek_10 : decode cX5_inWeek 10 = .ok (.iload_n 2, 1) := by decide +kernel
theorem dX5_inWeek_11 : decode cX5_inWeek 11 = .ok (.iconst 0, 1) := by decide +kernel
theorem dX5_inWeek_12 : decode cX5_inWeek 12 = .ok (.iconst 4, 1) := by decide +kernel
theorem dX5_inWeek_13 : decode cX5_inWeek 13 = .ok (.invokestatic 54, 3) := by decide +kernel
theorem dX5_inWeek_16 : decode cX5_inWeek 16 = .ok (.ifCond .ne 6, 3) := by decide +kernel
theorem dX5_inWeek_19 : decode cX5_inWeek 19 = .ok (.bipush (-2), 2) := by decide +kernel
theorem dX5_inWeek_21 : decode cX5_inWeek 21 = .ok (.ireturn, 1) := by decide +kernel
theorem dX5_inWeek_22 : decode cX5_inWeek 22 = .ok (.aload_n 0, 1) := by decide +kernel
theorem dX5_inWeek_23 : decode cX5_inWeek 23 = .ok (.invokevirtual 89, 3) := by decide +kernel
theorem dX5_inWeek_26 : decode cX5_inWeek 26 = .ok (.iconst 5, 1) := by decide +kernel
theorem dX5_inWeek_27 : decode cX5_inWeek 27 = .ok (.iload_n 1, 1) := by decide +kernel
theorem dX5_inWeek_28 : decode cX5_inWeek 28 = .ok (.imul, 1) := by decide +kernel
theorem dX5_inWeek_29 : decode cX5_inWeek 29 = .ok (.iload_n 2, 1) := by decide +kernel
theorem dX5_inWeek_30 : decode cX5_inWeek 30 = .ok (.iadd, 1) := by decide +kernel
theorem dX5_inWeek_31 : decode cX5_inWeek 31 = .ok (.istore 4, 2) := by decide +kernel
theorem dX5_inWeek_33 : decode cX5_inWeek 33 = .ok (.iload_n 3, 1) := by decide +kernel
theorem dX5_inWeek_34 : decode cX5_inWeek 34 = .ok (.tableswitch 69 0 3 #[30, 38, 46, 54], 30) := by decide +kernel
theorem dX5_inWeek_64 : decode cX5_inWeek 64 = .ok (.aload_n 0, 1) := by decide +kernel
theorem dX5_inWeek_65 : decode cX5_inWeek 65 = .ok (.getfield 37, 3) := by decide +kernel
theorem dX5_inWeek_68 : decode cX5_inWeek 68 = .ok (.iload 4, 2) := by decide +kernel
theorem dX5_inWeek_70 : decode cX5_inWeek 70 = .ok (.iaload, 1) := by decide +kernel
theorem dX5_inWeek_71 : decode cX5_inWeek 71 = .ok (.ireturn, 1) := by decide +kernel
theorem dX5_inWeek_72 : decode cX5_inWeek 72 = .ok (.aload_n 0, 1) := by decide +kernel
theorem dX5_inWeek_73 : decode cX5_inWeek 73 = .ok (.getfield 40, 3) := by decide +kernel
theorem dX5_inWeek_76 : decode cX5_inWeek 76 = .ok (.iload 4, 2) := by decide +kernel
theorem dX5_inWeek_78 : decode cX5_inWeek 78 = .ok (.iaload, 1) := by decide +kernel
theorem dX5_inWeek_79 : decode cX5_inWeek 79 = .ok (.ireturn, 1) := by decide +kernel
theorem dX5_inWeek_80 : decode cX5_inWeek 80 = .ok (.aload_n 0, 1) := by decide +kernel
theorem dX5_inWeek_81 : decode cX5_inWeek 81 = .ok (.getfield 43, 3) := by decide +kernel
theorem dX5_inWeek_84 : decode cX5_inWeek 84 = .ok (.iload 4, 2) := by decide +kernel
theorem dX5_inWeek_86 : decode cX5_inWeek 86 = .ok (.iaload, 1) := by decide +kernel
theorem dX5_inWeek_87 : decode cX5_inWeek 87 = .ok (.ireturn, 1) := by decide +kernel
theorem dX5_inWeek_88 : decode cX5_inWeek 88 = .ok (.aload_n 0, 1) := by decide +kernel
theorem dX5_inWeek_89 : decode cX5_inWeek 89 = .ok (.getfield 43, 3) := by decide +kernel
theorem dX5_inWeek_92 : decode cX5_inWeek 92 = .ok (.iload 4, 2) := by decide +kernel
theorem dX5_inWeek_94 : decode cX5_inWeek 94 = .ok (.iaload, 1) := by decide +kernel
theorem dX5_inWeek_95 : decode cX5_inWeek 95 = .ok (.aload_n 0, 1) := by decide +kernel
theorem dX5_inWeek_96 : decode cX5_inWeek 96 = .ok (.iload 4, 2) := by decide +kernel
theorem dX5_inWeek_98 : decode cX5_inWeek 98 = .ok (.invokevirtual 69, 3) := by decide +kernel
theorem dX5_inWeek_101 : decode cX5_inWeek 101 = .ok (.isub, 1) := by decide +kernel
theorem dX5_inWeek_102 : decode cX5_inWeek 102 = .ok (.ireturn, 1) := by decide +kernel
theorem dX5_inWeek_103 : decode cX5_inWeek 103 = .ok (.bipush (-2), 2) := by decide +kernel
theorem dX5_inWeek_105 : decode cX5_inWeek 105 = .ok (.ireturn, 1) := by decide +kernel
set_option maxRecDepth 20000 in
theorem ggX5_week_X5_within : GoodIn wsX5_week wsX5_within := goodIn_r _ [8] (by decide +kernel) (by decide +kernel)
set_option maxRecDepth 20000 in
theorem gX5_week_X5_within : GoodIn wsX5_week (va_wsS RX5 54 yX5_within wsX5_within) := goodIn_app (goodIn_of _ (by decide +kernel)) ggX5_week_X5_within
set_option maxRecDepth 20000 in
theorem ggX5_week_X5_reckon : GoodIn wsX5_week wsX5_reckon := goodIn_r _ [12, 13, 14, 15, 7, 16, 17, 18, 19, 20, 21, 22, 23, 24, 25, 26, 27, 28, 29, 30, 31, 32, 1, 2, 33, 34, 35, 36, 37, 3, 38, 39, 40, 41, 42, 43, 44, 45, 61, 62, 63, 64, 65, 66, 67, 68, 69, 70, 71, 72, 73, 74, 75, 76, 77, 78] (by decide +kernel) (by decide +kernel)
set_option maxRecDepth 20000 in
theorem gX5_week_X5_reckon : GoodIn wsX5_week (wsV RX5 89 RX5 yX5_reckon wsX5_reckon) := goodIn_app (goodIn_of _ (by decide +kernel)) ggX5_week_X5_reckon
set_option maxRecDepth 20000 in
theorem ggX5_week_X5_sumOf : GoodIn wsX5_week wsX5_sumOf := goodIn_r _ [48] (by decide +kernel) (by decide +kernel)
set_option maxRecDepth 20000 in
theorem gX5_week_X5_sumOf : GoodIn wsX5_week (va_wsS RX5 82 yX5_sumOf wsX5_sumOf) := goodIn_app (goodIn_of _ (by decide +kernel)) ggX5_week_X5_sumOf
set_option maxRecDepth 20000 in
theorem ggX5_week_X5_peopleIn : GoodIn wsX5_week wsX5_peopleIn := goodIn_r _ [52, 19, 61, 62, 63, 64, 65, 66, 67, 68, 69, 70, 71, 72, 73, 74, 75, 76, 77, 78] (by decide +kernel) (by decide +kernel)
set_option maxRecDepth 20000 in
theorem gX5_week_X5_peopleIn : GoodIn wsX5_week (wsV RX5 139 RX5 yX5_peopleIn wsX5_peopleIn) := goodIn_app (goodIn_of _ (by decide +kernel)) ggX5_week_X5_peopleIn
set_option maxRecDepth 20000 in
theorem ggX5_week_X5_leftOf : GoodIn wsX5_week wsX5_leftOf := goodIn_r _ [56, 2, 3, 18, 1, 46, 47, 7, 48, 57, 58, 59, 60, 61, 62, 63, 64, 65, 66, 67, 68, 69, 70, 71, 72, 73, 74, 75, 76, 77, 78] (by decide +kernel) (by decide +kernel)
set_option maxRecDepth 20000 in
theorem gX5_week_X5_leftOf : GoodIn wsX5_week (wsV RX5 92 RX5 yX5_leftOf wsX5_leftOf) := goodIn_app (goodIn_of _ (by decide +kernel)) ggX5_week_X5_leftOf
theorem dX5_week_0 : decode cX5_week 0 = .ok (.iload_n 1, 1) := by decide +kernel
theorem dX5_week_1 : decode cX5_week 1 = .ok (.iconst 0, 1) := by decide +kernel
theorem dX5_week_2 : decode cX5_week 2 = .ok (.iconst 4, 1) := by decide +kernel
theorem dX5_week_3 : decode cX5_week 3 = .ok (.invokestatic 54, 3) := by decide +kernel
theorem dX5_week_6 : decode cX5_week 6 = .ok (.ifCond .ne 6, 3) := by decide +kernel
theorem dX5_week_9 : decode cX5_week 9 = .ok (.bipush (-2), 2) := by decide +kernel
theorem dX5_week_11 : decode cX5_week 11 = .ok (.ireturn, 1) := by decide +kernel
theorem dX5_week_12 : decode cX5_week 12 = .ok (.aload_n 0, 1) := by decide +kernel
theorem dX5_week_13 : decode cX5_week 13 = .ok (.invokevirtual 89, 3) := by decide +kernel
theorem dX5_week_16 : decode cX5_week 16 = .ok (.iload_n 2, 1) := by decide +kernel
theorem dX5_week_17 : decode cX5_week 17 = .ok (.tableswitch 77 0 4 #[35, 44, 50, 59, 68], 35) := by decide +kernel
theorem dX5_week_52 : decode cX5_week 52 = .ok (.aload_n 0, 1) := by decide +kernel
theorem dX5_week_53 : decode cX5_week 53 = .ok (.getfield 34, 3) := by decide +kernel
theorem dX5_week_56 : decode cX5_week 56 = .ok (.iload_n 1, 1) := by decide +kernel
theorem dX5_week_57 : decode cX5_week 57 = .ok (.invokestatic 82, 3) := by decide +kernel
theorem dX5_week_60 : decode cX5_week 60 = .ok (.ireturn, 1) := by decide +kernel
theorem dX5_week_61 : decode cX5_week 61 = .ok (.aload_n 0, 1) := by decide +kernel
theorem dX5_week_62 : decode cX5_week 62 = .ok (.iload_n 1, 1) := by decide +kernel
theorem dX5_week_63 : decode cX5_week 63 = .ok (.invokevirtual 139, 3) := by decide +kernel
theorem dX5_week_66 : decode cX5_week 66 = .ok (.ireturn, 1) := by decide +kernel
theorem dX5_week_67 : decode cX5_week 67 = .ok (.aload_n 0, 1) := by decide +kernel
theorem dX5_week_68 : decode cX5_week 68 = .ok (.getfield 37, 3) := by decide +kernel
theorem dX5_week_71 : decode cX5_week 71 = .ok (.iload_n 1, 1) := by decide +kernel
theorem dX5_week_72 : decode cX5_week 72 = .ok (.invokestatic 82, 3) := by decide +kernel
theorem dX5_week_75 : decode cX5_week 75 = .ok (.ireturn, 1) := by decide +kernel
theorem dX5_week_76 : decode cX5_week 76 = .ok (.aload_n 0, 1) := by decide +kernel
theorem dX5_week_77 : decode cX5_week 77 = .ok (.getfield 43, 3) := by decide +kernel
theorem dX5_week_80 : decode cX5_week 80 = .ok (.iload_n 1, 1) := by decide +kernel
theorem dX5_week_81 : decode cX5_week 81 = .ok (.invokestatic 82, 3) := by decide +kernel
theorem dX5_week_84 : decode cX5_week 84 = .ok (.ireturn, 1) := by decide +kernel
theorem dX5_week_85 : decode cX5_week 85 = .ok (.aload_n 0, 1) := by decide +kernel
theorem dX5_week_86 : decode cX5_week 86 = .ok (.iload_n 1, 1) := by decide +kernel
theorem dX5_week_87 : decode cX5_week 87 = .ok (.invokevirtual 92, 3) := by decide +kernel
theorem dX5_week_90 : decode cX5_week 90 = .ok (.ldc 129, 2) := by decide +kernel
theorem dX5_week_92 : decode cX5_week 92 = .ok (.iadd, 1) := by decide +kernel
theorem dX5_week_93 : decode cX5_week 93 = .ok (.ireturn, 1) := by decide +kernel
theorem dX5_week_94 : decode cX5_week 94 = .ok (.bipush (-2), 2) := by decide +kernel
theorem dX5_week_96 : decode cX5_week 96 = .ok (.ireturn, 1) := by decide +kernel
set_option maxRecDepth 20000 in
theorem ggX5_distributor_X5_within : GoodIn wsX5_distributor wsX5_within := goodIn_r _ [7] (by decide +kernel) (by decide +kernel)
set_option maxRecDepth 20000 in
theorem gX5_distributor_X5_within : GoodIn wsX5_distributor (va_wsS RX5 54 yX5_within wsX5_within) := goodIn_app (goodIn_of _ (by decide +kernel)) ggX5_distributor_X5_within
set_option maxRecDepth 20000 in
theorem ggX5_distributor_X5_reckon : GoodIn wsX5_distributor wsX5_reckon := goodIn_r _ [11, 12, 13, 14, 6, 15, 16, 1, 17, 18, 19, 20, 21, 22, 23, 24, 25, 26, 27, 28, 29, 30, 2, 31, 32, 33, 34, 35, 36, 3, 37, 38, 39, 40, 41, 42, 43, 44, 48, 49, 50, 51, 52, 53, 54, 55, 56, 57, 58, 59, 60, 61, 62, 63, 64, 65] (by decide +kernel) (by decide +kernel)
set_option maxRecDepth 20000 in
theorem gX5_distributor_X5_reckon : GoodIn wsX5_distributor (wsV RX5 89 RX5 yX5_reckon wsX5_reckon) := goodIn_app (goodIn_of _ (by decide +kernel)) ggX5_distributor_X5_reckon
set_option maxRecDepth 20000 in
theorem ggX5_distributor_X5_sumOfFilm : GoodIn wsX5_distributor wsX5_sumOfFilm := goodIn_r _ [47] (by decide +kernel) (by decide +kernel)
set_option maxRecDepth 20000 in
theorem gX5_distributor_X5_sumOfFilm : GoodIn wsX5_distributor (va_wsS RX5 130 yX5_sumOfFilm wsX5_sumOfFilm) := goodIn_app (goodIn_of _ (by decide +kernel)) ggX5_distributor_X5_sumOfFilm
set_option maxRecDepth 20000 in
theorem ggX5_distributor_X5_filmPart : GoodIn wsX5_distributor wsX5_filmPart := goodIn_r _ [22, 1, 48, 49, 50, 51, 52, 53, 54, 55, 56, 57, 58, 59, 60, 61, 62, 63, 64, 65] (by decide +kernel) (by decide +kernel)
set_option maxRecDepth 20000 in
theorem gX5_distributor_X5_filmPart : GoodIn wsX5_distributor (wsV RX5 58 RX5 yX5_filmPart wsX5_filmPart) := goodIn_app (goodIn_of _ (by decide +kernel)) ggX5_distributor_X5_filmPart
theorem dX5_distributor_0 : decode cX5_distributor 0 = .ok (.iload_n 1, 1) := by decide +kernel
theorem dX5_distributor_1 : decode cX5_distributor 1 = .ok (.iconst 0, 1) := by decide +kernel
theorem dX5_distributor_2 : decode cX5_distributor 2 = .ok (.iconst 3, 1) := by decide +kernel
theorem dX5_distributor_3 : decode cX5_distributor 3 = .ok (.invokestatic 54, 3) := by decide +kernel
theorem dX5_distributor_6 : decode cX5_distributor 6 = .ok (.ifCond .eq 12, 3) := by decide +kernel
theorem dX5_distributor_9 : decode cX5_distributor 9 = .ok (.iload_n 2, 1) := by decide +kernel
theorem dX5_distributor_10 : decode cX5_distributor 10 = .ok (.iconst 0, 1) := by decide +kernel
theorem dX5_distributor_11 : decode cX5_distributor 11 = .ok (.iconst 2, 1) := by decide +kernel
theorem dX5_distributor_12 : decode cX5_distributor 12 = .ok (.invokestatic 54, 3) := by decide +kernel
theorem dX5_distributor_15 : decode cX5_distributor 15 = .ok (.ifCond .ne 6, 3) := by decide +kernel
theorem dX5_distributor_18 : decode cX5_distributor 18 = .ok (.bipush (-2), 2) := by decide +kernel
theorem dX5_distributor_20 : decode cX5_distributor 20 = .ok (.ireturn, 1) := by decide +kernel
theorem dX5_distributor_21 : decode cX5_distributor 21 = .ok (.aload_n 0, 1) := by decide +kernel
theorem dX5_distributor_22 : decode cX5_distributor 22 = .ok (.invokevirtual 89, 3) := by decide +kernel
theorem dX5_distributor_25 : decode cX5_distributor 25 = .ok (.iconst 0, 1) := by decide +kernel
theorem dX5_distributor_26 : decode cX5_distributor 26 = .ok (.istore_n 3, 1) := by decide +kernel
theorem dX5_distributor_27 : decode cX5_distributor 27 = .ok (.iconst 0, 1) := by decide +kernel
theorem dX5_distributor_28 : decode cX5_distributor 28 = .ok (.istore 4, 2) := by decide +kernel
theorem dX5_distributor_30 : decode cX5_distributor 30 = .ok (.iload 4, 2) := by decide +kernel
theorem dX5_distributor_32 : decode cX5_distributor 32 = .ok (.aload_n 0, 1) := by decide +kernel
theorem dX5_distributor_33 : decode cX5_distributor 33 = .ok (.getfield 7, 3) := by decide +kernel
theorem dX5_distributor_36 : decode cX5_distributor 36 = .ok (.iconst 5, 1) := by decide +kernel
theorem dX5_distributor_37 : decode cX5_distributor 37 = .ok (.iaload, 1) := by decide +kernel
theorem dX5_distributor_38 : decode cX5_distributor 38 = .ok (.if_icmp .ge 60, 3) := by decide +kernel
theorem dX5_distributor_41 : decode cX5_distributor 41 = .ok (.iload_n 2, 1) := by decide +kernel
theorem dX5_distributor_42 : decode cX5_distributor 42 = .ok (.ifCond .ne 7, 3) := by decide +kernel
theorem dX5_distributor_45 : decode cX5_distributor 45 = .ok (.iconst 1, 1) := by decide +kernel
theorem dX5_distributor_46 : decode cX5_distributor 46 = .ok (.goto 24, 3) := by decide +kernel
theorem dX5_distributor_49 : decode cX5_distributor 49 = .ok (.iload_n 2, 1) := by decide +kernel
theorem dX5_distributor_50 : decode cX5_distributor 50 = .ok (.iconst 1, 1) := by decide +kernel
theorem dX5_distributor_51 : decode cX5_distributor 51 = .ok (.if_icmp .ne 10, 3) := by decide +kernel
theorem dX5_distributor_54 : decode cX5_distributor 54 = .ok (.aload_n 0, 1) := by decide +kernel
theorem dX5_distributor_55 : decode cX5_distributor 55 = .ok (.getfield 34, 3) := by decide +kernel
theorem dX5_distributor_58 : decode cX5_distributor 58 = .ok (.goto 7, 3) := by decide +kernel
theorem dX5_distributor_61 : decode cX5_distributor 61 = .ok (.aload_n 0, 1) := by decide +kernel
theorem dX5_distributor_62 : decode cX5_distributor 62 = .ok (.getfield 43, 3) := by decide +kernel
theorem dX5_distributor_65 : decode cX5_distributor 65 = .ok (.iload 4, 2) := by decide +kernel
theorem dX5_distributor_67 : decode cX5_distributor 67 = .ok (.invokestatic 130, 3) := by decide +kernel
theorem dX5_distributor_70 : decode cX5_distributor 70 = .ok (.istore 5, 2) := by decide +kernel
theorem dX5_distributor_72 : decode cX5_distributor 72 = .ok (.iload_n 3, 1) := by decide +kernel
theorem dX5_distributor_73 : decode cX5_distributor 73 = .ok (.aload_n 0, 1) := by decide +kernel
theorem dX5_distributor_74 : decode cX5_distributor 74 = .ok (.iload 4, 2) := by decide +kernel
theorem dX5_distributor_76 : decode cX5_distributor 76 = .ok (.iconst 0, 1) := by decide +kernel
theorem dX5_distributor_77 : decode cX5_distributor 77 = .ok (.invokevirtual 58, 3) := by decide +kernel
theorem dX5_distributor_80 : decode cX5_distributor 80 = .ok (.iload_n 1, 1) := by decide +kernel
theorem dX5_distributor_81 : decode cX5_distributor 81 = .ok (.if_icmp .ne 8, 3) := by decide +kernel
theorem dX5_distributor_84 : decode cX5_distributor 84 = .ok (.iload 5, 2) := by decide +kernel
theorem dX5_distributor_86 : decode cX5_distributor 86 = .ok (.goto 4, 3) := by decide +kernel
theorem dX5_distributor_89 : decode cX5_distributor 89 = .ok (.iconst 0, 1) := by decide +kernel
theorem dX5_distributor_90 : decode cX5_distributor 90 = .ok (.iadd, 1) := by decide +kernel
theorem dX5_distributor_91 : decode cX5_distributor 91 = .ok (.istore_n 3, 1) := by decide +kernel
theorem dX5_distributor_92 : decode cX5_distributor 92 = .ok (.iinc 4 1, 3) := by decide +kernel
theorem dX5_distributor_95 : decode cX5_distributor 95 = .ok (.goto (-65), 3) := by decide +kernel
theorem dX5_distributor_98 : decode cX5_distributor 98 = .ok (.iload_n 3, 1) := by decide +kernel
theorem dX5_distributor_99 : decode cX5_distributor 99 = .ok (.ireturn, 1) := by decide +kernel
set_option maxRecDepth 20000 in
theorem ggX5_rent_X5_within : GoodIn wsX5_rent wsX5_within := goodIn_r _ [5] (by decide +kernel) (by decide +kernel)
set_option maxRecDepth 20000 in
theorem gX5_rent_X5_within : GoodIn wsX5_rent (va_wsS RX5 54 yX5_within wsX5_within) := goodIn_app (goodIn_of _ (by decide +kernel)) ggX5_rent_X5_within
theorem dX5_rent_0 : decode cX5_rent 0 = .ok (.iload_n 1, 1) := by decide +kernel
theorem dX5_rent_1 : decode cX5_rent 1 = .ok (.iconst 0, 1) := by decide +kernel
theorem dX5_rent_2 : decode cX5_rent 2 = .ok (.bipush 34, 2) := by decide +kernel
theorem dX5_rent_4 : decode cX5_rent 4 = .ok (.invokestatic 54, 3) := by decide +kernel
theorem dX5_rent_7 : decode cX5_rent 7 = .ok (.ifCond .eq 15, 3) := by decide +kernel
theorem dX5_rent_10 : decode cX5_rent 10 = .ok (.aload_n 0, 1) := by decide +kernel
theorem dX5_rent_11 : decode cX5_rent 11 = .ok (.getfield 7, 3) := by decide +kernel
theorem dX5_rent_14 : decode cX5_rent 14 = .ok (.bipush 116, 2) := by decide +kernel
theorem dX5_rent_16 : decode cX5_rent 16 = .ok (.iload_n 1, 1) := by decide +kernel
theorem dX5_rent_17 : decode cX5_rent 17 = .ok (.iadd, 1) := by decide +kernel
theorem dX5_rent_18 : decode cX5_rent 18 = .ok (.iaload, 1) := by decide +kernel
theorem dX5_rent_19 : decode cX5_rent 19 = .ok (.goto 5, 3) := by decide +kernel
theorem dX5_rent_22 : decode cX5_rent 22 = .ok (.bipush (-2), 2) := by decide +kernel
theorem dX5_rent_24 : decode cX5_rent 24 = .ok (.ireturn, 1) := by decide +kernel
theorem dX5_fullShows_0 : decode cX5_fullShows 0 = .ok (.iconst 0, 1) := by decide +kernel
theorem dX5_fullShows_1 : decode cX5_fullShows 1 = .ok (.istore_n 1, 1) := by decide +kernel
theorem dX5_fullShows_2 : decode cX5_fullShows 2 = .ok (.iconst 0, 1) := by decide +kernel
theorem dX5_fullShows_3 : decode cX5_fullShows 3 = .ok (.istore_n 2, 1) := by decide +kernel
theorem dX5_fullShows_4 : decode cX5_fullShows 4 = .ok (.iload_n 2, 1) := by decide +kernel
theorem dX5_fullShows_5 : decode cX5_fullShows 5 = .ok (.bipush 70, 2) := by decide +kernel
theorem dX5_fullShows_7 : decode cX5_fullShows 7 = .ok (.if_icmp .ge 46, 3) := by decide +kernel
theorem dX5_fullShows_10 : decode cX5_fullShows 10 = .ok (.iload_n 1, 1) := by decide +kernel
theorem dX5_fullShows_11 : decode cX5_fullShows 11 = .ok (.aload_n 0, 1) := by decide +kernel
theorem dX5_fullShows_12 : decode cX5_fullShows 12 = .ok (.getfield 7, 3) := by decide +kernel
theorem dX5_fullShows_15 : decode cX5_fullShows 15 = .ok (.bipush 46, 2) := by decide +kernel
theorem dX5_fullShows_17 : decode cX5_fullShows 17 = .ok (.iload_n 2, 1) := by decide +kernel
theorem dX5_fullShows_18 : decode cX5_fullShows 18 = .ok (.iadd, 1) := by decide +kernel
theorem dX5_fullShows_19 : decode cX5_fullShows 19 = .ok (.iaload, 1) := by decide +kernel
theorem dX5_fullShows_20 : decode cX5_fullShows 20 = .ok (.bipush (-6), 2) := by decide +kernel
theorem dX5_fullShows_22 : decode cX5_fullShows 22 = .ok (.if_icmp .eq 22, 3) := by decide +kernel
theorem dX5_fullShows_25 : decode cX5_fullShows 25 = .ok (.aload_n 0, 1) := by decide +kernel
theorem dX5_fullShows_26 : decode cX5_fullShows 26 = .ok (.getfield 25, 3) := by decide +kernel
theorem dX5_fullShows_29 : decode cX5_fullShows 29 = .ok (.iload_n 2, 1) := by decide +kernel
theorem dX5_fullShows_30 : decode cX5_fullShows 30 = .ok (.iaload, 1) := by decide +kernel
theorem dX5_fullShows_31 : decode cX5_fullShows 31 = .ok (.aload_n 0, 1) := by decide +kernel
theorem dX5_fullShows_32 : decode cX5_fullShows 32 = .ok (.getfield 7, 3) := by decide +kernel
theorem dX5_fullShows_35 : decode cX5_fullShows 35 = .ok (.iconst 0, 1) := by decide +kernel
theorem dX5_fullShows_36 : decode cX5_fullShows 36 = .ok (.iaload, 1) := by decide +kernel
theorem dX5_fullShows_37 : decode cX5_fullShows 37 = .ok (.if_icmp .ne 7, 3) := by decide +kernel
theorem dX5_fullShows_40 : decode cX5_fullShows 40 = .ok (.iconst 1, 1) := by decide +kernel
theorem dX5_fullShows_41 : decode cX5_fullShows 41 = .ok (.goto 4, 3) := by decide +kernel
theorem dX5_fullShows_44 : decode cX5_fullShows 44 = .ok (.iconst 0, 1) := by decide +kernel
theorem dX5_fullShows_45 : decode cX5_fullShows 45 = .ok (.iadd, 1) := by decide +kernel
theorem dX5_fullShows_46 : decode cX5_fullShows 46 = .ok (.istore_n 1, 1) := by decide +kernel
theorem dX5_fullShows_47 : decode cX5_fullShows 47 = .ok (.iinc 2 1, 3) := by decide +kernel
theorem dX5_fullShows_50 : decode cX5_fullShows 50 = .ok (.goto (-46), 3) := by decide +kernel
theorem dX5_fullShows_53 : decode cX5_fullShows 53 = .ok (.iload_n 1, 1) := by decide +kernel
theorem dX5_fullShows_54 : decode cX5_fullShows 54 = .ok (.ireturn, 1) := by decide +kernel
set_option maxRecDepth 20000 in
theorem ggX5_count_X5_reckon : GoodIn wsX5_count wsX5_reckon := goodIn_r _ [12, 13, 14, 15, 11, 16, 17, 1, 18, 19, 20, 21, 22, 23, 24, 25, 26, 27, 28, 29, 30, 31, 2, 3, 32, 33, 34, 35, 36, 4, 37, 38, 39, 40, 41, 42, 43, 44, 64, 65, 66, 67, 68, 69, 70, 71, 72, 73, 74, 75, 76, 77, 78, 79, 80, 81] (by decide +kernel) (by decide +kernel)
set_option maxRecDepth 20000 in
theorem gX5_count_X5_reckon : GoodIn wsX5_count (wsV RX5 89 RX5 yX5_reckon wsX5_reckon) := goodIn_app (goodIn_of _ (by decide +kernel)) ggX5_count_X5_reckon
set_option maxRecDepth 20000 in
theorem ggX5_count_X5_sumOf : GoodIn wsX5_count wsX5_sumOf := goodIn_r _ [47] (by decide +kernel) (by decide +kernel)
set_option maxRecDepth 20000 in
theorem gX5_count_X5_sumOf : GoodIn wsX5_count (va_wsS RX5 82 yX5_sumOf wsX5_sumOf) := goodIn_app (goodIn_of _ (by decide +kernel)) ggX5_count_X5_sumOf
set_option maxRecDepth 20000 in
theorem ggX5_count_X5_peopleIn : GoodIn wsX5_count wsX5_peopleIn := goodIn_r _ [51, 18, 64, 65, 66, 67, 68, 69, 70, 71, 72, 73, 74, 75, 76, 77, 78, 79, 80, 81] (by decide +kernel) (by decide +kernel)
set_option maxRecDepth 20000 in
theorem gX5_count_X5_peopleIn : GoodIn wsX5_count (wsV RX5 139 RX5 yX5_peopleIn wsX5_peopleIn) := goodIn_app (goodIn_of _ (by decide +kernel)) ggX5_count_X5_peopleIn
set_option maxRecDepth 20000 in
theorem ggX5_count_X5_leftOf : GoodIn wsX5_count wsX5_leftOf := goodIn_r _ [55, 3, 4, 1, 2, 45, 46, 11, 47, 56, 57, 58, 59, 64, 65, 66, 67, 68, 69, 70, 71, 72, 73, 74, 75, 76, 77, 78, 79, 80, 81] (by decide +kernel) (by decide +kernel)
set_option maxRecDepth 20000 in
theorem gX5_count_X5_leftOf : GoodIn wsX5_count (wsV RX5 92 RX5 yX5_leftOf wsX5_leftOf) := goodIn_app (goodIn_of _ (by decide +kernel)) ggX5_count_X5_leftOf
set_option maxRecDepth 20000 in
theorem ggX5_count_X5_rentsOf : GoodIn wsX5_count wsX5_rentsOf := goodIn_r _ [59, 1, 64, 65, 66, 67, 68, 69, 70, 71, 72, 73, 74, 75, 76, 77, 78, 79, 80, 81] (by decide +kernel) (by decide +kernel)
set_option maxRecDepth 20000 in
theorem gX5_count_X5_rentsOf : GoodIn wsX5_count (wsV RX5 86 RX5 yX5_rentsOf wsX5_rentsOf) := goodIn_app (goodIn_of _ (by decide +kernel)) ggX5_count_X5_rentsOf
set_option maxRecDepth 20000 in
theorem ggX5_count_X5_fullShows : GoodIn wsX5_count wsX5_fullShows := goodIn_r _ [63, 1, 18, 64, 65, 66, 67, 68, 69, 70, 71, 72, 73, 74, 75, 76, 77, 78, 79, 80, 81] (by decide +kernel) (by decide +kernel)
set_option maxRecDepth 20000 in
theorem gX5_count_X5_fullShows : GoodIn wsX5_count (wsV RX5 142 RX5 yX5_fullShows wsX5_fullShows) := goodIn_app (goodIn_of _ (by decide +kernel)) ggX5_count_X5_fullShows
theorem dX5_count_0 : decode cX5_count 0 = .ok (.aload_n 0, 1) := by decide +kernel
theorem dX5_count_1 : decode cX5_count 1 = .ok (.invokevirtual 89, 3) := by decide +kernel
theorem dX5_count_4 : decode cX5_count 4 = .ok (.iload_n 1, 1) := by decide +kernel
theorem dX5_count_5 : decode cX5_count 5 = .ok (.tableswitch 155 0 14 #[75, 82, 91, 97, 106, 115, 124, 130, 135, 135, 135, 135, 135, 145, 150], 75) := by decide +kernel
theorem dX5_count_80 : decode cX5_count 80 = .ok (.aload_n 0, 1) := by decide +kernel
theorem dX5_count_81 : decode cX5_count 81 = .ok (.getfield 7, 3) := by decide +kernel
theorem dX5_count_84 : decode cX5_count 84 = .ok (.iconst 5, 1) := by decide +kernel
theorem dX5_count_85 : decode cX5_count 85 = .ok (.iaload, 1) := by decide +kernel
theorem dX5_count_86 : decode cX5_count 86 = .ok (.ireturn, 1) := by decide +kernel
theorem dX5_count_87 : decode cX5_count 87 = .ok (.aload_n 0, 1) := by decide +kernel
theorem dX5_count_88 : decode cX5_count 88 = .ok (.getfield 34, 3) := by decide +kernel
theorem dX5_count_91 : decode cX5_count 91 = .ok (.iconst (-1), 1) := by decide +kernel
theorem dX5_count_92 : decode cX5_count 92 = .ok (.invokestatic 82, 3) := by decide +kernel
theorem dX5_count_95 : decode cX5_count 95 = .ok (.ireturn, 1) := by decide +kernel
theorem dX5_count_96 : decode cX5_count 96 = .ok (.aload_n 0, 1) := by decide +kernel
theorem dX5_count_97 : decode cX5_count 97 = .ok (.iconst (-1), 1) := by decide +kernel
theorem dX5_count_98 : decode cX5_count 98 = .ok (.invokevirtual 139, 3) := by decide +kernel
theorem dX5_count_101 : decode cX5_count 101 = .ok (.ireturn, 1) := by decide +kernel
theorem dX5_count_102 : decode cX5_count 102 = .ok (.aload_n 0, 1) := by decide +kernel
theorem dX5_count_103 : decode cX5_count 103 = .ok (.getfield 37, 3) := by decide +kernel
theorem dX5_count_106 : decode cX5_count 106 = .ok (.iconst (-1), 1) := by decide +kernel
theorem dX5_count_107 : decode cX5_count 107 = .ok (.invokestatic 82, 3) := by decide +kernel
theorem dX5_count_110 : decode cX5_count 110 = .ok (.ireturn, 1) := by decide +kernel
theorem dX5_count_111 : decode cX5_count 111 = .ok (.aload_n 0, 1) := by decide +kernel
theorem dX5_count_112 : decode cX5_count 112 = .ok (.getfield 43, 3) := by decide +kernel
theorem dX5_count_115 : decode cX5_count 115 = .ok (.iconst (-1), 1) := by decide +kernel
theorem dX5_count_116 : decode cX5_count 116 = .ok (.invokestatic 82, 3) := by decide +kernel
theorem dX5_count_119 : decode cX5_count 119 = .ok (.ireturn, 1) := by decide +kernel
theorem dX5_count_120 : decode cX5_count 120 = .ok (.aload_n 0, 1) := by decide +kernel
theorem dX5_count_121 : decode cX5_count 121 = .ok (.iconst (-1), 1) := by decide +kernel
theorem dX5_count_122 : decode cX5_count 122 = .ok (.invokevirtual 92, 3) := by decide +kernel
theorem dX5_count_125 : decode cX5_count 125 = .ok (.ldc 129, 2) := by decide +kernel
theorem dX5_count_127 : decode cX5_count 127 = .ok (.iadd, 1) := by decide +kernel
theorem dX5_count_128 : decode cX5_count 128 = .ok (.ireturn, 1) := by decide +kernel
theorem dX5_count_129 : decode cX5_count 129 = .ok (.aload_n 0, 1) := by decide +kernel
theorem dX5_count_130 : decode cX5_count 130 = .ok (.iconst (-1), 1) := by decide +kernel
theorem dX5_count_131 : decode cX5_count 131 = .ok (.invokevirtual 86, 3) := by decide +kernel
theorem dX5_count_134 : decode cX5_count 134 = .ok (.ireturn, 1) := by decide +kernel
theorem dX5_count_135 : decode cX5_count 135 = .ok (.aload_n 0, 1) := by decide +kernel
theorem dX5_count_136 : decode cX5_count 136 = .ok (.invokevirtual 142, 3) := by decide +kernel
theorem dX5_count_139 : decode cX5_count 139 = .ok (.ireturn, 1) := by decide +kernel
theorem dX5_count_140 : decode cX5_count 140 = .ok (.aload_n 0, 1) := by decide +kernel
theorem dX5_count_141 : decode cX5_count 141 = .ok (.getfield 7, 3) := by decide +kernel
theorem dX5_count_144 : decode cX5_count 144 = .ok (.iload_n 1, 1) := by decide +kernel
theorem dX5_count_145 : decode cX5_count 145 = .ok (.bipush 8, 2) := by decide +kernel
theorem dX5_count_147 : decode cX5_count 147 = .ok (.isub, 1) := by decide +kernel
theorem dX5_count_148 : decode cX5_count 148 = .ok (.iaload, 1) := by decide +kernel
theorem dX5_count_149 : decode cX5_count 149 = .ok (.ireturn, 1) := by decide +kernel
theorem dX5_count_150 : decode cX5_count 150 = .ok (.aload_n 0, 1) := by decide +kernel
theorem dX5_count_151 : decode cX5_count 151 = .ok (.getfield 145, 3) := by decide +kernel
theorem dX5_count_154 : decode cX5_count 154 = .ok (.ireturn, 1) := by decide +kernel
theorem dX5_count_155 : decode cX5_count 155 = .ok (.aload_n 0, 1) := by decide +kernel
theorem dX5_count_156 : decode cX5_count 156 = .ok (.getfield 46, 3) := by decide +kernel
theorem dX5_count_159 : decode cX5_count 159 = .ok (.ireturn, 1) := by decide +kernel
theorem dX5_count_160 : decode cX5_count 160 = .ok (.bipush (-2), 2) := by decide +kernel
theorem dX5_count_162 : decode cX5_count 162 = .ok (.ireturn, 1) := by decide +kernel
set_option maxRecDepth 20000 in
theorem ggX5_moreWith_X5_leftNow : GoodIn wsX5_moreWith wsX5_leftNow := goodIn_r _ [6, 7, 8, 9, 5, 10, 11, 12, 13, 14, 15, 1, 16, 17, 18, 19, 20, 21, 22, 23, 24, 25, 26, 27, 28, 29, 30, 31, 32, 33, 34, 35, 36, 37, 38, 39, 40, 41, 42, 43, 44, 45, 46, 47, 48, 49, 50, 51, 52, 53, 54, 55, 56, 57, 58, 59, 60, 61, 62, 63, 64, 65, 66, 67, 68, 69, 70, 71, 72, 73, 74] (by decide +kernel) (by decide +kernel)
set_option maxRecDepth 20000 in
theorem gX5_moreWith_X5_leftNow : GoodIn wsX5_moreWith (wsV RX5 125 RX5 yX5_leftNow wsX5_leftNow) := goodIn_app (goodIn_of _ (by decide +kernel)) ggX5_moreWith_X5_leftNow
theorem dX5_moreWith_0 : decode cX5_moreWith 0 = .ok (.aload_n 0, 1) := by decide +kernel
theorem dX5_moreWith_1 : decode cX5_moreWith 1 = .ok (.getfield 7, 3) := by decide +kernel
theorem dX5_moreWith_4 : decode cX5_moreWith 4 = .ok (.bipush 46, 2) := by decide +kernel
theorem dX5_moreWith_6 : decode cX5_moreWith 6 = .ok (.iload_n 2, 1) := by decide +kernel
theorem dX5_moreWith_7 : decode cX5_moreWith 7 = .ok (.iadd, 1) := by decide +kernel
theorem dX5_moreWith_8 : decode cX5_moreWith 8 = .ok (.iaload, 1) := by decide +kernel
theorem dX5_moreWith_9 : decode cX5_moreWith 9 = .ok (.istore_n 3, 1) := by decide +kernel
theorem dX5_moreWith_10 : decode cX5_moreWith 10 = .ok (.aload_n 0, 1) := by decide +kernel
theorem dX5_moreWith_11 : decode cX5_moreWith 11 = .ok (.invokevirtual 125, 3) := by decide +kernel
theorem dX5_moreWith_14 : decode cX5_moreWith 14 = .ok (.istore 4, 2) := by decide +kernel
theorem dX5_moreWith_16 : decode cX5_moreWith 16 = .ok (.aload_n 0, 1) := by decide +kernel
theorem dX5_moreWith_17 : decode cX5_moreWith 17 = .ok (.getfield 7, 3) := by decide +kernel
theorem dX5_moreWith_20 : decode cX5_moreWith 20 = .ok (.bipush 46, 2) := by decide +kernel
theorem dX5_moreWith_22 : decode cX5_moreWith 22 = .ok (.iload_n 2, 1) := by decide +kernel
theorem dX5_moreWith_23 : decode cX5_moreWith 23 = .ok (.iadd, 1) := by decide +kernel
theorem dX5_moreWith_24 : decode cX5_moreWith 24 = .ok (.iload_n 1, 1) := by decide +kernel
theorem dX5_moreWith_25 : decode cX5_moreWith 25 = .ok (.iastore, 1) := by decide +kernel
theorem dX5_moreWith_26 : decode cX5_moreWith 26 = .ok (.aload_n 0, 1) := by decide +kernel
theorem dX5_moreWith_27 : decode cX5_moreWith 27 = .ok (.invokevirtual 125, 3) := by decide +kernel
theorem dX5_moreWith_30 : decode cX5_moreWith 30 = .ok (.iload 4, 2) := by decide +kernel
theorem dX5_moreWith_32 : decode cX5_moreWith 32 = .ok (.isub, 1) := by decide +kernel
theorem dX5_moreWith_33 : decode cX5_moreWith 33 = .ok (.istore 5, 2) := by decide +kernel
theorem dX5_moreWith_35 : decode cX5_moreWith 35 = .ok (.aload_n 0, 1) := by decide +kernel
theorem dX5_moreWith_36 : decode cX5_moreWith 36 = .ok (.getfield 7, 3) := by decide +kernel
theorem dX5_moreWith_39 : decode cX5_moreWith 39 = .ok (.bipush 46, 2) := by decide +kernel
theorem dX5_moreWith_41 : decode cX5_moreWith 41 = .ok (.iload_n 2, 1) := by decide +kernel
theorem dX5_moreWith_42 : decode cX5_moreWith 42 = .ok (.iadd, 1) := by decide +kernel
theorem dX5_moreWith_43 : decode cX5_moreWith 43 = .ok (.iload_n 3, 1) := by decide +kernel
theorem dX5_moreWith_44 : decode cX5_moreWith 44 = .ok (.iastore, 1) := by decide +kernel
theorem dX5_moreWith_45 : decode cX5_moreWith 45 = .ok (.iload 5, 2) := by decide +kernel
theorem dX5_moreWith_47 : decode cX5_moreWith 47 = .ok (.ireturn, 1) := by decide +kernel
set_option maxRecDepth 20000 in
theorem ggX5_ifShown_X5_whyNotShown : GoodIn wsX5_ifShown wsX5_whyNotShown := goodIn_r _ [6, 7, 8, 9, 5, 10, 11, 12, 13, 14, 15, 16, 17, 18, 19, 20, 21, 22, 23, 24, 25, 26, 27, 28, 29, 84, 85, 86, 87, 88, 89, 90, 91, 92, 93, 94, 95, 96, 97, 98, 99, 100, 101] (by decide +kernel) (by decide +kernel)
set_option maxRecDepth 20000 in
theorem gX5_ifShown_X5_whyNotShown : GoodIn wsX5_ifShown (wsV RX5 115 RX5 yX5_whyNotShown wsX5_whyNotShown) := goodIn_app (goodIn_of _ (by decide +kernel)) ggX5_ifShown_X5_whyNotShown
set_option maxRecDepth 20000 in
theorem ggX5_ifShown_X5_moreWith : GoodIn wsX5_ifShown wsX5_moreWith := goodIn_r _ [33, 11, 34, 35, 36, 5, 37, 38, 39, 40, 41, 42, 43, 44, 45, 46, 47, 48, 26, 27, 28, 29, 49, 50, 51, 52, 53, 54, 55, 56, 57, 58, 59, 60, 61, 62, 63, 64, 65, 66, 67, 68, 69, 70, 71, 72, 73, 74, 75, 76, 77, 78, 79, 80, 81, 82, 83, 84, 85, 86, 87, 88, 89, 90, 91, 92, 93, 94, 95, 96, 97, 98, 99, 100, 101] (by decide +kernel) (by decide +kernel)
set_option maxRecDepth 20000 in
theorem gX5_ifShown_X5_moreWith : GoodIn wsX5_ifShown (wsV RX5 148 RX5 yX5_moreWith wsX5_moreWith) := goodIn_app (goodIn_of _ (by decide +kernel)) ggX5_ifShown_X5_moreWith
theorem dX5_ifShown_0 : decode cX5_ifShown 0 = .ok (.aload_n 0, 1) := by decide +kernel
theorem dX5_ifShown_1 : decode cX5_ifShown 1 = .ok (.iload_n 1, 1) := by decide +kernel
theorem dX5_ifShown_2 : decode cX5_ifShown 2 = .ok (.iload_n 2, 1) := by decide +kernel
theorem dX5_ifShown_3 : decode cX5_ifShown 3 = .ok (.iload_n 3, 1) := by decide +kernel
theorem dX5_ifShown_4 : decode cX5_ifShown 4 = .ok (.invokevirtual 115, 3) := by decide +kernel
theorem dX5_ifShown_7 : decode cX5_ifShown 7 = .ok (.istore 4, 2) := by decide +kernel
theorem dX5_ifShown_9 : decode cX5_ifShown 9 = .ok (.iload 4, 2) := by decide +kernel
theorem dX5_ifShown_11 : decode cX5_ifShown 11 = .ok (.ifCond .ge 8, 3) := by decide +kernel
theorem dX5_ifShown_14 : decode cX5_ifShown 14 = .ok (.iload 4, 2) := by decide +kernel
theorem dX5_ifShown_16 : decode cX5_ifShown 16 = .ok (.goto 16, 3) := by decide +kernel
theorem dX5_ifShown_19 : decode cX5_ifShown 19 = .ok (.aload_n 0, 1) := by decide +kernel
theorem dX5_ifShown_20 : decode cX5_ifShown 20 = .ok (.iload_n 1, 1) := by decide +kernel
theorem dX5_ifShown_21 : decode cX5_ifShown 21 = .ok (.iconst 2, 1) := by decide +kernel
theorem dX5_ifShown_22 : decode cX5_ifShown 22 = .ok (.iload_n 2, 1) := by decide +kernel
theorem dX5_ifShown_23 : decode cX5_ifShown 23 = .ok (.imul, 1) := by decide +kernel
theorem dX5_ifShown_24 : decode cX5_ifShown 24 = .ok (.iload_n 3, 1) := by decide +kernel
theorem dX5_ifShown_25 : decode cX5_ifShown 25 = .ok (.iadd, 1) := by decide +kernel
theorem dX5_ifShown_26 : decode cX5_ifShown 26 = .ok (.invokevirtual 148, 3) := by decide +kernel
theorem dX5_ifShown_29 : decode cX5_ifShown 29 = .ok (.ldc 129, 2) := by decide +kernel
theorem dX5_ifShown_31 : decode cX5_ifShown 31 = .ok (.iadd, 1) := by decide +kernel
theorem dX5_ifShown_32 : decode cX5_ifShown 32 = .ok (.ireturn, 1) := by decide +kernel
set_option maxRecDepth 20000 in
theorem ggX5_bestFilm_X5_isPart : GoodIn wsX5_bestFilm wsX5_isPart := goodIn_r _ [6, 7, 8, 5, 9] (by decide +kernel) (by decide +kernel)
set_option maxRecDepth 20000 in
theorem gX5_bestFilm_X5_isPart : GoodIn wsX5_bestFilm (va_wsS RX5 109 yX5_isPart wsX5_isPart) := goodIn_app (goodIn_of _ (by decide +kernel)) ggX5_bestFilm_X5_isPart
set_option maxRecDepth 20000 in
theorem ggX5_bestFilm_X5_within : GoodIn wsX5_bestFilm wsX5_within := goodIn_r _ [9] (by decide +kernel) (by decide +kernel)
set_option maxRecDepth 20000 in
theorem gX5_bestFilm_X5_within : GoodIn wsX5_bestFilm (va_wsS RX5 54 yX5_within wsX5_within) := goodIn_app (goodIn_of _ (by decide +kernel)) ggX5_bestFilm_X5_within
set_option maxRecDepth 20000 in
theorem ggX5_bestFilm_X5_isLet : GoodIn wsX5_bestFilm wsX5_isLet := goodIn_r _ [13, 1, 76, 77, 78, 79, 80, 81, 82, 83, 84, 85, 86, 87, 88, 89, 90, 91, 92, 93] (by decide +kernel) (by decide +kernel)
set_option maxRecDepth 20000 in
theorem gX5_bestFilm_X5_isLet : GoodIn wsX5_bestFilm (wsV RX5 102 RX5 yX5_isLet wsX5_isLet) := goodIn_app (goodIn_of _ (by decide +kernel)) ggX5_bestFilm_X5_isLet
set_option maxRecDepth 20000 in
theorem ggX5_bestFilm_X5_canShow : GoodIn wsX5_bestFilm wsX5_canShow := goodIn_r _ [17, 10, 11, 12, 5, 13, 1, 18, 19, 20, 21, 76, 77, 78, 79, 80, 81, 82, 83, 84, 85, 86, 87, 88, 89, 90, 91, 92, 93] (by decide +kernel) (by decide +kernel)
set_option maxRecDepth 20000 in
theorem gX5_bestFilm_X5_canShow : GoodIn wsX5_bestFilm (wsV RX5 112 RX5 yX5_canShow wsX5_canShow) := goodIn_app (goodIn_of _ (by decide +kernel)) ggX5_bestFilm_X5_canShow
set_option maxRecDepth 20000 in
theorem ggX5_bestFilm_X5_moreWith : GoodIn wsX5_bestFilm wsX5_moreWith := goodIn_r _ [25, 1, 26, 27, 28, 5, 29, 30, 31, 32, 33, 34, 35, 36, 37, 38, 39, 40, 18, 19, 20, 21, 41, 42, 43, 44, 45, 46, 47, 48, 49, 50, 51, 52, 53, 54, 55, 56, 57, 58, 59, 60, 61, 62, 63, 64, 65, 66, 67, 68, 69, 70, 71, 72, 73, 74, 75, 76, 77, 78, 79, 80, 81, 82, 83, 84, 85, 86, 87, 88, 89, 90, 91, 92, 93] (by decide +kernel) (by decide +kernel)
set_option maxRecDepth 20000 in
theorem gX5_bestFilm_X5_moreWith : GoodIn wsX5_bestFilm (wsV RX5 148 RX5 yX5_moreWith wsX5_moreWith) := goodIn_app (goodIn_of _ (by decide +kernel)) ggX5_bestFilm_X5_moreWith
theorem dX5_bestFilm_0 : decode cX5_bestFilm 0 = .ok (.iload_n 1, 1) := by decide +kernel
theorem dX5_bestFilm_1 : decode cX5_bestFilm 1 = .ok (.iload_n 2, 1) := by decide +kernel
theorem dX5_bestFilm_2 : decode cX5_bestFilm 2 = .ok (.invokestatic 109, 3) := by decide +kernel
theorem dX5_bestFilm_5 : decode cX5_bestFilm 5 = .ok (.ifCond .eq 12, 3) := by decide +kernel
theorem dX5_bestFilm_8 : decode cX5_bestFilm 8 = .ok (.iload_n 3, 1) := by decide +kernel
theorem dX5_bestFilm_9 : decode cX5_bestFilm 9 = .ok (.iconst 0, 1) := by decide +kernel
theorem dX5_bestFilm_10 : decode cX5_bestFilm 10 = .ok (.iconst 1, 1) := by decide +kernel
theorem dX5_bestFilm_11 : decode cX5_bestFilm 11 = .ok (.invokestatic 54, 3) := by decide +kernel
theorem dX5_bestFilm_14 : decode cX5_bestFilm 14 = .ok (.ifCond .ne 6, 3) := by decide +kernel
theorem dX5_bestFilm_17 : decode cX5_bestFilm 17 = .ok (.bipush (-2), 2) := by decide +kernel
theorem dX5_bestFilm_19 : decode cX5_bestFilm 19 = .ok (.ireturn, 1) := by decide +kernel
theorem dX5_bestFilm_20 : decode cX5_bestFilm 20 = .ok (.aload_n 0, 1) := by decide +kernel
theorem dX5_bestFilm_21 : decode cX5_bestFilm 21 = .ok (.iload_n 1, 1) := by decide +kernel
theorem dX5_bestFilm_22 : decode cX5_bestFilm 22 = .ok (.invokevirtual 102, 3) := by decide +kernel
theorem dX5_bestFilm_25 : decode cX5_bestFilm 25 = .ok (.ifCond .eq 6, 3) := by decide +kernel
theorem dX5_bestFilm_28 : decode cX5_bestFilm 28 = .ok (.bipush (-5), 2) := by decide +kernel
theorem dX5_bestFilm_30 : decode cX5_bestFilm 30 = .ok (.ireturn, 1) := by decide +kernel
theorem dX5_bestFilm_31 : decode cX5_bestFilm 31 = .ok (.bipush (-6), 2) := by decide +kernel
theorem dX5_bestFilm_33 : decode cX5_bestFilm 33 = .ok (.istore 4, 2) := by decide +kernel
theorem dX5_bestFilm_35 : decode cX5_bestFilm 35 = .ok (.iconst 0, 1) := by decide +kernel
theorem dX5_bestFilm_36 : decode cX5_bestFilm 36 = .ok (.istore 5, 2) := by decide +kernel
theorem dX5_bestFilm_38 : decode cX5_bestFilm 38 = .ok (.iconst 0, 1) := by decide +kernel
theorem dX5_bestFilm_39 : decode cX5_bestFilm 39 = .ok (.istore 6, 2) := by decide +kernel
theorem dX5_bestFilm_41 : decode cX5_bestFilm 41 = .ok (.iload 6, 2) := by decide +kernel
theorem dX5_bestFilm_43 : decode cX5_bestFilm 43 = .ok (.aload_n 0, 1) := by decide +kernel
theorem dX5_bestFilm_44 : decode cX5_bestFilm 44 = .ok (.getfield 7, 3) := by decide +kernel
theorem dX5_bestFilm_47 : decode cX5_bestFilm 47 = .ok (.iconst 5, 1) := by decide +kernel
theorem dX5_bestFilm_48 : decode cX5_bestFilm 48 = .ok (.iaload, 1) := by decide +kernel
theorem dX5_bestFilm_49 : decode cX5_bestFilm 49 = .ok (.if_icmp .ge 81, 3) := by decide +kernel
theorem dX5_bestFilm_52 : decode cX5_bestFilm 52 = .ok (.aload_n 0, 1) := by decide +kernel
theorem dX5_bestFilm_53 : decode cX5_bestFilm 53 = .ok (.iload 6, 2) := by decide +kernel
theorem dX5_bestFilm_55 : decode cX5_bestFilm 55 = .ok (.iload_n 1, 1) := by decide +kernel
theorem dX5_bestFilm_56 : decode cX5_bestFilm 56 = .ok (.invokevirtual 112, 3) := by decide +kernel
theorem dX5_bestFilm_59 : decode cX5_bestFilm 59 = .ok (.ifCond .eq 65, 3) := by decide +kernel
theorem dX5_bestFilm_62 : decode cX5_bestFilm 62 = .ok (.aload_n 0, 1) := by decide +kernel
theorem dX5_bestFilm_63 : decode cX5_bestFilm 63 = .ok (.iload 6, 2) := by decide +kernel
theorem dX5_bestFilm_65 : decode cX5_bestFilm 65 = .ok (.iconst 2, 1) := by decide +kernel
theorem dX5_bestFilm_66 : decode cX5_bestFilm 66 = .ok (.iload_n 1, 1) := by decide +kernel
theorem dX5_bestFilm_67 : decode cX5_bestFilm 67 = .ok (.imul, 1) := by decide +kernel
theorem dX5_bestFilm_68 : decode cX5_bestFilm 68 = .ok (.iload_n 2, 1) := by decide +kernel
theorem dX5_bestFilm_69 : decode cX5_bestFilm 69 = .ok (.iadd, 1) := by decide +kernel
theorem dX5_bestFilm_70 : decode cX5_bestFilm 70 = .ok (.invokevirtual 148, 3) := by decide +kernel
theorem dX5_bestFilm_73 : decode cX5_bestFilm 73 = .ok (.istore 7, 2) := by decide +kernel
theorem dX5_bestFilm_75 : decode cX5_bestFilm 75 = .ok (.iload 4, 2) := by decide +kernel
theorem dX5_bestFilm_77 : decode cX5_bestFilm 77 = .ok (.bipush (-6), 2) := by decide +kernel
theorem dX5_bestFilm_79 : decode cX5_bestFilm 79 = .ok (.if_icmp .eq 10, 3) := by decide +kernel
theorem dX5_bestFilm_82 : decode cX5_bestFilm 82 = .ok (.iload 7, 2) := by decide +kernel
theorem dX5_bestFilm_84 : decode cX5_bestFilm 84 = .ok (.iload 5, 2) := by decide +kernel
theorem dX5_bestFilm_86 : decode cX5_bestFilm 86 = .ok (.if_icmp .le 7, 3) := by decide +kernel
theorem dX5_bestFilm_89 : decode cX5_bestFilm 89 = .ok (.iconst 1, 1) := by decide +kernel
theorem dX5_bestFilm_90 : decode cX5_bestFilm 90 = .ok (.goto 4, 3) := by decide +kernel
theorem dX5_bestFilm_93 : decode cX5_bestFilm 93 = .ok (.iconst 0, 1) := by decide +kernel
theorem dX5_bestFilm_94 : decode cX5_bestFilm 94 = .ok (.istore 8, 2) := by decide +kernel
theorem dX5_bestFilm_96 : decode cX5_bestFilm 96 = .ok (.iload 8, 2) := by decide +kernel
theorem dX5_bestFilm_98 : decode cX5_bestFilm 98 = .ok (.ifCond .eq 8, 3) := by decide +kernel
theorem dX5_bestFilm_101 : decode cX5_bestFilm 101 = .ok (.iload 6, 2) := by decide +kernel
theorem dX5_bestFilm_103 : decode cX5_bestFilm 103 = .ok (.goto 5, 3) := by decide +kernel
theorem dX5_bestFilm_106 : decode cX5_bestFilm 106 = .ok (.iload 4, 2) := by decide +kernel
theorem dX5_bestFilm_108 : decode cX5_bestFilm 108 = .ok (.istore 4, 2) := by decide +kernel
theorem dX5_bestFilm_110 : decode cX5_bestFilm 110 = .ok (.iload 8, 2) := by decide +kernel
theorem dX5_bestFilm_112 : decode cX5_bestFilm 112 = .ok (.ifCond .eq 8, 3) := by decide +kernel
theorem dX5_bestFilm_115 : decode cX5_bestFilm 115 = .ok (.iload 7, 2) := by decide +kernel
theorem dX5_bestFilm_117 : decode cX5_bestFilm 117 = .ok (.goto 5, 3) := by decide +kernel
theorem dX5_bestFilm_120 : decode cX5_bestFilm 120 = .ok (.iload 5, 2) := by decide +kernel
theorem dX5_bestFilm_122 : decode cX5_bestFilm 122 = .ok (.istore 5, 2) := by decide +kernel
theorem dX5_bestFilm_124 : decode cX5_bestFilm 124 = .ok (.iinc 6 1, 3) := by decide +kernel
theorem dX5_bestFilm_127 : decode cX5_bestFilm 127 = .ok (.goto (-86), 3) := by decide +kernel
theorem dX5_bestFilm_130 : decode cX5_bestFilm 130 = .ok (.iload 4, 2) := by decide +kernel
theorem dX5_bestFilm_132 : decode cX5_bestFilm 132 = .ok (.bipush (-6), 2) := by decide +kernel
theorem dX5_bestFilm_134 : decode cX5_bestFilm 134 = .ok (.if_icmp .eq 7, 3) := by decide +kernel
theorem dX5_bestFilm_137 : decode cX5_bestFilm 137 = .ok (.iload_n 3, 1) := by decide +kernel
theorem dX5_bestFilm_138 : decode cX5_bestFilm 138 = .ok (.ifCond .ne 8, 3) := by decide +kernel
theorem dX5_bestFilm_141 : decode cX5_bestFilm 141 = .ok (.iload 4, 2) := by decide +kernel
theorem dX5_bestFilm_143 : decode cX5_bestFilm 143 = .ok (.goto 8, 3) := by decide +kernel
theorem dX5_bestFilm_146 : decode cX5_bestFilm 146 = .ok (.iload 5, 2) := by decide +kernel
theorem dX5_bestFilm_148 : decode cX5_bestFilm 148 = .ok (.ldc 129, 2) := by decide +kernel
theorem dX5_bestFilm_150 : decode cX5_bestFilm 150 = .ok (.iadd, 1) := by decide +kernel
theorem dX5_bestFilm_151 : decode cX5_bestFilm 151 = .ok (.ireturn, 1) := by decide +kernel
set_option maxRecDepth 20000 in
theorem ggX5_worstShow_X5_within : GoodIn wsX5_worstShow wsX5_within := goodIn_r _ [6] (by decide +kernel) (by decide +kernel)
set_option maxRecDepth 20000 in
theorem gX5_worstShow_X5_within : GoodIn wsX5_worstShow (va_wsS RX5 54 yX5_within wsX5_within) := goodIn_app (goodIn_of _ (by decide +kernel)) ggX5_worstShow_X5_within
set_option maxRecDepth 20000 in
theorem ggX5_worstShow_X5_moreWith : GoodIn wsX5_worstShow wsX5_moreWith := goodIn_r _ [10, 1, 11, 12, 13, 5, 14, 15, 16, 17, 18, 19, 20, 21, 22, 23, 24, 25, 26, 27, 28, 29, 30, 31, 32, 33, 34, 35, 36, 37, 38, 39, 40, 41, 42, 43, 44, 45, 46, 47, 48, 49, 50, 51, 52, 53, 54, 55, 56, 57, 58, 59, 60, 61, 62, 63, 64, 65, 66, 67, 68, 69, 70, 71, 72, 73, 74, 75, 76, 77, 78, 79, 80, 81, 82] (by decide +kernel) (by decide +kernel)
set_option maxRecDepth 20000 in
theorem gX5_worstShow_X5_moreWith : GoodIn wsX5_worstShow (wsV RX5 148 RX5 yX5_moreWith wsX5_moreWith) := goodIn_app (goodIn_of _ (by decide +kernel)) ggX5_worstShow_X5_moreWith
theorem dX5_worstShow_0 : decode cX5_worstShow 0 = .ok (.iload_n 1, 1) := by decide +kernel
theorem dX5_worstShow_1 : decode cX5_worstShow 1 = .ok (.iconst 0, 1) := by decide +kernel
theorem dX5_worstShow_2 : decode cX5_worstShow 2 = .ok (.iconst 2, 1) := by decide +kernel
theorem dX5_worstShow_3 : decode cX5_worstShow 3 = .ok (.invokestatic 54, 3) := by decide +kernel
theorem dX5_worstShow_6 : decode cX5_worstShow 6 = .ok (.ifCond .ne 6, 3) := by decide +kernel
theorem dX5_worstShow_9 : decode cX5_worstShow 9 = .ok (.bipush (-2), 2) := by decide +kernel
theorem dX5_worstShow_11 : decode cX5_worstShow 11 = .ok (.ireturn, 1) := by decide +kernel
theorem dX5_worstShow_12 : decode cX5_worstShow 12 = .ok (.bipush (-6), 2) := by decide +kernel
theorem dX5_worstShow_14 : decode cX5_worstShow 14 = .ok (.istore_n 2, 1) := by decide +kernel
theorem dX5_worstShow_15 : decode cX5_worstShow 15 = .ok (.iconst 0, 1) := by decide +kernel
theorem dX5_worstShow_16 : decode cX5_worstShow 16 = .ok (.istore_n 3, 1) := by decide +kernel
theorem dX5_worstShow_17 : decode cX5_worstShow 17 = .ok (.iconst 0, 1) := by decide +kernel
theorem dX5_worstShow_18 : decode cX5_worstShow 18 = .ok (.istore 4, 2) := by decide +kernel
theorem dX5_worstShow_20 : decode cX5_worstShow 20 = .ok (.iload 4, 2) := by decide +kernel
theorem dX5_worstShow_22 : decode cX5_worstShow 22 = .ok (.bipush 70, 2) := by decide +kernel
theorem dX5_worstShow_24 : decode cX5_worstShow 24 = .ok (.if_icmp .ge 77, 3) := by decide +kernel
theorem dX5_worstShow_27 : decode cX5_worstShow 27 = .ok (.aload_n 0, 1) := by decide +kernel
theorem dX5_worstShow_28 : decode cX5_worstShow 28 = .ok (.getfield 7, 3) := by decide +kernel
theorem dX5_worstShow_31 : decode cX5_worstShow 31 = .ok (.bipush 46, 2) := by decide +kernel
theorem dX5_worstShow_33 : decode cX5_worstShow 33 = .ok (.iload 4, 2) := by decide +kernel
theorem dX5_worstShow_35 : decode cX5_worstShow 35 = .ok (.iadd, 1) := by decide +kernel
theorem dX5_worstShow_36 : decode cX5_worstShow 36 = .ok (.iaload, 1) := by decide +kernel
theorem dX5_worstShow_37 : decode cX5_worstShow 37 = .ok (.bipush (-6), 2) := by decide +kernel
theorem dX5_worstShow_39 : decode cX5_worstShow 39 = .ok (.if_icmp .eq 56, 3) := by decide +kernel
theorem dX5_worstShow_42 : decode cX5_worstShow 42 = .ok (.aload_n 0, 1) := by decide +kernel
theorem dX5_worstShow_43 : decode cX5_worstShow 43 = .ok (.bipush (-6), 2) := by decide +kernel
theorem dX5_worstShow_45 : decode cX5_worstShow 45 = .ok (.iload 4, 2) := by decide +kernel
theorem dX5_worstShow_47 : decode cX5_worstShow 47 = .ok (.invokevirtual 148, 3) := by decide +kernel
theorem dX5_worstShow_50 : decode cX5_worstShow 50 = .ok (.istore 5, 2) := by decide +kernel
theorem dX5_worstShow_52 : decode cX5_worstShow 52 = .ok (.iload_n 2, 1) := by decide +kernel
theorem dX5_worstShow_53 : decode cX5_worstShow 53 = .ok (.bipush (-6), 2) := by decide +kernel
theorem dX5_worstShow_55 : decode cX5_worstShow 55 = .ok (.if_icmp .eq 9, 3) := by decide +kernel
theorem dX5_worstShow_58 : decode cX5_worstShow 58 = .ok (.iload 5, 2) := by decide +kernel
theorem dX5_worstShow_60 : decode cX5_worstShow 60 = .ok (.iload_n 3, 1) := by decide +kernel
theorem dX5_worstShow_61 : decode cX5_worstShow 61 = .ok (.if_icmp .le 7, 3) := by decide +kernel
theorem dX5_worstShow_64 : decode cX5_worstShow 64 = .ok (.iconst 1, 1) := by decide +kernel
theorem dX5_worstShow_65 : decode cX5_worstShow 65 = .ok (.goto 4, 3) := by decide +kernel
theorem dX5_worstShow_68 : decode cX5_worstShow 68 = .ok (.iconst 0, 1) := by decide +kernel
theorem dX5_worstShow_69 : decode cX5_worstShow 69 = .ok (.istore 6, 2) := by decide +kernel
theorem dX5_worstShow_71 : decode cX5_worstShow 71 = .ok (.iload 6, 2) := by decide +kernel
theorem dX5_worstShow_73 : decode cX5_worstShow 73 = .ok (.ifCond .eq 8, 3) := by decide +kernel
theorem dX5_worstShow_76 : decode cX5_worstShow 76 = .ok (.iload 4, 2) := by decide +kernel
theorem dX5_worstShow_78 : decode cX5_worstShow 78 = .ok (.goto 4, 3) := by decide +kernel
theorem dX5_worstShow_81 : decode cX5_worstShow 81 = .ok (.iload_n 2, 1) := by decide +kernel
theorem dX5_worstShow_82 : decode cX5_worstShow 82 = .ok (.istore_n 2, 1) := by decide +kernel
theorem dX5_worstShow_83 : decode cX5_worstShow 83 = .ok (.iload 6, 2) := by decide +kernel
theorem dX5_worstShow_85 : decode cX5_worstShow 85 = .ok (.ifCond .eq 8, 3) := by decide +kernel
theorem dX5_worstShow_88 : decode cX5_worstShow 88 = .ok (.iload 5, 2) := by decide +kernel
theorem dX5_worstShow_90 : decode cX5_worstShow 90 = .ok (.goto 4, 3) := by decide +kernel
theorem dX5_worstShow_93 : decode cX5_worstShow 93 = .ok (.iload_n 3, 1) := by decide +kernel
theorem dX5_worstShow_94 : decode cX5_worstShow 94 = .ok (.istore_n 3, 1) := by decide +kernel
theorem dX5_worstShow_95 : decode cX5_worstShow 95 = .ok (.iinc 4 1, 3) := by decide +kernel
theorem dX5_worstShow_98 : decode cX5_worstShow 98 = .ok (.goto (-78), 3) := by decide +kernel
theorem dX5_worstShow_101 : decode cX5_worstShow 101 = .ok (.iload_n 2, 1) := by decide +kernel
theorem dX5_worstShow_102 : decode cX5_worstShow 102 = .ok (.bipush (-6), 2) := by decide +kernel
theorem dX5_worstShow_104 : decode cX5_worstShow 104 = .ok (.if_icmp .ne 8, 3) := by decide +kernel
theorem dX5_worstShow_107 : decode cX5_worstShow 107 = .ok (.bipush (-6), 2) := by decide +kernel
theorem dX5_worstShow_109 : decode cX5_worstShow 109 = .ok (.goto 28, 3) := by decide +kernel
theorem dX5_worstShow_112 : decode cX5_worstShow 112 = .ok (.iload_n 1, 1) := by decide +kernel
theorem dX5_worstShow_113 : decode cX5_worstShow 113 = .ok (.ifCond .ne 9, 3) := by decide +kernel
theorem dX5_worstShow_116 : decode cX5_worstShow 116 = .ok (.iload_n 2, 1) := by decide +kernel
theorem dX5_worstShow_117 : decode cX5_worstShow 117 = .ok (.iconst 2, 1) := by decide +kernel
theorem dX5_worstShow_118 : decode cX5_worstShow 118 = .ok (.idiv, 1) := by decide +kernel
theorem dX5_worstShow_119 : decode cX5_worstShow 119 = .ok (.goto 18, 3) := by decide +kernel
theorem dX5_worstShow_122 : decode cX5_worstShow 122 = .ok (.iload_n 1, 1) := by decide +kernel
theorem dX5_worstShow_123 : decode cX5_worstShow 123 = .ok (.iconst 1, 1) := by decide +kernel
theorem dX5_worstShow_124 : decode cX5_worstShow 124 = .ok (.if_icmp .ne 9, 3) := by decide +kernel
theorem dX5_worstShow_127 : decode cX5_worstShow 127 = .ok (.iload_n 2, 1) := by decide +kernel
theorem dX5_worstShow_128 : decode cX5_worstShow 128 = .ok (.iconst 2, 1) := by decide +kernel
theorem dX5_worstShow_129 : decode cX5_worstShow 129 = .ok (.irem, 1) := by decide +kernel
theorem dX5_worstShow_130 : decode cX5_worstShow 130 = .ok (.goto 7, 3) := by decide +kernel
theorem dX5_worstShow_133 : decode cX5_worstShow 133 = .ok (.iload_n 3, 1) := by decide +kernel
theorem dX5_worstShow_134 : decode cX5_worstShow 134 = .ok (.ldc 129, 2) := by decide +kernel
theorem dX5_worstShow_136 : decode cX5_worstShow 136 = .ok (.iadd, 1) := by decide +kernel
theorem dX5_worstShow_137 : decode cX5_worstShow 137 = .ok (.ireturn, 1) := by decide +kernel
set_option maxRecDepth 20000 in
theorem ggX5_priceFor_X5_isPart : GoodIn wsX5_priceFor wsX5_isPart := goodIn_r _ [5, 6, 7, 4, 8] (by decide +kernel) (by decide +kernel)
set_option maxRecDepth 20000 in
theorem gX5_priceFor_X5_isPart : GoodIn wsX5_priceFor (va_wsS RX5 109 yX5_isPart wsX5_isPart) := goodIn_app (goodIn_of _ (by decide +kernel)) ggX5_priceFor_X5_isPart
set_option maxRecDepth 20000 in
theorem ggX5_priceFor_X5_within : GoodIn wsX5_priceFor wsX5_within := goodIn_r _ [8] (by decide +kernel) (by decide +kernel)
set_option maxRecDepth 20000 in
theorem gX5_priceFor_X5_within : GoodIn wsX5_priceFor (va_wsS RX5 54 yX5_within wsX5_within) := goodIn_app (goodIn_of _ (by decide +kernel)) ggX5_priceFor_X5_within
set_option maxRecDepth 20000 in
theorem ggX5_priceFor_X5_showAt : GoodIn wsX5_priceFor wsX5_showAt := goodIn_r _ [12, 13, 52, 53, 54, 55, 56, 57, 58, 59, 60, 61, 62, 63, 64, 65, 66, 67, 68, 69] (by decide +kernel) (by decide +kernel)
set_option maxRecDepth 20000 in
theorem gX5_priceFor_X5_showAt : GoodIn wsX5_priceFor (wsV RX5 119 RX5 yX5_showAt wsX5_showAt) := goodIn_app (goodIn_of _ (by decide +kernel)) ggX5_priceFor_X5_showAt
set_option maxRecDepth 20000 in
theorem ggX5_priceFor_X5_reckon : GoodIn wsX5_priceFor wsX5_reckon := goodIn_r _ [17, 18, 19, 20, 4, 21, 22, 13, 1, 23, 24, 25, 26, 27, 28, 29, 30, 31, 32, 33, 34, 35, 36, 37, 38, 39, 40, 41, 42, 43, 44, 45, 46, 47, 48, 49, 50, 51, 52, 53, 54, 55, 56, 57, 58, 59, 60, 61, 62, 63, 64, 65, 66, 67, 68, 69] (by decide +kernel) (by decide +kernel)
set_option maxRecDepth 20000 in
theorem gX5_priceFor_X5_reckon : GoodIn wsX5_priceFor (wsV RX5 89 RX5 yX5_reckon wsX5_reckon) := goodIn_app (goodIn_of _ (by decide +kernel)) ggX5_priceFor_X5_reckon
theorem dX5_priceFor_0 : decode cX5_priceFor 0 = .ok (.iload_n 1, 1) := by decide +kernel
theorem dX5_priceFor_1 : decode cX5_priceFor 1 = .ok (.iload_n 2, 1) := by decide +kernel
theorem dX5_priceFor_2 : decode cX5_priceFor 2 = .ok (.invokestatic 109, 3) := by decide +kernel
theorem dX5_priceFor_5 : decode cX5_priceFor 5 = .ok (.ifCond .eq 14, 3) := by decide +kernel
theorem dX5_priceFor_8 : decode cX5_priceFor 8 = .ok (.iload_n 3, 1) := by decide +kernel
theorem dX5_priceFor_9 : decode cX5_priceFor 9 = .ok (.iconst 1, 1) := by decide +kernel
theorem dX5_priceFor_10 : decode cX5_priceFor 10 = .ok (.sipush 5000, 3) := by decide +kernel
theorem dX5_priceFor_13 : decode cX5_priceFor 13 = .ok (.invokestatic 54, 3) := by decide +kernel
theorem dX5_priceFor_16 : decode cX5_priceFor 16 = .ok (.ifCond .ne 6, 3) := by decide +kernel
theorem dX5_priceFor_19 : decode cX5_priceFor 19 = .ok (.bipush (-2), 2) := by decide +kernel
theorem dX5_priceFor_21 : decode cX5_priceFor 21 = .ok (.ireturn, 1) := by decide +kernel
theorem dX5_priceFor_22 : decode cX5_priceFor 22 = .ok (.aload_n 0, 1) := by decide +kernel
theorem dX5_priceFor_23 : decode cX5_priceFor 23 = .ok (.iload_n 1, 1) := by decide +kernel
theorem dX5_priceFor_24 : decode cX5_priceFor 24 = .ok (.iload_n 2, 1) := by decide +kernel
theorem dX5_priceFor_25 : decode cX5_priceFor 25 = .ok (.invokevirtual 119, 3) := by decide +kernel
theorem dX5_priceFor_28 : decode cX5_priceFor 28 = .ok (.bipush (-6), 2) := by decide +kernel
theorem dX5_priceFor_30 : decode cX5_priceFor 30 = .ok (.if_icmp .ne 6, 3) := by decide +kernel
theorem dX5_priceFor_33 : decode cX5_priceFor 33 = .ok (.bipush (-5), 2) := by decide +kernel
theorem dX5_priceFor_35 : decode cX5_priceFor 35 = .ok (.ireturn, 1) := by decide +kernel
theorem dX5_priceFor_36 : decode cX5_priceFor 36 = .ok (.aload_n 0, 1) := by decide +kernel
theorem dX5_priceFor_37 : decode cX5_priceFor 37 = .ok (.invokevirtual 89, 3) := by decide +kernel
theorem dX5_priceFor_40 : decode cX5_priceFor 40 = .ok (.bipush (-6), 2) := by decide +kernel
theorem dX5_priceFor_42 : decode cX5_priceFor 42 = .ok (.istore 4, 2) := by decide +kernel
theorem dX5_priceFor_44 : decode cX5_priceFor 44 = .ok (.bipush 20, 2) := by decide +kernel
theorem dX5_priceFor_46 : decode cX5_priceFor 46 = .ok (.istore 5, 2) := by decide +kernel
theorem dX5_priceFor_48 : decode cX5_priceFor 48 = .ok (.iload 5, 2) := by decide +kernel
theorem dX5_priceFor_50 : decode cX5_priceFor 50 = .ok (.iconst 1, 1) := by decide +kernel
theorem dX5_priceFor_51 : decode cX5_priceFor 51 = .ok (.if_icmp .lt 35, 3) := by decide +kernel
theorem dX5_priceFor_54 : decode cX5_priceFor 54 = .ok (.aload_n 0, 1) := by decide +kernel
theorem dX5_priceFor_55 : decode cX5_priceFor 55 = .ok (.getfield 25, 3) := by decide +kernel
theorem dX5_priceFor_58 : decode cX5_priceFor 58 = .ok (.iconst 2, 1) := by decide +kernel
theorem dX5_priceFor_59 : decode cX5_priceFor 59 = .ok (.iload_n 1, 1) := by decide +kernel
theorem dX5_priceFor_60 : decode cX5_priceFor 60 = .ok (.imul, 1) := by decide +kernel
theorem dX5_priceFor_61 : decode cX5_priceFor 61 = .ok (.iload_n 2, 1) := by decide +kernel
theorem dX5_priceFor_62 : decode cX5_priceFor 62 = .ok (.iadd, 1) := by decide +kernel
theorem dX5_priceFor_63 : decode cX5_priceFor 63 = .ok (.iaload, 1) := by decide +kernel
theorem dX5_priceFor_64 : decode cX5_priceFor 64 = .ok (.iload 5, 2) := by decide +kernel
theorem dX5_priceFor_66 : decode cX5_priceFor 66 = .ok (.imul, 1) := by decide +kernel
theorem dX5_priceFor_67 : decode cX5_priceFor 67 = .ok (.iload_n 3, 1) := by decide +kernel
theorem dX5_priceFor_68 : decode cX5_priceFor 68 = .ok (.if_icmp .lt 8, 3) := by decide +kernel
theorem dX5_priceFor_71 : decode cX5_priceFor 71 = .ok (.iload 5, 2) := by decide +kernel
theorem dX5_priceFor_73 : decode cX5_priceFor 73 = .ok (.goto 5, 3) := by decide +kernel
theorem dX5_priceFor_76 : decode cX5_priceFor 76 = .ok (.iload 4, 2) := by decide +kernel
theorem dX5_priceFor_78 : decode cX5_priceFor 78 = .ok (.istore 4, 2) := by decide +kernel
theorem dX5_priceFor_80 : decode cX5_priceFor 80 = .ok (.iinc 5 (-1), 3) := by decide +kernel
theorem dX5_priceFor_83 : decode cX5_priceFor 83 = .ok (.goto (-35), 3) := by decide +kernel
theorem dX5_priceFor_86 : decode cX5_priceFor 86 = .ok (.iload 4, 2) := by decide +kernel
theorem dX5_priceFor_88 : decode cX5_priceFor 88 = .ok (.ireturn, 1) := by decide +kernel
set_option maxRecDepth 20000 in
theorem ggX5_put_X5_within : GoodIn wsX5_put wsX5_within := goodIn_r _ [7] (by decide +kernel) (by decide +kernel)
set_option maxRecDepth 20000 in
theorem gX5_put_X5_within : GoodIn wsX5_put (va_wsS RX5 54 yX5_within wsX5_within) := goodIn_app (goodIn_of _ (by decide +kernel)) ggX5_put_X5_within
theorem dX5_put_0 : decode cX5_put 0 = .ok (.iconst 0, 1) := by decide +kernel
theorem dX5_put_1 : decode cX5_put 1 = .ok (.istore_n 3, 1) := by decide +kernel
theorem dX5_put_2 : decode cX5_put 2 = .ok (.lload_n 1, 1) := by decide +kernel
theorem dX5_put_3 : decode cX5_put 3 = .ok (.lstore 4, 2) := by decide +kernel
theorem dX5_put_5 : decode cX5_put 5 = .ok (.iconst 1, 1) := by decide +kernel
theorem dX5_put_6 : decode cX5_put 6 = .ok (.istore 6, 2) := by decide +kernel
theorem dX5_put_8 : decode cX5_put 8 = .ok (.iload_n 3, 1) := by decide +kernel
theorem dX5_put_9 : decode cX5_put 9 = .ok (.bipush 8, 2) := by decide +kernel
theorem dX5_put_11 : decode cX5_put 11 = .ok (.if_icmp .ge 56, 3) := by decide +kernel
theorem dX5_put_14 : decode cX5_put 14 = .ok (.lload 4, 2) := by decide +kernel
theorem dX5_put_16 : decode cX5_put 16 = .ok (.ldc2_w 151, 3) := by decide +kernel
theorem dX5_put_19 : decode cX5_put 19 = .ok (.land, 1) := by decide +kernel
theorem dX5_put_20 : decode cX5_put 20 = .ok (.lconst 0, 1) := by decide +kernel
theorem dX5_put_21 : decode cX5_put 21 = .ok (.lcmp, 1) := by decide +kernel
theorem dX5_put_22 : decode cX5_put 22 = .ok (.ifCond .eq 45, 3) := by decide +kernel
theorem dX5_put_25 : decode cX5_put 25 = .ok (.iload 6, 2) := by decide +kernel
theorem dX5_put_27 : decode cX5_put 27 = .ok (.ifCond .eq 24, 3) := by decide +kernel
theorem dX5_put_30 : decode cX5_put 30 = .ok (.lload 4, 2) := by decide +kernel
theorem dX5_put_32 : decode cX5_put 32 = .ok (.ldc2_w 151, 3) := by decide +kernel
theorem dX5_put_35 : decode cX5_put 35 = .ok (.land, 1) := by decide +kernel
theorem dX5_put_36 : decode cX5_put 36 = .ok (.l2i, 1) := by decide +kernel
theorem dX5_put_37 : decode cX5_put 37 = .ok (.bipush 33, 2) := by decide +kernel
theorem dX5_put_39 : decode cX5_put 39 = .ok (.bipush 126, 2) := by decide +kernel
theorem dX5_put_41 : decode cX5_put 41 = .ok (.invokestatic 54, 3) := by decide +kernel
theorem dX5_put_44 : decode cX5_put 44 = .ok (.ifCond .eq 7, 3) := by decide +kernel
theorem dX5_put_47 : decode cX5_put 47 = .ok (.iconst 1, 1) := by decide +kernel
theorem dX5_put_48 : decode cX5_put 48 = .ok (.goto 4, 3) := by decide +kernel
theorem dX5_put_51 : decode cX5_put 51 = .ok (.iconst 0, 1) := by decide +kernel
theorem dX5_put_52 : decode cX5_put 52 = .ok (.istore 6, 2) := by decide +kernel
theorem dX5_put_54 : decode cX5_put 54 = .ok (.lload 4, 2) := by decide +kernel
theorem dX5_put_56 : decode cX5_put 56 = .ok (.bipush 8, 2) := by decide +kernel
theorem dX5_put_58 : decode cX5_put 58 = .ok (.lushr, 1) := by decide +kernel
theorem dX5_put_59 : decode cX5_put 59 = .ok (.lstore 4, 2) := by decide +kernel
theorem dX5_put_61 : decode cX5_put 61 = .ok (.iinc 3 1, 3) := by decide +kernel
theorem dX5_put_64 : decode cX5_put 64 = .ok (.goto (-56), 3) := by decide +kernel
theorem dX5_put_67 : decode cX5_put 67 = .ok (.iload_n 3, 1) := by decide +kernel
theorem dX5_put_68 : decode cX5_put 68 = .ok (.ifCond .eq 15, 3) := by decide +kernel
theorem dX5_put_71 : decode cX5_put 71 = .ok (.iload 6, 2) := by decide +kernel
theorem dX5_put_73 : decode cX5_put 73 = .ok (.ifCond .eq 10, 3) := by decide +kernel
theorem dX5_put_76 : decode cX5_put 76 = .ok (.lload 4, 2) := by decide +kernel
theorem dX5_put_78 : decode cX5_put 78 = .ok (.lconst 0, 1) := by decide +kernel
theorem dX5_put_79 : decode cX5_put 79 = .ok (.lcmp, 1) := by decide +kernel
theorem dX5_put_80 : decode cX5_put 80 = .ok (.ifCond .eq 6, 3) := by decide +kernel
theorem dX5_put_83 : decode cX5_put 83 = .ok (.bipush (-2), 2) := by decide +kernel
theorem dX5_put_85 : decode cX5_put 85 = .ok (.ireturn, 1) := by decide +kernel
theorem dX5_put_86 : decode cX5_put 86 = .ok (.aload_n 0, 1) := by decide +kernel
theorem dX5_put_87 : decode cX5_put 87 = .ok (.getfield 145, 3) := by decide +kernel
theorem dX5_put_90 : decode cX5_put 90 = .ok (.iload_n 3, 1) := by decide +kernel
theorem dX5_put_91 : decode cX5_put 91 = .ok (.iadd, 1) := by decide +kernel
theorem dX5_put_92 : decode cX5_put 92 = .ok (.bipush 60, 2) := by decide +kernel
theorem dX5_put_94 : decode cX5_put 94 = .ok (.if_icmp .le 6, 3) := by decide +kernel
theorem dX5_put_97 : decode cX5_put 97 = .ok (.bipush (-4), 2) := by decide +kernel
theorem dX5_put_99 : decode cX5_put 99 = .ok (.ireturn, 1) := by decide +kernel
theorem dX5_put_100 : decode cX5_put 100 = .ok (.iload_n 3, 1) := by decide +kernel
theorem dX5_put_101 : decode cX5_put 101 = .ok (.iconst 1, 1) := by decide +kernel
theorem dX5_put_102 : decode cX5_put 102 = .ok (.isub, 1) := by decide +kernel
theorem dX5_put_103 : decode cX5_put 103 = .ok (.istore 7, 2) := by decide +kernel
theorem dX5_put_105 : decode cX5_put 105 = .ok (.iload 7, 2) := by decide +kernel
theorem dX5_put_107 : decode cX5_put 107 = .ok (.ifCond .lt 40, 3) := by decide +kernel
theorem dX5_put_110 : decode cX5_put 110 = .ok (.aload_n 0, 1) := by decide +kernel
theorem dX5_put_111 : decode cX5_put 111 = .ok (.getfield 22, 3) := by decide +kernel
theorem dX5_put_114 : decode cX5_put 114 = .ok (.aload_n 0, 1) := by decide +kernel
theorem dX5_put_115 : decode cX5_put 115 = .ok (.getfield 145, 3) := by decide +kernel
theorem dX5_put_118 : decode cX5_put 118 = .ok (.lload_n 1, 1) := by decide +kernel
theorem dX5_put_119 : decode cX5_put 119 = .ok (.bipush 8, 2) := by decide +kernel
theorem dX5_put_121 : decode cX5_put 121 = .ok (.iload 7, 2) := by decide +kernel
theorem dX5_put_123 : decode cX5_put 123 = .ok (.imul, 1) := by decide +kernel
theorem dX5_put_124 : decode cX5_put 124 = .ok (.lushr, 1) := by decide +kernel
theorem dX5_put_125 : decode cX5_put 125 = .ok (.ldc2_w 151, 3) := by decide +kernel
theorem dX5_put_128 : decode cX5_put 128 = .ok (.land, 1) := by decide +kernel
theorem dX5_put_129 : decode cX5_put 129 = .ok (.l2i, 1) := by decide +kernel
theorem dX5_put_130 : decode cX5_put 130 = .ok (.iastore, 1) := by decide +kernel
theorem dX5_put_131 : decode cX5_put 131 = .ok (.aload_n 0, 1) := by decide +kernel
theorem dX5_put_132 : decode cX5_put 132 = .ok (.dup, 1) := by decide +kernel
theorem dX5_put_133 : decode cX5_put 133 = .ok (.getfield 145, 3) := by decide +kernel
theorem dX5_put_136 : decode cX5_put 136 = .ok (.iconst 1, 1) := by decide +kernel
theorem dX5_put_137 : decode cX5_put 137 = .ok (.iadd, 1) := by decide +kernel
theorem dX5_put_138 : decode cX5_put 138 = .ok (.putfield 145, 3) := by decide +kernel
theorem dX5_put_141 : decode cX5_put 141 = .ok (.iinc 7 (-1), 3) := by decide +kernel
theorem dX5_put_144 : decode cX5_put 144 = .ok (.goto (-39), 3) := by decide +kernel
theorem dX5_put_147 : decode cX5_put 147 = .ok (.aload_n 0, 1) := by decide +kernel
theorem dX5_put_148 : decode cX5_put 148 = .ok (.getfield 145, 3) := by decide +kernel
theorem dX5_put_151 : decode cX5_put 151 = .ok (.ireturn, 1) := by decide +kernel
theorem dX5_wipe_0 : decode cX5_wipe 0 = .ok (.aload_n 0, 1) := by decide +kernel
theorem dX5_wipe_1 : decode cX5_wipe 1 = .ok (.getfield 145, 3) := by decide +kernel
theorem dX5_wipe_4 : decode cX5_wipe 4 = .ok (.istore_n 1, 1) := by decide +kernel
theorem dX5_wipe_5 : decode cX5_wipe 5 = .ok (.aload_n 0, 1) := by decide +kernel
theorem dX5_wipe_6 : decode cX5_wipe 6 = .ok (.iconst 0, 1) := by decide +kernel
theorem dX5_wipe_7 : decode cX5_wipe 7 = .ok (.putfield 145, 3) := by decide +kernel
theorem dX5_wipe_10 : decode cX5_wipe 10 = .ok (.iload_n 1, 1) := by decide +kernel
theorem dX5_wipe_11 : decode cX5_wipe 11 = .ok (.ireturn, 1) := by decide +kernel
theorem dX5_character_0 : decode cX5_character 0 = .ok (.iload_n 1, 1) := by decide +kernel
theorem dX5_character_1 : decode cX5_character 1 = .ok (.aload_n 0, 1) := by decide +kernel
theorem dX5_character_2 : decode cX5_character 2 = .ok (.getfield 145, 3) := by decide +kernel
theorem dX5_character_5 : decode cX5_character 5 = .ok (.if_icmp .ge 12, 3) := by decide +kernel
theorem dX5_character_8 : decode cX5_character 8 = .ok (.aload_n 0, 1) := by decide +kernel
theorem dX5_character_9 : decode cX5_character 9 = .ok (.getfield 22, 3) := by decide +kernel
theorem dX5_character_12 : decode cX5_character 12 = .ok (.iload_n 1, 1) := by decide +kernel
theorem dX5_character_13 : decode cX5_character 13 = .ok (.iaload, 1) := by decide +kernel
theorem dX5_character_14 : decode cX5_character 14 = .ok (.goto 4, 3) := by decide +kernel
theorem dX5_character_17 : decode cX5_character 17 = .ok (.iconst (-1), 1) := by decide +kernel
theorem dX5_character_18 : decode cX5_character 18 = .ok (.ireturn, 1) := by decide +kernel
set_option maxRecDepth 20000 in
theorem ggX5_takeDigit_X5_character : GoodIn wsX5_takeDigit wsX5_character := goodIn_r _ [6, 7, 8, 12, 13, 14, 15, 16, 17, 18, 19, 20, 21, 22, 23, 24, 25, 26, 27, 28, 29] (by decide +kernel) (by decide +kernel)
set_option maxRecDepth 20000 in
theorem gX5_takeDigit_X5_character : GoodIn wsX5_takeDigit (wsV RX5 156 RX5 yX5_character wsX5_character) := goodIn_app (goodIn_of _ (by decide +kernel)) ggX5_takeDigit_X5_character
set_option maxRecDepth 20000 in
theorem ggX5_takeDigit_X5_within : GoodIn wsX5_takeDigit wsX5_within := goodIn_r _ [11] (by decide +kernel) (by decide +kernel)
set_option maxRecDepth 20000 in
theorem gX5_takeDigit_X5_within : GoodIn wsX5_takeDigit (va_wsS RX5 54 yX5_within wsX5_within) := goodIn_app (goodIn_of _ (by decide +kernel)) ggX5_takeDigit_X5_within
theorem dX5_takeDigit_0 : decode cX5_takeDigit 0 = .ok (.aload_n 0, 1) := by decide +kernel
theorem dX5_takeDigit_1 : decode cX5_takeDigit 1 = .ok (.aload_n 0, 1) := by decide +kernel
theorem dX5_takeDigit_2 : decode cX5_takeDigit 2 = .ok (.getfield 153, 3) := by decide +kernel
theorem dX5_takeDigit_5 : decode cX5_takeDigit 5 = .ok (.invokevirtual 156, 3) := by decide +kernel
theorem dX5_takeDigit_8 : decode cX5_takeDigit 8 = .ok (.bipush 48, 2) := by decide +kernel
theorem dX5_takeDigit_10 : decode cX5_takeDigit 10 = .ok (.isub, 1) := by decide +kernel
theorem dX5_takeDigit_11 : decode cX5_takeDigit 11 = .ok (.istore_n 2, 1) := by decide +kernel
theorem dX5_takeDigit_12 : decode cX5_takeDigit 12 = .ok (.iload_n 2, 1) := by decide +kernel
theorem dX5_takeDigit_13 : decode cX5_takeDigit 13 = .ok (.iconst 0, 1) := by decide +kernel
theorem dX5_takeDigit_14 : decode cX5_takeDigit 14 = .ok (.iload_n 1, 1) := by decide +kernel
theorem dX5_takeDigit_15 : decode cX5_takeDigit 15 = .ok (.invokestatic 54, 3) := by decide +kernel
theorem dX5_takeDigit_18 : decode cX5_takeDigit 18 = .ok (.ifCond .ne 5, 3) := by decide +kernel
theorem dX5_takeDigit_21 : decode cX5_takeDigit 21 = .ok (.iconst (-1), 1) := by decide +kernel
theorem dX5_takeDigit_22 : decode cX5_takeDigit 22 = .ok (.ireturn, 1) := by decide +kernel
theorem dX5_takeDigit_23 : decode cX5_takeDigit 23 = .ok (.aload_n 0, 1) := by decide +kernel
theorem dX5_takeDigit_24 : decode cX5_takeDigit 24 = .ok (.dup, 1) := by decide +kernel
theorem dX5_takeDigit_25 : decode cX5_takeDigit 25 = .ok (.getfield 153, 3) := by decide +kernel
theorem dX5_takeDigit_28 : decode cX5_takeDigit 28 = .ok (.iconst 1, 1) := by decide +kernel
theorem dX5_takeDigit_29 : decode cX5_takeDigit 29 = .ok (.iadd, 1) := by decide +kernel
theorem dX5_takeDigit_30 : decode cX5_takeDigit 30 = .ok (.putfield 153, 3) := by decide +kernel
theorem dX5_takeDigit_33 : decode cX5_takeDigit 33 = .ok (.iload_n 2, 1) := by decide +kernel
theorem dX5_takeDigit_34 : decode cX5_takeDigit 34 = .ok (.ireturn, 1) := by decide +kernel
set_option maxRecDepth 20000 in
theorem ggX5_takePart_X5_character : GoodIn wsX5_takePart wsX5_character := goodIn_r _ [6, 7, 8, 9, 10, 11, 12, 13, 14, 15, 16, 17, 18, 19, 20, 21, 22, 23, 24, 25, 26] (by decide +kernel) (by decide +kernel)
set_option maxRecDepth 20000 in
theorem gX5_takePart_X5_character : GoodIn wsX5_takePart (wsV RX5 156 RX5 yX5_character wsX5_character) := goodIn_app (goodIn_of _ (by decide +kernel)) ggX5_takePart_X5_character
theorem dX5_takePart_0 : decode cX5_takePart 0 = .ok (.aload_n 0, 1) := by decide +kernel
theorem dX5_takePart_1 : decode cX5_takePart 1 = .ok (.aload_n 0, 1) := by decide +kernel
theorem dX5_takePart_2 : decode cX5_takePart 2 = .ok (.getfield 153, 3) := by decide +kernel
theorem dX5_takePart_5 : decode cX5_takePart 5 = .ok (.invokevirtual 156, 3) := by decide +kernel
theorem dX5_takePart_8 : decode cX5_takePart 8 = .ok (.istore_n 1, 1) := by decide +kernel
theorem dX5_takePart_9 : decode cX5_takePart 9 = .ok (.iload_n 1, 1) := by decide +kernel
theorem dX5_takePart_10 : decode cX5_takePart 10 = .ok (.bipush 97, 2) := by decide +kernel
theorem dX5_takePart_12 : decode cX5_takePart 12 = .ok (.if_icmp .eq 11, 3) := by decide +kernel
theorem dX5_takePart_15 : decode cX5_takePart 15 = .ok (.iload_n 1, 1) := by decide +kernel
theorem dX5_takePart_16 : decode cX5_takePart 16 = .ok (.bipush 101, 2) := by decide +kernel
theorem dX5_takePart_18 : decode cX5_takePart 18 = .ok (.if_icmp .eq 5, 3) := by decide +kernel
theorem dX5_takePart_21 : decode cX5_takePart 21 = .ok (.iconst (-1), 1) := by decide +kernel
theorem dX5_takePart_22 : decode cX5_takePart 22 = .ok (.ireturn, 1) := by decide +kernel
theorem dX5_takePart_23 : decode cX5_takePart 23 = .ok (.aload_n 0, 1) := by decide +kernel
theorem dX5_takePart_24 : decode cX5_takePart 24 = .ok (.dup, 1) := by decide +kernel
theorem dX5_takePart_25 : decode cX5_takePart 25 = .ok (.getfield 153, 3) := by decide +kernel
theorem dX5_takePart_28 : decode cX5_takePart 28 = .ok (.iconst 1, 1) := by decide +kernel
theorem dX5_takePart_29 : decode cX5_takePart 29 = .ok (.iadd, 1) := by decide +kernel
theorem dX5_takePart_30 : decode cX5_takePart 30 = .ok (.putfield 153, 3) := by decide +kernel
theorem dX5_takePart_33 : decode cX5_takePart 33 = .ok (.iload_n 1, 1) := by decide +kernel
theorem dX5_takePart_34 : decode cX5_takePart 34 = .ok (.bipush 97, 2) := by decide +kernel
theorem dX5_takePart_36 : decode cX5_takePart 36 = .ok (.if_icmp .ne 7, 3) := by decide +kernel
theorem dX5_takePart_39 : decode cX5_takePart 39 = .ok (.iconst 0, 1) := by decide +kernel
theorem dX5_takePart_40 : decode cX5_takePart 40 = .ok (.goto 4, 3) := by decide +kernel
theorem dX5_takePart_43 : decode cX5_takePart 43 = .ok (.iconst 1, 1) := by decide +kernel
theorem dX5_takePart_44 : decode cX5_takePart 44 = .ok (.ireturn, 1) := by decide +kernel
set_option maxRecDepth 20000 in
theorem ggX5_takeDay_X5_takeDigit : GoodIn wsX5_takeDay wsX5_takeDigit := goodIn_r _ [6, 1, 7, 8, 9, 5, 10, 11, 12, 13, 14, 15, 16, 17, 18, 19, 20, 21, 22, 23, 24, 25, 26, 27, 28, 29, 30, 31, 32, 33] (by decide +kernel) (by decide +kernel)
set_option maxRecDepth 20000 in
theorem gX5_takeDay_X5_takeDigit : GoodIn wsX5_takeDay (wsV RX5 159 RX5 yX5_takeDigit wsX5_takeDigit) := goodIn_app (goodIn_of _ (by decide +kernel)) ggX5_takeDay_X5_takeDigit
set_option maxRecDepth 20000 in
theorem ggX5_takeDay_X5_character : GoodIn wsX5_takeDay wsX5_character := goodIn_r _ [10, 11, 12, 16, 17, 18, 19, 20, 21, 22, 23, 24, 25, 26, 27, 28, 29, 30, 31, 32, 33] (by decide +kernel) (by decide +kernel)
set_option maxRecDepth 20000 in
theorem gX5_takeDay_X5_character : GoodIn wsX5_takeDay (wsV RX5 156 RX5 yX5_character wsX5_character) := goodIn_app (goodIn_of _ (by decide +kernel)) ggX5_takeDay_X5_character
set_option maxRecDepth 20000 in
theorem ggX5_takeDay_X5_within : GoodIn wsX5_takeDay wsX5_within := goodIn_r _ [15] (by decide +kernel) (by decide +kernel)
set_option maxRecDepth 20000 in
theorem gX5_takeDay_X5_within : GoodIn wsX5_takeDay (va_wsS RX5 54 yX5_within wsX5_within) := goodIn_app (goodIn_of _ (by decide +kernel)) ggX5_takeDay_X5_within
theorem dX5_takeDay_0 : decode cX5_takeDay 0 = .ok (.aload_n 0, 1) := by decide +kernel
theorem dX5_takeDay_1 : decode cX5_takeDay 1 = .ok (.bipush 9, 2) := by decide +kernel
theorem dX5_takeDay_3 : decode cX5_takeDay 3 = .ok (.invokevirtual 159, 3) := by decide +kernel
theorem dX5_takeDay_6 : decode cX5_takeDay 6 = .ok (.istore_n 1, 1) := by decide +kernel
theorem dX5_takeDay_7 : decode cX5_takeDay 7 = .ok (.aload_n 0, 1) := by decide +kernel
theorem dX5_takeDay_8 : decode cX5_takeDay 8 = .ok (.aload_n 0, 1) := by decide +kernel
theorem dX5_takeDay_9 : decode cX5_takeDay 9 = .ok (.getfield 153, 3) := by decide +kernel
theorem dX5_takeDay_12 : decode cX5_takeDay 12 = .ok (.invokevirtual 156, 3) := by decide +kernel
theorem dX5_takeDay_15 : decode cX5_takeDay 15 = .ok (.bipush 48, 2) := by decide +kernel
theorem dX5_takeDay_17 : decode cX5_takeDay 17 = .ok (.isub, 1) := by decide +kernel
theorem dX5_takeDay_18 : decode cX5_takeDay 18 = .ok (.istore_n 2, 1) := by decide +kernel
theorem dX5_takeDay_19 : decode cX5_takeDay 19 = .ok (.iload_n 1, 1) := by decide +kernel
theorem dX5_takeDay_20 : decode cX5_takeDay 20 = .ok (.ifCond .le 41, 3) := by decide +kernel
theorem dX5_takeDay_23 : decode cX5_takeDay 23 = .ok (.iload_n 2, 1) := by decide +kernel
theorem dX5_takeDay_24 : decode cX5_takeDay 24 = .ok (.iconst 0, 1) := by decide +kernel
theorem dX5_takeDay_25 : decode cX5_takeDay 25 = .ok (.bipush 9, 2) := by decide +kernel
theorem dX5_takeDay_27 : decode cX5_takeDay 27 = .ok (.invokestatic 54, 3) := by decide +kernel
theorem dX5_takeDay_30 : decode cX5_takeDay 30 = .ok (.ifCond .eq 31, 3) := by decide +kernel
theorem dX5_takeDay_33 : decode cX5_takeDay 33 = .ok (.bipush 10, 2) := by decide +kernel
theorem dX5_takeDay_35 : decode cX5_takeDay 35 = .ok (.iload_n 1, 1) := by decide +kernel
theorem dX5_takeDay_36 : decode cX5_takeDay 36 = .ok (.imul, 1) := by decide +kernel
theorem dX5_takeDay_37 : decode cX5_takeDay 37 = .ok (.iload_n 2, 1) := by decide +kernel
theorem dX5_takeDay_38 : decode cX5_takeDay 38 = .ok (.iadd, 1) := by decide +kernel
theorem dX5_takeDay_39 : decode cX5_takeDay 39 = .ok (.bipush 35, 2) := by decide +kernel
theorem dX5_takeDay_41 : decode cX5_takeDay 41 = .ok (.if_icmp .ge 20, 3) := by decide +kernel
theorem dX5_takeDay_44 : decode cX5_takeDay 44 = .ok (.aload_n 0, 1) := by decide +kernel
theorem dX5_takeDay_45 : decode cX5_takeDay 45 = .ok (.dup, 1) := by decide +kernel
theorem dX5_takeDay_46 : decode cX5_takeDay 46 = .ok (.getfield 153, 3) := by decide +kernel
theorem dX5_takeDay_49 : decode cX5_takeDay 49 = .ok (.iconst 1, 1) := by decide +kernel
theorem dX5_takeDay_50 : decode cX5_takeDay 50 = .ok (.iadd, 1) := by decide +kernel
theorem dX5_takeDay_51 : decode cX5_takeDay 51 = .ok (.putfield 153, 3) := by decide +kernel
theorem dX5_takeDay_54 : decode cX5_takeDay 54 = .ok (.bipush 10, 2) := by decide +kernel
theorem dX5_takeDay_56 : decode cX5_takeDay 56 = .ok (.iload_n 1, 1) := by decide +kernel
theorem dX5_takeDay_57 : decode cX5_takeDay 57 = .ok (.imul, 1) := by decide +kernel
theorem dX5_takeDay_58 : decode cX5_takeDay 58 = .ok (.iload_n 2, 1) := by decide +kernel
theorem dX5_takeDay_59 : decode cX5_takeDay 59 = .ok (.iadd, 1) := by decide +kernel
theorem dX5_takeDay_60 : decode cX5_takeDay 60 = .ok (.istore_n 1, 1) := by decide +kernel
theorem dX5_takeDay_61 : decode cX5_takeDay 61 = .ok (.iload_n 1, 1) := by decide +kernel
theorem dX5_takeDay_62 : decode cX5_takeDay 62 = .ok (.ireturn, 1) := by decide +kernel
set_option maxRecDepth 20000 in
theorem ggX5_readsShow_X5_takeDigit : GoodIn wsX5_readsShow wsX5_takeDigit := goodIn_r _ [8, 9, 10, 11, 12, 7, 13, 14, 15, 16, 17, 18, 27, 28, 29, 30, 31, 32, 33, 34, 35, 36, 37, 38, 39, 40, 41, 42, 43, 44] (by decide +kernel) (by decide +kernel)
set_option maxRecDepth 20000 in
theorem gX5_readsShow_X5_takeDigit : GoodIn wsX5_readsShow (wsV RX5 159 RX5 yX5_takeDigit wsX5_takeDigit) := goodIn_app (goodIn_of _ (by decide +kernel)) ggX5_readsShow_X5_takeDigit
set_option maxRecDepth 20000 in
theorem ggX5_readsShow_X5_takePart : GoodIn wsX5_readsShow wsX5_takePart := goodIn_r _ [22, 9, 10, 11, 12, 7, 13, 14, 15, 27, 28, 29, 30, 31, 32, 33, 34, 35, 36, 37, 38, 39, 40, 41, 42, 43, 44] (by decide +kernel) (by decide +kernel)
set_option maxRecDepth 20000 in
theorem gX5_readsShow_X5_takePart : GoodIn wsX5_readsShow (wsV RX5 165 RX5 yX5_takePart wsX5_takePart) := goodIn_app (goodIn_of _ (by decide +kernel)) ggX5_readsShow_X5_takePart
set_option maxRecDepth 20000 in
theorem ggX5_readsShow_X5_takeDay : GoodIn wsX5_readsShow wsX5_takeDay := goodIn_r _ [26, 9, 4, 5, 6, 7, 8, 10, 11, 12, 13, 14, 15, 16, 17, 18, 27, 28, 29, 30, 31, 32, 33, 34, 35, 36, 37, 38, 39, 40, 41, 42, 43, 44] (by decide +kernel) (by decide +kernel)
set_option maxRecDepth 20000 in
theorem gX5_readsShow_X5_takeDay : GoodIn wsX5_readsShow (wsV RX5 171 RX5 yX5_takeDay wsX5_takeDay) := goodIn_app (goodIn_of _ (by decide +kernel)) ggX5_readsShow_X5_takeDay
theorem dX5_readsShow_0 : decode cX5_readsShow 0 = .ok (.aload_n 0, 1) := by decide +kernel
theorem dX5_readsShow_1 : decode cX5_readsShow 1 = .ok (.aload_n 0, 1) := by decide +kernel
theorem dX5_readsShow_2 : decode cX5_readsShow 2 = .ok (.bipush 7, 2) := by decide +kernel
theorem dX5_readsShow_4 : decode cX5_readsShow 4 = .ok (.invokevirtual 159, 3) := by decide +kernel
theorem dX5_readsShow_7 : decode cX5_readsShow 7 = .ok (.putfield 162, 3) := by decide +kernel
theorem dX5_readsShow_10 : decode cX5_readsShow 10 = .ok (.aload_n 0, 1) := by decide +kernel
theorem dX5_readsShow_11 : decode cX5_readsShow 11 = .ok (.aload_n 0, 1) := by decide +kernel
theorem dX5_readsShow_12 : decode cX5_readsShow 12 = .ok (.getfield 162, 3) := by decide +kernel
theorem dX5_readsShow_15 : decode cX5_readsShow 15 = .ok (.ifCond .ge 7, 3) := by decide +kernel
theorem dX5_readsShow_18 : decode cX5_readsShow 18 = .ok (.iconst (-1), 1) := by decide +kernel
theorem dX5_readsShow_19 : decode cX5_readsShow 19 = .ok (.goto 7, 3) := by decide +kernel
theorem dX5_readsShow_22 : decode cX5_readsShow 22 = .ok (.aload_n 0, 1) := by decide +kernel
theorem dX5_readsShow_23 : decode cX5_readsShow 23 = .ok (.invokevirtual 165, 3) := by decide +kernel
theorem dX5_readsShow_26 : decode cX5_readsShow 26 = .ok (.putfield 168, 3) := by decide +kernel
theorem dX5_readsShow_29 : decode cX5_readsShow 29 = .ok (.aload_n 0, 1) := by decide +kernel
theorem dX5_readsShow_30 : decode cX5_readsShow 30 = .ok (.aload_n 0, 1) := by decide +kernel
theorem dX5_readsShow_31 : decode cX5_readsShow 31 = .ok (.getfield 168, 3) := by decide +kernel
theorem dX5_readsShow_34 : decode cX5_readsShow 34 = .ok (.ifCond .ge 7, 3) := by decide +kernel
theorem dX5_readsShow_37 : decode cX5_readsShow 37 = .ok (.iconst (-1), 1) := by decide +kernel
theorem dX5_readsShow_38 : decode cX5_readsShow 38 = .ok (.goto 7, 3) := by decide +kernel
theorem dX5_readsShow_41 : decode cX5_readsShow 41 = .ok (.aload_n 0, 1) := by decide +kernel
theorem dX5_readsShow_42 : decode cX5_readsShow 42 = .ok (.invokevirtual 171, 3) := by decide +kernel
theorem dX5_readsShow_45 : decode cX5_readsShow 45 = .ok (.putfield 174, 3) := by decide +kernel
theorem dX5_readsShow_48 : decode cX5_readsShow 48 = .ok (.aload_n 0, 1) := by decide +kernel
theorem dX5_readsShow_49 : decode cX5_readsShow 49 = .ok (.getfield 174, 3) := by decide +kernel
theorem dX5_readsShow_52 : decode cX5_readsShow 52 = .ok (.ifCond .lt 7, 3) := by decide +kernel
theorem dX5_readsShow_55 : decode cX5_readsShow 55 = .ok (.iconst 1, 1) := by decide +kernel
theorem dX5_readsShow_56 : decode cX5_readsShow 56 = .ok (.goto 4, 3) := by decide +kernel
theorem dX5_readsShow_59 : decode cX5_readsShow 59 = .ok (.iconst 0, 1) := by decide +kernel
theorem dX5_readsShow_60 : decode cX5_readsShow 60 = .ok (.ireturn, 1) := by decide +kernel
set_option maxRecDepth 20000 in
theorem ggX5_isNext_X5_character : GoodIn wsX5_isNext wsX5_character := goodIn_r _ [6, 7, 8, 9, 10, 11, 12, 13, 14, 15, 16, 17, 18, 19, 20, 21, 22, 23, 24, 25, 26] (by decide +kernel) (by decide +kernel)
set_option maxRecDepth 20000 in
theorem gX5_isNext_X5_character : GoodIn wsX5_isNext (wsV RX5 156 RX5 yX5_character wsX5_character) := goodIn_app (goodIn_of _ (by decide +kernel)) ggX5_isNext_X5_character
theorem dX5_isNext_0 : decode cX5_isNext 0 = .ok (.aload_n 0, 1) := by decide +kernel
theorem dX5_isNext_1 : decode cX5_isNext 1 = .ok (.aload_n 0, 1) := by decide +kernel
theorem dX5_isNext_2 : decode cX5_isNext 2 = .ok (.getfield 153, 3) := by decide +kernel
theorem dX5_isNext_5 : decode cX5_isNext 5 = .ok (.invokevirtual 156, 3) := by decide +kernel
theorem dX5_isNext_8 : decode cX5_isNext 8 = .ok (.bipush 44, 2) := by decide +kernel
theorem dX5_isNext_10 : decode cX5_isNext 10 = .ok (.if_icmp .ne 7, 3) := by decide +kernel
theorem dX5_isNext_13 : decode cX5_isNext 13 = .ok (.iconst 1, 1) := by decide +kernel
theorem dX5_isNext_14 : decode cX5_isNext 14 = .ok (.goto 4, 3) := by decide +kernel
theorem dX5_isNext_17 : decode cX5_isNext 17 = .ok (.iconst 0, 1) := by decide +kernel
theorem dX5_isNext_18 : decode cX5_isNext 18 = .ok (.istore_n 1, 1) := by decide +kernel
theorem dX5_isNext_19 : decode cX5_isNext 19 = .ok (.aload_n 0, 1) := by decide +kernel
theorem dX5_isNext_20 : decode cX5_isNext 20 = .ok (.dup, 1) := by decide +kernel
theorem dX5_isNext_21 : decode cX5_isNext 21 = .ok (.getfield 153, 3) := by decide +kernel
theorem dX5_isNext_24 : decode cX5_isNext 24 = .ok (.iload_n 1, 1) := by decide +kernel
theorem dX5_isNext_25 : decode cX5_isNext 25 = .ok (.ifCond .eq 7, 3) := by decide +kernel
theorem dX5_isNext_28 : decode cX5_isNext 28 = .ok (.iconst 1, 1) := by decide +kernel
theorem dX5_isNext_29 : decode cX5_isNext 29 = .ok (.goto 4, 3) := by decide +kernel
theorem dX5_isNext_32 : decode cX5_isNext 32 = .ok (.iconst 0, 1) := by decide +kernel
theorem dX5_isNext_33 : decode cX5_isNext 33 = .ok (.iadd, 1) := by decide +kernel
theorem dX5_isNext_34 : decode cX5_isNext 34 = .ok (.putfield 153, 3) := by decide +kernel
theorem dX5_isNext_37 : decode cX5_isNext 37 = .ok (.iload_n 1, 1) := by decide +kernel
theorem dX5_isNext_38 : decode cX5_isNext 38 = .ok (.ireturn, 1) := by decide +kernel
set_option maxRecDepth 20000 in
theorem ggX5_findFault_X5_readsShow : GoodIn wsX5_findFault wsX5_readsShow := goodIn_r _ [7, 8, 9, 10, 11, 12, 13, 6, 14, 1, 15, 16, 17, 18, 2, 19, 20, 21, 22, 23, 24, 25, 26, 27, 28, 29, 30, 35, 36, 37, 38, 39, 40, 41, 42, 43, 44, 45, 46, 47, 48, 49, 50, 51, 52] (by decide +kernel) (by decide +kernel)
set_option maxRecDepth 20000 in
theorem gX5_findFault_X5_readsShow : GoodIn wsX5_findFault (wsV RX5 177 RX5 yX5_readsShow wsX5_readsShow) := goodIn_app (goodIn_of _ (by decide +kernel)) ggX5_findFault_X5_readsShow
set_option maxRecDepth 20000 in
theorem ggX5_findFault_X5_isNext : GoodIn wsX5_findFault wsX5_isNext := goodIn_r _ [34, 1, 15, 16, 17, 6, 18, 2, 19, 35, 36, 37, 38, 39, 40, 41, 42, 43, 44, 45, 46, 47, 48, 49, 50, 51, 52] (by decide +kernel) (by decide +kernel)
set_option maxRecDepth 20000 in
theorem gX5_findFault_X5_isNext : GoodIn wsX5_findFault (wsV RX5 181 RX5 yX5_isNext wsX5_isNext) := goodIn_app (goodIn_of _ (by decide +kernel)) ggX5_findFault_X5_isNext
theorem dX5_findFault_0 : decode cX5_findFault 0 = .ok (.aload_n 0, 1) := by decide +kernel
theorem dX5_findFault_1 : decode cX5_findFault 1 = .ok (.iconst 0, 1) := by decide +kernel
theorem dX5_findFault_2 : decode cX5_findFault 2 = .ok (.putfield 153, 3) := by decide +kernel
theorem dX5_findFault_5 : decode cX5_findFault 5 = .ok (.aload_n 0, 1) := by decide +kernel
theorem dX5_findFault_6 : decode cX5_findFault 6 = .ok (.invokevirtual 177, 3) := by decide +kernel
theorem dX5_findFault_9 : decode cX5_findFault 9 = .ok (.ifCond .ne 8, 3) := by decide +kernel
theorem dX5_findFault_12 : decode cX5_findFault 12 = .ok (.aload_n 0, 1) := by decide +kernel
theorem dX5_findFault_13 : decode cX5_findFault 13 = .ok (.getfield 153, 3) := by decide +kernel
theorem dX5_findFault_16 : decode cX5_findFault 16 = .ok (.ireturn, 1) := by decide +kernel
theorem dX5_findFault_17 : decode cX5_findFault 17 = .ok (.aload_n 0, 1) := by decide +kernel
theorem dX5_findFault_18 : decode cX5_findFault 18 = .ok (.getfield 153, 3) := by decide +kernel
theorem dX5_findFault_21 : decode cX5_findFault 21 = .ok (.aload_n 0, 1) := by decide +kernel
theorem dX5_findFault_22 : decode cX5_findFault 22 = .ok (.getfield 145, 3) := by decide +kernel
theorem dX5_findFault_25 : decode cX5_findFault 25 = .ok (.if_icmp .ne 6, 3) := by decide +kernel
theorem dX5_findFault_28 : decode cX5_findFault 28 = .ok (.bipush (-6), 2) := by decide +kernel
theorem dX5_findFault_30 : decode cX5_findFault 30 = .ok (.ireturn, 1) := by decide +kernel
theorem dX5_findFault_31 : decode cX5_findFault 31 = .ok (.aload_n 0, 1) := by decide +kernel
theorem dX5_findFault_32 : decode cX5_findFault 32 = .ok (.invokevirtual 181, 3) := by decide +kernel
theorem dX5_findFault_35 : decode cX5_findFault 35 = .ok (.ifCond .ne (-30), 3) := by decide +kernel
theorem dX5_findFault_38 : decode cX5_findFault 38 = .ok (.aload_n 0, 1) := by decide +kernel
theorem dX5_findFault_39 : decode cX5_findFault 39 = .ok (.getfield 153, 3) := by decide +kernel
theorem dX5_findFault_42 : decode cX5_findFault 42 = .ok (.ireturn, 1) := by decide +kernel
set_option maxRecDepth 20000 in
theorem ggX5_fault_X5_findFault : GoodIn wsX5_fault wsX5_findFault := goodIn_r _ [5, 6, 7, 8, 9, 10, 4, 11, 12, 13, 14, 15, 16, 17, 18, 19, 20, 21, 22, 23, 24, 25, 26, 27, 28, 29, 30, 31, 32, 33, 34, 35, 36, 37, 38, 39, 40, 41, 42, 43, 44, 45, 46, 47, 48, 49, 50, 51, 52, 53, 54, 55, 56] (by decide +kernel) (by decide +kernel)
set_option maxRecDepth 20000 in
theorem gX5_fault_X5_findFault : GoodIn wsX5_fault (wsV RX5 184 RX5 yX5_findFault wsX5_findFault) := goodIn_app (goodIn_of _ (by decide +kernel)) ggX5_fault_X5_findFault
theorem dX5_fault_0 : decode cX5_fault 0 = .ok (.aload_n 0, 1) := by decide +kernel
theorem dX5_fault_1 : decode cX5_fault 1 = .ok (.invokevirtual 184, 3) := by decide +kernel
theorem dX5_fault_4 : decode cX5_fault 4 = .ok (.ireturn, 1) := by decide +kernel
set_option maxRecDepth 20000 in
theorem ggX5_carryOut_X5_findFault : GoodIn wsX5_carryOut wsX5_findFault := goodIn_r _ [11, 1, 2, 12, 13, 14, 10, 15, 3, 5, 4, 16, 17, 18, 19, 20, 21, 22, 23, 24, 25, 26, 27, 28, 29, 30, 31, 32, 33, 34, 35, 36, 37, 38, 39, 72, 73, 74, 75, 76, 77, 78, 79, 80, 81, 82, 83, 84, 85, 86, 87, 88, 89] (by decide +kernel) (by decide +kernel)
set_option maxRecDepth 20000 in
theorem gX5_carryOut_X5_findFault : GoodIn wsX5_carryOut (wsV RX5 184 RX5 yX5_findFault wsX5_findFault) := goodIn_app (goodIn_of _ (by decide +kernel)) ggX5_carryOut_X5_findFault
set_option maxRecDepth 20000 in
theorem ggX5_carryOut_X5_record : GoodIn wsX5_carryOut wsX5_record := goodIn_r _ [43, 44, 45, 6, 46, 47, 10, 48, 72, 73, 74, 75, 76, 77, 78, 79, 80, 81, 82, 83, 84, 85, 86, 87, 88, 89] (by decide +kernel) (by decide +kernel)
set_option maxRecDepth 20000 in
theorem gX5_carryOut_X5_record : GoodIn wsX5_carryOut (wsV RX5 99 RX5 yX5_record wsX5_record) := goodIn_app (goodIn_of _ (by decide +kernel)) ggX5_carryOut_X5_record
set_option maxRecDepth 20000 in
theorem ggX5_carryOut_X5_readsShow : GoodIn wsX5_carryOut wsX5_readsShow := goodIn_r _ [15, 3, 5, 4, 16, 17, 18, 10, 19, 1, 20, 21, 22, 23, 2, 24, 25, 26, 27, 28, 29, 30, 31, 32, 33, 34, 35, 72, 73, 74, 75, 76, 77, 78, 79, 80, 81, 82, 83, 84, 85, 86, 87, 88, 89] (by decide +kernel) (by decide +kernel)
set_option maxRecDepth 20000 in
theorem gX5_carryOut_X5_readsShow : GoodIn wsX5_carryOut (wsV RX5 177 RX5 yX5_readsShow wsX5_readsShow) := goodIn_app (goodIn_of _ (by decide +kernel)) ggX5_carryOut_X5_readsShow
set_option maxRecDepth 20000 in
theorem ggX5_carryOut_X5_isNext : GoodIn wsX5_carryOut wsX5_isNext := goodIn_r _ [39, 1, 20, 21, 22, 10, 23, 2, 24, 72, 73, 74, 75, 76, 77, 78, 79, 80, 81, 82, 83, 84, 85, 86, 87, 88, 89] (by decide +kernel) (by decide +kernel)
set_option maxRecDepth 20000 in
theorem gX5_carryOut_X5_isNext : GoodIn wsX5_carryOut (wsV RX5 181 RX5 yX5_isNext wsX5_isNext) := goodIn_app (goodIn_of _ (by decide +kernel)) ggX5_carryOut_X5_isNext
set_option maxRecDepth 20000 in
theorem ggX5_carryOut_X5_whyNotShown : GoodIn wsX5_carryOut wsX5_whyNotShown := goodIn_r _ [52, 53, 54, 55, 10, 56, 6, 25, 26, 27, 57, 58, 59, 60, 61, 62, 63, 64, 65, 66, 67, 68, 69, 70, 71, 72, 73, 74, 75, 76, 77, 78, 79, 80, 81, 82, 83, 84, 85, 86, 87, 88, 89] (by decide +kernel) (by decide +kernel)
set_option maxRecDepth 20000 in
theorem gX5_carryOut_X5_whyNotShown : GoodIn wsX5_carryOut (wsV RX5 115 RX5 yX5_whyNotShown wsX5_whyNotShown) := goodIn_app (goodIn_of _ (by decide +kernel)) ggX5_carryOut_X5_whyNotShown
theorem dX5_carryOut_0 : decode cX5_carryOut 0 = .ok (.aload_n 0, 1) := by decide +kernel
theorem dX5_carryOut_1 : decode cX5_carryOut 1 = .ok (.invokevirtual 184, 3) := by decide +kernel
theorem dX5_carryOut_4 : decode cX5_carryOut 4 = .ok (.bipush (-6), 2) := by decide +kernel
theorem dX5_carryOut_6 : decode cX5_carryOut 6 = .ok (.if_icmp .eq 6, 3) := by decide +kernel
theorem dX5_carryOut_9 : decode cX5_carryOut 9 = .ok (.bipush (-3), 2) := by decide +kernel
theorem dX5_carryOut_11 : decode cX5_carryOut 11 = .ok (.ireturn, 1) := by decide +kernel
theorem dX5_carryOut_12 : decode cX5_carryOut 12 = .ok (.aload_n 0, 1) := by decide +kernel
theorem dX5_carryOut_13 : decode cX5_carryOut 13 = .ok (.invokevirtual 99, 3) := by decide +kernel
theorem dX5_carryOut_16 : decode cX5_carryOut 16 = .ok (.iconst 0, 1) := by decide +kernel
theorem dX5_carryOut_17 : decode cX5_carryOut 17 = .ok (.istore_n 1, 1) := by decide +kernel
theorem dX5_carryOut_18 : decode cX5_carryOut 18 = .ok (.aload_n 0, 1) := by decide +kernel
theorem dX5_carryOut_19 : decode cX5_carryOut 19 = .ok (.iconst 0, 1) := by decide +kernel
theorem dX5_carryOut_20 : decode cX5_carryOut 20 = .ok (.putfield 153, 3) := by decide +kernel
theorem dX5_carryOut_23 : decode cX5_carryOut 23 = .ok (.iconst 1, 1) := by decide +kernel
theorem dX5_carryOut_24 : decode cX5_carryOut 24 = .ok (.istore_n 2, 1) := by decide +kernel
theorem dX5_carryOut_25 : decode cX5_carryOut 25 = .ok (.iload_n 2, 1) := by decide +kernel
theorem dX5_carryOut_26 : decode cX5_carryOut 26 = .ok (.ifCond .eq 82, 3) := by decide +kernel
theorem dX5_carryOut_29 : decode cX5_carryOut 29 = .ok (.aload_n 0, 1) := by decide +kernel
theorem dX5_carryOut_30 : decode cX5_carryOut 30 = .ok (.getfield 153, 3) := by decide +kernel
theorem dX5_carryOut_33 : decode cX5_carryOut 33 = .ok (.aload_n 0, 1) := by decide +kernel
theorem dX5_carryOut_34 : decode cX5_carryOut 34 = .ok (.getfield 145, 3) := by decide +kernel
theorem dX5_carryOut_37 : decode cX5_carryOut 37 = .ok (.if_icmp .ge 71, 3) := by decide +kernel
theorem dX5_carryOut_40 : decode cX5_carryOut 40 = .ok (.aload_n 0, 1) := by decide +kernel
theorem dX5_carryOut_41 : decode cX5_carryOut 41 = .ok (.invokevirtual 177, 3) := by decide +kernel
theorem dX5_carryOut_44 : decode cX5_carryOut 44 = .ok (.pop, 1) := by decide +kernel
theorem dX5_carryOut_45 : decode cX5_carryOut 45 = .ok (.aload_n 0, 1) := by decide +kernel
theorem dX5_carryOut_46 : decode cX5_carryOut 46 = .ok (.invokevirtual 181, 3) := by decide +kernel
theorem dX5_carryOut_49 : decode cX5_carryOut 49 = .ok (.pop, 1) := by decide +kernel
theorem dX5_carryOut_50 : decode cX5_carryOut 50 = .ok (.aload_n 0, 1) := by decide +kernel
theorem dX5_carryOut_51 : decode cX5_carryOut 51 = .ok (.aload_n 0, 1) := by decide +kernel
theorem dX5_carryOut_52 : decode cX5_carryOut 52 = .ok (.getfield 162, 3) := by decide +kernel
theorem dX5_carryOut_55 : decode cX5_carryOut 55 = .ok (.aload_n 0, 1) := by decide +kernel
theorem dX5_carryOut_56 : decode cX5_carryOut 56 = .ok (.getfield 174, 3) := by decide +kernel
theorem dX5_carryOut_59 : decode cX5_carryOut 59 = .ok (.aload_n 0, 1) := by decide +kernel
theorem dX5_carryOut_60 : decode cX5_carryOut 60 = .ok (.getfield 168, 3) := by decide +kernel
theorem dX5_carryOut_63 : decode cX5_carryOut 63 = .ok (.invokevirtual 115, 3) := by decide +kernel
theorem dX5_carryOut_66 : decode cX5_carryOut 66 = .ok (.ifCond .ne 7, 3) := by decide +kernel
theorem dX5_carryOut_69 : decode cX5_carryOut 69 = .ok (.iconst 1, 1) := by decide +kernel
theorem dX5_carryOut_70 : decode cX5_carryOut 70 = .ok (.goto 4, 3) := by decide +kernel
theorem dX5_carryOut_73 : decode cX5_carryOut 73 = .ok (.iconst 0, 1) := by decide +kernel
theorem dX5_carryOut_74 : decode cX5_carryOut 74 = .ok (.istore_n 2, 1) := by decide +kernel
theorem dX5_carryOut_75 : decode cX5_carryOut 75 = .ok (.iload_n 2, 1) := by decide +kernel
theorem dX5_carryOut_76 : decode cX5_carryOut 76 = .ok (.ifCond .eq (-51), 3) := by decide +kernel
theorem dX5_carryOut_79 : decode cX5_carryOut 79 = .ok (.aload_n 0, 1) := by decide +kernel
theorem dX5_carryOut_80 : decode cX5_carryOut 80 = .ok (.getfield 7, 3) := by decide +kernel
theorem dX5_carryOut_83 : decode cX5_carryOut 83 = .ok (.bipush 46, 2) := by decide +kernel
theorem dX5_carryOut_85 : decode cX5_carryOut 85 = .ok (.iconst 2, 1) := by decide +kernel
theorem dX5_carryOut_86 : decode cX5_carryOut 86 = .ok (.aload_n 0, 1) := by decide +kernel
theorem dX5_carryOut_87 : decode cX5_carryOut 87 = .ok (.getfield 174, 3) := by decide +kernel
theorem dX5_carryOut_90 : decode cX5_carryOut 90 = .ok (.imul, 1) := by decide +kernel
theorem dX5_carryOut_91 : decode cX5_carryOut 91 = .ok (.iadd, 1) := by decide +kernel
theorem dX5_carryOut_92 : decode cX5_carryOut 92 = .ok (.aload_n 0, 1) := by decide +kernel
theorem dX5_carryOut_93 : decode cX5_carryOut 93 = .ok (.getfield 168, 3) := by decide +kernel
theorem dX5_carryOut_96 : decode cX5_carryOut 96 = .ok (.iadd, 1) := by decide +kernel
theorem dX5_carryOut_97 : decode cX5_carryOut 97 = .ok (.aload_n 0, 1) := by decide +kernel
theorem dX5_carryOut_98 : decode cX5_carryOut 98 = .ok (.getfield 162, 3) := by decide +kernel
theorem dX5_carryOut_101 : decode cX5_carryOut 101 = .ok (.iastore, 1) := by decide +kernel
theorem dX5_carryOut_102 : decode cX5_carryOut 102 = .ok (.iinc 1 1, 3) := by decide +kernel
theorem dX5_carryOut_105 : decode cX5_carryOut 105 = .ok (.goto (-80), 3) := by decide +kernel
theorem dX5_carryOut_108 : decode cX5_carryOut 108 = .ok (.aload_n 0, 1) := by decide +kernel
theorem dX5_carryOut_109 : decode cX5_carryOut 109 = .ok (.iconst 0, 1) := by decide +kernel
theorem dX5_carryOut_110 : decode cX5_carryOut 110 = .ok (.putfield 145, 3) := by decide +kernel
theorem dX5_carryOut_113 : decode cX5_carryOut 113 = .ok (.iload_n 1, 1) := by decide +kernel
theorem dX5_carryOut_114 : decode cX5_carryOut 114 = .ok (.ireturn, 1) := by decide +kernel
set_option maxRecDepth 20000 in
theorem ggX5_undo_X5_moves : GoodIn wsX5_undo wsX5_moves := goodIn_r _ [7] (by decide +kernel) (by decide +kernel)
set_option maxRecDepth 20000 in
theorem gX5_undo_X5_moves : GoodIn wsX5_undo (va_wsS RX5 50 yX5_moves wsX5_moves) := goodIn_app (goodIn_of _ (by decide +kernel)) ggX5_undo_X5_moves
theorem dX5_undo_0 : decode cX5_undo 0 = .ok (.aload_n 0, 1) := by decide +kernel
theorem dX5_undo_1 : decode cX5_undo 1 = .ok (.getfield 46, 3) := by decide +kernel
theorem dX5_undo_4 : decode cX5_undo 4 = .ok (.ifCond .ne 6, 3) := by decide +kernel
theorem dX5_undo_7 : decode cX5_undo 7 = .ok (.bipush (-5), 2) := by decide +kernel
theorem dX5_undo_9 : decode cX5_undo 9 = .ok (.ireturn, 1) := by decide +kernel
theorem dX5_undo_10 : decode cX5_undo 10 = .ok (.aload_n 0, 1) := by decide +kernel
theorem dX5_undo_11 : decode cX5_undo 11 = .ok (.dup, 1) := by decide +kernel
theorem dX5_undo_12 : decode cX5_undo 12 = .ok (.getfield 46, 3) := by decide +kernel
theorem dX5_undo_15 : decode cX5_undo 15 = .ok (.iconst 1, 1) := by decide +kernel
theorem dX5_undo_16 : decode cX5_undo 16 = .ok (.isub, 1) := by decide +kernel
theorem dX5_undo_17 : decode cX5_undo 17 = .ok (.putfield 46, 3) := by decide +kernel
theorem dX5_undo_20 : decode cX5_undo 20 = .ok (.aload_n 0, 1) := by decide +kernel
theorem dX5_undo_21 : decode cX5_undo 21 = .ok (.getfield 13, 3) := by decide +kernel
theorem dX5_undo_24 : decode cX5_undo 24 = .ok (.aload_n 0, 1) := by decide +kernel
theorem dX5_undo_25 : decode cX5_undo 25 = .ok (.getfield 46, 3) := by decide +kernel
theorem dX5_undo_28 : decode cX5_undo 28 = .ok (.sipush 151, 3) := by decide +kernel
theorem dX5_undo_31 : decode cX5_undo 31 = .ok (.imul, 1) := by decide +kernel
theorem dX5_undo_32 : decode cX5_undo 32 = .ok (.aload_n 0, 1) := by decide +kernel
theorem dX5_undo_33 : decode cX5_undo 33 = .ok (.getfield 7, 3) := by decide +kernel
theorem dX5_undo_36 : decode cX5_undo 36 = .ok (.iconst 0, 1) := by decide +kernel
theorem dX5_undo_37 : decode cX5_undo 37 = .ok (.invokestatic 50, 3) := by decide +kernel
theorem dX5_undo_40 : decode cX5_undo 40 = .ok (.aload_n 0, 1) := by decide +kernel
theorem dX5_undo_41 : decode cX5_undo 41 = .ok (.getfield 46, 3) := by decide +kernel
theorem dX5_undo_44 : decode cX5_undo 44 = .ok (.ireturn, 1) := by decide +kernel
theorem dX5_showsMany_0 : decode cX5_showsMany 0 = .ok (.iconst 0, 1) := by decide +kernel
theorem dX5_showsMany_1 : decode cX5_showsMany 1 = .ok (.istore_n 1, 1) := by decide +kernel
theorem dX5_showsMany_2 : decode cX5_showsMany 2 = .ok (.iconst 0, 1) := by decide +kernel
theorem dX5_showsMany_3 : decode cX5_showsMany 3 = .ok (.istore_n 2, 1) := by decide +kernel
theorem dX5_showsMany_4 : decode cX5_showsMany 4 = .ok (.iload_n 2, 1) := by decide +kernel
theorem dX5_showsMany_5 : decode cX5_showsMany 5 = .ok (.bipush 70, 2) := by decide +kernel
theorem dX5_showsMany_7 : decode cX5_showsMany 7 = .ok (.if_icmp .ge 31, 3) := by decide +kernel
theorem dX5_showsMany_10 : decode cX5_showsMany 10 = .ok (.iload_n 1, 1) := by decide +kernel
theorem dX5_showsMany_11 : decode cX5_showsMany 11 = .ok (.aload_n 0, 1) := by decide +kernel
theorem dX5_showsMany_12 : decode cX5_showsMany 12 = .ok (.getfield 7, 3) := by decide +kernel
theorem dX5_showsMany_15 : decode cX5_showsMany 15 = .ok (.bipush 46, 2) := by decide +kernel
theorem dX5_showsMany_17 : decode cX5_showsMany 17 = .ok (.iload_n 2, 1) := by decide +kernel
theorem dX5_showsMany_18 : decode cX5_showsMany 18 = .ok (.iadd, 1) := by decide +kernel
theorem dX5_showsMany_19 : decode cX5_showsMany 19 = .ok (.iaload, 1) := by decide +kernel
theorem dX5_showsMany_20 : decode cX5_showsMany 20 = .ok (.bipush (-6), 2) := by decide +kernel
theorem dX5_showsMany_22 : decode cX5_showsMany 22 = .ok (.if_icmp .ne 7, 3) := by decide +kernel
theorem dX5_showsMany_25 : decode cX5_showsMany 25 = .ok (.iconst 0, 1) := by decide +kernel
theorem dX5_showsMany_26 : decode cX5_showsMany 26 = .ok (.goto 4, 3) := by decide +kernel
theorem dX5_showsMany_29 : decode cX5_showsMany 29 = .ok (.iconst 1, 1) := by decide +kernel
theorem dX5_showsMany_30 : decode cX5_showsMany 30 = .ok (.iadd, 1) := by decide +kernel
theorem dX5_showsMany_31 : decode cX5_showsMany 31 = .ok (.istore_n 1, 1) := by decide +kernel
theorem dX5_showsMany_32 : decode cX5_showsMany 32 = .ok (.iinc 2 1, 3) := by decide +kernel
theorem dX5_showsMany_35 : decode cX5_showsMany 35 = .ok (.goto (-31), 3) := by decide +kernel
theorem dX5_showsMany_38 : decode cX5_showsMany 38 = .ok (.iload_n 1, 1) := by decide +kernel
theorem dX5_showsMany_39 : decode cX5_showsMany 39 = .ok (.ireturn, 1) := by decide +kernel
set_option maxRecDepth 20000 in
theorem ggX5_save_X5_within : GoodIn wsX5_save wsX5_within := goodIn_r _ [7] (by decide +kernel) (by decide +kernel)
set_option maxRecDepth 20000 in
theorem gX5_save_X5_within : GoodIn wsX5_save (va_wsS RX5 54 yX5_within wsX5_within) := goodIn_app (goodIn_of _ (by decide +kernel)) ggX5_save_X5_within
set_option maxRecDepth 20000 in
theorem ggX5_save_X5_moves : GoodIn wsX5_save wsX5_moves := goodIn_r _ [10] (by decide +kernel) (by decide +kernel)
set_option maxRecDepth 20000 in
theorem gX5_save_X5_moves : GoodIn wsX5_save (va_wsS RX5 50 yX5_moves wsX5_moves) := goodIn_app (goodIn_of _ (by decide +kernel)) ggX5_save_X5_moves
set_option maxRecDepth 20000 in
theorem ggX5_save_X5_showsMany : GoodIn wsX5_save wsX5_showsMany := goodIn_r _ [14, 1, 15, 16, 17, 18, 19, 20, 21, 22, 23, 24, 25, 26, 27, 28, 29, 30, 31, 32] (by decide +kernel) (by decide +kernel)
set_option maxRecDepth 20000 in
theorem gX5_save_X5_showsMany : GoodIn wsX5_save (wsV RX5 187 RX5 yX5_showsMany wsX5_showsMany) := goodIn_app (goodIn_of _ (by decide +kernel)) ggX5_save_X5_showsMany
theorem dX5_save_0 : decode cX5_save 0 = .ok (.iload_n 1, 1) := by decide +kernel
theorem dX5_save_1 : decode cX5_save 1 = .ok (.iconst 0, 1) := by decide +kernel
theorem dX5_save_2 : decode cX5_save 2 = .ok (.iconst 1, 1) := by decide +kernel
theorem dX5_save_3 : decode cX5_save 3 = .ok (.invokestatic 54, 3) := by decide +kernel
theorem dX5_save_6 : decode cX5_save 6 = .ok (.ifCond .ne 6, 3) := by decide +kernel
theorem dX5_save_9 : decode cX5_save 9 = .ok (.bipush (-2), 2) := by decide +kernel
theorem dX5_save_11 : decode cX5_save 11 = .ok (.ireturn, 1) := by decide +kernel
theorem dX5_save_12 : decode cX5_save 12 = .ok (.aload_n 0, 1) := by decide +kernel
theorem dX5_save_13 : decode cX5_save 13 = .ok (.getfield 7, 3) := by decide +kernel
theorem dX5_save_16 : decode cX5_save 16 = .ok (.iconst 0, 1) := by decide +kernel
theorem dX5_save_17 : decode cX5_save 17 = .ok (.aload_n 0, 1) := by decide +kernel
theorem dX5_save_18 : decode cX5_save 18 = .ok (.getfield 16, 3) := by decide +kernel
theorem dX5_save_21 : decode cX5_save 21 = .ok (.sipush 151, 3) := by decide +kernel
theorem dX5_save_24 : decode cX5_save 24 = .ok (.iload_n 1, 1) := by decide +kernel
theorem dX5_save_25 : decode cX5_save 25 = .ok (.imul, 1) := by decide +kernel
theorem dX5_save_26 : decode cX5_save 26 = .ok (.invokestatic 50, 3) := by decide +kernel
theorem dX5_save_29 : decode cX5_save 29 = .ok (.aload_n 0, 1) := by decide +kernel
theorem dX5_save_30 : decode cX5_save 30 = .ok (.getfield 19, 3) := by decide +kernel
theorem dX5_save_33 : decode cX5_save 33 = .ok (.iload_n 1, 1) := by decide +kernel
theorem dX5_save_34 : decode cX5_save 34 = .ok (.iconst 1, 1) := by decide +kernel
theorem dX5_save_35 : decode cX5_save 35 = .ok (.iastore, 1) := by decide +kernel
theorem dX5_save_36 : decode cX5_save 36 = .ok (.aload_n 0, 1) := by decide +kernel
theorem dX5_save_37 : decode cX5_save 37 = .ok (.invokevirtual 187, 3) := by decide +kernel
theorem dX5_save_40 : decode cX5_save 40 = .ok (.ireturn, 1) := by decide +kernel
set_option maxRecDepth 20000 in
theorem ggX5_restore_X5_within : GoodIn wsX5_restore wsX5_within := goodIn_r _ [7] (by decide +kernel) (by decide +kernel)
set_option maxRecDepth 20000 in
theorem gX5_restore_X5_within : GoodIn wsX5_restore (va_wsS RX5 54 yX5_within wsX5_within) := goodIn_app (goodIn_of _ (by decide +kernel)) ggX5_restore_X5_within
set_option maxRecDepth 20000 in
theorem ggX5_restore_X5_record : GoodIn wsX5_restore wsX5_record := goodIn_r _ [11, 12, 13, 3, 14, 15, 6, 16, 21, 22, 23, 24, 25, 26, 27, 28, 29, 30, 31, 32, 33, 34, 35, 36, 37, 38] (by decide +kernel) (by decide +kernel)
set_option maxRecDepth 20000 in
theorem gX5_restore_X5_record : GoodIn wsX5_restore (wsV RX5 99 RX5 yX5_record wsX5_record) := goodIn_app (goodIn_of _ (by decide +kernel)) ggX5_restore_X5_record
set_option maxRecDepth 20000 in
theorem ggX5_restore_X5_moves : GoodIn wsX5_restore wsX5_moves := goodIn_r _ [16] (by decide +kernel) (by decide +kernel)
set_option maxRecDepth 20000 in
theorem gX5_restore_X5_moves : GoodIn wsX5_restore (va_wsS RX5 50 yX5_moves wsX5_moves) := goodIn_app (goodIn_of _ (by decide +kernel)) ggX5_restore_X5_moves
set_option maxRecDepth 20000 in
theorem ggX5_restore_X5_showsMany : GoodIn wsX5_restore wsX5_showsMany := goodIn_r _ [20, 3, 21, 22, 23, 24, 25, 26, 27, 28, 29, 30, 31, 32, 33, 34, 35, 36, 37, 38] (by decide +kernel) (by decide +kernel)
set_option maxRecDepth 20000 in
theorem gX5_restore_X5_showsMany : GoodIn wsX5_restore (wsV RX5 187 RX5 yX5_showsMany wsX5_showsMany) := goodIn_app (goodIn_of _ (by decide +kernel)) ggX5_restore_X5_showsMany
theorem dX5_restore_0 : decode cX5_restore 0 = .ok (.iload_n 1, 1) := by decide +kernel
theorem dX5_restore_1 : decode cX5_restore 1 = .ok (.iconst 0, 1) := by decide +kernel
theorem dX5_restore_2 : decode cX5_restore 2 = .ok (.iconst 1, 1) := by decide +kernel
theorem dX5_restore_3 : decode cX5_restore 3 = .ok (.invokestatic 54, 3) := by decide +kernel
theorem dX5_restore_6 : decode cX5_restore 6 = .ok (.ifCond .ne 6, 3) := by decide +kernel
theorem dX5_restore_9 : decode cX5_restore 9 = .ok (.bipush (-2), 2) := by decide +kernel
theorem dX5_restore_11 : decode cX5_restore 11 = .ok (.ireturn, 1) := by decide +kernel
theorem dX5_restore_12 : decode cX5_restore 12 = .ok (.aload_n 0, 1) := by decide +kernel
theorem dX5_restore_13 : decode cX5_restore 13 = .ok (.getfield 19, 3) := by decide +kernel
theorem dX5_restore_16 : decode cX5_restore 16 = .ok (.iload_n 1, 1) := by decide +kernel
theorem dX5_restore_17 : decode cX5_restore 17 = .ok (.iaload, 1) := by decide +kernel
theorem dX5_restore_18 : decode cX5_restore 18 = .ok (.ifCond .ne 6, 3) := by decide +kernel
theorem dX5_restore_21 : decode cX5_restore 21 = .ok (.bipush (-5), 2) := by decide +kernel
theorem dX5_restore_23 : decode cX5_restore 23 = .ok (.ireturn, 1) := by decide +kernel
theorem dX5_restore_24 : decode cX5_restore 24 = .ok (.aload_n 0, 1) := by decide +kernel
theorem dX5_restore_25 : decode cX5_restore 25 = .ok (.invokevirtual 99, 3) := by decide +kernel
theorem dX5_restore_28 : decode cX5_restore 28 = .ok (.aload_n 0, 1) := by decide +kernel
theorem dX5_restore_29 : decode cX5_restore 29 = .ok (.getfield 16, 3) := by decide +kernel
theorem dX5_restore_32 : decode cX5_restore 32 = .ok (.sipush 151, 3) := by decide +kernel
theorem dX5_restore_35 : decode cX5_restore 35 = .ok (.iload_n 1, 1) := by decide +kernel
theorem dX5_restore_36 : decode cX5_restore 36 = .ok (.imul, 1) := by decide +kernel
theorem dX5_restore_37 : decode cX5_restore 37 = .ok (.aload_n 0, 1) := by decide +kernel
theorem dX5_restore_38 : decode cX5_restore 38 = .ok (.getfield 7, 3) := by decide +kernel
theorem dX5_restore_41 : decode cX5_restore 41 = .ok (.iconst 0, 1) := by decide +kernel
theorem dX5_restore_42 : decode cX5_restore 42 = .ok (.invokestatic 50, 3) := by decide +kernel
theorem dX5_restore_45 : decode cX5_restore 45 = .ok (.aload_n 0, 1) := by decide +kernel
theorem dX5_restore_46 : decode cX5_restore 46 = .ok (.invokevirtual 187, 3) := by decide +kernel
theorem dX5_restore_49 : decode cX5_restore 49 = .ok (.ireturn, 1) := by decide +kernel
end
section
/-! ===== one judgement for a walk whose world is a function of a state of numbers: VV; rows that turn it on ===== -/
abbrev S9 : Type := Nat → Nat → Int32
def st9 (σ : S9) (i : Nat) (g : Nat → Int32) : S9 := fun k => if k = i then g else σ k
theorem st9_s (σ : S9) (i : Nat) (g : Nat → Int32) : st9 σ i g i = g := if_pos rfl
theorem st9_n (σ : S9) {i k : Nat} (g : Nat → Int32) (h : k ≠ i) : st9 σ i g k = σ k := if_neg h
theorem i9_in {i : Int32} {n j : Nat} (hi : i = nI j) (hj : j < n) (hn : n ≤ 100000) : vp_in i n ∧ i.toNatClampNeg = j := by
  subst hi
  exact ⟨vp_in_nI hj (by omega), nI_clamp (by omega)⟩
def v9_world {τ : Type} (D : va_G) (w : τ → va_W) (tys : List (ClassId × FieldType)) (A : Nat → Prop) (u : τ) (t : State) : Prop := va_P D vwCl (w u) t.heap ∧ va_K D vwCl tys t ∧ va_D A (w u)
def CX (p : Program) (m : MethodId) (c : Code) (cc : ByteArray) (nL : Nat) (s : State) (args : Array Value) (Ts : List Cond) (own : String) (A : Nat → Prop) (H0 : Heap) : Prop := CallFix p m c cc nL s args Ts own ∧ ∀ q : Nat, H0.size ≤ q → A q
def CMi {τ : Type} (l : Launch) (w : τ → va_W) (D : va_G) (tys : List (ClassId × FieldType)) (y : MethodName) (ws : List Cond) (rm : Room) (As : List Value) (σ : τ) (post : Int32 → τ → Prop) : Prop :=
  ∀ sz : Nat, Met l y ws rm (va_Pc As (fun U => U.heap.size = sz ∧ v9_world D w tys (fun _ => True) σ U)) (va_Qi post (v9_world D w tys (va_A (w σ) sz)) (va_A (w σ) sz)) 0 0 (va_A (w σ) sz)
def CMv {τ : Type} (l : Launch) (w : τ → va_W) (D : va_G) (tys : List (ClassId × FieldType)) (y : MethodName) (ws : List Cond) (rm : Room) (As : List Value) (σ : τ) (post : τ → Prop) : Prop :=
  ∀ sz : Nat, Met l y ws rm (va_Pc As (fun U => U.heap.size = sz ∧ v9_world D w tys (fun _ => True) σ U)) (va_Qv post (v9_world D w tys (va_A (w σ) sz)) (va_A (w σ) sz)) 0 0 (va_A (w σ) sz)
def CPi (l : Launch) (y : MethodName) (ws : List Cond) (rm : Room) (As : List Value) (post : Int32 → Prop) : Prop :=
  ∀ sz : Nat, Met l y ws rm (va_Pc As (fun U => U.heap.size = sz)) (va_Qi (fun r (_ : Unit) => post r) (fun _ _ => True) (va_A [] sz)) 0 0 (va_A [] sz)
theorem v9_blind {τ : Type} {D : va_G} {w : τ → va_W} {tys : List (ClassId × FieldType)} {As : List Value} {σ : τ} {sz : Nat} : FrameBlind (va_Pc As (fun U => U.heap.size = sz ∧ v9_world D w tys (fun _ => True) σ U)) := fun a U g mk q => by
  obtain ⟨q0, q1, qP, qK, qD⟩ := q
  exact ⟨q0, q1, qP, va_K.moved (u := U) (U := U.calling g mk a) (Vm.Alike.refl U.vm) qK, qD⟩
theorem v9_blindP {As : List Value} {sz : Nat} : FrameBlind (va_Pc As (fun U => U.heap.size = sz)) := fun a U g mk q => q
section V9
variable {p : Program} {l : Launch} {e : Env} {R : Room} {s : State} {m : MethodId} {args : Array Value} {below : List Frame} {meth : Method} {c : Code} {cells slots : Nat} {Q : State → Prop}
variable {τ : Type} {w : τ → va_W} {D : va_G} {A : Nat → Prop} {H0 : Heap} {nL : Nat} {cc : ByteArray} {Ts : List Cond} {own : String} {tys : List (ClassId × FieldType)} {σ : τ} {pc pc' : Nat} {lv lv' : List (Nat × Value)} {st rest : List Value}
def VV (p : Program) (l : Launch) (e : Env) (R : Room) (s : State) (m : MethodId) (args : Array Value) (below : List Frame) (meth : Method) (c : Code) (cells slots : Nat) (Q : State → Prop) {τ : Type} (w : τ → va_W) (D : va_G) (A : Nat → Prop) (H0 : Heap) (nL : Nat) (σ : τ) (pc : Nat) (lv : List (Nat × Value)) (st : List Value) : Prop :=
  ∀ (H : Heap) (locs : List Loc) (ls : Array Slot), va_P D vwCl (w σ) H → va_D A (w σ) → va_S A H0 H locs → lv_has ls nL lv → W p l e R s m args below meth c H locs cells slots Q (F0 m pc ls st)
theorem v_iload_n (C : CX p m c cc nL s args Ts own A H0) {k : Fin 4} {x : Int32} (hdg : decode cc pc = .ok (.iload_n k, 1)) (hp : pc + 1 = pc') (i j : Nat) (hi : (k : Nat) = i) (hl : lv[j]? = some (i, .int x)) (kk : VV p l e R s m args below meth c cells slots Q w D A H0 nL σ pc' lv (.int x :: st)) : VV p l e R s m args below meth c cells slots Q w D A H0 nL σ pc lv st := by
  subst hp
  exact fun H locs ls hP hD hS h => lv_iload_n C.1.1 C.1.2.1 hdg hi (lv_at h j hl) (kk H locs ls hP hD hS h)
theorem v_iload (C : CX p m c cc nL s args Ts own A H0) {x : Int32} {i : Nat} (hdg : decode cc pc = .ok (.iload i, 2)) (hp : pc + 2 = pc') (j : Nat) (hl : lv[j]? = some (i, .int x)) (kk : VV p l e R s m args below meth c cells slots Q w D A H0 nL σ pc' lv (.int x :: st)) : VV p l e R s m args below meth c cells slots Q w D A H0 nL σ pc lv st := by
  subst hp
  exact fun H locs ls hP hD hS h => lv_iload C.1.1 C.1.2.1 hdg (lv_at h j hl) (kk H locs ls hP hD hS h)
theorem v_lload_n (C : CX p m c cc nL s args Ts own A H0) {k : Fin 4} {x : Int64} (hdg : decode cc pc = .ok (.lload_n k, 1)) (hp : pc + 1 = pc') (i j : Nat) (hi : (k : Nat) = i) (hl : lv[j]? = some (i, .long x)) (kk : VV p l e R s m args below meth c cells slots Q w D A H0 nL σ pc' lv (.long x :: st)) : VV p l e R s m args below meth c cells slots Q w D A H0 nL σ pc lv st := by
  subst hp
  exact fun H locs ls hP hD hS h => lv_lload_n C.1.1 C.1.2.1 hdg hi (lv_at h j hl) (kk H locs ls hP hD hS h)
theorem v_lload (C : CX p m c cc nL s args Ts own A H0) {x : Int64} {i : Nat} (hdg : decode cc pc = .ok (.lload i, 2)) (hp : pc + 2 = pc') (j : Nat) (hl : lv[j]? = some (i, .long x)) (kk : VV p l e R s m args below meth c cells slots Q w D A H0 nL σ pc' lv (.long x :: st)) : VV p l e R s m args below meth c cells slots Q w D A H0 nL σ pc lv st := by
  subst hp
  exact fun H locs ls hP hD hS h => lv_lload C.1.1 C.1.2.1 hdg (lv_at h j hl) (kk H locs ls hP hD hS h)
theorem v_aload_n (C : CX p m c cc nL s args Ts own A H0) {k : Fin 4} {x : Nat} (hdg : decode cc pc = .ok (.aload_n k, 1)) (hp : pc + 1 = pc') (i j : Nat) (hi : (k : Nat) = i) (hl : lv[j]? = some (i, .ref x)) (kk : VV p l e R s m args below meth c cells slots Q w D A H0 nL σ pc' lv (.ref x :: st)) : VV p l e R s m args below meth c cells slots Q w D A H0 nL σ pc lv st := by
  subst hp
  exact fun H locs ls hP hD hS h => lv_aload_n C.1.1 C.1.2.1 hdg hi (lv_at h j hl) (kk H locs ls hP hD hS h)
theorem v_aload (C : CX p m c cc nL s args Ts own A H0) {x : Nat} {i : Nat} (hdg : decode cc pc = .ok (.aload i, 2)) (hp : pc + 2 = pc') (j : Nat) (hl : lv[j]? = some (i, .ref x)) (kk : VV p l e R s m args below meth c cells slots Q w D A H0 nL σ pc' lv (.ref x :: st)) : VV p l e R s m args below meth c cells slots Q w D A H0 nL σ pc lv st := by
  subst hp
  exact fun H locs ls hP hD hS h => lv_aload C.1.1 C.1.2.1 hdg (lv_at h j hl) (kk H locs ls hP hD hS h)
theorem v_istore_n (C : CX p m c cc nL s args Ts own A H0) {k : Fin 4} {x : Int32} (hdg : decode cc pc = .ok (.istore_n k, 1)) (hp : pc + 1 = pc') (i : Nat) (hi : (k : Nat) = i) (hn : i < nL) (hl : (i, Value.int x) :: lv.filter (fun q => !(q.1 == i) && !(q.1 + 1 == i && q.2.category == 2)) = lv') (kk : VV p l e R s m args below meth c cells slots Q w D A H0 nL σ pc' lv' st) : VV p l e R s m args below meth c cells slots Q w D A H0 nL σ pc lv (.int x :: st) := by
  subst hp
  exact fun H locs ls hP hD hS h => lv_istore_n C.1.1 C.1.2.1 hdg hi h hn hl (fun ls h => kk H locs ls hP hD hS h)
theorem v_istore (C : CX p m c cc nL s args Ts own A H0) {x : Int32} {i : Nat} (hdg : decode cc pc = .ok (.istore i, 2)) (hp : pc + 2 = pc') (hn : i < nL) (hl : (i, Value.int x) :: lv.filter (fun q => !(q.1 == i) && !(q.1 + 1 == i && q.2.category == 2)) = lv') (kk : VV p l e R s m args below meth c cells slots Q w D A H0 nL σ pc' lv' st) : VV p l e R s m args below meth c cells slots Q w D A H0 nL σ pc lv (.int x :: st) := by
  subst hp
  exact fun H locs ls hP hD hS h => lv_istore C.1.1 C.1.2.1 hdg h hn hl (fun ls h => kk H locs ls hP hD hS h)
theorem v_lstore_n (C : CX p m c cc nL s args Ts own A H0) {k : Fin 4} {x : Int64} (hdg : decode cc pc = .ok (.lstore_n k, 1)) (hp : pc + 1 = pc') (i : Nat) (hi : (k : Nat) = i) (hn : i + 1 < nL) (hl : (i, Value.long x) :: lv.filter (fun q => !(q.1 == i) && (!(q.1 == i + 1) && !(q.1 + 1 == i && q.2.category == 2))) = lv') (kk : VV p l e R s m args below meth c cells slots Q w D A H0 nL σ pc' lv' st) : VV p l e R s m args below meth c cells slots Q w D A H0 nL σ pc lv (.long x :: st) := by
  subst hp
  exact fun H locs ls hP hD hS h => lv_lstore_n C.1.1 C.1.2.1 hdg hi h hn hl (fun ls h => kk H locs ls hP hD hS h)
theorem v_lstore (C : CX p m c cc nL s args Ts own A H0) {x : Int64} {i : Nat} (hdg : decode cc pc = .ok (.lstore i, 2)) (hp : pc + 2 = pc') (hn : i + 1 < nL) (hl : (i, Value.long x) :: lv.filter (fun q => !(q.1 == i) && (!(q.1 == i + 1) && !(q.1 + 1 == i && q.2.category == 2))) = lv') (kk : VV p l e R s m args below meth c cells slots Q w D A H0 nL σ pc' lv' st) : VV p l e R s m args below meth c cells slots Q w D A H0 nL σ pc lv (.long x :: st) := by
  subst hp
  exact fun H locs ls hP hD hS h => lv_lstore C.1.1 C.1.2.1 hdg h hn hl (fun ls h => kk H locs ls hP hD hS h)
theorem v_astore_n (C : CX p m c cc nL s args Ts own A H0) {k : Fin 4} {x : Nat} (hdg : decode cc pc = .ok (.astore_n k, 1)) (hp : pc + 1 = pc') (i : Nat) (hi : (k : Nat) = i) (hn : i < nL) (hl : (i, Value.ref x) :: lv.filter (fun q => !(q.1 == i) && !(q.1 + 1 == i && q.2.category == 2)) = lv') (kk : VV p l e R s m args below meth c cells slots Q w D A H0 nL σ pc' lv' st) : VV p l e R s m args below meth c cells slots Q w D A H0 nL σ pc lv (.ref x :: st) := by
  subst hp
  exact fun H locs ls hP hD hS h => lv_astore_n C.1.1 C.1.2.1 hdg hi h hn hl (fun ls h => kk H locs ls hP hD hS h)
theorem v_astore (C : CX p m c cc nL s args Ts own A H0) {x : Nat} {i : Nat} (hdg : decode cc pc = .ok (.astore i, 2)) (hp : pc + 2 = pc') (hn : i < nL) (hl : (i, Value.ref x) :: lv.filter (fun q => !(q.1 == i) && !(q.1 + 1 == i && q.2.category == 2)) = lv') (kk : VV p l e R s m args below meth c cells slots Q w D A H0 nL σ pc' lv' st) : VV p l e R s m args below meth c cells slots Q w D A H0 nL σ pc lv (.ref x :: st) := by
  subst hp
  exact fun H locs ls hP hD hS h => lv_astore C.1.1 C.1.2.1 hdg h hn hl (fun ls h => kk H locs ls hP hD hS h)
theorem v_iinc (C : CX p m c cc nL s args Ts own A H0) {n : Int} {x v : Int32} {i : Nat} (hdg : decode cc pc = .ok (.iinc i n, 3)) (hp : pc + 3 = pc') (j : Nat) (hj : lv[j]? = some (i, .int x)) (hv : x + Int32.ofInt n = v) (hn : i < nL) (hl : (i, Value.int v) :: lv.filter (fun q => !(q.1 == i) && !(q.1 + 1 == i && q.2.category == 2)) = lv') (kk : VV p l e R s m args below meth c cells slots Q w D A H0 nL σ pc' lv' st) : VV p l e R s m args below meth c cells slots Q w D A H0 nL σ pc lv st := by
  subst hp
  exact fun H locs ls hP hD hS h => lv_iinc C.1.1 C.1.2.1 hdg h hj hv hn hl (fun ls h => kk H locs ls hP hD hS h)
theorem v_iconst (C : CX p m c cc nL s args Ts own A H0) {n : Int} {v : Int32} (hdg : decode cc pc = .ok (.iconst n, 1)) (hp : pc + 1 = pc') (hv : Int32.ofInt n = v) (kk : VV p l e R s m args below meth c cells slots Q w D A H0 nL σ pc' lv (.int v :: st)) : VV p l e R s m args below meth c cells slots Q w D A H0 nL σ pc lv st := by
  subst hp
  exact fun H locs ls hP hD hS h => lv_iconst C.1.1 C.1.2.1 hdg hv (kk H locs ls hP hD hS h)
theorem v_bipush (C : CX p m c cc nL s args Ts own A H0) {n : Int} {v : Int32} (hdg : decode cc pc = .ok (.bipush n, 2)) (hp : pc + 2 = pc') (hv : (Int8.ofInt n).toInt32 = v) (kk : VV p l e R s m args below meth c cells slots Q w D A H0 nL σ pc' lv (.int v :: st)) : VV p l e R s m args below meth c cells slots Q w D A H0 nL σ pc lv st := by
  subst hp
  exact fun H locs ls hP hD hS h => lv_bipush C.1.1 C.1.2.1 hdg hv (kk H locs ls hP hD hS h)
theorem v_sipush (C : CX p m c cc nL s args Ts own A H0) {n : Int} {v : Int32} (hdg : decode cc pc = .ok (.sipush n, 3)) (hp : pc + 3 = pc') (hv : (Int16.ofInt n).toInt32 = v) (kk : VV p l e R s m args below meth c cells slots Q w D A H0 nL σ pc' lv (.int v :: st)) : VV p l e R s m args below meth c cells slots Q w D A H0 nL σ pc lv st := by
  subst hp
  exact fun H locs ls hP hD hS h => lv_sipush C.1.1 C.1.2.1 hdg hv (kk H locs ls hP hD hS h)
theorem v_lconst (C : CX p m c cc nL s args Ts own A H0) {n : Fin 2} {v : Int64} (hdg : decode cc pc = .ok (.lconst n, 1)) (hp : pc + 1 = pc') (hv : Int64.ofNat (n : Nat) = v) (kk : VV p l e R s m args below meth c cells slots Q w D A H0 nL σ pc' lv (.long v :: st)) : VV p l e R s m args below meth c cells slots Q w D A H0 nL σ pc lv st := by
  subst hp
  exact fun H locs ls hP hD hS h => lv_lconst C.1.1 C.1.2.1 hdg hv (kk H locs ls hP hD hS h)
theorem v_ldc (C : CX p m c cc nL s args Ts own A H0) {index : Nat} {v : Int32} (hdg : decode cc pc = .ok (.ldc index, 2)) (hp : pc + 2 = pc') (hm : Cond.constant own index v ∈ Ts) (kk : VV p l e R s m args below meth c cells slots Q w D A H0 nL σ pc' lv (.int v :: st)) : VV p l e R s m args below meth c cells slots Q w D A H0 nL σ pc lv st := by
  subst hp
  exact fun H locs ls hP hD hS h => lv_ldc C.1.1 C.1.2.1 C.1.2.2.2.1 (C.1.2.2.2.2 _ hm) hdg (kk H locs ls hP hD hS h)
theorem v_ldc2 (C : CX p m c cc nL s args Ts own A H0) {index : Nat} {v : Int64} (hdg : decode cc pc = .ok (.ldc2_w index, 3)) (hp : pc + 3 = pc') (hm : Cond.constantLong own index v ∈ Ts) (kk : VV p l e R s m args below meth c cells slots Q w D A H0 nL σ pc' lv (.long v :: st)) : VV p l e R s m args below meth c cells slots Q w D A H0 nL σ pc lv st := by
  subst hp
  exact fun H locs ls hP hD hS h => lv_ldc2 C.1.1 C.1.2.1 C.1.2.2.2.1 (C.1.2.2.2.2 _ hm) hdg (kk H locs ls hP hD hS h)
theorem v_iadd (C : CX p m c cc nL s args Ts own A H0) {x y : Int32} (hdg : decode cc pc = .ok (.iadd, 1)) (hp : pc + 1 = pc') (kk : VV p l e R s m args below meth c cells slots Q w D A H0 nL σ pc' lv (.int (x + y) :: st)) : VV p l e R s m args below meth c cells slots Q w D A H0 nL σ pc lv (.int y :: .int x :: st) := by
  subst hp
  exact fun H locs ls hP hD hS h => lv_iadd C.1.1 C.1.2.1 hdg (kk H locs ls hP hD hS h)
theorem v_isub (C : CX p m c cc nL s args Ts own A H0) {x y : Int32} (hdg : decode cc pc = .ok (.isub, 1)) (hp : pc + 1 = pc') (kk : VV p l e R s m args below meth c cells slots Q w D A H0 nL σ pc' lv (.int (x - y) :: st)) : VV p l e R s m args below meth c cells slots Q w D A H0 nL σ pc lv (.int y :: .int x :: st) := by
  subst hp
  exact fun H locs ls hP hD hS h => lv_isub C.1.1 C.1.2.1 hdg (kk H locs ls hP hD hS h)
theorem v_imul (C : CX p m c cc nL s args Ts own A H0) {x y : Int32} (hdg : decode cc pc = .ok (.imul, 1)) (hp : pc + 1 = pc') (kk : VV p l e R s m args below meth c cells slots Q w D A H0 nL σ pc' lv (.int (x * y) :: st)) : VV p l e R s m args below meth c cells slots Q w D A H0 nL σ pc lv (.int y :: .int x :: st) := by
  subst hp
  exact fun H locs ls hP hD hS h => lv_imul C.1.1 C.1.2.1 hdg (kk H locs ls hP hD hS h)
theorem v_iand (C : CX p m c cc nL s args Ts own A H0) {x y : Int32} (hdg : decode cc pc = .ok (.iand, 1)) (hp : pc + 1 = pc') (kk : VV p l e R s m args below meth c cells slots Q w D A H0 nL σ pc' lv (.int (x &&& y) :: st)) : VV p l e R s m args below meth c cells slots Q w D A H0 nL σ pc lv (.int y :: .int x :: st) := by
  subst hp
  exact fun H locs ls hP hD hS h => lv_iand C.1.1 C.1.2.1 hdg (kk H locs ls hP hD hS h)
theorem v_ior (C : CX p m c cc nL s args Ts own A H0) {x y : Int32} (hdg : decode cc pc = .ok (.ior, 1)) (hp : pc + 1 = pc') (kk : VV p l e R s m args below meth c cells slots Q w D A H0 nL σ pc' lv (.int (x ||| y) :: st)) : VV p l e R s m args below meth c cells slots Q w D A H0 nL σ pc lv (.int y :: .int x :: st) := by
  subst hp
  exact fun H locs ls hP hD hS h => lv_ior C.1.1 C.1.2.1 hdg (kk H locs ls hP hD hS h)
theorem v_ixor (C : CX p m c cc nL s args Ts own A H0) {x y : Int32} (hdg : decode cc pc = .ok (.ixor, 1)) (hp : pc + 1 = pc') (kk : VV p l e R s m args below meth c cells slots Q w D A H0 nL σ pc' lv (.int (x ^^^ y) :: st)) : VV p l e R s m args below meth c cells slots Q w D A H0 nL σ pc lv (.int y :: .int x :: st) := by
  subst hp
  exact fun H locs ls hP hD hS h => lv_ixor C.1.1 C.1.2.1 hdg (kk H locs ls hP hD hS h)
theorem v_idiv (C : CX p m c cc nL s args Ts own A H0) {x y : Int32} (hdg : decode cc pc = .ok (.idiv, 1)) (hp : pc + 1 = pc') (hne : ¬ y = 0) (kk : VV p l e R s m args below meth c cells slots Q w D A H0 nL σ pc' lv (.int (x / y) :: st)) : VV p l e R s m args below meth c cells slots Q w D A H0 nL σ pc lv (.int y :: .int x :: st) := by
  subst hp
  exact fun H locs ls hP hD hS h => lv_idiv C.1.1 C.1.2.1 hdg hne (kk H locs ls hP hD hS h)
theorem v_irem (C : CX p m c cc nL s args Ts own A H0) {x y : Int32} (hdg : decode cc pc = .ok (.irem, 1)) (hp : pc + 1 = pc') (hne : ¬ y = 0) (kk : VV p l e R s m args below meth c cells slots Q w D A H0 nL σ pc' lv (.int (x - x / y * y) :: st)) : VV p l e R s m args below meth c cells slots Q w D A H0 nL σ pc lv (.int y :: .int x :: st) := by
  subst hp
  exact fun H locs ls hP hD hS h => lv_irem C.1.1 C.1.2.1 hdg hne (kk H locs ls hP hD hS h)
theorem v_ladd (C : CX p m c cc nL s args Ts own A H0) {x y : Int64} (hdg : decode cc pc = .ok (.ladd, 1)) (hp : pc + 1 = pc') (kk : VV p l e R s m args below meth c cells slots Q w D A H0 nL σ pc' lv (.long (x + y) :: st)) : VV p l e R s m args below meth c cells slots Q w D A H0 nL σ pc lv (.long y :: .long x :: st) := by
  subst hp
  exact fun H locs ls hP hD hS h => lv_ladd C.1.1 C.1.2.1 hdg (kk H locs ls hP hD hS h)
theorem v_land (C : CX p m c cc nL s args Ts own A H0) {x y : Int64} (hdg : decode cc pc = .ok (.land, 1)) (hp : pc + 1 = pc') (kk : VV p l e R s m args below meth c cells slots Q w D A H0 nL σ pc' lv (.long (x &&& y) :: st)) : VV p l e R s m args below meth c cells slots Q w D A H0 nL σ pc lv (.long y :: .long x :: st) := by
  subst hp
  exact fun H locs ls hP hD hS h => lv_land C.1.1 C.1.2.1 hdg (kk H locs ls hP hD hS h)
theorem v_lor (C : CX p m c cc nL s args Ts own A H0) {x y : Int64} (hdg : decode cc pc = .ok (.lor, 1)) (hp : pc + 1 = pc') (kk : VV p l e R s m args below meth c cells slots Q w D A H0 nL σ pc' lv (.long (x ||| y) :: st)) : VV p l e R s m args below meth c cells slots Q w D A H0 nL σ pc lv (.long y :: .long x :: st) := by
  subst hp
  exact fun H locs ls hP hD hS h => lv_lor C.1.1 C.1.2.1 hdg (kk H locs ls hP hD hS h)
theorem v_lshl (C : CX p m c cc nL s args Ts own A H0) {x v : Int64} {y : Int32} (hdg : decode cc pc = .ok (.lshl, 1)) (hp : pc + 1 = pc') (hv : x <<< (y.toInt64 &&& 63) = v) (kk : VV p l e R s m args below meth c cells slots Q w D A H0 nL σ pc' lv (.long v :: st)) : VV p l e R s m args below meth c cells slots Q w D A H0 nL σ pc lv (.int y :: .long x :: st) := by
  subst hp
  exact fun H locs ls hP hD hS h => lv_lshl C.1.1 C.1.2.1 hdg hv (kk H locs ls hP hD hS h)
theorem v_lushr (C : CX p m c cc nL s args Ts own A H0) {x v : Int64} {y : Int32} (hdg : decode cc pc = .ok (.lushr, 1)) (hp : pc + 1 = pc') (hv : (x.toUInt64 >>> (y.toInt64.toUInt64 &&& Int64.toUInt64 63)).toInt64 = v) (kk : VV p l e R s m args below meth c cells slots Q w D A H0 nL σ pc' lv (.long v :: st)) : VV p l e R s m args below meth c cells slots Q w D A H0 nL σ pc lv (.int y :: .long x :: st) := by
  subst hp
  exact fun H locs ls hP hD hS h => lv_lushr C.1.1 C.1.2.1 hdg hv (kk H locs ls hP hD hS h)
theorem v_i2l (C : CX p m c cc nL s args Ts own A H0) {x : Int32} {v : Int64} (hdg : decode cc pc = .ok (.i2l, 1)) (hp : pc + 1 = pc') (hv : x.toInt64 = v) (kk : VV p l e R s m args below meth c cells slots Q w D A H0 nL σ pc' lv (.long v :: st)) : VV p l e R s m args below meth c cells slots Q w D A H0 nL σ pc lv (.int x :: st) := by
  subst hp
  exact fun H locs ls hP hD hS h => lv_i2l C.1.1 C.1.2.1 hdg hv (kk H locs ls hP hD hS h)
theorem v_l2i (C : CX p m c cc nL s args Ts own A H0) {x : Int64} {v : Int32} (hdg : decode cc pc = .ok (.l2i, 1)) (hp : pc + 1 = pc') (hv : x.toInt32 = v) (kk : VV p l e R s m args below meth c cells slots Q w D A H0 nL σ pc' lv (.int v :: st)) : VV p l e R s m args below meth c cells slots Q w D A H0 nL σ pc lv (.long x :: st) := by
  subst hp
  exact fun H locs ls hP hD hS h => lv_l2i C.1.1 C.1.2.1 hdg hv (kk H locs ls hP hD hS h)
theorem v_i2c (C : CX p m c cc nL s args Ts own A H0) {x v : Int32} (hdg : decode cc pc = .ok (.i2c, 1)) (hp : pc + 1 = pc') (hv : (x.toUInt32 % 65536).toInt32 = v) (kk : VV p l e R s m args below meth c cells slots Q w D A H0 nL σ pc' lv (.int v :: st)) : VV p l e R s m args below meth c cells slots Q w D A H0 nL σ pc lv (.int x :: st) := by
  subst hp
  exact fun H locs ls hP hD hS h => lv_i2c C.1.1 C.1.2.1 hdg hv (kk H locs ls hP hD hS h)
theorem v_dup (C : CX p m c cc nL s args Ts own A H0) {va : Value} (hdg : decode cc pc = .ok (.dup, 1)) (hp : pc + 1 = pc') (hva : va.category = 1) (kk : VV p l e R s m args below meth c cells slots Q w D A H0 nL σ pc' lv (va :: va :: st)) : VV p l e R s m args below meth c cells slots Q w D A H0 nL σ pc lv (va :: st) := by
  subst hp
  exact fun H locs ls hP hD hS h => lv_dup C.1.1 C.1.2.1 hdg hva (kk H locs ls hP hD hS h)
theorem v_pop (C : CX p m c cc nL s args Ts own A H0) {va : Value} (hdg : decode cc pc = .ok (.pop, 1)) (hp : pc + 1 = pc') (hva : va.category = 1) (kk : VV p l e R s m args below meth c cells slots Q w D A H0 nL σ pc' lv (st)) : VV p l e R s m args below meth c cells slots Q w D A H0 nL σ pc lv (va :: st) := by
  subst hp
  exact fun H locs ls hP hD hS h => lv_pop C.1.1 C.1.2.1 hdg hva (kk H locs ls hP hD hS h)
theorem v_dup2 (C : CX p m c cc nL s args Ts own A H0) {va vb : Value} (hdg : decode cc pc = .ok (.dup2, 1)) (hp : pc + 1 = pc') (hva : va.category = 1) (hvb : vb.category = 1) (kk : VV p l e R s m args below meth c cells slots Q w D A H0 nL σ pc' lv (va :: vb :: va :: vb :: st)) : VV p l e R s m args below meth c cells slots Q w D A H0 nL σ pc lv (va :: vb :: st) := by
  subst hp
  exact fun H locs ls hP hD hS h => lv_dup2_11 C.1.1 C.1.2.1 hdg hva hvb (kk H locs ls hP hD hS h)
theorem v_lcmp (C : CX p m c cc nL s args Ts own A H0) {x y : Int64} (hdg : decode cc pc = .ok (.lcmp, 1)) (hp : pc + 1 = pc') (kk : VV p l e R s m args below meth c cells slots Q w D A H0 nL σ pc' lv (.int (lg_cmp x y) :: st)) : VV p l e R s m args below meth c cells slots Q w D A H0 nL σ pc lv (.long y :: .long x :: st) := by
  subst hp
  exact fun H locs ls hP hD hS h => W.lcmp C.1.1 C.1.2.1 hdg (kk H locs ls hP hD hS h)
theorem v_if_eq (C : CX p m c cc nL s args Ts own A H0) {x : Int32} {off : Int} (tgt : Nat) (hdg : decode cc pc = .ok (.ifCond .eq off, 3)) (ht : (pc : Int) + off = (tgt : Int)) (hp : pc + 3 = pc') (kt : x = 0 → VV p l e R s m args below meth c cells slots Q w D A H0 nL σ tgt lv st) (kf : ¬ x = 0 → VV p l e R s m args below meth c cells slots Q w D A H0 nL σ pc' lv st) : VV p l e R s m args below meth c cells slots Q w D A H0 nL σ pc lv (.int x :: st) := by
  subst hp
  exact fun H locs ls hP hD hS h => lv_if_eq C.1.1 C.1.2.1 hdg ht (fun h2 => kt h2 H locs ls hP hD hS h) (fun h2 => kf h2 H locs ls hP hD hS h)
theorem v_icmp_eq (C : CX p m c cc nL s args Ts own A H0) {x y : Int32} {off : Int} (tgt : Nat) (hdg : decode cc pc = .ok (.if_icmp .eq off, 3)) (ht : (pc : Int) + off = (tgt : Int)) (hp : pc + 3 = pc') (kt : x = y → VV p l e R s m args below meth c cells slots Q w D A H0 nL σ tgt lv st) (kf : ¬ x = y → VV p l e R s m args below meth c cells slots Q w D A H0 nL σ pc' lv st) : VV p l e R s m args below meth c cells slots Q w D A H0 nL σ pc lv (.int y :: .int x :: st) := by
  subst hp
  exact fun H locs ls hP hD hS h => lv_icmp_eq C.1.1 C.1.2.1 hdg ht (fun h2 => kt h2 H locs ls hP hD hS h) (fun h2 => kf h2 H locs ls hP hD hS h)
theorem v_if_ne (C : CX p m c cc nL s args Ts own A H0) {x : Int32} {off : Int} (tgt : Nat) (hdg : decode cc pc = .ok (.ifCond .ne off, 3)) (ht : (pc : Int) + off = (tgt : Int)) (hp : pc + 3 = pc') (kt : ¬ x = 0 → VV p l e R s m args below meth c cells slots Q w D A H0 nL σ tgt lv st) (kf : x = 0 → VV p l e R s m args below meth c cells slots Q w D A H0 nL σ pc' lv st) : VV p l e R s m args below meth c cells slots Q w D A H0 nL σ pc lv (.int x :: st) := by
  subst hp
  exact fun H locs ls hP hD hS h => lv_if_ne C.1.1 C.1.2.1 hdg ht (fun h2 => kt h2 H locs ls hP hD hS h) (fun h2 => kf h2 H locs ls hP hD hS h)
theorem v_icmp_ne (C : CX p m c cc nL s args Ts own A H0) {x y : Int32} {off : Int} (tgt : Nat) (hdg : decode cc pc = .ok (.if_icmp .ne off, 3)) (ht : (pc : Int) + off = (tgt : Int)) (hp : pc + 3 = pc') (kt : ¬ x = y → VV p l e R s m args below meth c cells slots Q w D A H0 nL σ tgt lv st) (kf : x = y → VV p l e R s m args below meth c cells slots Q w D A H0 nL σ pc' lv st) : VV p l e R s m args below meth c cells slots Q w D A H0 nL σ pc lv (.int y :: .int x :: st) := by
  subst hp
  exact fun H locs ls hP hD hS h => lv_icmp_ne C.1.1 C.1.2.1 hdg ht (fun h2 => kt h2 H locs ls hP hD hS h) (fun h2 => kf h2 H locs ls hP hD hS h)
theorem v_if_lt (C : CX p m c cc nL s args Ts own A H0) {x : Int32} {off : Int} (tgt : Nat) (hdg : decode cc pc = .ok (.ifCond .lt off, 3)) (ht : (pc : Int) + off = (tgt : Int)) (hp : pc + 3 = pc') (kt : x < 0 → VV p l e R s m args below meth c cells slots Q w D A H0 nL σ tgt lv st) (kf : ¬ x < 0 → VV p l e R s m args below meth c cells slots Q w D A H0 nL σ pc' lv st) : VV p l e R s m args below meth c cells slots Q w D A H0 nL σ pc lv (.int x :: st) := by
  subst hp
  exact fun H locs ls hP hD hS h => lv_if_lt C.1.1 C.1.2.1 hdg ht (fun h2 => kt h2 H locs ls hP hD hS h) (fun h2 => kf h2 H locs ls hP hD hS h)
theorem v_icmp_lt (C : CX p m c cc nL s args Ts own A H0) {x y : Int32} {off : Int} (tgt : Nat) (hdg : decode cc pc = .ok (.if_icmp .lt off, 3)) (ht : (pc : Int) + off = (tgt : Int)) (hp : pc + 3 = pc') (kt : x < y → VV p l e R s m args below meth c cells slots Q w D A H0 nL σ tgt lv st) (kf : ¬ x < y → VV p l e R s m args below meth c cells slots Q w D A H0 nL σ pc' lv st) : VV p l e R s m args below meth c cells slots Q w D A H0 nL σ pc lv (.int y :: .int x :: st) := by
  subst hp
  exact fun H locs ls hP hD hS h => lv_icmp_lt C.1.1 C.1.2.1 hdg ht (fun h2 => kt h2 H locs ls hP hD hS h) (fun h2 => kf h2 H locs ls hP hD hS h)
theorem v_if_ge (C : CX p m c cc nL s args Ts own A H0) {x : Int32} {off : Int} (tgt : Nat) (hdg : decode cc pc = .ok (.ifCond .ge off, 3)) (ht : (pc : Int) + off = (tgt : Int)) (hp : pc + 3 = pc') (kt : 0 ≤ x → VV p l e R s m args below meth c cells slots Q w D A H0 nL σ tgt lv st) (kf : ¬ 0 ≤ x → VV p l e R s m args below meth c cells slots Q w D A H0 nL σ pc' lv st) : VV p l e R s m args below meth c cells slots Q w D A H0 nL σ pc lv (.int x :: st) := by
  subst hp
  exact fun H locs ls hP hD hS h => lv_if_ge C.1.1 C.1.2.1 hdg ht (fun h2 => kt h2 H locs ls hP hD hS h) (fun h2 => kf h2 H locs ls hP hD hS h)
theorem v_icmp_ge (C : CX p m c cc nL s args Ts own A H0) {x y : Int32} {off : Int} (tgt : Nat) (hdg : decode cc pc = .ok (.if_icmp .ge off, 3)) (ht : (pc : Int) + off = (tgt : Int)) (hp : pc + 3 = pc') (kt : y ≤ x → VV p l e R s m args below meth c cells slots Q w D A H0 nL σ tgt lv st) (kf : ¬ y ≤ x → VV p l e R s m args below meth c cells slots Q w D A H0 nL σ pc' lv st) : VV p l e R s m args below meth c cells slots Q w D A H0 nL σ pc lv (.int y :: .int x :: st) := by
  subst hp
  exact fun H locs ls hP hD hS h => lv_icmp_ge C.1.1 C.1.2.1 hdg ht (fun h2 => kt h2 H locs ls hP hD hS h) (fun h2 => kf h2 H locs ls hP hD hS h)
theorem v_if_gt (C : CX p m c cc nL s args Ts own A H0) {x : Int32} {off : Int} (tgt : Nat) (hdg : decode cc pc = .ok (.ifCond .gt off, 3)) (ht : (pc : Int) + off = (tgt : Int)) (hp : pc + 3 = pc') (kt : 0 < x → VV p l e R s m args below meth c cells slots Q w D A H0 nL σ tgt lv st) (kf : ¬ 0 < x → VV p l e R s m args below meth c cells slots Q w D A H0 nL σ pc' lv st) : VV p l e R s m args below meth c cells slots Q w D A H0 nL σ pc lv (.int x :: st) := by
  subst hp
  exact fun H locs ls hP hD hS h => lv_if_gt C.1.1 C.1.2.1 hdg ht (fun h2 => kt h2 H locs ls hP hD hS h) (fun h2 => kf h2 H locs ls hP hD hS h)
theorem v_icmp_gt (C : CX p m c cc nL s args Ts own A H0) {x y : Int32} {off : Int} (tgt : Nat) (hdg : decode cc pc = .ok (.if_icmp .gt off, 3)) (ht : (pc : Int) + off = (tgt : Int)) (hp : pc + 3 = pc') (kt : y < x → VV p l e R s m args below meth c cells slots Q w D A H0 nL σ tgt lv st) (kf : ¬ y < x → VV p l e R s m args below meth c cells slots Q w D A H0 nL σ pc' lv st) : VV p l e R s m args below meth c cells slots Q w D A H0 nL σ pc lv (.int y :: .int x :: st) := by
  subst hp
  exact fun H locs ls hP hD hS h => lv_icmp_gt C.1.1 C.1.2.1 hdg ht (fun h2 => kt h2 H locs ls hP hD hS h) (fun h2 => kf h2 H locs ls hP hD hS h)
theorem v_if_le (C : CX p m c cc nL s args Ts own A H0) {x : Int32} {off : Int} (tgt : Nat) (hdg : decode cc pc = .ok (.ifCond .le off, 3)) (ht : (pc : Int) + off = (tgt : Int)) (hp : pc + 3 = pc') (kt : x ≤ 0 → VV p l e R s m args below meth c cells slots Q w D A H0 nL σ tgt lv st) (kf : ¬ x ≤ 0 → VV p l e R s m args below meth c cells slots Q w D A H0 nL σ pc' lv st) : VV p l e R s m args below meth c cells slots Q w D A H0 nL σ pc lv (.int x :: st) := by
  subst hp
  exact fun H locs ls hP hD hS h => lv_if_le C.1.1 C.1.2.1 hdg ht (fun h2 => kt h2 H locs ls hP hD hS h) (fun h2 => kf h2 H locs ls hP hD hS h)
theorem v_icmp_le (C : CX p m c cc nL s args Ts own A H0) {x y : Int32} {off : Int} (tgt : Nat) (hdg : decode cc pc = .ok (.if_icmp .le off, 3)) (ht : (pc : Int) + off = (tgt : Int)) (hp : pc + 3 = pc') (kt : x ≤ y → VV p l e R s m args below meth c cells slots Q w D A H0 nL σ tgt lv st) (kf : ¬ x ≤ y → VV p l e R s m args below meth c cells slots Q w D A H0 nL σ pc' lv st) : VV p l e R s m args below meth c cells slots Q w D A H0 nL σ pc lv (.int y :: .int x :: st) := by
  subst hp
  exact fun H locs ls hP hD hS h => lv_icmp_le C.1.1 C.1.2.1 hdg ht (fun h2 => kt h2 H locs ls hP hD hS h) (fun h2 => kf h2 H locs ls hP hD hS h)
theorem v_goto (C : CX p m c cc nL s args Ts own A H0) {off : Int} (tgt : Nat) (hdg : decode cc pc = .ok (.goto off, 3)) (ht : (pc : Int) + off = (tgt : Int)) (kk : VV p l e R s m args below meth c cells slots Q w D A H0 nL σ tgt lv st) : VV p l e R s m args below meth c cells slots Q w D A H0 nL σ pc lv st := fun H locs ls hP hD hS h => lv_goto C.1.1 C.1.2.1 hdg ht (kk H locs ls hP hD hS h)
theorem v_tableOut (C : CX p m c cc nL s args Ts own A H0) {dflt lo hi : Int} {offs : Array Int} {len : Nat} {x : Int32} (tgt : Nat) (hdg : decode cc pc = .ok (.tableswitch dflt lo hi offs, len)) (h1 : x.toInt < lo ∨ hi < x.toInt) (ht : (pc : Int) + dflt = (tgt : Int)) (kk : VV p l e R s m args below meth c cells slots Q w D A H0 nL σ tgt lv st) : VV p l e R s m args below meth c cells slots Q w D A H0 nL σ pc lv (.int x :: st) := fun H locs ls hP hD hS h => lv_tableOut C.1.1 C.1.2.1 hdg h1 ht (kk H locs ls hP hD hS h)
theorem v_tableIn (C : CX p m c cc nL s args Ts own A H0) {dflt lo hi : Int} {offs : Array Int} {len : Nat} {x : Int32} {off : Int} (tgt : Nat) (hdg : decode cc pc = .ok (.tableswitch dflt lo hi offs, len)) (h1 : ¬ x.toInt < lo) (h2 : ¬ hi < x.toInt) (ho : offs[(x.toInt - lo).toNat]? = some off) (ht : (pc : Int) + off = (tgt : Int)) (kk : VV p l e R s m args below meth c cells slots Q w D A H0 nL σ tgt lv st) : VV p l e R s m args below meth c cells slots Q w D A H0 nL σ pc lv (.int x :: st) := fun H locs ls hP hD hS h => lv_tableIn C.1.1 C.1.2.1 hdg h1 h2 ho ht (kk H locs ls hP hD hS h)
theorem v_lookup (C : CX p m c cc nL s args Ts own A H0) {dflt : Int} {ps : Array (Int × Int)} {len : Nat} {x : Int32} {off : Int} (tgt : Nat) (hdg : decode cc pc = .ok (.lookupswitch dflt ps, len)) (hp : (ps.toList.zip (ps.toList.drop 1)).all (fun (a, next) => a.1 < next.1) = true) (ho : Op.lookupswitch.offset ps.toList dflt x.toInt = off) (ht : (pc : Int) + off = (tgt : Int)) (kk : VV p l e R s m args below meth c cells slots Q w D A H0 nL σ tgt lv st) : VV p l e R s m args below meth c cells slots Q w D A H0 nL σ pc lv (.int x :: st) := fun H locs ls hP hD hS h => lv_lookup C.1.1 C.1.2.1 hdg hp ho ht (kk H locs ls hP hD hS h)
theorem v_lv (ks : List Nat) (hl : lv_pick lv ks = lv') (kk : VV p l e R s m args below meth c cells slots Q w D A H0 nL σ pc lv' st) : VV p l e R s m args below meth c cells slots Q w D A H0 nL σ pc lv st := fun H locs ls hP hD hS h => kk H locs ls hP hD hS (lv_sub h ks hl)
theorem v_top {x : Int32} (y : Int32) (hy : x = y) (kk : VV p l e R s m args below meth c cells slots Q w D A H0 nL σ pc lv (.int y :: st)) : VV p l e R s m args below meth c cells slots Q w D A H0 nL σ pc lv (.int x :: st) := by
  subst hy
  exact kk
theorem v_top2 {x z : Int32} (y : Int32) (hy : x = y) (kk : VV p l e R s m args below meth c cells slots Q w D A H0 nL σ pc lv (.int z :: .int y :: st)) : VV p l e R s m args below meth c cells slots Q w D A H0 nL σ pc lv (.int z :: .int x :: st) := by
  subst hy
  exact kk
theorem v_topN {x : Int32} (kk : ∀ y : Int32, y = x → VV p l e R s m args below meth c cells slots Q w D A H0 nL σ pc lv (.int y :: st)) : VV p l e R s m args below meth c cells slots Q w D A H0 nL σ pc lv (.int x :: st) := kk x rfl
theorem v_st {σ1 : τ} (σ2 : τ) (hw : σ1 = σ2) (kk : VV p l e R s m args below meth c cells slots Q w D A H0 nL σ2 pc lv st) : VV p l e R s m args below meth c cells slots Q w D A H0 nL σ1 pc lv st := by
  subst hw
  exact kk
theorem v_w {σ1 : τ} (σ2 : τ) (hw : w σ1 = w σ2) (kk : VV p l e R s m args below meth c cells slots Q w D A H0 nL σ2 pc lv st) : VV p l e R s m args below meth c cells slots Q w D A H0 nL σ1 pc lv st := fun H locs ls hP hD hS h => kk H locs ls (hw ▸ hP) (hw ▸ hD) hS h
theorem v_pc {pc1 : Nat} (pc2 : Nat) (hw : pc1 = pc2) (kk : VV p l e R s m args below meth c cells slots Q w D A H0 nL σ pc2 lv st) : VV p l e R s m args below meth c cells slots Q w D A H0 nL σ pc1 lv st := by
  subst hw
  exact kk
theorem v_get (C : CX p m c cc nL s args Ts own A H0) (K : va_K D vwCl tys s) {Cn : String} {T : u_T} {N ci index a : Nat} {fs : List Value} {v : Value} (hin : ∀ x ∈ u_ws Cn T N, x ∈ Ts) (q0 : Nat) (he : (w σ)[q0]? = some (a, .inr (ci, fs))) (hc : vwCl[ci]? = some (Cn, T, N)) (k : Nat) (hk : k < N) (hlink : Cond.fieldLink own index (T k).1 (T k).2.1 (T k).2.2.1 ∈ Ts) (hv : fs[k]? = some v) (hdg : decode cc pc = .ok (.getfield index, 3)) (hp : pc + 3 = pc') (kk : VV p l e R s m args below meth c cells slots Q w D A H0 nL σ pc' lv (v :: st)) : VV p l e R s m args below meth c cells slots Q w D A H0 nL σ pc lv (.ref a :: st) := by
  subst hp
  exact fun H locs ls hP hD hS h => va_get C.1.1 C.1.2.1 C.1.2.2.2.2 hin C.1.2.2.2.1 K hP q0 he hc k hk (C.1.2.2.2.2 _ hlink) (fun x h9 => h9) hv hdg (kk H locs ls hP hD hS h)
theorem v_put (C : CX p m c cc nL s args Ts own A H0) (K : va_K D vwCl tys s) {Cn : String} {T : u_T} {N ci index a : Nat} {fs : List Value} {v : Value} {ty : FieldType} {ty0 : Nat → FieldType} (σ2 : τ) (hin : ∀ x ∈ u_ws Cn T N, x ∈ Ts) (hty : ∀ k, k < N → parseFieldDescriptor (T k).2.2.1 = some (ty0 k)) (hnm : ∀ a, a < N → ∀ b, b < N → a ≠ b → (T a).2.1 ≠ (T b).2.1) (q0 : Nat) (he : (w σ)[q0]? = some (a, .inr (ci, fs))) (hc : vwCl[ci]? = some (Cn, T, N)) (k : Nat) (hk : k < N) (hlink : Cond.fieldLink own index (T k).1 (T k).2.1 (T k).2.2.1 ∈ Ts) (hfin : (T k).2.2.2 = false) (hd : parseFieldDescriptor (T k).2.2.1 = some ty) (hn : narrow ty v = v) (hfit : fits ty v = true) (hl : k < fs.length) (hw : (w σ).set q0 (a, .inr (ci, fs.set k v)) = w σ2) (hdg : decode cc pc = .ok (.putfield index, 3)) (hp : pc + 3 = pc') (kk : VV p l e R s m args below meth c cells slots Q w D A H0 nL σ2 pc' lv st) : VV p l e R s m args below meth c cells slots Q w D A H0 nL σ pc lv (v :: .ref a :: st) := by
  subst hp
  exact fun H locs ls hP hD hS h => va_put C.1.1 C.1.2.1 C.1.2.2.2.2 hin ty0 hty hnm C.1.2.2.2.1 K hP hD hS q0 he hc k hk (C.1.2.2.2.2 _ hlink) (fun x h9 => h9) hfin hd hn hfit hl hdg (fun H1 locs1 hP1 hD1 hS1 => kk H1 locs1 ls (by rw [← hw]; exact hP1) (by rw [← hw]; exact hD1) hS1 h)
theorem v_iald (C : CX p m c cc nL s args Ts own A H0) (K : va_K D vwCl tys s) {a n : Nat} {f : Nat → Int32} {cA : ClassId} (q0 t0 : Nat) (ha : (w σ)[q0]? = some (a, .inl (cA, n, .inl f))) (ht : tys[t0]? = some (cA, .int)) {i : Int32} (j : Nat) (hi : i = nI j) (hj : j < n) (hn : n ≤ 100000) (hdg : decode cc pc = .ok (.iaload, 1)) (hp : pc + 1 = pc') (kk : VV p l e R s m args below meth c cells slots Q w D A H0 nL σ pc' lv (.int (f j) :: st)) : VV p l e R s m args below meth c cells slots Q w D A H0 nL σ pc lv (.int i :: .ref a :: st) := by
  subst hp
  obtain ⟨g1, g2⟩ := i9_in hi hj hn
  exact fun H locs ls hP hD hS h => va_iald C.1.1 C.1.2.1 K hP q0 t0 ha ht g1 hdg (by rw [g2]; exact kk H locs ls hP hD hS h)
theorem v_cald (C : CX p m c cc nL s args Ts own A H0) (K : va_K D vwCl tys s) {a n : Nat} {f : Nat → Int32} {cA : ClassId} (q0 t0 : Nat) (ha : (w σ)[q0]? = some (a, .inl (cA, n, .inl f))) (ht : tys[t0]? = some (cA, .char)) {i : Int32} (j : Nat) (hi : i = nI j) (hj : j < n) (hn : n ≤ 100000) (hdg : decode cc pc = .ok (.caload, 1)) (hp : pc + 1 = pc') (kk : VV p l e R s m args below meth c cells slots Q w D A H0 nL σ pc' lv (.int (f j) :: st)) : VV p l e R s m args below meth c cells slots Q w D A H0 nL σ pc lv (.int i :: .ref a :: st) := by
  subst hp
  obtain ⟨g1, g2⟩ := i9_in hi hj hn
  exact fun H locs ls hP hD hS h => va_cald C.1.1 C.1.2.1 K hP q0 t0 ha ht g1 hdg (by rw [g2]; exact kk H locs ls hP hD hS h)
theorem v_zald (C : CX p m c cc nL s args Ts own A H0) (K : va_K D vwCl tys s) {a n : Nat} {f : Nat → Int32} {cA : ClassId} (q0 t0 : Nat) (ha : (w σ)[q0]? = some (a, .inl (cA, n, .inl f))) (ht : tys[t0]? = some (cA, .boolean)) {i : Int32} (j : Nat) (hi : i = nI j) (hj : j < n) (hn : n ≤ 100000) (hdg : decode cc pc = .ok (.baload, 1)) (hp : pc + 1 = pc') (kk : VV p l e R s m args below meth c cells slots Q w D A H0 nL σ pc' lv (.int (f j) :: st)) : VV p l e R s m args below meth c cells slots Q w D A H0 nL σ pc lv (.int i :: .ref a :: st) := by
  subst hp
  obtain ⟨g1, g2⟩ := i9_in hi hj hn
  exact fun H locs ls hP hD hS h => va_zald C.1.1 C.1.2.1 K hP q0 t0 ha ht g1 hdg (by rw [g2]; exact kk H locs ls hP hD hS h)
theorem v_iast (C : CX p m c cc nL s args Ts own A H0) (K : va_K D vwCl tys s) {a n : Nat} {f : Nat → Int32} {cA : ClassId} (σ2 : τ) (q0 t0 : Nat) (ha : (w σ)[q0]? = some (a, .inl (cA, n, .inl f))) (ht : tys[t0]? = some (cA, .int)) {i x : Int32} (j : Nat) (hi : i = nI j) (hj : j < n) (hn : n ≤ 100000) (hw : (w σ).set q0 (a, .inl (cA, n, .inl (upd f j x))) = w σ2) (hdg : decode cc pc = .ok (.iastore, 1)) (hp : pc + 1 = pc') (kk : VV p l e R s m args below meth c cells slots Q w D A H0 nL σ2 pc' lv st) : VV p l e R s m args below meth c cells slots Q w D A H0 nL σ pc lv (.int x :: .int i :: .ref a :: st) := by
  subst hp
  obtain ⟨g1, g2⟩ := i9_in hi hj hn
  exact fun H locs ls hP hD hS h => va_iast C.1.1 C.1.2.1 K hP hD hS q0 t0 ha ht g1 hdg (fun H1 locs1 hP1 hD1 hS1 => kk H1 locs1 ls (by rw [← hw, ← g2]; exact hP1) (by rw [← hw, ← g2]; exact hD1) hS1 h)
theorem v_cast (C : CX p m c cc nL s args Ts own A H0) (K : va_K D vwCl tys s) {a n : Nat} {f : Nat → Int32} {cA : ClassId} (σ2 : τ) (q0 t0 : Nat) (ha : (w σ)[q0]? = some (a, .inl (cA, n, .inl f))) (ht : tys[t0]? = some (cA, .char)) {i x : Int32} (j : Nat) (hi : i = nI j) (hj : j < n) (hn : n ≤ 100000) (hw : (w σ).set q0 (a, .inl (cA, n, .inl (upd f j (vp_nar .char x)))) = w σ2) (hdg : decode cc pc = .ok (.castore, 1)) (hp : pc + 1 = pc') (kk : VV p l e R s m args below meth c cells slots Q w D A H0 nL σ2 pc' lv st) : VV p l e R s m args below meth c cells slots Q w D A H0 nL σ pc lv (.int x :: .int i :: .ref a :: st) := by
  subst hp
  obtain ⟨g1, g2⟩ := i9_in hi hj hn
  exact fun H locs ls hP hD hS h => va_cast C.1.1 C.1.2.1 K hP hD hS q0 t0 ha ht g1 hdg (fun H1 locs1 hP1 hD1 hS1 => kk H1 locs1 ls (by rw [← hw, ← g2]; exact hP1) (by rw [← hw, ← g2]; exact hD1) hS1 h)
theorem v_zast (C : CX p m c cc nL s args Ts own A H0) (K : va_K D vwCl tys s) {a n : Nat} {f : Nat → Int32} {cA : ClassId} (σ2 : τ) (q0 t0 : Nat) (ha : (w σ)[q0]? = some (a, .inl (cA, n, .inl f))) (ht : tys[t0]? = some (cA, .boolean)) {i x : Int32} (j : Nat) (hi : i = nI j) (hj : j < n) (hn : n ≤ 100000) (hw : (w σ).set q0 (a, .inl (cA, n, .inl (upd f j (vp_nar .boolean x)))) = w σ2) (hdg : decode cc pc = .ok (.bastore, 1)) (hp : pc + 1 = pc') (kk : VV p l e R s m args below meth c cells slots Q w D A H0 nL σ2 pc' lv st) : VV p l e R s m args below meth c cells slots Q w D A H0 nL σ pc lv (.int x :: .int i :: .ref a :: st) := by
  subst hp
  obtain ⟨g1, g2⟩ := i9_in hi hj hn
  exact fun H locs ls hP hD hS h => va_zast C.1.1 C.1.2.1 K hP hD hS q0 t0 ha ht g1 hdg (fun H1 locs1 hP1 hD1 hS1 => kk H1 locs1 ls (by rw [← hw, ← g2]; exact hP1) (by rw [← hw, ← g2]; exact hD1) hS1 h)
theorem v_aald (C : CX p m c cc nL s args Ts own A H0) (K : va_K D vwCl tys s) {a n b : Nat} {f : Nat → Option Nat} {cA : ClassId} {ty : FieldType} (hty : ty.isReference = true) (q0 t0 : Nat) (ha : (w σ)[q0]? = some (a, .inl (cA, n, .inr (.inr (.inr (.inr f)))))) (ht : tys[t0]? = some (cA, ty)) {i : Int32} (j : Nat) (hi : i = nI j) (hj : j < n) (hn : n ≤ 100000) (hf : f j = some b) (hdg : decode cc pc = .ok (.aaload, 1)) (hp : pc + 1 = pc') (kk : VV p l e R s m args below meth c cells slots Q w D A H0 nL σ pc' lv (.ref b :: st)) : VV p l e R s m args below meth c cells slots Q w D A H0 nL σ pc lv (.int i :: .ref a :: st) := by
  subst hp
  obtain ⟨g1, g2⟩ := i9_in hi hj hn
  intro H locs ls hP hD hS h
  refine W.aald (v := .ref b) (ty := ty) C.1.1 C.1.2.1 (hP q0 _ ha) ((K.2 t0 _ ht).1 n (fun j => va_rf (f j))) hty (fun q => by cases q) (by show ¬ (i < 0 ∨ (arrV _ _ _).slots.size ≤ _); rw [arrV_size]; exact g1) ?_ rfl rfl hdg (kk H locs ls hP hD hS h)
  show (arrV _ _ _).slots[_]? = _
  rw [g2, arrV_read _ _ hj, hf]
  rfl
theorem v_mmax (C : CX p m c cc nL s args Ts own A H0) {index : Nat} {x y : Int32} (h1 : Cond.methodLink own index Lib.Math.max.name ∈ Ts) (h2 : Cond.static Lib.Math.max.name ∈ Ts) (h3 : Cond.initialized "java/lang/Math" ∈ Ts) (h4 : Cond.code Lib.Math.max.name Lib.Math.max.code 2 (some .int) ∈ Ts) (hframes : 1 ≤ R.frames) (hlocals : (st.map fun v => v.category).sum + 13 ≤ R.locals) (hcs : cells ≤ R.cells ∧ slots ≤ R.slots) (hdg : decode cc pc = .ok (.invokestatic index, 3)) (hp : pc + 3 = pc') (kk : VV p l e R s m args below meth c cells slots Q w D A H0 nL σ pc' lv (.int (if x < y then y else x) :: st)) : VV p l e R s m args below meth c cells slots Q w D A H0 nL σ pc lv (.int y :: .int x :: st) := by
  subst hp
  exact fun H locs ls hP hD hS h => va_mmax C.1.1 C.1.2.1 (C.1.2.2.1.trans h.1.symm) C.1.2.2.2.1 (C.1.2.2.2.2 _ h1) (C.1.2.2.2.2 _ h2) (C.1.2.2.2.2 _ h3) (C.1.2.2.2.2 _ h4) hframes hlocals hcs.1 hcs.2 hdg (kk H locs ls hP hD hS h)
theorem v_mmin (C : CX p m c cc nL s args Ts own A H0) {index : Nat} {x y : Int32} (h1 : Cond.methodLink own index Lib.Math.min.name ∈ Ts) (h2 : Cond.static Lib.Math.min.name ∈ Ts) (h3 : Cond.initialized "java/lang/Math" ∈ Ts) (h4 : Cond.code Lib.Math.min.name Lib.Math.min.code 2 (some .int) ∈ Ts) (hframes : 1 ≤ R.frames) (hlocals : (st.map fun v => v.category).sum + 13 ≤ R.locals) (hcs : cells ≤ R.cells ∧ slots ≤ R.slots) (hdg : decode cc pc = .ok (.invokestatic index, 3)) (hp : pc + 3 = pc') (kk : VV p l e R s m args below meth c cells slots Q w D A H0 nL σ pc' lv (.int (if y < x then y else x) :: st)) : VV p l e R s m args below meth c cells slots Q w D A H0 nL σ pc lv (.int y :: .int x :: st) := by
  subst hp
  exact fun H locs ls hP hD hS h => va_mmin C.1.1 C.1.2.1 (C.1.2.2.1.trans h.1.symm) C.1.2.2.2.1 (C.1.2.2.2.2 _ h1) (C.1.2.2.2.2 _ h2) (C.1.2.2.2.2 _ h3) (C.1.2.2.2.2 _ h4) hframes hlocals hcs.1 hcs.2 hdg (kk H locs ls hP hD hS h)
theorem v_copyi (C : CX p m c cc nL s args Ts own A H0) (K : va_K D vwCl tys s) {index : Nat} (h1 : Cond.methodLink own index arraycopyName ∈ Ts) (h2 : Cond.native arraycopyName ∈ Ts) (h3 : Cond.static arraycopyName ∈ Ts) (h4 : Cond.initialized "java/lang/System" ∈ Ts) (σ2 : τ) (q0 q1 t0 t1 : Nat) {a a0 : Nat} {c0 c1 : ClassId} {n0 n1 : Nat} {f g : Nat → Int32} (ha0 : (w σ)[q0]? = some (a0, .inl (c0, n0, .inl f))) (ha1 : (w σ)[q1]? = some (a, .inl (c1, n1, .inl g))) (ht0 : tys[t0]? = some (c0, .int)) (ht1 : tys[t1]? = some (c1, .int)) {sp dp n : Int32} (sj dj nj : Nat) (hs : sp = nI sj) (hd : dp = nI dj) (hn : n = nI nj) (h4' : sj + nj ≤ n0) (h5 : dj + nj ≤ n1) (hb : n0 ≤ 100000 ∧ n1 ≤ 100000) (hframes : 1 ≤ R.frames) (hlocals : (st.map fun v => v.category).sum + (nativeFrameWords "java/lang/System" "arraycopy" 5 + 11) ≤ R.locals) (hw : (w σ).set q1 (a, .inl (c1, n1, .inl (va_cpy f g sj dj nj))) = w σ2) (hdg : decode cc pc = .ok (.invokestatic index, 3)) (hp : pc + 3 = pc') (kk : VV p l e R s m args below meth c cells slots Q w D A H0 nL σ2 pc' lv st) : VV p l e R s m args below meth c cells slots Q w D A H0 nL σ pc lv (.int n :: .int dp :: .ref a :: .int sp :: .ref a0 :: st) := by
  subst hp
  subst hs
  subst hd
  subst hn
  have e1 : (nI sj).toNatClampNeg = sj := nI_clamp (by omega)
  have e2 : (nI dj).toNatClampNeg = dj := nI_clamp (by omega)
  have e3 : (nI nj).toNatClampNeg = nj := nI_clamp (by omega)
  intro H locs ls hP hD hS h
  exact va_copyi C.1.1 C.1.2.1 (C.1.2.2.1.trans h.1.symm) C.1.2.2.2.1 (C.1.2.2.2.2 _ h1) (C.1.2.2.2.2 _ h2) (C.1.2.2.2.2 _ h3) (C.1.2.2.2.2 _ h4) K hP hD hS q0 q1 t0 t1 ha0 ha1 ht0 ht1 rfl (nI_pos (by omega)) (nI_pos (by omega)) (nI_pos (by omega)) (by rw [e1, e3]; exact h4') (by rw [e2, e3]; exact h5) (fun i _ => rfl) hframes hlocals hdg (fun H1 locs1 hP1 hD1 hS1 => kk H1 locs1 ls (by rw [← hw, ← e1, ← e2, ← e3]; simpa only [e1, e2, e3] using hP1) (by rw [← hw, ← e1, ← e2, ← e3]; simpa only [e1, e2, e3] using hD1) hS1 h)
theorem v9_F (C : CX p m c cc nL s args Ts own A H0) {H : Heap} {locs : List Loc} (hD : va_D A (w σ)) (hS : va_S A H0 H locs) : ∀ q, va_A (w σ) H.size q → A q := by
  intro q hq
  rcases hq with ⟨k, e, hk⟩ | hle
  · exact hD.2 k (q, e) hk
  · exact C.2 q (Nat.le_trans hS.1 hle)
theorem v_callVi (C : CX p m c cc nL s args Ts own A H0) (K : va_K D vwCl tys s) {y : MethodName} {ws ws' : List Cond} {rm : Room} {bytes : ByteArray} {maxL n index : Nat} {ret : Option FieldType} {As st0 : List Value} {C' : String} {b ci : Nat} {fs : List Value} {q : vw_C} {post : Int32 → τ → Prop} (hM : CMi l w D tys y ws rm (.ref b :: As) σ post) (hG : GoodIn Ts (wsV own index C' y ws)) (hw : ws = Cond.code y bytes maxL ret :: ws') (hd : y.cls = C' ∧ y.cls ≠ "java/lang/invoke/MethodHandle" ∧ y.cls ≠ "java/lang/invoke/VarHandle" ∧ (parseMethodDescriptor y.desc).map (fun d => d.parameters.length) = some n) (hrm : rm.cells = 0 ∧ rm.slots = 0) (hR : rm.frames + 1 ≤ R.frames ∧ 8 + (maxL + 11) + rm.locals ≤ R.locals) (q0 : Nat) (he : (w σ)[q0]? = some (b, .inr (ci, fs))) (hc : vwCl[ci]? = some q) (hq : q.1 = C') (hst : st0 = As.reverse ++ .ref b :: rest) (hn : As.length = n) (hcat : (rest.map fun v => v.category).sum ≤ 8) (hcs : cells ≤ R.cells ∧ slots ≤ R.slots) (hdg : decode cc pc = .ok (.invokevirtual index, 3)) (hp : pc + 3 = pc') (kk : ∀ (r : Int32) (u : τ), post r u → VV p l e R s m args below meth c cells slots Q w D A H0 nL u pc' lv (.int r :: rest)) : VV p l e R s m args below meth c cells slots Q w D A H0 nL σ pc lv st0 := by
  subst hst
  subst hp
  subst hq
  intro H locs ls hP hD hS h
  have hF := v9_F C hD hS
  refine va_calli (va_runV (As := As) (rest := rest) C.1 (hM H.size) (cwV n C.1.2.2.2.2 hG hw hrm.1 hrm.2 hd hR) ⟨v9_blind, va_recv K hP hc he, fun U hU hW => ⟨rfl, by rw [hU], by rw [hU]; exact hP, va_K.moved hW.alike K, hD.weaken (fun _ _ _ _ => trivial)⟩⟩ rfl hn h.1 rfl (lv_room hcat) hdg hcs) hS (fun q _ h => hF q h) hF (fun r u t H1 locs1 ht hvm hq2 hB hz hk hS1 => ?_)
  obtain ⟨hP1, hK1, hD1⟩ := hB
  rw [ht] at hP1
  exact kk r u hq2 H1 locs1 ls hP1 ⟨hD1.1, fun k q hk => hF q.1 (hD1.2 k q hk)⟩ hS1 h
theorem v_callSi (C : CX p m c cc nL s args Ts own A H0) (K : va_K D vwCl tys s) {y : MethodName} {ws ws' : List Cond} {rm : Room} {bytes : ByteArray} {maxL n index : Nat} {ret : Option FieldType} {As st0 : List Value} {post : Int32 → τ → Prop} (hM : CMi l w D tys y ws rm As σ post) (hG : GoodIn Ts (va_wsS own index y ws)) (hw : ws = Cond.code y bytes maxL ret :: ws') (hd : y.cls ≠ "java/lang/invoke/MethodHandle" ∧ y.cls ≠ "java/lang/invoke/VarHandle" ∧ (parseMethodDescriptor y.desc).map (fun d => d.parameters.length) = some n) (hrm : rm.cells = 0 ∧ rm.slots = 0) (hR : rm.frames + 1 ≤ R.frames ∧ 8 + (maxL + 11) + rm.locals ≤ R.locals) (hst : st0 = As.reverse ++ rest) (hn : As.length = n) (hcat : (rest.map fun v => v.category).sum ≤ 8) (hcs : cells ≤ R.cells ∧ slots ≤ R.slots) (hdg : decode cc pc = .ok (.invokestatic index, 3)) (hp : pc + 3 = pc') (kk : ∀ (r : Int32) (u : τ), post r u → VV p l e R s m args below meth c cells slots Q w D A H0 nL u pc' lv (.int r :: rest)) : VV p l e R s m args below meth c cells slots Q w D A H0 nL σ pc lv st0 := by
  subst hst
  subst hp
  intro H locs ls hP hD hS h
  have hF := v9_F C hD hS
  refine va_calli (va_runS (As := As) (rest := rest) C.1 (hM H.size) (va_cwS n C.1.2.2.2.2 hG hw hrm.1 hrm.2 hd hR) ⟨v9_blind, fun U hU hW => ⟨rfl, by rw [hU], by rw [hU]; exact hP, va_K.moved hW.alike K, hD.weaken (fun _ _ _ _ => trivial)⟩⟩ rfl hn h.1 rfl (lv_room hcat) hdg hcs) hS (fun q _ h => hF q h) hF (fun r u t H1 locs1 ht hvm hq2 hB hz hk hS1 => ?_)
  obtain ⟨hP1, hK1, hD1⟩ := hB
  rw [ht] at hP1
  exact kk r u hq2 H1 locs1 ls hP1 ⟨hD1.1, fun k q hk => hF q.1 (hD1.2 k q hk)⟩ hS1 h
theorem v_callVv (C : CX p m c cc nL s args Ts own A H0) (K : va_K D vwCl tys s) {y : MethodName} {ws ws' : List Cond} {rm : Room} {bytes : ByteArray} {maxL n index : Nat} {ret : Option FieldType} {As st0 : List Value} {C' : String} {b ci : Nat} {fs : List Value} {q : vw_C} {post : τ → Prop} (hM : CMv l w D tys y ws rm (.ref b :: As) σ post) (hG : GoodIn Ts (wsV own index C' y ws)) (hw : ws = Cond.code y bytes maxL ret :: ws') (hd : y.cls = C' ∧ y.cls ≠ "java/lang/invoke/MethodHandle" ∧ y.cls ≠ "java/lang/invoke/VarHandle" ∧ (parseMethodDescriptor y.desc).map (fun d => d.parameters.length) = some n) (hrm : rm.cells = 0 ∧ rm.slots = 0) (hR : rm.frames + 1 ≤ R.frames ∧ 8 + (maxL + 11) + rm.locals ≤ R.locals) (q0 : Nat) (he : (w σ)[q0]? = some (b, .inr (ci, fs))) (hc : vwCl[ci]? = some q) (hq : q.1 = C') (hst : st0 = As.reverse ++ .ref b :: rest) (hn : As.length = n) (hcat : (rest.map fun v => v.category).sum ≤ 8) (hcs : cells ≤ R.cells ∧ slots ≤ R.slots) (hdg : decode cc pc = .ok (.invokevirtual index, 3)) (hp : pc + 3 = pc') (kk : ∀ (u : τ), post u → VV p l e R s m args below meth c cells slots Q w D A H0 nL u pc' lv rest) : VV p l e R s m args below meth c cells slots Q w D A H0 nL σ pc lv st0 := by
  subst hst
  subst hp
  subst hq
  intro H locs ls hP hD hS h
  have hF := v9_F C hD hS
  refine va_callv (va_runV (As := As) (rest := rest) C.1 (hM H.size) (cwV n C.1.2.2.2.2 hG hw hrm.1 hrm.2 hd hR) ⟨v9_blind, va_recv K hP hc he, fun U hU hW => ⟨rfl, by rw [hU], by rw [hU]; exact hP, va_K.moved hW.alike K, hD.weaken (fun _ _ _ _ => trivial)⟩⟩ rfl hn h.1 rfl (lv_room hcat) hdg hcs) hS (fun q _ h => hF q h) hF (fun u t H1 locs1 ht hvm hq2 hB hz hk hS1 => ?_)
  obtain ⟨hP1, hK1, hD1⟩ := hB
  rw [ht] at hP1
  exact kk u hq2 H1 locs1 ls hP1 ⟨hD1.1, fun k q hk => hF q.1 (hD1.2 k q hk)⟩ hS1 h
theorem v_callSv (C : CX p m c cc nL s args Ts own A H0) (K : va_K D vwCl tys s) {y : MethodName} {ws ws' : List Cond} {rm : Room} {bytes : ByteArray} {maxL n index : Nat} {ret : Option FieldType} {As st0 : List Value} {post : τ → Prop} (hM : CMv l w D tys y ws rm As σ post) (hG : GoodIn Ts (va_wsS own index y ws)) (hw : ws = Cond.code y bytes maxL ret :: ws') (hd : y.cls ≠ "java/lang/invoke/MethodHandle" ∧ y.cls ≠ "java/lang/invoke/VarHandle" ∧ (parseMethodDescriptor y.desc).map (fun d => d.parameters.length) = some n) (hrm : rm.cells = 0 ∧ rm.slots = 0) (hR : rm.frames + 1 ≤ R.frames ∧ 8 + (maxL + 11) + rm.locals ≤ R.locals) (hst : st0 = As.reverse ++ rest) (hn : As.length = n) (hcat : (rest.map fun v => v.category).sum ≤ 8) (hcs : cells ≤ R.cells ∧ slots ≤ R.slots) (hdg : decode cc pc = .ok (.invokestatic index, 3)) (hp : pc + 3 = pc') (kk : ∀ (u : τ), post u → VV p l e R s m args below meth c cells slots Q w D A H0 nL u pc' lv rest) : VV p l e R s m args below meth c cells slots Q w D A H0 nL σ pc lv st0 := by
  subst hst
  subst hp
  intro H locs ls hP hD hS h
  have hF := v9_F C hD hS
  refine va_callv (va_runS (As := As) (rest := rest) C.1 (hM H.size) (va_cwS n C.1.2.2.2.2 hG hw hrm.1 hrm.2 hd hR) ⟨v9_blind, fun U hU hW => ⟨rfl, by rw [hU], by rw [hU]; exact hP, va_K.moved hW.alike K, hD.weaken (fun _ _ _ _ => trivial)⟩⟩ rfl hn h.1 rfl (lv_room hcat) hdg hcs) hS (fun q _ h => hF q h) hF (fun u t H1 locs1 ht hvm hq2 hB hz hk hS1 => ?_)
  obtain ⟨hP1, hK1, hD1⟩ := hB
  rw [ht] at hP1
  exact kk u hq2 H1 locs1 ls hP1 ⟨hD1.1, fun k q hk => hF q.1 (hD1.2 k q hk)⟩ hS1 h
theorem v_callSp (C : CX p m c cc nL s args Ts own A H0) {y : MethodName} {ws ws' : List Cond} {rm : Room} {bytes : ByteArray} {maxL n index : Nat} {ret : Option FieldType} {As st0 : List Value} {post : Int32 → Prop} (hM : CPi l y ws rm As post) (hG : GoodIn Ts (va_wsS own index y ws)) (hw : ws = Cond.code y bytes maxL ret :: ws') (hd : y.cls ≠ "java/lang/invoke/MethodHandle" ∧ y.cls ≠ "java/lang/invoke/VarHandle" ∧ (parseMethodDescriptor y.desc).map (fun d => d.parameters.length) = some n) (hrm : rm.cells = 0 ∧ rm.slots = 0) (hR : rm.frames + 1 ≤ R.frames ∧ 8 + (maxL + 11) + rm.locals ≤ R.locals) (hst : st0 = As.reverse ++ rest) (hn : As.length = n) (hcat : (rest.map fun v => v.category).sum ≤ 8) (hcs : cells ≤ R.cells ∧ slots ≤ R.slots) (hdg : decode cc pc = .ok (.invokestatic index, 3)) (hp : pc + 3 = pc') (kk : ∀ (r : Int32), post r → VV p l e R s m args below meth c cells slots Q w D A H0 nL σ pc' lv (.int r :: rest)) : VV p l e R s m args below meth c cells slots Q w D A H0 nL σ pc lv st0 := by
  subst hst
  subst hp
  intro H locs ls hP hD hS h
  have hF : ∀ q, va_A [] H.size q → A q := by
    intro q hq
    rcases hq with ⟨k, e, hk⟩ | hle
    · cases hk
    · exact C.2 q (Nat.le_trans hS.1 hle)
  refine va_calli (va_runS (As := As) (rest := rest) C.1 (hM H.size) (va_cwS n C.1.2.2.2.2 hG hw hrm.1 hrm.2 hd hR) ⟨v9_blindP, fun U hU hW => ⟨rfl, by show U.heap.size = H.size; rw [hU]⟩⟩ rfl hn h.1 rfl (lv_room hcat) hdg hcs) hS (fun q _ h => hF q h) hF (fun r u t H1 locs1 ht hvm hq2 hB hz hk hS1 => ?_)
  refine kk r hq2 H1 locs1 ls (hP.kept (fun k q hq => hk q.1 ((hP k q hq).lt) ?_)) hD hS1 h
  rintro (⟨k2, e, h2⟩ | hle)
  · cases h2
  · have := (hP k q hq).lt
    omega
theorem v_iret (C : CX p m c cc nL s args Ts own A H0) (K : va_K D vwCl tys s) {post : Int32 → τ → Prop} {ty : FieldType} {r : Int32} (hr : meth.sig.returnType = some ty) (hlocks : meth.locks = false) (hn : narrow ty (.int r) = .int r) (hpost : post r σ) (hdg : decode cc pc = .ok (.ireturn, 1)) : VV p l e R s m args below meth c 0 0 (MQ below (va_Qi post (v9_world D w tys A) A) args s 0 0 A) w D A s.heap nL σ pc lv [.int r] :=
  fun H locs ls hP hD hS h => W.zret C.1.1 C.1.2.1 hr hn (fun t ht hW => ⟨⟨r, σ, rfl, hpost, by rw [ht]; exact hP, va_K.moved hW.alike K, hD⟩, hS.F ht⟩) hS.2.2 hdg
theorem v_vret (C : CX p m c cc nL s args Ts own A H0) (K : va_K D vwCl tys s) {post : τ → Prop} (hr : meth.sig.returnType = none) (hlocks : meth.locks = false) (hpost : post σ) (hdg : decode cc pc = .ok (.return_, 1)) : VV p l e R s m args below meth c 0 0 (MQ below (va_Qv post (v9_world D w tys A) A) args s 0 0 A) w D A s.heap nL σ pc lv [] :=
  fun H locs ls hP hD hS h => W.vret C.1.1 C.1.2.1 hr (fun t ht hW => ⟨⟨σ, rfl, hpost, by rw [ht]; exact hP, va_K.moved hW.alike K, hD⟩, hS.F ht⟩) hS.2.2 hdg
theorem v_pret (C : CX p m c cc nL s args Ts own A H0) {post : Int32 → Prop} {ty : FieldType} {r : Int32} (hr : meth.sig.returnType = some ty) (hlocks : meth.locks = false) (hn : narrow ty (.int r) = .int r) (hpost : post r) (hdg : decode cc pc = .ok (.ireturn, 1)) : VV p l e R s m args below meth c 0 0 (MQ below (va_Qi (fun r (_ : Unit) => post r) (fun _ _ => True) A) args s 0 0 A) w D A s.heap nL σ pc lv [.int r] :=
  fun H locs ls hP hD hS h => W.zret C.1.1 C.1.2.1 hr hn (fun t ht hW => ⟨⟨r, (), rfl, hpost, trivial⟩, hS.F ht⟩) hS.2.2 hdg
theorem v_starti {y : MethodName} {ws ws' : List Cond} {rm : Room} {ty : FieldType} {As : List Value} {post : Int32 → τ → Prop} (ho : y.cls = own) (hy : plainName y.cls = true) (hw : ws = Cond.code y cc nL (some ty) :: ws') (hlg : (lg_sl As).length ≤ nL)
    (body : ∀ (p : Program) (e : Env) (s : State) (m : MethodId) (args : Array Value) (below : List Frame) (meth : Method) (c : Code) (A : Nat → Prop) (Q : State → Prop), CX p m c cc nL s args ws own A s.heap → va_K D vwCl tys s → (∀ {σ1 : τ} {pc1 : Nat} {lv1 : List (Nat × Value)} {r : Int32}, post r σ1 → narrow ty (.int r) = .int r → decode cc pc1 = .ok (.ireturn, 1) → VV p l e rm s m args below meth c 0 0 Q w D A s.heap nL σ1 pc1 lv1 [.int r]) → VV p l e rm s m args below meth c 0 0 Q w D A s.heap nL σ 0 (lv_args 0 As) []) : CMi l w D tys y ws rm As σ post := by
  subst ho
  intro sz
  refine Met.ofW (cc := cc) (maxL := nL) (ret := some ty) hy hw ?_
  intro p e s m args below meth c s₁ B hml hv
  obtain ⟨rfl, hsz, hP, K, hD0⟩ := hv
  subst hsz
  have hl := lv_entry As (n := nL) hlg
  rw [lg_entry_eq]
  have C : CX p m c cc nL s As.toArray ws y.cls (va_A (w σ) s.heap.size) s.heap := ⟨⟨B.exec, B.bytes, hml, findClass_of_methodNamed B.named, atoms_spec (ws := ws) B.pre⟩, fun q h => Or.inr h⟩
  exact body p e s m As.toArray below meth c (va_A (w σ) s.heap.size) _ C K (fun h1 h2 h3 => v_iret C K B.returns B.notSynchronized h2 h1 h3) s.heap [] _ hP hD0.self va_S.rf hl
theorem v_startv {y : MethodName} {ws ws' : List Cond} {rm : Room} {As : List Value} {post : τ → Prop} (ho : y.cls = own) (hy : plainName y.cls = true) (hw : ws = Cond.code y cc nL (none) :: ws') (hlg : (lg_sl As).length ≤ nL)
    (body : ∀ (p : Program) (e : Env) (s : State) (m : MethodId) (args : Array Value) (below : List Frame) (meth : Method) (c : Code) (A : Nat → Prop) (Q : State → Prop), CX p m c cc nL s args ws own A s.heap → va_K D vwCl tys s → (∀ {σ1 : τ} {pc1 : Nat} {lv1 : List (Nat × Value)}, post σ1 → decode cc pc1 = .ok (.return_, 1) → VV p l e rm s m args below meth c 0 0 Q w D A s.heap nL σ1 pc1 lv1 []) → VV p l e rm s m args below meth c 0 0 Q w D A s.heap nL σ 0 (lv_args 0 As) []) : CMv l w D tys y ws rm As σ post := by
  subst ho
  intro sz
  refine Met.ofW (cc := cc) (maxL := nL) (ret := none) hy hw ?_
  intro p e s m args below meth c s₁ B hml hv
  obtain ⟨rfl, hsz, hP, K, hD0⟩ := hv
  subst hsz
  have hl := lv_entry As (n := nL) hlg
  rw [lg_entry_eq]
  have C : CX p m c cc nL s As.toArray ws y.cls (va_A (w σ) s.heap.size) s.heap := ⟨⟨B.exec, B.bytes, hml, findClass_of_methodNamed B.named, atoms_spec (ws := ws) B.pre⟩, fun q h => Or.inr h⟩
  exact body p e s m As.toArray below meth c (va_A (w σ) s.heap.size) _ C K (fun h1 h3 => v_vret C K B.returns B.notSynchronized h1 h3) s.heap [] _ hP hD0.self va_S.rf hl
theorem v_startP {y : MethodName} {ws ws' : List Cond} {rm : Room} {ty : FieldType} {As : List Value} {post : Int32 → Prop} (D : va_G) (ho : y.cls = own) (hy : plainName y.cls = true) (hw : ws = Cond.code y cc nL (some ty) :: ws') (hlg : (lg_sl As).length ≤ nL)
    (body : ∀ (p : Program) (e : Env) (s : State) (m : MethodId) (args : Array Value) (below : List Frame) (meth : Method) (c : Code) (A : Nat → Prop) (Q : State → Prop), CX p m c cc nL s args ws own A s.heap → (∀ {pc1 : Nat} {lv1 : List (Nat × Value)} {r : Int32}, post r → narrow ty (.int r) = .int r → decode cc pc1 = .ok (.ireturn, 1) → VV p l e rm s m args below meth c 0 0 Q (fun _ : Unit => []) D A s.heap nL () pc1 lv1 [.int r]) → VV p l e rm s m args below meth c 0 0 Q (fun _ : Unit => []) D A s.heap nL () 0 (lv_args 0 As) []) : CPi l y ws rm As post := by
  subst ho
  intro sz
  refine Met.ofW (cc := cc) (maxL := nL) (ret := some ty) hy hw ?_
  intro p e s m args below meth c s₁ B hml hv
  obtain ⟨rfl, hsz⟩ := hv
  subst hsz
  have hl := lv_entry As (n := nL) hlg
  rw [lg_entry_eq]
  have C : CX p m c cc nL s As.toArray ws y.cls (va_A [] s.heap.size) s.heap := ⟨⟨B.exec, B.bytes, hml, findClass_of_methodNamed B.named, atoms_spec (ws := ws) B.pre⟩, fun q h => Or.inr h⟩
  exact body p e s m As.toArray below meth c (va_A [] s.heap.size) _ C (fun h1 h2 h3 => v_pret (w := fun _ : Unit => []) C B.returns B.notSynchronized h2 h1 h3) s.heap [] _ (fun k q h => by simp at h) ⟨(fun i j p q h => by simp at h), (fun k q h => by simp at h)⟩ va_S.rf hl
theorem v9cast {σ1 : τ} {lv1 : List (Nat × Value)} {st1 : List Value} (kk : VV p l e R s m args below meth c cells slots Q w D A H0 nL σ1 pc lv1 st1) (h1 : σ = σ1) (h2 : lv = lv1) (h3 : st = st1) : VV p l e R s m args below meth c cells slots Q w D A H0 nL σ pc lv st := by
  subst h1
  subst h2
  subst h3
  exact kk
end V9
/-- a loop of counted turns, backward: what holds behind the last turn, and each turn -/
theorem lpB9 (V : Nat → Prop) (N : Nat) (hs : ∀ d, d < N → V (d + 1) → V d) (hN : V N) : ∀ d, d ≤ N → V d := by
  intro d hd
  have h : ∀ n d, d + n = N → V d := by
    intro n
    induction n with
    | zero => intro d h; rw [show d = N by omega]; exact hN
    | succ n ih => intro d h; exact hs d (by omega) (ih (d + 1) (by omega))
  exact h (N - d) d (by omega)
end
section
theorem in_X0_init_X0 : ∀ x ∈ u_ws RX0 TX0 6, x ∈ wsX0_init := fun x h => List.mem_cons_of_mem _ (List.mem_append_right _ h)
set_option maxRecDepth 20000 in
theorem fl_X0_init_X0_0 : Cond.fieldLink RX0 9 (TX0 0).1 (TX0 0).2.1 (TX0 0).2.2.1 ∈ wsX0_init := by decide +kernel
set_option maxRecDepth 20000 in
theorem fl_X0_init_X0_1 : Cond.fieldLink RX0 15 (TX0 1).1 (TX0 1).2.1 (TX0 1).2.2.1 ∈ wsX0_init := by decide +kernel
set_option maxRecDepth 20000 in
theorem fl_X0_init_X0_2 : Cond.fieldLink RX0 18 (TX0 2).1 (TX0 2).2.1 (TX0 2).2.2.1 ∈ wsX0_init := by decide +kernel
set_option maxRecDepth 20000 in
theorem fl_X0_init_X0_3 : Cond.fieldLink RX0 21 (TX0 3).1 (TX0 3).2.1 (TX0 3).2.2.1 ∈ wsX0_init := by decide +kernel
theorem in_X0_follow_X0 : ∀ x ∈ u_ws RX0 TX0 6, x ∈ wsX0_follow := fun x h => List.mem_cons_of_mem _ (List.mem_append_left _ (List.mem_append_right _ h))
set_option maxRecDepth 20000 in
theorem fl_X0_follow_X0_0 : Cond.fieldLink RX0 9 (TX0 0).1 (TX0 0).2.1 (TX0 0).2.2.1 ∈ wsX0_follow := by decide +kernel
set_option maxRecDepth 20000 in
theorem fl_X0_follow_X0_1 : Cond.fieldLink RX0 15 (TX0 1).1 (TX0 1).2.1 (TX0 1).2.2.1 ∈ wsX0_follow := by decide +kernel
set_option maxRecDepth 20000 in
theorem fl_X0_follow_X0_2 : Cond.fieldLink RX0 18 (TX0 2).1 (TX0 2).2.1 (TX0 2).2.2.1 ∈ wsX0_follow := by decide +kernel
set_option maxRecDepth 20000 in
theorem fl_X0_follow_X0_3 : Cond.fieldLink RX0 21 (TX0 3).1 (TX0 3).2.1 (TX0 3).2.2.1 ∈ wsX0_follow := by decide +kernel
set_option maxRecDepth 20000 in
theorem fl_X0_follow_X0_4 : Cond.fieldLink RX0 30 (TX0 4).1 (TX0 4).2.1 (TX0 4).2.2.1 ∈ wsX0_follow := by decide +kernel
set_option maxRecDepth 20000 in
theorem fl_X0_follow_X0_5 : Cond.fieldLink RX0 49 (TX0 5).1 (TX0 5).2.1 (TX0 5).2.2.1 ∈ wsX0_follow := by decide +kernel
set_option maxRecDepth 20000 in
theorem ma_X0_follow_min_0 : Cond.methodLink RX0 63 Lib.Math.min.name ∈ wsX0_follow := by decide +kernel
set_option maxRecDepth 20000 in
theorem ma_X0_follow_min_1 : Cond.static Lib.Math.min.name ∈ wsX0_follow := by decide +kernel
set_option maxRecDepth 20000 in
theorem ma_X0_follow_min_2 : Cond.initialized "java/lang/Math" ∈ wsX0_follow := by decide +kernel
set_option maxRecDepth 20000 in
theorem ma_X0_follow_min_3 : Cond.code Lib.Math.min.name Lib.Math.min.code 2 (some .int) ∈ wsX0_follow := by decide +kernel
set_option maxRecDepth 20000 in
theorem ma_X0_follow_max_0 : Cond.methodLink RX0 68 Lib.Math.max.name ∈ wsX0_follow := by decide +kernel
set_option maxRecDepth 20000 in
theorem ma_X0_follow_max_1 : Cond.static Lib.Math.max.name ∈ wsX0_follow := by decide +kernel
set_option maxRecDepth 20000 in
theorem ma_X0_follow_max_2 : Cond.initialized "java/lang/Math" ∈ wsX0_follow := by decide +kernel
set_option maxRecDepth 20000 in
theorem ma_X0_follow_max_3 : Cond.code Lib.Math.max.name Lib.Math.max.code 2 (some .int) ∈ wsX0_follow := by decide +kernel
theorem in_X0_followWeek_X0 : ∀ x ∈ u_ws RX0 TX0 6, x ∈ wsX0_followWeek := fun x h => List.mem_cons_of_mem _ (List.mem_append_left _ (List.mem_append_right _ h))
set_option maxRecDepth 20000 in
theorem fl_X0_followWeek_X0_0 : Cond.fieldLink RX0 9 (TX0 0).1 (TX0 0).2.1 (TX0 0).2.2.1 ∈ wsX0_followWeek := by decide +kernel
set_option maxRecDepth 20000 in
theorem fl_X0_followWeek_X0_1 : Cond.fieldLink RX0 15 (TX0 1).1 (TX0 1).2.1 (TX0 1).2.2.1 ∈ wsX0_followWeek := by decide +kernel
set_option maxRecDepth 20000 in
theorem fl_X0_followWeek_X0_2 : Cond.fieldLink RX0 18 (TX0 2).1 (TX0 2).2.1 (TX0 2).2.2.1 ∈ wsX0_followWeek := by decide +kernel
set_option maxRecDepth 20000 in
theorem fl_X0_followWeek_X0_4 : Cond.fieldLink RX0 30 (TX0 4).1 (TX0 4).2.1 (TX0 4).2.2.1 ∈ wsX0_followWeek := by decide +kernel
set_option maxRecDepth 20000 in
theorem ma_X0_followWeek_min_0 : Cond.methodLink RX0 63 Lib.Math.min.name ∈ wsX0_followWeek := by decide +kernel
set_option maxRecDepth 20000 in
theorem ma_X0_followWeek_min_1 : Cond.static Lib.Math.min.name ∈ wsX0_followWeek := by decide +kernel
set_option maxRecDepth 20000 in
theorem ma_X0_followWeek_min_2 : Cond.initialized "java/lang/Math" ∈ wsX0_followWeek := by decide +kernel
set_option maxRecDepth 20000 in
theorem ma_X0_followWeek_min_3 : Cond.code Lib.Math.min.name Lib.Math.min.code 2 (some .int) ∈ wsX0_followWeek := by decide +kernel
set_option maxRecDepth 20000 in
theorem ma_X0_peopleOf_min_0 : Cond.methodLink RX0 63 Lib.Math.min.name ∈ wsX0_peopleOf := by decide +kernel
set_option maxRecDepth 20000 in
theorem ma_X0_peopleOf_min_1 : Cond.static Lib.Math.min.name ∈ wsX0_peopleOf := by decide +kernel
set_option maxRecDepth 20000 in
theorem ma_X0_peopleOf_min_2 : Cond.initialized "java/lang/Math" ∈ wsX0_peopleOf := by decide +kernel
set_option maxRecDepth 20000 in
theorem ma_X0_peopleOf_min_3 : Cond.code Lib.Math.min.name Lib.Math.min.code 2 (some .int) ∈ wsX0_peopleOf := by decide +kernel
set_option maxRecDepth 20000 in
theorem ma_X0_nextShare_max_0 : Cond.methodLink RX0 68 Lib.Math.max.name ∈ wsX0_nextShare := by decide +kernel
set_option maxRecDepth 20000 in
theorem ma_X0_nextShare_max_1 : Cond.static Lib.Math.max.name ∈ wsX0_nextShare := by decide +kernel
set_option maxRecDepth 20000 in
theorem ma_X0_nextShare_max_2 : Cond.initialized "java/lang/Math" ∈ wsX0_nextShare := by decide +kernel
set_option maxRecDepth 20000 in
theorem ma_X0_nextShare_max_3 : Cond.code Lib.Math.max.name Lib.Math.max.code 2 (some .int) ∈ wsX0_nextShare := by decide +kernel
theorem in_X0_reckonWeek_X0 : ∀ x ∈ u_ws RX0 TX0 6, x ∈ wsX0_reckonWeek := fun x h => List.mem_cons_of_mem _ (List.mem_append_left _ (List.mem_append_right _ h))
set_option maxRecDepth 20000 in
theorem fl_X0_reckonWeek_X0_2 : Cond.fieldLink RX0 18 (TX0 2).1 (TX0 2).2.1 (TX0 2).2.2.1 ∈ wsX0_reckonWeek := by decide +kernel
set_option maxRecDepth 20000 in
theorem fl_X0_reckonWeek_X0_3 : Cond.fieldLink RX0 21 (TX0 3).1 (TX0 3).2.1 (TX0 3).2.2.1 ∈ wsX0_reckonWeek := by decide +kernel
set_option maxRecDepth 20000 in
theorem ma_X0_reckonWeek_max_0 : Cond.methodLink RX0 68 Lib.Math.max.name ∈ wsX0_reckonWeek := by decide +kernel
set_option maxRecDepth 20000 in
theorem ma_X0_reckonWeek_max_1 : Cond.static Lib.Math.max.name ∈ wsX0_reckonWeek := by decide +kernel
set_option maxRecDepth 20000 in
theorem ma_X0_reckonWeek_max_2 : Cond.initialized "java/lang/Math" ∈ wsX0_reckonWeek := by decide +kernel
set_option maxRecDepth 20000 in
theorem ma_X0_reckonWeek_max_3 : Cond.code Lib.Math.max.name Lib.Math.max.code 2 (some .int) ∈ wsX0_reckonWeek := by decide +kernel
theorem in_X0_shareOfTakings_X0 : ∀ x ∈ u_ws RX0 TX0 6, x ∈ wsX0_shareOfTakings := fun x h => List.mem_cons_of_mem _ (List.mem_append_right _ h)
set_option maxRecDepth 20000 in
theorem fl_X0_shareOfTakings_X0_2 : Cond.fieldLink RX0 18 (TX0 2).1 (TX0 2).2.1 (TX0 2).2.2.1 ∈ wsX0_shareOfTakings := by decide +kernel
set_option maxRecDepth 20000 in
theorem fl_X0_shareOfTakings_X0_3 : Cond.fieldLink RX0 21 (TX0 3).1 (TX0 3).2.1 (TX0 3).2.2.1 ∈ wsX0_shareOfTakings := by decide +kernel
theorem in_X0_dueAboveShare_X0 : ∀ x ∈ u_ws RX0 TX0 6, x ∈ wsX0_dueAboveShare := fun x h => List.mem_cons_of_mem _ (List.mem_append_right _ h)
set_option maxRecDepth 20000 in
theorem fl_X0_dueAboveShare_X0_2 : Cond.fieldLink RX0 18 (TX0 2).1 (TX0 2).2.1 (TX0 2).2.2.1 ∈ wsX0_dueAboveShare := by decide +kernel
set_option maxRecDepth 20000 in
theorem fl_X0_dueAboveShare_X0_3 : Cond.fieldLink RX0 21 (TX0 3).1 (TX0 3).2.1 (TX0 3).2.2.1 ∈ wsX0_dueAboveShare := by decide +kernel
theorem in_X0_sumOfWeek_X0 : ∀ x ∈ u_ws RX0 TX0 6, x ∈ wsX0_sumOfWeek := fun x h => List.mem_cons_of_mem _ (List.mem_append_right _ h)
set_option maxRecDepth 20000 in
theorem fl_X0_sumOfWeek_X0_2 : Cond.fieldLink RX0 18 (TX0 2).1 (TX0 2).2.1 (TX0 2).2.2.1 ∈ wsX0_sumOfWeek := by decide +kernel
theorem in_X0_sum_X0 : ∀ x ∈ u_ws RX0 TX0 6, x ∈ wsX0_sum := fun x h => List.mem_cons_of_mem _ (List.mem_append_right _ h)
set_option maxRecDepth 20000 in
theorem fl_X0_sum_X0_2 : Cond.fieldLink RX0 18 (TX0 2).1 (TX0 2).2.1 (TX0 2).2.2.1 ∈ wsX0_sum := by decide +kernel
theorem in_X0_shareIn_X0 : ∀ x ∈ u_ws RX0 TX0 6, x ∈ wsX0_shareIn := fun x h => List.mem_cons_of_mem _ (List.mem_append_right _ h)
set_option maxRecDepth 20000 in
theorem fl_X0_shareIn_X0_3 : Cond.fieldLink RX0 21 (TX0 3).1 (TX0 3).2.1 (TX0 3).2.2.1 ∈ wsX0_shareIn := by decide +kernel
theorem in_X0_peopleAt_X0 : ∀ x ∈ u_ws RX0 TX0 6, x ∈ wsX0_peopleAt := fun x h => List.mem_cons_of_mem _ (List.mem_append_right _ h)
set_option maxRecDepth 20000 in
theorem fl_X0_peopleAt_X0_0 : Cond.fieldLink RX0 9 (TX0 0).1 (TX0 0).2.1 (TX0 0).2.2.1 ∈ wsX0_peopleAt := by decide +kernel
theorem in_X0_leftBehind_X0 : ∀ x ∈ u_ws RX0 TX0 6, x ∈ wsX0_leftBehind := fun x h => List.mem_cons_of_mem _ (List.mem_append_right _ h)
set_option maxRecDepth 20000 in
theorem fl_X0_leftBehind_X0_1 : Cond.fieldLink RX0 15 (TX0 1).1 (TX0 1).2.1 (TX0 1).2.2.1 ∈ wsX0_leftBehind := by decide +kernel
theorem in_X0_fullShows_X0 : ∀ x ∈ u_ws RX0 TX0 6, x ∈ wsX0_fullShows := fun x h => List.mem_cons_of_mem _ (List.mem_append_right _ h)
set_option maxRecDepth 20000 in
theorem fl_X0_fullShows_X0_4 : Cond.fieldLink RX0 30 (TX0 4).1 (TX0 4).2.1 (TX0 4).2.2.1 ∈ wsX0_fullShows := by decide +kernel
theorem in_X0_leftAtEnd_X0 : ∀ x ∈ u_ws RX0 TX0 6, x ∈ wsX0_leftAtEnd := fun x h => List.mem_cons_of_mem _ (List.mem_append_right _ h)
set_option maxRecDepth 20000 in
theorem fl_X0_leftAtEnd_X0_5 : Cond.fieldLink RX0 49 (TX0 5).1 (TX0 5).2.1 (TX0 5).2.2.1 ∈ wsX0_leftAtEnd := by decide +kernel
theorem in_X1_init_X1 : ∀ x ∈ u_ws RX1 TX1 1, x ∈ wsX1_init := fun x h => List.mem_cons_of_mem _ (List.mem_append_right _ h)
set_option maxRecDepth 20000 in
theorem fl_X1_init_X1_0 : Cond.fieldLink RX1 11 (TX1 0).1 (TX1 0).2.1 (TX1 0).2.2.1 ∈ wsX1_init := by decide +kernel
set_option maxRecDepth 20000 in
theorem cp_X1_init_0 : Cond.methodLink RX1 18 arraycopyName ∈ wsX1_init := by decide +kernel
set_option maxRecDepth 20000 in
theorem cp_X1_init_1 : Cond.native arraycopyName ∈ wsX1_init := by decide +kernel
set_option maxRecDepth 20000 in
theorem cp_X1_init_2 : Cond.static arraycopyName ∈ wsX1_init := by decide +kernel
set_option maxRecDepth 20000 in
theorem cp_X1_init_3 : Cond.initialized "java/lang/System" ∈ wsX1_init := by decide +kernel
theorem in_X1_copyTo_X1 : ∀ x ∈ u_ws RX1 TX1 1, x ∈ wsX1_copyTo := fun x h => List.mem_cons_of_mem _ (List.mem_append_right _ h)
set_option maxRecDepth 20000 in
theorem fl_X1_copyTo_X1_0 : Cond.fieldLink RX1 11 (TX1 0).1 (TX1 0).2.1 (TX1 0).2.2.1 ∈ wsX1_copyTo := by decide +kernel
set_option maxRecDepth 20000 in
theorem cp_X1_copyTo_0 : Cond.methodLink RX1 18 arraycopyName ∈ wsX1_copyTo := by decide +kernel
set_option maxRecDepth 20000 in
theorem cp_X1_copyTo_1 : Cond.native arraycopyName ∈ wsX1_copyTo := by decide +kernel
set_option maxRecDepth 20000 in
theorem cp_X1_copyTo_2 : Cond.static arraycopyName ∈ wsX1_copyTo := by decide +kernel
set_option maxRecDepth 20000 in
theorem cp_X1_copyTo_3 : Cond.initialized "java/lang/System" ∈ wsX1_copyTo := by decide +kernel
theorem in_X1_copyFrom_X1 : ∀ x ∈ u_ws RX1 TX1 1, x ∈ wsX1_copyFrom := fun x h => List.mem_cons_of_mem _ (List.mem_append_right _ h)
set_option maxRecDepth 20000 in
theorem fl_X1_copyFrom_X1_0 : Cond.fieldLink RX1 11 (TX1 0).1 (TX1 0).2.1 (TX1 0).2.2.1 ∈ wsX1_copyFrom := by decide +kernel
set_option maxRecDepth 20000 in
theorem cp_X1_copyFrom_0 : Cond.methodLink RX1 18 arraycopyName ∈ wsX1_copyFrom := by decide +kernel
set_option maxRecDepth 20000 in
theorem cp_X1_copyFrom_1 : Cond.native arraycopyName ∈ wsX1_copyFrom := by decide +kernel
set_option maxRecDepth 20000 in
theorem cp_X1_copyFrom_2 : Cond.static arraycopyName ∈ wsX1_copyFrom := by decide +kernel
set_option maxRecDepth 20000 in
theorem cp_X1_copyFrom_3 : Cond.initialized "java/lang/System" ∈ wsX1_copyFrom := by decide +kernel
theorem in_X1_setting_X1 : ∀ x ∈ u_ws RX1 TX1 1, x ∈ wsX1_setting := fun x h => List.mem_cons_of_mem _ (List.mem_append_right _ h)
set_option maxRecDepth 20000 in
theorem fl_X1_setting_X1_0 : Cond.fieldLink RX1 11 (TX1 0).1 (TX1 0).2.1 (TX1 0).2.2.1 ∈ wsX1_setting := by decide +kernel
theorem in_X1_changeSetting_X1 : ∀ x ∈ u_ws RX1 TX1 1, x ∈ wsX1_changeSetting := fun x h => List.mem_cons_of_mem _ (List.mem_append_right _ h)
set_option maxRecDepth 20000 in
theorem fl_X1_changeSetting_X1_0 : Cond.fieldLink RX1 11 (TX1 0).1 (TX1 0).2.1 (TX1 0).2.2.1 ∈ wsX1_changeSetting := by decide +kernel
theorem in_X1_films_X1 : ∀ x ∈ u_ws RX1 TX1 1, x ∈ wsX1_films := fun x h => List.mem_cons_of_mem _ (List.mem_append_right _ h)
set_option maxRecDepth 20000 in
theorem fl_X1_films_X1_0 : Cond.fieldLink RX1 11 (TX1 0).1 (TX1 0).2.1 (TX1 0).2.2.1 ∈ wsX1_films := by decide +kernel
theorem in_X1_hasFilm_X1 : ∀ x ∈ u_ws RX1 TX1 1, x ∈ wsX1_hasFilm := fun x h => List.mem_cons_of_mem _ (List.mem_append_right _ h)
set_option maxRecDepth 20000 in
theorem fl_X1_hasFilm_X1_0 : Cond.fieldLink RX1 11 (TX1 0).1 (TX1 0).2.1 (TX1 0).2.2.1 ∈ wsX1_hasFilm := by decide +kernel
theorem in_X1_addFilm_X1 : ∀ x ∈ u_ws RX1 TX1 1, x ∈ wsX1_addFilm := fun x h => List.mem_cons_of_mem _ (List.mem_append_right _ h)
set_option maxRecDepth 20000 in
theorem fl_X1_addFilm_X1_0 : Cond.fieldLink RX1 11 (TX1 0).1 (TX1 0).2.1 (TX1 0).2.2.1 ∈ wsX1_addFilm := by decide +kernel
theorem in_X1_fact_X1 : ∀ x ∈ u_ws RX1 TX1 1, x ∈ wsX1_fact := fun x h => List.mem_cons_of_mem _ (List.mem_append_right _ h)
set_option maxRecDepth 20000 in
theorem fl_X1_fact_X1_0 : Cond.fieldLink RX1 11 (TX1 0).1 (TX1 0).2.1 (TX1 0).2.2.1 ∈ wsX1_fact := by decide +kernel
theorem in_X1_showAt_X1 : ∀ x ∈ u_ws RX1 TX1 1, x ∈ wsX1_showAt := fun x h => List.mem_cons_of_mem _ (List.mem_append_right _ h)
set_option maxRecDepth 20000 in
theorem fl_X1_showAt_X1_0 : Cond.fieldLink RX1 11 (TX1 0).1 (TX1 0).2.1 (TX1 0).2.2.1 ∈ wsX1_showAt := by decide +kernel
theorem in_X1_replaceShow_X1 : ∀ x ∈ u_ws RX1 TX1 1, x ∈ wsX1_replaceShow := fun x h => List.mem_cons_of_mem _ (List.mem_append_right _ h)
set_option maxRecDepth 20000 in
theorem fl_X1_replaceShow_X1_0 : Cond.fieldLink RX1 11 (TX1 0).1 (TX1 0).2.1 (TX1 0).2.2.1 ∈ wsX1_replaceShow := by decide +kernel
theorem in_X1_canHold_X1 : ∀ x ∈ u_ws RX1 TX1 1, x ∈ wsX1_canHold := fun x h => List.mem_cons_of_mem _ (List.mem_append_right _ h)
set_option maxRecDepth 20000 in
theorem fl_X1_canHold_X1_0 : Cond.fieldLink RX1 11 (TX1 0).1 (TX1 0).2.1 (TX1 0).2.2.1 ∈ wsX1_canHold := by decide +kernel
theorem in_X1_shows_X1 : ∀ x ∈ u_ws RX1 TX1 1, x ∈ wsX1_shows := fun x h => List.mem_cons_of_mem _ (List.mem_append_right _ h)
set_option maxRecDepth 20000 in
theorem fl_X1_shows_X1_0 : Cond.fieldLink RX1 11 (TX1 0).1 (TX1 0).2.1 (TX1 0).2.2.1 ∈ wsX1_shows := by decide +kernel
theorem in_X1_firstDayShown_X1 : ∀ x ∈ u_ws RX1 TX1 1, x ∈ wsX1_firstDayShown := fun x h => List.mem_cons_of_mem _ (List.mem_append_right _ h)
set_option maxRecDepth 20000 in
theorem fl_X1_firstDayShown_X1_0 : Cond.fieldLink RX1 11 (TX1 0).1 (TX1 0).2.1 (TX1 0).2.2.1 ∈ wsX1_firstDayShown := by decide +kernel
theorem in_X1_rentOf_X1 : ∀ x ∈ u_ws RX1 TX1 1, x ∈ wsX1_rentOf := fun x h => List.mem_cons_of_mem _ (List.mem_append_right _ h)
set_option maxRecDepth 20000 in
theorem fl_X1_rentOf_X1_0 : Cond.fieldLink RX1 11 (TX1 0).1 (TX1 0).2.1 (TX1 0).2.2.1 ∈ wsX1_rentOf := by decide +kernel
theorem in_X1_changeRent_X1 : ∀ x ∈ u_ws RX1 TX1 1, x ∈ wsX1_changeRent := fun x h => List.mem_cons_of_mem _ (List.mem_append_right _ h)
set_option maxRecDepth 20000 in
theorem fl_X1_changeRent_X1_0 : Cond.fieldLink RX1 11 (TX1 0).1 (TX1 0).2.1 (TX1 0).2.2.1 ∈ wsX1_changeRent := by decide +kernel
theorem in_X1_rentsOf_X1 : ∀ x ∈ u_ws RX1 TX1 1, x ∈ wsX1_rentsOf := fun x h => List.mem_cons_of_mem _ (List.mem_append_right _ h)
set_option maxRecDepth 20000 in
theorem fl_X1_rentsOf_X1_0 : Cond.fieldLink RX1 11 (TX1 0).1 (TX1 0).2.1 (TX1 0).2.2.1 ∈ wsX1_rentsOf := by decide +kernel
theorem in_X2_init_X2 : ∀ x ∈ u_ws RX2 TX2 3, x ∈ wsX2_init := fun x h => List.mem_cons_of_mem _ (List.mem_append_right _ h)
set_option maxRecDepth 20000 in
theorem fl_X2_init_X2_0 : Cond.fieldLink RX2 13 (TX2 0).1 (TX2 0).2.1 (TX2 0).2.2.1 ∈ wsX2_init := by decide +kernel
theorem in_X2_size_X2 : ∀ x ∈ u_ws RX2 TX2 3, x ∈ wsX2_size := fun x h => List.mem_cons_of_mem _ (List.mem_append_right _ h)
set_option maxRecDepth 20000 in
theorem fl_X2_size_X2_2 : Cond.fieldLink RX2 16 (TX2 2).1 (TX2 2).2.1 (TX2 2).2.2.1 ∈ wsX2_size := by decide +kernel
theorem in_X2_record_X2 : ∀ x ∈ u_ws RX2 TX2 3, x ∈ wsX2_record := fun x h => List.mem_cons_of_mem _ (List.mem_append_left _ (List.mem_append_right _ h))
set_option maxRecDepth 20000 in
theorem fl_X2_record_X2_0 : Cond.fieldLink RX2 13 (TX2 0).1 (TX2 0).2.1 (TX2 0).2.2.1 ∈ wsX2_record := by decide +kernel
set_option maxRecDepth 20000 in
theorem fl_X2_record_X2_2 : Cond.fieldLink RX2 16 (TX2 2).1 (TX2 2).2.1 (TX2 2).2.2.1 ∈ wsX2_record := by decide +kernel
set_option maxRecDepth 20000 in
theorem fl_X2_record_X2_1 : Cond.fieldLink RX2 20 (TX2 1).1 (TX2 1).2.1 (TX2 1).2.2.1 ∈ wsX2_record := by decide +kernel
theorem in_X2_takeBack_X2 : ∀ x ∈ u_ws RX2 TX2 3, x ∈ wsX2_takeBack := fun x h => List.mem_cons_of_mem _ (List.mem_append_left _ (List.mem_append_right _ h))
set_option maxRecDepth 20000 in
theorem fl_X2_takeBack_X2_0 : Cond.fieldLink RX2 13 (TX2 0).1 (TX2 0).2.1 (TX2 0).2.2.1 ∈ wsX2_takeBack := by decide +kernel
set_option maxRecDepth 20000 in
theorem fl_X2_takeBack_X2_2 : Cond.fieldLink RX2 16 (TX2 2).1 (TX2 2).2.1 (TX2 2).2.2.1 ∈ wsX2_takeBack := by decide +kernel
set_option maxRecDepth 20000 in
theorem fl_X2_takeBack_X2_1 : Cond.fieldLink RX2 20 (TX2 1).1 (TX2 1).2.1 (TX2 1).2.2.1 ∈ wsX2_takeBack := by decide +kernel
theorem in_X3_init_X3 : ∀ x ∈ u_ws RX3 TX3 2, x ∈ wsX3_init := fun x h => List.mem_cons_of_mem _ (List.mem_append_right _ h)
set_option maxRecDepth 20000 in
theorem fl_X3_init_X3_0 : Cond.fieldLink RX3 11 (TX3 0).1 (TX3 0).2.1 (TX3 0).2.2.1 ∈ wsX3_init := by decide +kernel
theorem in_X3_length_X3 : ∀ x ∈ u_ws RX3 TX3 2, x ∈ wsX3_length := fun x h => List.mem_cons_of_mem _ (List.mem_append_right _ h)
set_option maxRecDepth 20000 in
theorem fl_X3_length_X3_1 : Cond.fieldLink RX3 15 (TX3 1).1 (TX3 1).2.1 (TX3 1).2.2.1 ∈ wsX3_length := by decide +kernel
theorem in_X3_empty_X3 : ∀ x ∈ u_ws RX3 TX3 2, x ∈ wsX3_empty := fun x h => List.mem_cons_of_mem _ (List.mem_append_right _ h)
set_option maxRecDepth 20000 in
theorem fl_X3_empty_X3_1 : Cond.fieldLink RX3 15 (TX3 1).1 (TX3 1).2.1 (TX3 1).2.2.1 ∈ wsX3_empty := by decide +kernel
theorem in_X3_append_X3 : ∀ x ∈ u_ws RX3 TX3 2, x ∈ wsX3_append := fun x h => List.mem_cons_of_mem _ (List.mem_append_right _ h)
set_option maxRecDepth 20000 in
theorem fl_X3_append_X3_0 : Cond.fieldLink RX3 11 (TX3 0).1 (TX3 0).2.1 (TX3 0).2.2.1 ∈ wsX3_append := by decide +kernel
set_option maxRecDepth 20000 in
theorem fl_X3_append_X3_1 : Cond.fieldLink RX3 15 (TX3 1).1 (TX3 1).2.1 (TX3 1).2.2.1 ∈ wsX3_append := by decide +kernel
set_option maxRecDepth 20000 in
theorem ct_X3_append_23 : Cond.constantLong RX3 23 (255) ∈ wsX3_append := by decide +kernel
set_option maxRecDepth 20000 in
theorem ct_X3_append_25 : Cond.constantLong RX3 25 (33) ∈ wsX3_append := by decide +kernel
set_option maxRecDepth 20000 in
theorem ct_X3_append_27 : Cond.constantLong RX3 27 (126) ∈ wsX3_append := by decide +kernel
set_option maxRecDepth 20000 in
theorem ct_X3_charactersIn_23 : Cond.constantLong RX3 23 (255) ∈ wsX3_charactersIn := by decide +kernel
set_option maxRecDepth 20000 in
theorem ct_X3_charactersIn_25 : Cond.constantLong RX3 25 (33) ∈ wsX3_charactersIn := by decide +kernel
set_option maxRecDepth 20000 in
theorem ct_X3_charactersIn_27 : Cond.constantLong RX3 27 (126) ∈ wsX3_charactersIn := by decide +kernel
theorem in_X3_firstFault_X3 : ∀ x ∈ u_ws RX3 TX3 2, x ∈ wsX3_firstFault := fun x h => List.mem_cons_of_mem _ (List.mem_append_right _ h)
set_option maxRecDepth 20000 in
theorem fl_X3_firstFault_X3_0 : Cond.fieldLink RX3 11 (TX3 0).1 (TX3 0).2.1 (TX3 0).2.2.1 ∈ wsX3_firstFault := by decide +kernel
set_option maxRecDepth 20000 in
theorem fl_X3_firstFault_X3_1 : Cond.fieldLink RX3 15 (TX3 1).1 (TX3 1).2.1 (TX3 1).2.2.1 ∈ wsX3_firstFault := by decide +kernel
theorem in_X3_characterAt_X3 : ∀ x ∈ u_ws RX3 TX3 2, x ∈ wsX3_characterAt := fun x h => List.mem_cons_of_mem _ (List.mem_append_right _ h)
set_option maxRecDepth 20000 in
theorem fl_X3_characterAt_X3_0 : Cond.fieldLink RX3 11 (TX3 0).1 (TX3 0).2.1 (TX3 0).2.2.1 ∈ wsX3_characterAt := by decide +kernel
set_option maxRecDepth 20000 in
theorem fl_X3_characterAt_X3_1 : Cond.fieldLink RX3 15 (TX3 1).1 (TX3 1).2.1 (TX3 1).2.2.1 ∈ wsX3_characterAt := by decide +kernel
theorem in_X3_endOfShow_X3 : ∀ x ∈ u_ws RX3 TX3 2, x ∈ wsX3_endOfShow := fun x h => List.mem_cons_of_mem _ (List.mem_append_right _ h)
set_option maxRecDepth 20000 in
theorem fl_X3_endOfShow_X3_0 : Cond.fieldLink RX3 11 (TX3 0).1 (TX3 0).2.1 (TX3 0).2.2.1 ∈ wsX3_endOfShow := by decide +kernel
set_option maxRecDepth 20000 in
theorem fl_X3_endOfShow_X3_1 : Cond.fieldLink RX3 15 (TX3 1).1 (TX3 1).2.1 (TX3 1).2.2.1 ∈ wsX3_endOfShow := by decide +kernel
theorem in_X3_filmAt_X3 : ∀ x ∈ u_ws RX3 TX3 2, x ∈ wsX3_filmAt := fun x h => List.mem_cons_of_mem _ (List.mem_append_right _ h)
set_option maxRecDepth 20000 in
theorem fl_X3_filmAt_X3_0 : Cond.fieldLink RX3 11 (TX3 0).1 (TX3 0).2.1 (TX3 0).2.2.1 ∈ wsX3_filmAt := by decide +kernel
set_option maxRecDepth 20000 in
theorem fl_X3_filmAt_X3_1 : Cond.fieldLink RX3 15 (TX3 1).1 (TX3 1).2.1 (TX3 1).2.2.1 ∈ wsX3_filmAt := by decide +kernel
theorem in_X3_partAt_X3 : ∀ x ∈ u_ws RX3 TX3 2, x ∈ wsX3_partAt := fun x h => List.mem_cons_of_mem _ (List.mem_append_right _ h)
set_option maxRecDepth 20000 in
theorem fl_X3_partAt_X3_0 : Cond.fieldLink RX3 11 (TX3 0).1 (TX3 0).2.1 (TX3 0).2.2.1 ∈ wsX3_partAt := by decide +kernel
set_option maxRecDepth 20000 in
theorem fl_X3_partAt_X3_1 : Cond.fieldLink RX3 15 (TX3 1).1 (TX3 1).2.1 (TX3 1).2.2.1 ∈ wsX3_partAt := by decide +kernel
theorem in_X3_dayAt_X3 : ∀ x ∈ u_ws RX3 TX3 2, x ∈ wsX3_dayAt := fun x h => List.mem_cons_of_mem _ (List.mem_append_right _ h)
set_option maxRecDepth 20000 in
theorem fl_X3_dayAt_X3_0 : Cond.fieldLink RX3 11 (TX3 0).1 (TX3 0).2.1 (TX3 0).2.2.1 ∈ wsX3_dayAt := by decide +kernel
set_option maxRecDepth 20000 in
theorem fl_X3_dayAt_X3_1 : Cond.fieldLink RX3 15 (TX3 1).1 (TX3 1).2.1 (TX3 1).2.2.1 ∈ wsX3_dayAt := by decide +kernel
theorem in_X4_init_X4 : ∀ x ∈ u_ws RX4 TX4 6, x ∈ wsX4_init := fun x h => List.mem_cons_of_mem _ (List.mem_append_left _ (List.mem_append_left _ (List.mem_append_left _ (List.mem_append_right _ h))))
set_option maxRecDepth 20000 in
theorem fl_X4_init_X4_0 : Cond.fieldLink RX4 12 (TX4 0).1 (TX4 0).2.1 (TX4 0).2.2.1 ∈ wsX4_init := by decide +kernel
set_option maxRecDepth 20000 in
theorem fl_X4_init_X4_1 : Cond.fieldLink RX4 19 (TX4 1).1 (TX4 1).2.1 (TX4 1).2.2.1 ∈ wsX4_init := by decide +kernel
set_option maxRecDepth 20000 in
theorem fl_X4_init_X4_2 : Cond.fieldLink RX4 26 (TX4 2).1 (TX4 2).2.1 (TX4 2).2.2.1 ∈ wsX4_init := by decide +kernel
set_option maxRecDepth 20000 in
theorem fl_X4_init_X4_3 : Cond.fieldLink RX4 33 (TX4 3).1 (TX4 3).2.1 (TX4 3).2.2.1 ∈ wsX4_init := by decide +kernel
set_option maxRecDepth 20000 in
theorem fl_X4_init_X4_4 : Cond.fieldLink RX4 39 (TX4 4).1 (TX4 4).2.1 (TX4 4).2.2.1 ∈ wsX4_init := by decide +kernel
set_option maxRecDepth 20000 in
theorem fl_X4_init_X4_5 : Cond.fieldLink RX4 42 (TX4 5).1 (TX4 5).2.1 (TX4 5).2.2.1 ∈ wsX4_init := by decide +kernel
theorem in_X4_set_X4 : ∀ x ∈ u_ws RX4 TX4 6, x ∈ wsX4_set := fun x h => List.mem_cons_of_mem _ (List.mem_append_left _ (List.mem_append_left _ (List.mem_append_right _ h)))
set_option maxRecDepth 20000 in
theorem fl_X4_set_X4_0 : Cond.fieldLink RX4 12 (TX4 0).1 (TX4 0).2.1 (TX4 0).2.2.1 ∈ wsX4_set := by decide +kernel
set_option maxRecDepth 20000 in
theorem fl_X4_set_X4_3 : Cond.fieldLink RX4 33 (TX4 3).1 (TX4 3).2.1 (TX4 3).2.2.1 ∈ wsX4_set := by decide +kernel
theorem in_X4_film_X4 : ∀ x ∈ u_ws RX4 TX4 6, x ∈ wsX4_film := fun x h => List.mem_cons_of_mem _ (List.mem_append_left _ (List.mem_append_left _ (List.mem_append_right _ h)))
set_option maxRecDepth 20000 in
theorem fl_X4_film_X4_0 : Cond.fieldLink RX4 12 (TX4 0).1 (TX4 0).2.1 (TX4 0).2.2.1 ∈ wsX4_film := by decide +kernel
set_option maxRecDepth 20000 in
theorem fl_X4_film_X4_3 : Cond.fieldLink RX4 33 (TX4 3).1 (TX4 3).2.1 (TX4 3).2.2.1 ∈ wsX4_film := by decide +kernel
theorem in_X4_show_X4 : ∀ x ∈ u_ws RX4 TX4 6, x ∈ wsX4_show := fun x h => List.mem_cons_of_mem _ (List.mem_append_left _ (List.mem_append_left _ (List.mem_append_right _ h)))
set_option maxRecDepth 20000 in
theorem fl_X4_show_X4_0 : Cond.fieldLink RX4 12 (TX4 0).1 (TX4 0).2.1 (TX4 0).2.2.1 ∈ wsX4_show := by decide +kernel
set_option maxRecDepth 20000 in
theorem fl_X4_show_X4_3 : Cond.fieldLink RX4 33 (TX4 3).1 (TX4 3).2.1 (TX4 3).2.2.1 ∈ wsX4_show := by decide +kernel
theorem in_X4_drop_X4 : ∀ x ∈ u_ws RX4 TX4 6, x ∈ wsX4_drop := fun x h => List.mem_cons_of_mem _ (List.mem_append_left _ (List.mem_append_left _ (List.mem_append_right _ h)))
set_option maxRecDepth 20000 in
theorem fl_X4_drop_X4_0 : Cond.fieldLink RX4 12 (TX4 0).1 (TX4 0).2.1 (TX4 0).2.2.1 ∈ wsX4_drop := by decide +kernel
set_option maxRecDepth 20000 in
theorem fl_X4_drop_X4_3 : Cond.fieldLink RX4 33 (TX4 3).1 (TX4 3).2.1 (TX4 3).2.2.1 ∈ wsX4_drop := by decide +kernel
theorem in_X4_exchange_X4 : ∀ x ∈ u_ws RX4 TX4 6, x ∈ wsX4_exchange := fun x h => List.mem_cons_of_mem _ (List.mem_append_left _ (List.mem_append_left _ (List.mem_append_left _ (List.mem_append_right _ h))))
set_option maxRecDepth 20000 in
theorem fl_X4_exchange_X4_0 : Cond.fieldLink RX4 12 (TX4 0).1 (TX4 0).2.1 (TX4 0).2.2.1 ∈ wsX4_exchange := by decide +kernel
set_option maxRecDepth 20000 in
theorem fl_X4_exchange_X4_1 : Cond.fieldLink RX4 19 (TX4 1).1 (TX4 1).2.1 (TX4 1).2.2.1 ∈ wsX4_exchange := by decide +kernel
set_option maxRecDepth 20000 in
theorem fl_X4_exchange_X4_3 : Cond.fieldLink RX4 33 (TX4 3).1 (TX4 3).2.1 (TX4 3).2.2.1 ∈ wsX4_exchange := by decide +kernel
set_option maxRecDepth 20000 in
theorem ct_X4_exchange_101 : Cond.constant RX4 101 (1000000) ∈ wsX4_exchange := by decide +kernel
theorem in_X4_let_X4 : ∀ x ∈ u_ws RX4 TX4 6, x ∈ wsX4_let := fun x h => List.mem_cons_of_mem _ (List.mem_append_left _ (List.mem_append_left _ (List.mem_append_right _ h)))
set_option maxRecDepth 20000 in
theorem fl_X4_let_X4_0 : Cond.fieldLink RX4 12 (TX4 0).1 (TX4 0).2.1 (TX4 0).2.2.1 ∈ wsX4_let := by decide +kernel
set_option maxRecDepth 20000 in
theorem fl_X4_let_X4_3 : Cond.fieldLink RX4 33 (TX4 3).1 (TX4 3).2.1 (TX4 3).2.2.1 ∈ wsX4_let := by decide +kernel
theorem in_X4_carryOut_X4 : ∀ x ∈ u_ws RX4 TX4 6, x ∈ wsX4_carryOut := fun x h => List.mem_cons_of_mem _ (List.mem_append_left _ (List.mem_append_left _ (List.mem_append_left _ (List.mem_append_right _ h))))
set_option maxRecDepth 20000 in
theorem fl_X4_carryOut_X4_0 : Cond.fieldLink RX4 12 (TX4 0).1 (TX4 0).2.1 (TX4 0).2.2.1 ∈ wsX4_carryOut := by decide +kernel
set_option maxRecDepth 20000 in
theorem fl_X4_carryOut_X4_2 : Cond.fieldLink RX4 26 (TX4 2).1 (TX4 2).2.1 (TX4 2).2.2.1 ∈ wsX4_carryOut := by decide +kernel
set_option maxRecDepth 20000 in
theorem fl_X4_carryOut_X4_3 : Cond.fieldLink RX4 33 (TX4 3).1 (TX4 3).2.1 (TX4 3).2.2.1 ∈ wsX4_carryOut := by decide +kernel
theorem in_X4_at_X4 : ∀ x ∈ u_ws RX4 TX4 6, x ∈ wsX4_at := fun x h => List.mem_cons_of_mem _ (List.mem_append_left _ (List.mem_append_left _ (List.mem_append_right _ h)))
set_option maxRecDepth 20000 in
theorem fl_X4_at_X4_0 : Cond.fieldLink RX4 12 (TX4 0).1 (TX4 0).2.1 (TX4 0).2.2.1 ∈ wsX4_at := by decide +kernel
set_option maxRecDepth 20000 in
theorem fl_X4_at_X4_1 : Cond.fieldLink RX4 19 (TX4 1).1 (TX4 1).2.1 (TX4 1).2.2.1 ∈ wsX4_at := by decide +kernel
theorem in_X4_of_X4 : ∀ x ∈ u_ws RX4 TX4 6, x ∈ wsX4_of := fun x h => List.mem_cons_of_mem _ (List.mem_append_left _ (List.mem_append_left _ (List.mem_append_right _ h)))
set_option maxRecDepth 20000 in
theorem fl_X4_of_X4_0 : Cond.fieldLink RX4 12 (TX4 0).1 (TX4 0).2.1 (TX4 0).2.2.1 ∈ wsX4_of := by decide +kernel
set_option maxRecDepth 20000 in
theorem fl_X4_of_X4_1 : Cond.fieldLink RX4 19 (TX4 1).1 (TX4 1).2.1 (TX4 1).2.2.1 ∈ wsX4_of := by decide +kernel
theorem in_X4_inWeek_X4 : ∀ x ∈ u_ws RX4 TX4 6, x ∈ wsX4_inWeek := fun x h => List.mem_cons_of_mem _ (List.mem_append_left _ (List.mem_append_left _ (List.mem_append_right _ h)))
set_option maxRecDepth 20000 in
theorem fl_X4_inWeek_X4_0 : Cond.fieldLink RX4 12 (TX4 0).1 (TX4 0).2.1 (TX4 0).2.2.1 ∈ wsX4_inWeek := by decide +kernel
set_option maxRecDepth 20000 in
theorem fl_X4_inWeek_X4_1 : Cond.fieldLink RX4 19 (TX4 1).1 (TX4 1).2.1 (TX4 1).2.2.1 ∈ wsX4_inWeek := by decide +kernel
theorem in_X4_week_X4 : ∀ x ∈ u_ws RX4 TX4 6, x ∈ wsX4_week := fun x h => List.mem_cons_of_mem _ (List.mem_append_left _ (List.mem_append_left _ (List.mem_append_right _ h)))
set_option maxRecDepth 20000 in
theorem fl_X4_week_X4_0 : Cond.fieldLink RX4 12 (TX4 0).1 (TX4 0).2.1 (TX4 0).2.2.1 ∈ wsX4_week := by decide +kernel
set_option maxRecDepth 20000 in
theorem fl_X4_week_X4_1 : Cond.fieldLink RX4 19 (TX4 1).1 (TX4 1).2.1 (TX4 1).2.2.1 ∈ wsX4_week := by decide +kernel
set_option maxRecDepth 20000 in
theorem ct_X4_week_101 : Cond.constant RX4 101 (1000000) ∈ wsX4_week := by decide +kernel
theorem in_X4_distributor_X4 : ∀ x ∈ u_ws RX4 TX4 6, x ∈ wsX4_distributor := fun x h => List.mem_cons_of_mem _ (List.mem_append_left _ (List.mem_append_left _ (List.mem_append_right _ h)))
set_option maxRecDepth 20000 in
theorem fl_X4_distributor_X4_0 : Cond.fieldLink RX4 12 (TX4 0).1 (TX4 0).2.1 (TX4 0).2.2.1 ∈ wsX4_distributor := by decide +kernel
set_option maxRecDepth 20000 in
theorem fl_X4_distributor_X4_1 : Cond.fieldLink RX4 19 (TX4 1).1 (TX4 1).2.1 (TX4 1).2.2.1 ∈ wsX4_distributor := by decide +kernel
theorem in_X4_rent_X4 : ∀ x ∈ u_ws RX4 TX4 6, x ∈ wsX4_rent := fun x h => List.mem_cons_of_mem _ (List.mem_append_left _ (List.mem_append_right _ h))
set_option maxRecDepth 20000 in
theorem fl_X4_rent_X4_0 : Cond.fieldLink RX4 12 (TX4 0).1 (TX4 0).2.1 (TX4 0).2.2.1 ∈ wsX4_rent := by decide +kernel
theorem in_X4_count_X4 : ∀ x ∈ u_ws RX4 TX4 6, x ∈ wsX4_count := fun x h => List.mem_cons_of_mem _ (List.mem_append_left _ (List.mem_append_left _ (List.mem_append_left _ (List.mem_append_left _ (List.mem_append_right _ h)))))
set_option maxRecDepth 20000 in
theorem fl_X4_count_X4_0 : Cond.fieldLink RX4 12 (TX4 0).1 (TX4 0).2.1 (TX4 0).2.2.1 ∈ wsX4_count := by decide +kernel
set_option maxRecDepth 20000 in
theorem fl_X4_count_X4_1 : Cond.fieldLink RX4 19 (TX4 1).1 (TX4 1).2.1 (TX4 1).2.2.1 ∈ wsX4_count := by decide +kernel
set_option maxRecDepth 20000 in
theorem fl_X4_count_X4_2 : Cond.fieldLink RX4 26 (TX4 2).1 (TX4 2).2.1 (TX4 2).2.2.1 ∈ wsX4_count := by decide +kernel
set_option maxRecDepth 20000 in
theorem fl_X4_count_X4_3 : Cond.fieldLink RX4 33 (TX4 3).1 (TX4 3).2.1 (TX4 3).2.2.1 ∈ wsX4_count := by decide +kernel
set_option maxRecDepth 20000 in
theorem ct_X4_count_101 : Cond.constant RX4 101 (1000000) ∈ wsX4_count := by decide +kernel
theorem in_X4_ifShown_X4 : ∀ x ∈ u_ws RX4 TX4 6, x ∈ wsX4_ifShown := fun x h => List.mem_cons_of_mem _ (List.mem_append_left _ (List.mem_append_left _ (List.mem_append_right _ h)))
set_option maxRecDepth 20000 in
theorem fl_X4_ifShown_X4_0 : Cond.fieldLink RX4 12 (TX4 0).1 (TX4 0).2.1 (TX4 0).2.2.1 ∈ wsX4_ifShown := by decide +kernel
set_option maxRecDepth 20000 in
theorem fl_X4_ifShown_X4_1 : Cond.fieldLink RX4 19 (TX4 1).1 (TX4 1).2.1 (TX4 1).2.2.1 ∈ wsX4_ifShown := by decide +kernel
set_option maxRecDepth 20000 in
theorem ct_X4_ifShown_101 : Cond.constant RX4 101 (1000000) ∈ wsX4_ifShown := by decide +kernel
theorem in_X4_bestFilm_X4 : ∀ x ∈ u_ws RX4 TX4 6, x ∈ wsX4_bestFilm := fun x h => List.mem_cons_of_mem _ (List.mem_append_left _ (List.mem_append_left _ (List.mem_append_right _ h)))
set_option maxRecDepth 20000 in
theorem fl_X4_bestFilm_X4_0 : Cond.fieldLink RX4 12 (TX4 0).1 (TX4 0).2.1 (TX4 0).2.2.1 ∈ wsX4_bestFilm := by decide +kernel
set_option maxRecDepth 20000 in
theorem fl_X4_bestFilm_X4_1 : Cond.fieldLink RX4 19 (TX4 1).1 (TX4 1).2.1 (TX4 1).2.2.1 ∈ wsX4_bestFilm := by decide +kernel
set_option maxRecDepth 20000 in
theorem ct_X4_bestFilm_101 : Cond.constant RX4 101 (1000000) ∈ wsX4_bestFilm := by decide +kernel
theorem in_X4_worstShow_X4 : ∀ x ∈ u_ws RX4 TX4 6, x ∈ wsX4_worstShow := fun x h => List.mem_cons_of_mem _ (List.mem_append_left _ (List.mem_append_left _ (List.mem_append_right _ h)))
set_option maxRecDepth 20000 in
theorem fl_X4_worstShow_X4_0 : Cond.fieldLink RX4 12 (TX4 0).1 (TX4 0).2.1 (TX4 0).2.2.1 ∈ wsX4_worstShow := by decide +kernel
set_option maxRecDepth 20000 in
theorem fl_X4_worstShow_X4_1 : Cond.fieldLink RX4 19 (TX4 1).1 (TX4 1).2.1 (TX4 1).2.2.1 ∈ wsX4_worstShow := by decide +kernel
set_option maxRecDepth 20000 in
theorem ct_X4_worstShow_101 : Cond.constant RX4 101 (1000000) ∈ wsX4_worstShow := by decide +kernel
theorem in_X4_priceFor_X4 : ∀ x ∈ u_ws RX4 TX4 6, x ∈ wsX4_priceFor := fun x h => List.mem_cons_of_mem _ (List.mem_append_left _ (List.mem_append_left _ (List.mem_append_right _ h)))
set_option maxRecDepth 20000 in
theorem fl_X4_priceFor_X4_0 : Cond.fieldLink RX4 12 (TX4 0).1 (TX4 0).2.1 (TX4 0).2.2.1 ∈ wsX4_priceFor := by decide +kernel
set_option maxRecDepth 20000 in
theorem fl_X4_priceFor_X4_1 : Cond.fieldLink RX4 19 (TX4 1).1 (TX4 1).2.1 (TX4 1).2.2.1 ∈ wsX4_priceFor := by decide +kernel
theorem in_X4_put_X4 : ∀ x ∈ u_ws RX4 TX4 6, x ∈ wsX4_put := fun x h => List.mem_cons_of_mem _ (List.mem_append_left _ (List.mem_append_right _ h))
set_option maxRecDepth 20000 in
theorem fl_X4_put_X4_2 : Cond.fieldLink RX4 26 (TX4 2).1 (TX4 2).2.1 (TX4 2).2.2.1 ∈ wsX4_put := by decide +kernel
theorem in_X4_wipe_X4 : ∀ x ∈ u_ws RX4 TX4 6, x ∈ wsX4_wipe := fun x h => List.mem_cons_of_mem _ (List.mem_append_left _ (List.mem_append_right _ h))
set_option maxRecDepth 20000 in
theorem fl_X4_wipe_X4_2 : Cond.fieldLink RX4 26 (TX4 2).1 (TX4 2).2.1 (TX4 2).2.2.1 ∈ wsX4_wipe := by decide +kernel
theorem in_X4_fault_X4 : ∀ x ∈ u_ws RX4 TX4 6, x ∈ wsX4_fault := fun x h => List.mem_cons_of_mem _ (List.mem_append_left _ (List.mem_append_right _ h))
set_option maxRecDepth 20000 in
theorem fl_X4_fault_X4_2 : Cond.fieldLink RX4 26 (TX4 2).1 (TX4 2).2.1 (TX4 2).2.2.1 ∈ wsX4_fault := by decide +kernel
theorem in_X4_undo_X4 : ∀ x ∈ u_ws RX4 TX4 6, x ∈ wsX4_undo := fun x h => List.mem_cons_of_mem _ (List.mem_append_left _ (List.mem_append_left _ (List.mem_append_right _ h)))
set_option maxRecDepth 20000 in
theorem fl_X4_undo_X4_0 : Cond.fieldLink RX4 12 (TX4 0).1 (TX4 0).2.1 (TX4 0).2.2.1 ∈ wsX4_undo := by decide +kernel
set_option maxRecDepth 20000 in
theorem fl_X4_undo_X4_3 : Cond.fieldLink RX4 33 (TX4 3).1 (TX4 3).2.1 (TX4 3).2.2.1 ∈ wsX4_undo := by decide +kernel
theorem in_X4_save_X4 : ∀ x ∈ u_ws RX4 TX4 6, x ∈ wsX4_save := fun x h => List.mem_cons_of_mem _ (List.mem_append_left _ (List.mem_append_right _ h))
set_option maxRecDepth 20000 in
theorem fl_X4_save_X4_0 : Cond.fieldLink RX4 12 (TX4 0).1 (TX4 0).2.1 (TX4 0).2.2.1 ∈ wsX4_save := by decide +kernel
set_option maxRecDepth 20000 in
theorem fl_X4_save_X4_4 : Cond.fieldLink RX4 39 (TX4 4).1 (TX4 4).2.1 (TX4 4).2.2.1 ∈ wsX4_save := by decide +kernel
set_option maxRecDepth 20000 in
theorem fl_X4_save_X4_5 : Cond.fieldLink RX4 42 (TX4 5).1 (TX4 5).2.1 (TX4 5).2.2.1 ∈ wsX4_save := by decide +kernel
theorem in_X4_restore_X4 : ∀ x ∈ u_ws RX4 TX4 6, x ∈ wsX4_restore := fun x h => List.mem_cons_of_mem _ (List.mem_append_left _ (List.mem_append_left _ (List.mem_append_right _ h)))
set_option maxRecDepth 20000 in
theorem fl_X4_restore_X4_0 : Cond.fieldLink RX4 12 (TX4 0).1 (TX4 0).2.1 (TX4 0).2.2.1 ∈ wsX4_restore := by decide +kernel
set_option maxRecDepth 20000 in
theorem fl_X4_restore_X4_3 : Cond.fieldLink RX4 33 (TX4 3).1 (TX4 3).2.1 (TX4 3).2.2.1 ∈ wsX4_restore := by decide +kernel
set_option maxRecDepth 20000 in
theorem fl_X4_restore_X4_4 : Cond.fieldLink RX4 39 (TX4 4).1 (TX4 4).2.1 (TX4 4).2.2.1 ∈ wsX4_restore := by decide +kernel
set_option maxRecDepth 20000 in
theorem fl_X4_restore_X4_5 : Cond.fieldLink RX4 42 (TX4 5).1 (TX4 5).2.1 (TX4 5).2.2.1 ∈ wsX4_restore := by decide +kernel
theorem in_X4_errorOfShow_X4 : ∀ x ∈ u_ws RX4 TX4 6, x ∈ wsX4_errorOfShow := fun x h => List.mem_cons_of_mem _ (List.mem_append_left _ (List.mem_append_right _ h))
set_option maxRecDepth 20000 in
theorem fl_X4_errorOfShow_X4_0 : Cond.fieldLink RX4 12 (TX4 0).1 (TX4 0).2.1 (TX4 0).2.2.1 ∈ wsX4_errorOfShow := by decide +kernel
theorem in_X4_dropShowsOfDay_X4 : ∀ x ∈ u_ws RX4 TX4 6, x ∈ wsX4_dropShowsOfDay := fun x h => List.mem_cons_of_mem _ (List.mem_append_left _ (List.mem_append_right _ h))
set_option maxRecDepth 20000 in
theorem fl_X4_dropShowsOfDay_X4_0 : Cond.fieldLink RX4 12 (TX4 0).1 (TX4 0).2.1 (TX4 0).2.2.1 ∈ wsX4_dropShowsOfDay := by decide +kernel
theorem in_X4_putInShowsOfPad_X4 : ∀ x ∈ u_ws RX4 TX4 6, x ∈ wsX4_putInShowsOfPad := fun x h => List.mem_cons_of_mem _ (List.mem_append_left _ (List.mem_append_left _ (List.mem_append_right _ h)))
set_option maxRecDepth 20000 in
theorem fl_X4_putInShowsOfPad_X4_0 : Cond.fieldLink RX4 12 (TX4 0).1 (TX4 0).2.1 (TX4 0).2.2.1 ∈ wsX4_putInShowsOfPad := by decide +kernel
set_option maxRecDepth 20000 in
theorem fl_X4_putInShowsOfPad_X4_2 : Cond.fieldLink RX4 26 (TX4 2).1 (TX4 2).2.1 (TX4 2).2.2.1 ∈ wsX4_putInShowsOfPad := by decide +kernel
theorem in_X4_sumOfFilm_X4 : ∀ x ∈ u_ws RX4 TX4 6, x ∈ wsX4_sumOfFilm := fun x h => List.mem_cons_of_mem _ (List.mem_append_left _ (List.mem_append_left _ (List.mem_append_right _ h)))
set_option maxRecDepth 20000 in
theorem fl_X4_sumOfFilm_X4_0 : Cond.fieldLink RX4 12 (TX4 0).1 (TX4 0).2.1 (TX4 0).2.2.1 ∈ wsX4_sumOfFilm := by decide +kernel
set_option maxRecDepth 20000 in
theorem fl_X4_sumOfFilm_X4_1 : Cond.fieldLink RX4 19 (TX4 1).1 (TX4 1).2.1 (TX4 1).2.2.1 ∈ wsX4_sumOfFilm := by decide +kernel
theorem in_X4_sumOfFilms_X4 : ∀ x ∈ u_ws RX4 TX4 6, x ∈ wsX4_sumOfFilms := fun x h => List.mem_cons_of_mem _ (List.mem_append_left _ (List.mem_append_left _ (List.mem_append_right _ h)))
set_option maxRecDepth 20000 in
theorem fl_X4_sumOfFilms_X4_0 : Cond.fieldLink RX4 12 (TX4 0).1 (TX4 0).2.1 (TX4 0).2.2.1 ∈ wsX4_sumOfFilms := by decide +kernel
set_option maxRecDepth 20000 in
theorem fl_X4_sumOfFilms_X4_1 : Cond.fieldLink RX4 19 (TX4 1).1 (TX4 1).2.1 (TX4 1).2.2.1 ∈ wsX4_sumOfFilms := by decide +kernel
theorem in_X4_sumOfFilmsInWeek_X4 : ∀ x ∈ u_ws RX4 TX4 6, x ∈ wsX4_sumOfFilmsInWeek := fun x h => List.mem_cons_of_mem _ (List.mem_append_left _ (List.mem_append_left _ (List.mem_append_right _ h)))
set_option maxRecDepth 20000 in
theorem fl_X4_sumOfFilmsInWeek_X4_0 : Cond.fieldLink RX4 12 (TX4 0).1 (TX4 0).2.1 (TX4 0).2.2.1 ∈ wsX4_sumOfFilmsInWeek := by decide +kernel
set_option maxRecDepth 20000 in
theorem fl_X4_sumOfFilmsInWeek_X4_1 : Cond.fieldLink RX4 19 (TX4 1).1 (TX4 1).2.1 (TX4 1).2.2.1 ∈ wsX4_sumOfFilmsInWeek := by decide +kernel
theorem in_X4_fullShows_X4 : ∀ x ∈ u_ws RX4 TX4 6, x ∈ wsX4_fullShows := fun x h => List.mem_cons_of_mem _ (List.mem_append_left _ (List.mem_append_left _ (List.mem_append_right _ h)))
set_option maxRecDepth 20000 in
theorem fl_X4_fullShows_X4_0 : Cond.fieldLink RX4 12 (TX4 0).1 (TX4 0).2.1 (TX4 0).2.2.1 ∈ wsX4_fullShows := by decide +kernel
set_option maxRecDepth 20000 in
theorem fl_X4_fullShows_X4_1 : Cond.fieldLink RX4 19 (TX4 1).1 (TX4 1).2.1 (TX4 1).2.2.1 ∈ wsX4_fullShows := by decide +kernel
theorem in_X4_leftOfFilm_X4 : ∀ x ∈ u_ws RX4 TX4 6, x ∈ wsX4_leftOfFilm := fun x h => List.mem_cons_of_mem _ (List.mem_append_left _ (List.mem_append_left _ (List.mem_append_right _ h)))
set_option maxRecDepth 20000 in
theorem fl_X4_leftOfFilm_X4_0 : Cond.fieldLink RX4 12 (TX4 0).1 (TX4 0).2.1 (TX4 0).2.2.1 ∈ wsX4_leftOfFilm := by decide +kernel
set_option maxRecDepth 20000 in
theorem fl_X4_leftOfFilm_X4_1 : Cond.fieldLink RX4 19 (TX4 1).1 (TX4 1).2.1 (TX4 1).2.2.1 ∈ wsX4_leftOfFilm := by decide +kernel
theorem in_X4_gainWith_X4 : ∀ x ∈ u_ws RX4 TX4 6, x ∈ wsX4_gainWith := fun x h => List.mem_cons_of_mem _ (List.mem_append_left _ (List.mem_append_left _ (List.mem_append_right _ h)))
set_option maxRecDepth 20000 in
theorem fl_X4_gainWith_X4_0 : Cond.fieldLink RX4 12 (TX4 0).1 (TX4 0).2.1 (TX4 0).2.2.1 ∈ wsX4_gainWith := by decide +kernel
set_option maxRecDepth 20000 in
theorem fl_X4_gainWith_X4_1 : Cond.fieldLink RX4 19 (TX4 1).1 (TX4 1).2.1 (TX4 1).2.2.1 ∈ wsX4_gainWith := by decide +kernel
theorem in_X5_init_X5 : ∀ x ∈ u_ws RX5 TX5 18, x ∈ wsX5_init := fun x h => List.mem_cons_of_mem _ (List.mem_append_right _ h)
set_option maxRecDepth 20000 in
theorem fl_X5_init_X5_0 : Cond.fieldLink RX5 7 (TX5 0).1 (TX5 0).2.1 (TX5 0).2.2.1 ∈ wsX5_init := by decide +kernel
set_option maxRecDepth 20000 in
theorem fl_X5_init_X5_1 : Cond.fieldLink RX5 13 (TX5 1).1 (TX5 1).2.1 (TX5 1).2.2.1 ∈ wsX5_init := by decide +kernel
set_option maxRecDepth 20000 in
theorem fl_X5_init_X5_3 : Cond.fieldLink RX5 16 (TX5 3).1 (TX5 3).2.1 (TX5 3).2.2.1 ∈ wsX5_init := by decide +kernel
set_option maxRecDepth 20000 in
theorem fl_X5_init_X5_4 : Cond.fieldLink RX5 19 (TX5 4).1 (TX5 4).2.1 (TX5 4).2.2.1 ∈ wsX5_init := by decide +kernel
set_option maxRecDepth 20000 in
theorem fl_X5_init_X5_5 : Cond.fieldLink RX5 22 (TX5 5).1 (TX5 5).2.1 (TX5 5).2.2.1 ∈ wsX5_init := by decide +kernel
set_option maxRecDepth 20000 in
theorem fl_X5_init_X5_7 : Cond.fieldLink RX5 25 (TX5 7).1 (TX5 7).2.1 (TX5 7).2.2.1 ∈ wsX5_init := by decide +kernel
set_option maxRecDepth 20000 in
theorem fl_X5_init_X5_8 : Cond.fieldLink RX5 28 (TX5 8).1 (TX5 8).2.1 (TX5 8).2.2.1 ∈ wsX5_init := by decide +kernel
set_option maxRecDepth 20000 in
theorem fl_X5_init_X5_9 : Cond.fieldLink RX5 31 (TX5 9).1 (TX5 9).2.1 (TX5 9).2.2.1 ∈ wsX5_init := by decide +kernel
set_option maxRecDepth 20000 in
theorem fl_X5_init_X5_10 : Cond.fieldLink RX5 34 (TX5 10).1 (TX5 10).2.1 (TX5 10).2.2.1 ∈ wsX5_init := by decide +kernel
set_option maxRecDepth 20000 in
theorem fl_X5_init_X5_11 : Cond.fieldLink RX5 37 (TX5 11).1 (TX5 11).2.1 (TX5 11).2.2.1 ∈ wsX5_init := by decide +kernel
set_option maxRecDepth 20000 in
theorem fl_X5_init_X5_12 : Cond.fieldLink RX5 40 (TX5 12).1 (TX5 12).2.1 (TX5 12).2.2.1 ∈ wsX5_init := by decide +kernel
set_option maxRecDepth 20000 in
theorem fl_X5_init_X5_13 : Cond.fieldLink RX5 43 (TX5 13).1 (TX5 13).2.1 (TX5 13).2.2.1 ∈ wsX5_init := by decide +kernel
theorem in_X5_record_X5 : ∀ x ∈ u_ws RX5 TX5 18, x ∈ wsX5_record := fun x h => List.mem_cons_of_mem _ (List.mem_append_right _ h)
set_option maxRecDepth 20000 in
theorem fl_X5_record_X5_0 : Cond.fieldLink RX5 7 (TX5 0).1 (TX5 0).2.1 (TX5 0).2.2.1 ∈ wsX5_record := by decide +kernel
set_option maxRecDepth 20000 in
theorem fl_X5_record_X5_1 : Cond.fieldLink RX5 13 (TX5 1).1 (TX5 1).2.1 (TX5 1).2.2.1 ∈ wsX5_record := by decide +kernel
set_option maxRecDepth 20000 in
theorem fl_X5_record_X5_2 : Cond.fieldLink RX5 46 (TX5 2).1 (TX5 2).2.1 (TX5 2).2.2.1 ∈ wsX5_record := by decide +kernel
theorem in_X5_isFilm_X5 : ∀ x ∈ u_ws RX5 TX5 18, x ∈ wsX5_isFilm := fun x h => List.mem_cons_of_mem _ (List.mem_append_right _ h)
set_option maxRecDepth 20000 in
theorem fl_X5_isFilm_X5_0 : Cond.fieldLink RX5 7 (TX5 0).1 (TX5 0).2.1 (TX5 0).2.2.1 ∈ wsX5_isFilm := by decide +kernel
theorem in_X5_filmPart_X5 : ∀ x ∈ u_ws RX5 TX5 18, x ∈ wsX5_filmPart := fun x h => List.mem_cons_of_mem _ (List.mem_append_right _ h)
set_option maxRecDepth 20000 in
theorem fl_X5_filmPart_X5_0 : Cond.fieldLink RX5 7 (TX5 0).1 (TX5 0).2.1 (TX5 0).2.2.1 ∈ wsX5_filmPart := by decide +kernel
theorem in_X5_showAt_X5 : ∀ x ∈ u_ws RX5 TX5 18, x ∈ wsX5_showAt := fun x h => List.mem_cons_of_mem _ (List.mem_append_right _ h)
set_option maxRecDepth 20000 in
theorem fl_X5_showAt_X5_0 : Cond.fieldLink RX5 7 (TX5 0).1 (TX5 0).2.1 (TX5 0).2.2.1 ∈ wsX5_showAt := by decide +kernel
theorem in_X5_isLet_X5 : ∀ x ∈ u_ws RX5 TX5 18, x ∈ wsX5_isLet := fun x h => List.mem_cons_of_mem _ (List.mem_append_right _ h)
set_option maxRecDepth 20000 in
theorem fl_X5_isLet_X5_0 : Cond.fieldLink RX5 7 (TX5 0).1 (TX5 0).2.1 (TX5 0).2.2.1 ∈ wsX5_isLet := by decide +kernel
theorem in_X5_fade_X5 : ∀ x ∈ u_ws RX5 TX5 18, x ∈ wsX5_fade := fun x h => List.mem_cons_of_mem _ (List.mem_append_right _ h)
set_option maxRecDepth 20000 in
theorem fl_X5_fade_X5_0 : Cond.fieldLink RX5 7 (TX5 0).1 (TX5 0).2.1 (TX5 0).2.2.1 ∈ wsX5_fade := by decide +kernel
set_option maxRecDepth 20000 in
theorem fl_X5_fade_X5_9 : Cond.fieldLink RX5 31 (TX5 9).1 (TX5 9).2.1 (TX5 9).2.2.1 ∈ wsX5_fade := by decide +kernel
theorem in_X5_findPeople_X5 : ∀ x ∈ u_ws RX5 TX5 18, x ∈ wsX5_findPeople := fun x h => List.mem_cons_of_mem _ (List.mem_append_right _ h)
set_option maxRecDepth 20000 in
theorem fl_X5_findPeople_X5_0 : Cond.fieldLink RX5 7 (TX5 0).1 (TX5 0).2.1 (TX5 0).2.2.1 ∈ wsX5_findPeople := by decide +kernel
set_option maxRecDepth 20000 in
theorem fl_X5_findPeople_X5_7 : Cond.fieldLink RX5 25 (TX5 7).1 (TX5 7).2.1 (TX5 7).2.2.1 ∈ wsX5_findPeople := by decide +kernel
set_option maxRecDepth 20000 in
theorem fl_X5_findPeople_X5_8 : Cond.fieldLink RX5 28 (TX5 8).1 (TX5 8).2.1 (TX5 8).2.2.1 ∈ wsX5_findPeople := by decide +kernel
set_option maxRecDepth 20000 in
theorem fl_X5_findPeople_X5_9 : Cond.fieldLink RX5 31 (TX5 9).1 (TX5 9).2.1 (TX5 9).2.2.1 ∈ wsX5_findPeople := by decide +kernel
theorem in_X5_findTakings_X5 : ∀ x ∈ u_ws RX5 TX5 18, x ∈ wsX5_findTakings := fun x h => List.mem_cons_of_mem _ (List.mem_append_right _ h)
set_option maxRecDepth 20000 in
theorem fl_X5_findTakings_X5_0 : Cond.fieldLink RX5 7 (TX5 0).1 (TX5 0).2.1 (TX5 0).2.2.1 ∈ wsX5_findTakings := by decide +kernel
set_option maxRecDepth 20000 in
theorem fl_X5_findTakings_X5_7 : Cond.fieldLink RX5 25 (TX5 7).1 (TX5 7).2.1 (TX5 7).2.2.1 ∈ wsX5_findTakings := by decide +kernel
set_option maxRecDepth 20000 in
theorem fl_X5_findTakings_X5_10 : Cond.fieldLink RX5 34 (TX5 10).1 (TX5 10).2.1 (TX5 10).2.2.1 ∈ wsX5_findTakings := by decide +kernel
set_option maxRecDepth 20000 in
theorem fl_X5_findTakings_X5_11 : Cond.fieldLink RX5 37 (TX5 11).1 (TX5 11).2.1 (TX5 11).2.2.1 ∈ wsX5_findTakings := by decide +kernel
theorem in_X5_shareOf_X5 : ∀ x ∈ u_ws RX5 TX5 18, x ∈ wsX5_shareOf := fun x h => List.mem_cons_of_mem _ (List.mem_append_right _ h)
set_option maxRecDepth 20000 in
theorem fl_X5_shareOf_X5_0 : Cond.fieldLink RX5 7 (TX5 0).1 (TX5 0).2.1 (TX5 0).2.2.1 ∈ wsX5_shareOf := by decide +kernel
theorem in_X5_shareOfTakings_X5 : ∀ x ∈ u_ws RX5 TX5 18, x ∈ wsX5_shareOfTakings := fun x h => List.mem_cons_of_mem _ (List.mem_append_right _ h)
set_option maxRecDepth 20000 in
theorem fl_X5_shareOfTakings_X5_11 : Cond.fieldLink RX5 37 (TX5 11).1 (TX5 11).2.1 (TX5 11).2.2.1 ∈ wsX5_shareOfTakings := by decide +kernel
set_option maxRecDepth 20000 in
theorem fl_X5_shareOfTakings_X5_12 : Cond.fieldLink RX5 40 (TX5 12).1 (TX5 12).2.1 (TX5 12).2.2.1 ∈ wsX5_shareOfTakings := by decide +kernel
theorem in_X5_findDues_X5 : ∀ x ∈ u_ws RX5 TX5 18, x ∈ wsX5_findDues := fun x h => List.mem_cons_of_mem _ (List.mem_append_right _ h)
set_option maxRecDepth 20000 in
theorem fl_X5_findDues_X5_0 : Cond.fieldLink RX5 7 (TX5 0).1 (TX5 0).2.1 (TX5 0).2.2.1 ∈ wsX5_findDues := by decide +kernel
set_option maxRecDepth 20000 in
theorem fl_X5_findDues_X5_10 : Cond.fieldLink RX5 34 (TX5 10).1 (TX5 10).2.1 (TX5 10).2.2.1 ∈ wsX5_findDues := by decide +kernel
set_option maxRecDepth 20000 in
theorem fl_X5_findDues_X5_11 : Cond.fieldLink RX5 37 (TX5 11).1 (TX5 11).2.1 (TX5 11).2.2.1 ∈ wsX5_findDues := by decide +kernel
set_option maxRecDepth 20000 in
theorem fl_X5_findDues_X5_12 : Cond.fieldLink RX5 40 (TX5 12).1 (TX5 12).2.1 (TX5 12).2.2.1 ∈ wsX5_findDues := by decide +kernel
set_option maxRecDepth 20000 in
theorem fl_X5_findDues_X5_13 : Cond.fieldLink RX5 43 (TX5 13).1 (TX5 13).2.1 (TX5 13).2.2.1 ∈ wsX5_findDues := by decide +kernel
theorem in_X5_reckon_X5 : ∀ x ∈ u_ws RX5 TX5 18, x ∈ wsX5_reckon := fun x h => List.mem_cons_of_mem _ (List.mem_append_right _ h)
set_option maxRecDepth 20000 in
theorem fl_X5_reckon_X5_0 : Cond.fieldLink RX5 7 (TX5 0).1 (TX5 0).2.1 (TX5 0).2.2.1 ∈ wsX5_reckon := by decide +kernel
set_option maxRecDepth 20000 in
theorem fl_X5_reckon_X5_7 : Cond.fieldLink RX5 25 (TX5 7).1 (TX5 7).2.1 (TX5 7).2.2.1 ∈ wsX5_reckon := by decide +kernel
set_option maxRecDepth 20000 in
theorem fl_X5_reckon_X5_8 : Cond.fieldLink RX5 28 (TX5 8).1 (TX5 8).2.1 (TX5 8).2.2.1 ∈ wsX5_reckon := by decide +kernel
set_option maxRecDepth 20000 in
theorem fl_X5_reckon_X5_9 : Cond.fieldLink RX5 31 (TX5 9).1 (TX5 9).2.1 (TX5 9).2.2.1 ∈ wsX5_reckon := by decide +kernel
set_option maxRecDepth 20000 in
theorem fl_X5_reckon_X5_10 : Cond.fieldLink RX5 34 (TX5 10).1 (TX5 10).2.1 (TX5 10).2.2.1 ∈ wsX5_reckon := by decide +kernel
set_option maxRecDepth 20000 in
theorem fl_X5_reckon_X5_11 : Cond.fieldLink RX5 37 (TX5 11).1 (TX5 11).2.1 (TX5 11).2.2.1 ∈ wsX5_reckon := by decide +kernel
set_option maxRecDepth 20000 in
theorem fl_X5_reckon_X5_12 : Cond.fieldLink RX5 40 (TX5 12).1 (TX5 12).2.1 (TX5 12).2.2.1 ∈ wsX5_reckon := by decide +kernel
set_option maxRecDepth 20000 in
theorem fl_X5_reckon_X5_13 : Cond.fieldLink RX5 43 (TX5 13).1 (TX5 13).2.1 (TX5 13).2.2.1 ∈ wsX5_reckon := by decide +kernel
theorem in_X5_rentsOf_X5 : ∀ x ∈ u_ws RX5 TX5 18, x ∈ wsX5_rentsOf := fun x h => List.mem_cons_of_mem _ (List.mem_append_right _ h)
set_option maxRecDepth 20000 in
theorem fl_X5_rentsOf_X5_0 : Cond.fieldLink RX5 7 (TX5 0).1 (TX5 0).2.1 (TX5 0).2.2.1 ∈ wsX5_rentsOf := by decide +kernel
theorem in_X5_peopleIn_X5 : ∀ x ∈ u_ws RX5 TX5 18, x ∈ wsX5_peopleIn := fun x h => List.mem_cons_of_mem _ (List.mem_append_right _ h)
set_option maxRecDepth 20000 in
theorem fl_X5_peopleIn_X5_7 : Cond.fieldLink RX5 25 (TX5 7).1 (TX5 7).2.1 (TX5 7).2.2.1 ∈ wsX5_peopleIn := by decide +kernel
theorem in_X5_leftOf_X5 : ∀ x ∈ u_ws RX5 TX5 18, x ∈ wsX5_leftOf := fun x h => List.mem_cons_of_mem _ (List.mem_append_right _ h)
set_option maxRecDepth 20000 in
theorem fl_X5_leftOf_X5_0 : Cond.fieldLink RX5 7 (TX5 0).1 (TX5 0).2.1 (TX5 0).2.2.1 ∈ wsX5_leftOf := by decide +kernel
set_option maxRecDepth 20000 in
theorem fl_X5_leftOf_X5_10 : Cond.fieldLink RX5 34 (TX5 10).1 (TX5 10).2.1 (TX5 10).2.2.1 ∈ wsX5_leftOf := by decide +kernel
set_option maxRecDepth 20000 in
theorem fl_X5_leftOf_X5_11 : Cond.fieldLink RX5 37 (TX5 11).1 (TX5 11).2.1 (TX5 11).2.2.1 ∈ wsX5_leftOf := by decide +kernel
set_option maxRecDepth 20000 in
theorem fl_X5_leftOf_X5_13 : Cond.fieldLink RX5 43 (TX5 13).1 (TX5 13).2.1 (TX5 13).2.2.1 ∈ wsX5_leftOf := by decide +kernel
theorem in_X5_leftNow_X5 : ∀ x ∈ u_ws RX5 TX5 18, x ∈ wsX5_leftNow := fun x h => List.mem_cons_of_mem _ (List.mem_append_right _ h)
set_option maxRecDepth 20000 in
theorem fl_X5_leftNow_X5_0 : Cond.fieldLink RX5 7 (TX5 0).1 (TX5 0).2.1 (TX5 0).2.2.1 ∈ wsX5_leftNow := by decide +kernel
set_option maxRecDepth 20000 in
theorem fl_X5_leftNow_X5_7 : Cond.fieldLink RX5 25 (TX5 7).1 (TX5 7).2.1 (TX5 7).2.2.1 ∈ wsX5_leftNow := by decide +kernel
set_option maxRecDepth 20000 in
theorem fl_X5_leftNow_X5_8 : Cond.fieldLink RX5 28 (TX5 8).1 (TX5 8).2.1 (TX5 8).2.2.1 ∈ wsX5_leftNow := by decide +kernel
set_option maxRecDepth 20000 in
theorem fl_X5_leftNow_X5_9 : Cond.fieldLink RX5 31 (TX5 9).1 (TX5 9).2.1 (TX5 9).2.2.1 ∈ wsX5_leftNow := by decide +kernel
set_option maxRecDepth 20000 in
theorem fl_X5_leftNow_X5_10 : Cond.fieldLink RX5 34 (TX5 10).1 (TX5 10).2.1 (TX5 10).2.2.1 ∈ wsX5_leftNow := by decide +kernel
set_option maxRecDepth 20000 in
theorem fl_X5_leftNow_X5_11 : Cond.fieldLink RX5 37 (TX5 11).1 (TX5 11).2.1 (TX5 11).2.2.1 ∈ wsX5_leftNow := by decide +kernel
set_option maxRecDepth 20000 in
theorem fl_X5_leftNow_X5_12 : Cond.fieldLink RX5 40 (TX5 12).1 (TX5 12).2.1 (TX5 12).2.2.1 ∈ wsX5_leftNow := by decide +kernel
set_option maxRecDepth 20000 in
theorem fl_X5_leftNow_X5_13 : Cond.fieldLink RX5 43 (TX5 13).1 (TX5 13).2.1 (TX5 13).2.2.1 ∈ wsX5_leftNow := by decide +kernel
theorem in_X5_set_X5 : ∀ x ∈ u_ws RX5 TX5 18, x ∈ wsX5_set := fun x h => List.mem_cons_of_mem _ (List.mem_append_right _ h)
set_option maxRecDepth 20000 in
theorem fl_X5_set_X5_0 : Cond.fieldLink RX5 7 (TX5 0).1 (TX5 0).2.1 (TX5 0).2.2.1 ∈ wsX5_set := by decide +kernel
set_option maxRecDepth 20000 in
theorem fl_X5_set_X5_1 : Cond.fieldLink RX5 13 (TX5 1).1 (TX5 1).2.1 (TX5 1).2.2.1 ∈ wsX5_set := by decide +kernel
set_option maxRecDepth 20000 in
theorem fl_X5_set_X5_2 : Cond.fieldLink RX5 46 (TX5 2).1 (TX5 2).2.1 (TX5 2).2.2.1 ∈ wsX5_set := by decide +kernel
theorem in_X5_film_X5 : ∀ x ∈ u_ws RX5 TX5 18, x ∈ wsX5_film := fun x h => List.mem_cons_of_mem _ (List.mem_append_right _ h)
set_option maxRecDepth 20000 in
theorem fl_X5_film_X5_0 : Cond.fieldLink RX5 7 (TX5 0).1 (TX5 0).2.1 (TX5 0).2.2.1 ∈ wsX5_film := by decide +kernel
set_option maxRecDepth 20000 in
theorem fl_X5_film_X5_1 : Cond.fieldLink RX5 13 (TX5 1).1 (TX5 1).2.1 (TX5 1).2.2.1 ∈ wsX5_film := by decide +kernel
set_option maxRecDepth 20000 in
theorem fl_X5_film_X5_2 : Cond.fieldLink RX5 46 (TX5 2).1 (TX5 2).2.1 (TX5 2).2.2.1 ∈ wsX5_film := by decide +kernel
theorem in_X5_canShow_X5 : ∀ x ∈ u_ws RX5 TX5 18, x ∈ wsX5_canShow := fun x h => List.mem_cons_of_mem _ (List.mem_append_right _ h)
set_option maxRecDepth 20000 in
theorem fl_X5_canShow_X5_0 : Cond.fieldLink RX5 7 (TX5 0).1 (TX5 0).2.1 (TX5 0).2.2.1 ∈ wsX5_canShow := by decide +kernel
theorem in_X5_whyNotShown_X5 : ∀ x ∈ u_ws RX5 TX5 18, x ∈ wsX5_whyNotShown := fun x h => List.mem_cons_of_mem _ (List.mem_append_right _ h)
set_option maxRecDepth 20000 in
theorem fl_X5_whyNotShown_X5_0 : Cond.fieldLink RX5 7 (TX5 0).1 (TX5 0).2.1 (TX5 0).2.2.1 ∈ wsX5_whyNotShown := by decide +kernel
theorem in_X5_show_X5 : ∀ x ∈ u_ws RX5 TX5 18, x ∈ wsX5_show := fun x h => List.mem_cons_of_mem _ (List.mem_append_right _ h)
set_option maxRecDepth 20000 in
theorem fl_X5_show_X5_0 : Cond.fieldLink RX5 7 (TX5 0).1 (TX5 0).2.1 (TX5 0).2.2.1 ∈ wsX5_show := by decide +kernel
set_option maxRecDepth 20000 in
theorem fl_X5_show_X5_1 : Cond.fieldLink RX5 13 (TX5 1).1 (TX5 1).2.1 (TX5 1).2.2.1 ∈ wsX5_show := by decide +kernel
set_option maxRecDepth 20000 in
theorem fl_X5_show_X5_2 : Cond.fieldLink RX5 46 (TX5 2).1 (TX5 2).2.1 (TX5 2).2.2.1 ∈ wsX5_show := by decide +kernel
theorem in_X5_drop_X5 : ∀ x ∈ u_ws RX5 TX5 18, x ∈ wsX5_drop := fun x h => List.mem_cons_of_mem _ (List.mem_append_right _ h)
set_option maxRecDepth 20000 in
theorem fl_X5_drop_X5_0 : Cond.fieldLink RX5 7 (TX5 0).1 (TX5 0).2.1 (TX5 0).2.2.1 ∈ wsX5_drop := by decide +kernel
set_option maxRecDepth 20000 in
theorem fl_X5_drop_X5_1 : Cond.fieldLink RX5 13 (TX5 1).1 (TX5 1).2.1 (TX5 1).2.2.1 ∈ wsX5_drop := by decide +kernel
set_option maxRecDepth 20000 in
theorem fl_X5_drop_X5_2 : Cond.fieldLink RX5 46 (TX5 2).1 (TX5 2).2.1 (TX5 2).2.2.1 ∈ wsX5_drop := by decide +kernel
theorem in_X5_canBe_X5 : ∀ x ∈ u_ws RX5 TX5 18, x ∈ wsX5_canBe := fun x h => List.mem_cons_of_mem _ (List.mem_append_right _ h)
set_option maxRecDepth 20000 in
theorem fl_X5_canBe_X5_0 : Cond.fieldLink RX5 7 (TX5 0).1 (TX5 0).2.1 (TX5 0).2.2.1 ∈ wsX5_canBe := by decide +kernel
theorem in_X5_exchange_X5 : ∀ x ∈ u_ws RX5 TX5 18, x ∈ wsX5_exchange := fun x h => List.mem_cons_of_mem _ (List.mem_append_right _ h)
set_option maxRecDepth 20000 in
theorem fl_X5_exchange_X5_0 : Cond.fieldLink RX5 7 (TX5 0).1 (TX5 0).2.1 (TX5 0).2.2.1 ∈ wsX5_exchange := by decide +kernel
set_option maxRecDepth 20000 in
theorem fl_X5_exchange_X5_1 : Cond.fieldLink RX5 13 (TX5 1).1 (TX5 1).2.1 (TX5 1).2.2.1 ∈ wsX5_exchange := by decide +kernel
set_option maxRecDepth 20000 in
theorem fl_X5_exchange_X5_7 : Cond.fieldLink RX5 25 (TX5 7).1 (TX5 7).2.1 (TX5 7).2.2.1 ∈ wsX5_exchange := by decide +kernel
set_option maxRecDepth 20000 in
theorem fl_X5_exchange_X5_8 : Cond.fieldLink RX5 28 (TX5 8).1 (TX5 8).2.1 (TX5 8).2.2.1 ∈ wsX5_exchange := by decide +kernel
set_option maxRecDepth 20000 in
theorem fl_X5_exchange_X5_9 : Cond.fieldLink RX5 31 (TX5 9).1 (TX5 9).2.1 (TX5 9).2.2.1 ∈ wsX5_exchange := by decide +kernel
set_option maxRecDepth 20000 in
theorem fl_X5_exchange_X5_10 : Cond.fieldLink RX5 34 (TX5 10).1 (TX5 10).2.1 (TX5 10).2.2.1 ∈ wsX5_exchange := by decide +kernel
set_option maxRecDepth 20000 in
theorem fl_X5_exchange_X5_11 : Cond.fieldLink RX5 37 (TX5 11).1 (TX5 11).2.1 (TX5 11).2.2.1 ∈ wsX5_exchange := by decide +kernel
set_option maxRecDepth 20000 in
theorem fl_X5_exchange_X5_12 : Cond.fieldLink RX5 40 (TX5 12).1 (TX5 12).2.1 (TX5 12).2.2.1 ∈ wsX5_exchange := by decide +kernel
set_option maxRecDepth 20000 in
theorem fl_X5_exchange_X5_13 : Cond.fieldLink RX5 43 (TX5 13).1 (TX5 13).2.1 (TX5 13).2.2.1 ∈ wsX5_exchange := by decide +kernel
set_option maxRecDepth 20000 in
theorem fl_X5_exchange_X5_2 : Cond.fieldLink RX5 46 (TX5 2).1 (TX5 2).2.1 (TX5 2).2.2.1 ∈ wsX5_exchange := by decide +kernel
set_option maxRecDepth 20000 in
theorem ct_X5_exchange_129 : Cond.constant RX5 129 (1000000) ∈ wsX5_exchange := by decide +kernel
theorem in_X5_let_X5 : ∀ x ∈ u_ws RX5 TX5 18, x ∈ wsX5_let := fun x h => List.mem_cons_of_mem _ (List.mem_append_right _ h)
set_option maxRecDepth 20000 in
theorem fl_X5_let_X5_0 : Cond.fieldLink RX5 7 (TX5 0).1 (TX5 0).2.1 (TX5 0).2.2.1 ∈ wsX5_let := by decide +kernel
set_option maxRecDepth 20000 in
theorem fl_X5_let_X5_1 : Cond.fieldLink RX5 13 (TX5 1).1 (TX5 1).2.1 (TX5 1).2.2.1 ∈ wsX5_let := by decide +kernel
set_option maxRecDepth 20000 in
theorem fl_X5_let_X5_2 : Cond.fieldLink RX5 46 (TX5 2).1 (TX5 2).2.1 (TX5 2).2.2.1 ∈ wsX5_let := by decide +kernel
theorem in_X5_at_X5 : ∀ x ∈ u_ws RX5 TX5 18, x ∈ wsX5_at := fun x h => List.mem_cons_of_mem _ (List.mem_append_right _ h)
set_option maxRecDepth 20000 in
theorem fl_X5_at_X5_0 : Cond.fieldLink RX5 7 (TX5 0).1 (TX5 0).2.1 (TX5 0).2.2.1 ∈ wsX5_at := by decide +kernel
set_option maxRecDepth 20000 in
theorem fl_X5_at_X5_7 : Cond.fieldLink RX5 25 (TX5 7).1 (TX5 7).2.1 (TX5 7).2.2.1 ∈ wsX5_at := by decide +kernel
set_option maxRecDepth 20000 in
theorem fl_X5_at_X5_8 : Cond.fieldLink RX5 28 (TX5 8).1 (TX5 8).2.1 (TX5 8).2.2.1 ∈ wsX5_at := by decide +kernel
set_option maxRecDepth 20000 in
theorem fl_X5_at_X5_9 : Cond.fieldLink RX5 31 (TX5 9).1 (TX5 9).2.1 (TX5 9).2.2.1 ∈ wsX5_at := by decide +kernel
set_option maxRecDepth 20000 in
theorem fl_X5_at_X5_10 : Cond.fieldLink RX5 34 (TX5 10).1 (TX5 10).2.1 (TX5 10).2.2.1 ∈ wsX5_at := by decide +kernel
set_option maxRecDepth 20000 in
theorem fl_X5_at_X5_11 : Cond.fieldLink RX5 37 (TX5 11).1 (TX5 11).2.1 (TX5 11).2.2.1 ∈ wsX5_at := by decide +kernel
set_option maxRecDepth 20000 in
theorem fl_X5_at_X5_12 : Cond.fieldLink RX5 40 (TX5 12).1 (TX5 12).2.1 (TX5 12).2.2.1 ∈ wsX5_at := by decide +kernel
set_option maxRecDepth 20000 in
theorem fl_X5_at_X5_13 : Cond.fieldLink RX5 43 (TX5 13).1 (TX5 13).2.1 (TX5 13).2.2.1 ∈ wsX5_at := by decide +kernel
theorem in_X5_peopleOf_X5 : ∀ x ∈ u_ws RX5 TX5 18, x ∈ wsX5_peopleOf := fun x h => List.mem_cons_of_mem _ (List.mem_append_right _ h)
set_option maxRecDepth 20000 in
theorem fl_X5_peopleOf_X5_0 : Cond.fieldLink RX5 7 (TX5 0).1 (TX5 0).2.1 (TX5 0).2.2.1 ∈ wsX5_peopleOf := by decide +kernel
set_option maxRecDepth 20000 in
theorem fl_X5_peopleOf_X5_7 : Cond.fieldLink RX5 25 (TX5 7).1 (TX5 7).2.1 (TX5 7).2.2.1 ∈ wsX5_peopleOf := by decide +kernel
theorem in_X5_firstShow_X5 : ∀ x ∈ u_ws RX5 TX5 18, x ∈ wsX5_firstShow := fun x h => List.mem_cons_of_mem _ (List.mem_append_right _ h)
set_option maxRecDepth 20000 in
theorem fl_X5_firstShow_X5_0 : Cond.fieldLink RX5 7 (TX5 0).1 (TX5 0).2.1 (TX5 0).2.2.1 ∈ wsX5_firstShow := by decide +kernel
theorem in_X5_of_X5 : ∀ x ∈ u_ws RX5 TX5 18, x ∈ wsX5_of := fun x h => List.mem_cons_of_mem _ (List.mem_append_right _ h)
set_option maxRecDepth 20000 in
theorem fl_X5_of_X5_0 : Cond.fieldLink RX5 7 (TX5 0).1 (TX5 0).2.1 (TX5 0).2.2.1 ∈ wsX5_of := by decide +kernel
set_option maxRecDepth 20000 in
theorem fl_X5_of_X5_7 : Cond.fieldLink RX5 25 (TX5 7).1 (TX5 7).2.1 (TX5 7).2.2.1 ∈ wsX5_of := by decide +kernel
set_option maxRecDepth 20000 in
theorem fl_X5_of_X5_8 : Cond.fieldLink RX5 28 (TX5 8).1 (TX5 8).2.1 (TX5 8).2.2.1 ∈ wsX5_of := by decide +kernel
set_option maxRecDepth 20000 in
theorem fl_X5_of_X5_9 : Cond.fieldLink RX5 31 (TX5 9).1 (TX5 9).2.1 (TX5 9).2.2.1 ∈ wsX5_of := by decide +kernel
set_option maxRecDepth 20000 in
theorem fl_X5_of_X5_10 : Cond.fieldLink RX5 34 (TX5 10).1 (TX5 10).2.1 (TX5 10).2.2.1 ∈ wsX5_of := by decide +kernel
set_option maxRecDepth 20000 in
theorem fl_X5_of_X5_11 : Cond.fieldLink RX5 37 (TX5 11).1 (TX5 11).2.1 (TX5 11).2.2.1 ∈ wsX5_of := by decide +kernel
set_option maxRecDepth 20000 in
theorem fl_X5_of_X5_12 : Cond.fieldLink RX5 40 (TX5 12).1 (TX5 12).2.1 (TX5 12).2.2.1 ∈ wsX5_of := by decide +kernel
set_option maxRecDepth 20000 in
theorem fl_X5_of_X5_13 : Cond.fieldLink RX5 43 (TX5 13).1 (TX5 13).2.1 (TX5 13).2.2.1 ∈ wsX5_of := by decide +kernel
theorem in_X5_inWeek_X5 : ∀ x ∈ u_ws RX5 TX5 18, x ∈ wsX5_inWeek := fun x h => List.mem_cons_of_mem _ (List.mem_append_right _ h)
set_option maxRecDepth 20000 in
theorem fl_X5_inWeek_X5_0 : Cond.fieldLink RX5 7 (TX5 0).1 (TX5 0).2.1 (TX5 0).2.2.1 ∈ wsX5_inWeek := by decide +kernel
set_option maxRecDepth 20000 in
theorem fl_X5_inWeek_X5_7 : Cond.fieldLink RX5 25 (TX5 7).1 (TX5 7).2.1 (TX5 7).2.2.1 ∈ wsX5_inWeek := by decide +kernel
set_option maxRecDepth 20000 in
theorem fl_X5_inWeek_X5_8 : Cond.fieldLink RX5 28 (TX5 8).1 (TX5 8).2.1 (TX5 8).2.2.1 ∈ wsX5_inWeek := by decide +kernel
set_option maxRecDepth 20000 in
theorem fl_X5_inWeek_X5_9 : Cond.fieldLink RX5 31 (TX5 9).1 (TX5 9).2.1 (TX5 9).2.2.1 ∈ wsX5_inWeek := by decide +kernel
set_option maxRecDepth 20000 in
theorem fl_X5_inWeek_X5_10 : Cond.fieldLink RX5 34 (TX5 10).1 (TX5 10).2.1 (TX5 10).2.2.1 ∈ wsX5_inWeek := by decide +kernel
set_option maxRecDepth 20000 in
theorem fl_X5_inWeek_X5_11 : Cond.fieldLink RX5 37 (TX5 11).1 (TX5 11).2.1 (TX5 11).2.2.1 ∈ wsX5_inWeek := by decide +kernel
set_option maxRecDepth 20000 in
theorem fl_X5_inWeek_X5_12 : Cond.fieldLink RX5 40 (TX5 12).1 (TX5 12).2.1 (TX5 12).2.2.1 ∈ wsX5_inWeek := by decide +kernel
set_option maxRecDepth 20000 in
theorem fl_X5_inWeek_X5_13 : Cond.fieldLink RX5 43 (TX5 13).1 (TX5 13).2.1 (TX5 13).2.2.1 ∈ wsX5_inWeek := by decide +kernel
theorem in_X5_week_X5 : ∀ x ∈ u_ws RX5 TX5 18, x ∈ wsX5_week := fun x h => List.mem_cons_of_mem _ (List.mem_append_right _ h)
set_option maxRecDepth 20000 in
theorem fl_X5_week_X5_0 : Cond.fieldLink RX5 7 (TX5 0).1 (TX5 0).2.1 (TX5 0).2.2.1 ∈ wsX5_week := by decide +kernel
set_option maxRecDepth 20000 in
theorem fl_X5_week_X5_7 : Cond.fieldLink RX5 25 (TX5 7).1 (TX5 7).2.1 (TX5 7).2.2.1 ∈ wsX5_week := by decide +kernel
set_option maxRecDepth 20000 in
theorem fl_X5_week_X5_8 : Cond.fieldLink RX5 28 (TX5 8).1 (TX5 8).2.1 (TX5 8).2.2.1 ∈ wsX5_week := by decide +kernel
set_option maxRecDepth 20000 in
theorem fl_X5_week_X5_9 : Cond.fieldLink RX5 31 (TX5 9).1 (TX5 9).2.1 (TX5 9).2.2.1 ∈ wsX5_week := by decide +kernel
set_option maxRecDepth 20000 in
theorem fl_X5_week_X5_10 : Cond.fieldLink RX5 34 (TX5 10).1 (TX5 10).2.1 (TX5 10).2.2.1 ∈ wsX5_week := by decide +kernel
set_option maxRecDepth 20000 in
theorem fl_X5_week_X5_11 : Cond.fieldLink RX5 37 (TX5 11).1 (TX5 11).2.1 (TX5 11).2.2.1 ∈ wsX5_week := by decide +kernel
set_option maxRecDepth 20000 in
theorem fl_X5_week_X5_12 : Cond.fieldLink RX5 40 (TX5 12).1 (TX5 12).2.1 (TX5 12).2.2.1 ∈ wsX5_week := by decide +kernel
set_option maxRecDepth 20000 in
theorem fl_X5_week_X5_13 : Cond.fieldLink RX5 43 (TX5 13).1 (TX5 13).2.1 (TX5 13).2.2.1 ∈ wsX5_week := by decide +kernel
set_option maxRecDepth 20000 in
theorem ct_X5_week_129 : Cond.constant RX5 129 (1000000) ∈ wsX5_week := by decide +kernel
theorem in_X5_distributor_X5 : ∀ x ∈ u_ws RX5 TX5 18, x ∈ wsX5_distributor := fun x h => List.mem_cons_of_mem _ (List.mem_append_right _ h)
set_option maxRecDepth 20000 in
theorem fl_X5_distributor_X5_0 : Cond.fieldLink RX5 7 (TX5 0).1 (TX5 0).2.1 (TX5 0).2.2.1 ∈ wsX5_distributor := by decide +kernel
set_option maxRecDepth 20000 in
theorem fl_X5_distributor_X5_7 : Cond.fieldLink RX5 25 (TX5 7).1 (TX5 7).2.1 (TX5 7).2.2.1 ∈ wsX5_distributor := by decide +kernel
set_option maxRecDepth 20000 in
theorem fl_X5_distributor_X5_8 : Cond.fieldLink RX5 28 (TX5 8).1 (TX5 8).2.1 (TX5 8).2.2.1 ∈ wsX5_distributor := by decide +kernel
set_option maxRecDepth 20000 in
theorem fl_X5_distributor_X5_9 : Cond.fieldLink RX5 31 (TX5 9).1 (TX5 9).2.1 (TX5 9).2.2.1 ∈ wsX5_distributor := by decide +kernel
set_option maxRecDepth 20000 in
theorem fl_X5_distributor_X5_10 : Cond.fieldLink RX5 34 (TX5 10).1 (TX5 10).2.1 (TX5 10).2.2.1 ∈ wsX5_distributor := by decide +kernel
set_option maxRecDepth 20000 in
theorem fl_X5_distributor_X5_11 : Cond.fieldLink RX5 37 (TX5 11).1 (TX5 11).2.1 (TX5 11).2.2.1 ∈ wsX5_distributor := by decide +kernel
set_option maxRecDepth 20000 in
theorem fl_X5_distributor_X5_12 : Cond.fieldLink RX5 40 (TX5 12).1 (TX5 12).2.1 (TX5 12).2.2.1 ∈ wsX5_distributor := by decide +kernel
set_option maxRecDepth 20000 in
theorem fl_X5_distributor_X5_13 : Cond.fieldLink RX5 43 (TX5 13).1 (TX5 13).2.1 (TX5 13).2.2.1 ∈ wsX5_distributor := by decide +kernel
theorem in_X5_rent_X5 : ∀ x ∈ u_ws RX5 TX5 18, x ∈ wsX5_rent := fun x h => List.mem_cons_of_mem _ (List.mem_append_right _ h)
set_option maxRecDepth 20000 in
theorem fl_X5_rent_X5_0 : Cond.fieldLink RX5 7 (TX5 0).1 (TX5 0).2.1 (TX5 0).2.2.1 ∈ wsX5_rent := by decide +kernel
theorem in_X5_fullShows_X5 : ∀ x ∈ u_ws RX5 TX5 18, x ∈ wsX5_fullShows := fun x h => List.mem_cons_of_mem _ (List.mem_append_right _ h)
set_option maxRecDepth 20000 in
theorem fl_X5_fullShows_X5_0 : Cond.fieldLink RX5 7 (TX5 0).1 (TX5 0).2.1 (TX5 0).2.2.1 ∈ wsX5_fullShows := by decide +kernel
set_option maxRecDepth 20000 in
theorem fl_X5_fullShows_X5_7 : Cond.fieldLink RX5 25 (TX5 7).1 (TX5 7).2.1 (TX5 7).2.2.1 ∈ wsX5_fullShows := by decide +kernel
theorem in_X5_count_X5 : ∀ x ∈ u_ws RX5 TX5 18, x ∈ wsX5_count := fun x h => List.mem_cons_of_mem _ (List.mem_append_right _ h)
set_option maxRecDepth 20000 in
theorem fl_X5_count_X5_0 : Cond.fieldLink RX5 7 (TX5 0).1 (TX5 0).2.1 (TX5 0).2.2.1 ∈ wsX5_count := by decide +kernel
set_option maxRecDepth 20000 in
theorem fl_X5_count_X5_7 : Cond.fieldLink RX5 25 (TX5 7).1 (TX5 7).2.1 (TX5 7).2.2.1 ∈ wsX5_count := by decide +kernel
set_option maxRecDepth 20000 in
theorem fl_X5_count_X5_8 : Cond.fieldLink RX5 28 (TX5 8).1 (TX5 8).2.1 (TX5 8).2.2.1 ∈ wsX5_count := by decide +kernel
set_option maxRecDepth 20000 in
theorem fl_X5_count_X5_9 : Cond.fieldLink RX5 31 (TX5 9).1 (TX5 9).2.1 (TX5 9).2.2.1 ∈ wsX5_count := by decide +kernel
set_option maxRecDepth 20000 in
theorem fl_X5_count_X5_10 : Cond.fieldLink RX5 34 (TX5 10).1 (TX5 10).2.1 (TX5 10).2.2.1 ∈ wsX5_count := by decide +kernel
set_option maxRecDepth 20000 in
theorem fl_X5_count_X5_11 : Cond.fieldLink RX5 37 (TX5 11).1 (TX5 11).2.1 (TX5 11).2.2.1 ∈ wsX5_count := by decide +kernel
set_option maxRecDepth 20000 in
theorem fl_X5_count_X5_12 : Cond.fieldLink RX5 40 (TX5 12).1 (TX5 12).2.1 (TX5 12).2.2.1 ∈ wsX5_count := by decide +kernel
set_option maxRecDepth 20000 in
theorem fl_X5_count_X5_13 : Cond.fieldLink RX5 43 (TX5 13).1 (TX5 13).2.1 (TX5 13).2.2.1 ∈ wsX5_count := by decide +kernel
set_option maxRecDepth 20000 in
theorem fl_X5_count_X5_2 : Cond.fieldLink RX5 46 (TX5 2).1 (TX5 2).2.1 (TX5 2).2.2.1 ∈ wsX5_count := by decide +kernel
set_option maxRecDepth 20000 in
theorem fl_X5_count_X5_6 : Cond.fieldLink RX5 145 (TX5 6).1 (TX5 6).2.1 (TX5 6).2.2.1 ∈ wsX5_count := by decide +kernel
set_option maxRecDepth 20000 in
theorem ct_X5_count_129 : Cond.constant RX5 129 (1000000) ∈ wsX5_count := by decide +kernel
theorem in_X5_moreWith_X5 : ∀ x ∈ u_ws RX5 TX5 18, x ∈ wsX5_moreWith := fun x h => List.mem_cons_of_mem _ (List.mem_append_right _ h)
set_option maxRecDepth 20000 in
theorem fl_X5_moreWith_X5_0 : Cond.fieldLink RX5 7 (TX5 0).1 (TX5 0).2.1 (TX5 0).2.2.1 ∈ wsX5_moreWith := by decide +kernel
set_option maxRecDepth 20000 in
theorem fl_X5_moreWith_X5_7 : Cond.fieldLink RX5 25 (TX5 7).1 (TX5 7).2.1 (TX5 7).2.2.1 ∈ wsX5_moreWith := by decide +kernel
set_option maxRecDepth 20000 in
theorem fl_X5_moreWith_X5_8 : Cond.fieldLink RX5 28 (TX5 8).1 (TX5 8).2.1 (TX5 8).2.2.1 ∈ wsX5_moreWith := by decide +kernel
set_option maxRecDepth 20000 in
theorem fl_X5_moreWith_X5_9 : Cond.fieldLink RX5 31 (TX5 9).1 (TX5 9).2.1 (TX5 9).2.2.1 ∈ wsX5_moreWith := by decide +kernel
set_option maxRecDepth 20000 in
theorem fl_X5_moreWith_X5_10 : Cond.fieldLink RX5 34 (TX5 10).1 (TX5 10).2.1 (TX5 10).2.2.1 ∈ wsX5_moreWith := by decide +kernel
set_option maxRecDepth 20000 in
theorem fl_X5_moreWith_X5_11 : Cond.fieldLink RX5 37 (TX5 11).1 (TX5 11).2.1 (TX5 11).2.2.1 ∈ wsX5_moreWith := by decide +kernel
set_option maxRecDepth 20000 in
theorem fl_X5_moreWith_X5_12 : Cond.fieldLink RX5 40 (TX5 12).1 (TX5 12).2.1 (TX5 12).2.2.1 ∈ wsX5_moreWith := by decide +kernel
set_option maxRecDepth 20000 in
theorem fl_X5_moreWith_X5_13 : Cond.fieldLink RX5 43 (TX5 13).1 (TX5 13).2.1 (TX5 13).2.2.1 ∈ wsX5_moreWith := by decide +kernel
theorem in_X5_ifShown_X5 : ∀ x ∈ u_ws RX5 TX5 18, x ∈ wsX5_ifShown := fun x h => List.mem_cons_of_mem _ (List.mem_append_right _ h)
set_option maxRecDepth 20000 in
theorem fl_X5_ifShown_X5_0 : Cond.fieldLink RX5 7 (TX5 0).1 (TX5 0).2.1 (TX5 0).2.2.1 ∈ wsX5_ifShown := by decide +kernel
set_option maxRecDepth 20000 in
theorem fl_X5_ifShown_X5_7 : Cond.fieldLink RX5 25 (TX5 7).1 (TX5 7).2.1 (TX5 7).2.2.1 ∈ wsX5_ifShown := by decide +kernel
set_option maxRecDepth 20000 in
theorem fl_X5_ifShown_X5_8 : Cond.fieldLink RX5 28 (TX5 8).1 (TX5 8).2.1 (TX5 8).2.2.1 ∈ wsX5_ifShown := by decide +kernel
set_option maxRecDepth 20000 in
theorem fl_X5_ifShown_X5_9 : Cond.fieldLink RX5 31 (TX5 9).1 (TX5 9).2.1 (TX5 9).2.2.1 ∈ wsX5_ifShown := by decide +kernel
set_option maxRecDepth 20000 in
theorem fl_X5_ifShown_X5_10 : Cond.fieldLink RX5 34 (TX5 10).1 (TX5 10).2.1 (TX5 10).2.2.1 ∈ wsX5_ifShown := by decide +kernel
set_option maxRecDepth 20000 in
theorem fl_X5_ifShown_X5_11 : Cond.fieldLink RX5 37 (TX5 11).1 (TX5 11).2.1 (TX5 11).2.2.1 ∈ wsX5_ifShown := by decide +kernel
set_option maxRecDepth 20000 in
theorem fl_X5_ifShown_X5_12 : Cond.fieldLink RX5 40 (TX5 12).1 (TX5 12).2.1 (TX5 12).2.2.1 ∈ wsX5_ifShown := by decide +kernel
set_option maxRecDepth 20000 in
theorem fl_X5_ifShown_X5_13 : Cond.fieldLink RX5 43 (TX5 13).1 (TX5 13).2.1 (TX5 13).2.2.1 ∈ wsX5_ifShown := by decide +kernel
set_option maxRecDepth 20000 in
theorem ct_X5_ifShown_129 : Cond.constant RX5 129 (1000000) ∈ wsX5_ifShown := by decide +kernel
theorem in_X5_bestFilm_X5 : ∀ x ∈ u_ws RX5 TX5 18, x ∈ wsX5_bestFilm := fun x h => List.mem_cons_of_mem _ (List.mem_append_right _ h)
set_option maxRecDepth 20000 in
theorem fl_X5_bestFilm_X5_0 : Cond.fieldLink RX5 7 (TX5 0).1 (TX5 0).2.1 (TX5 0).2.2.1 ∈ wsX5_bestFilm := by decide +kernel
set_option maxRecDepth 20000 in
theorem fl_X5_bestFilm_X5_7 : Cond.fieldLink RX5 25 (TX5 7).1 (TX5 7).2.1 (TX5 7).2.2.1 ∈ wsX5_bestFilm := by decide +kernel
set_option maxRecDepth 20000 in
theorem fl_X5_bestFilm_X5_8 : Cond.fieldLink RX5 28 (TX5 8).1 (TX5 8).2.1 (TX5 8).2.2.1 ∈ wsX5_bestFilm := by decide +kernel
set_option maxRecDepth 20000 in
theorem fl_X5_bestFilm_X5_9 : Cond.fieldLink RX5 31 (TX5 9).1 (TX5 9).2.1 (TX5 9).2.2.1 ∈ wsX5_bestFilm := by decide +kernel
set_option maxRecDepth 20000 in
theorem fl_X5_bestFilm_X5_10 : Cond.fieldLink RX5 34 (TX5 10).1 (TX5 10).2.1 (TX5 10).2.2.1 ∈ wsX5_bestFilm := by decide +kernel
set_option maxRecDepth 20000 in
theorem fl_X5_bestFilm_X5_11 : Cond.fieldLink RX5 37 (TX5 11).1 (TX5 11).2.1 (TX5 11).2.2.1 ∈ wsX5_bestFilm := by decide +kernel
set_option maxRecDepth 20000 in
theorem fl_X5_bestFilm_X5_12 : Cond.fieldLink RX5 40 (TX5 12).1 (TX5 12).2.1 (TX5 12).2.2.1 ∈ wsX5_bestFilm := by decide +kernel
set_option maxRecDepth 20000 in
theorem fl_X5_bestFilm_X5_13 : Cond.fieldLink RX5 43 (TX5 13).1 (TX5 13).2.1 (TX5 13).2.2.1 ∈ wsX5_bestFilm := by decide +kernel
set_option maxRecDepth 20000 in
theorem ct_X5_bestFilm_129 : Cond.constant RX5 129 (1000000) ∈ wsX5_bestFilm := by decide +kernel
theorem in_X5_worstShow_X5 : ∀ x ∈ u_ws RX5 TX5 18, x ∈ wsX5_worstShow := fun x h => List.mem_cons_of_mem _ (List.mem_append_right _ h)
set_option maxRecDepth 20000 in
theorem fl_X5_worstShow_X5_0 : Cond.fieldLink RX5 7 (TX5 0).1 (TX5 0).2.1 (TX5 0).2.2.1 ∈ wsX5_worstShow := by decide +kernel
set_option maxRecDepth 20000 in
theorem fl_X5_worstShow_X5_7 : Cond.fieldLink RX5 25 (TX5 7).1 (TX5 7).2.1 (TX5 7).2.2.1 ∈ wsX5_worstShow := by decide +kernel
set_option maxRecDepth 20000 in
theorem fl_X5_worstShow_X5_8 : Cond.fieldLink RX5 28 (TX5 8).1 (TX5 8).2.1 (TX5 8).2.2.1 ∈ wsX5_worstShow := by decide +kernel
set_option maxRecDepth 20000 in
theorem fl_X5_worstShow_X5_9 : Cond.fieldLink RX5 31 (TX5 9).1 (TX5 9).2.1 (TX5 9).2.2.1 ∈ wsX5_worstShow := by decide +kernel
set_option maxRecDepth 20000 in
theorem fl_X5_worstShow_X5_10 : Cond.fieldLink RX5 34 (TX5 10).1 (TX5 10).2.1 (TX5 10).2.2.1 ∈ wsX5_worstShow := by decide +kernel
set_option maxRecDepth 20000 in
theorem fl_X5_worstShow_X5_11 : Cond.fieldLink RX5 37 (TX5 11).1 (TX5 11).2.1 (TX5 11).2.2.1 ∈ wsX5_worstShow := by decide +kernel
set_option maxRecDepth 20000 in
theorem fl_X5_worstShow_X5_12 : Cond.fieldLink RX5 40 (TX5 12).1 (TX5 12).2.1 (TX5 12).2.2.1 ∈ wsX5_worstShow := by decide +kernel
set_option maxRecDepth 20000 in
theorem fl_X5_worstShow_X5_13 : Cond.fieldLink RX5 43 (TX5 13).1 (TX5 13).2.1 (TX5 13).2.2.1 ∈ wsX5_worstShow := by decide +kernel
set_option maxRecDepth 20000 in
theorem ct_X5_worstShow_129 : Cond.constant RX5 129 (1000000) ∈ wsX5_worstShow := by decide +kernel
theorem in_X5_priceFor_X5 : ∀ x ∈ u_ws RX5 TX5 18, x ∈ wsX5_priceFor := fun x h => List.mem_cons_of_mem _ (List.mem_append_right _ h)
set_option maxRecDepth 20000 in
theorem fl_X5_priceFor_X5_0 : Cond.fieldLink RX5 7 (TX5 0).1 (TX5 0).2.1 (TX5 0).2.2.1 ∈ wsX5_priceFor := by decide +kernel
set_option maxRecDepth 20000 in
theorem fl_X5_priceFor_X5_7 : Cond.fieldLink RX5 25 (TX5 7).1 (TX5 7).2.1 (TX5 7).2.2.1 ∈ wsX5_priceFor := by decide +kernel
set_option maxRecDepth 20000 in
theorem fl_X5_priceFor_X5_8 : Cond.fieldLink RX5 28 (TX5 8).1 (TX5 8).2.1 (TX5 8).2.2.1 ∈ wsX5_priceFor := by decide +kernel
set_option maxRecDepth 20000 in
theorem fl_X5_priceFor_X5_9 : Cond.fieldLink RX5 31 (TX5 9).1 (TX5 9).2.1 (TX5 9).2.2.1 ∈ wsX5_priceFor := by decide +kernel
set_option maxRecDepth 20000 in
theorem fl_X5_priceFor_X5_10 : Cond.fieldLink RX5 34 (TX5 10).1 (TX5 10).2.1 (TX5 10).2.2.1 ∈ wsX5_priceFor := by decide +kernel
set_option maxRecDepth 20000 in
theorem fl_X5_priceFor_X5_11 : Cond.fieldLink RX5 37 (TX5 11).1 (TX5 11).2.1 (TX5 11).2.2.1 ∈ wsX5_priceFor := by decide +kernel
set_option maxRecDepth 20000 in
theorem fl_X5_priceFor_X5_12 : Cond.fieldLink RX5 40 (TX5 12).1 (TX5 12).2.1 (TX5 12).2.2.1 ∈ wsX5_priceFor := by decide +kernel
set_option maxRecDepth 20000 in
theorem fl_X5_priceFor_X5_13 : Cond.fieldLink RX5 43 (TX5 13).1 (TX5 13).2.1 (TX5 13).2.2.1 ∈ wsX5_priceFor := by decide +kernel
theorem in_X5_put_X5 : ∀ x ∈ u_ws RX5 TX5 18, x ∈ wsX5_put := fun x h => List.mem_cons_of_mem _ (List.mem_append_right _ h)
set_option maxRecDepth 20000 in
theorem fl_X5_put_X5_5 : Cond.fieldLink RX5 22 (TX5 5).1 (TX5 5).2.1 (TX5 5).2.2.1 ∈ wsX5_put := by decide +kernel
set_option maxRecDepth 20000 in
theorem fl_X5_put_X5_6 : Cond.fieldLink RX5 145 (TX5 6).1 (TX5 6).2.1 (TX5 6).2.2.1 ∈ wsX5_put := by decide +kernel
set_option maxRecDepth 20000 in
theorem ct_X5_put_151 : Cond.constantLong RX5 151 (255) ∈ wsX5_put := by decide +kernel
theorem in_X5_wipe_X5 : ∀ x ∈ u_ws RX5 TX5 18, x ∈ wsX5_wipe := fun x h => List.mem_cons_of_mem _ (List.mem_append_right _ h)
set_option maxRecDepth 20000 in
theorem fl_X5_wipe_X5_6 : Cond.fieldLink RX5 145 (TX5 6).1 (TX5 6).2.1 (TX5 6).2.2.1 ∈ wsX5_wipe := by decide +kernel
theorem in_X5_character_X5 : ∀ x ∈ u_ws RX5 TX5 18, x ∈ wsX5_character := fun x h => List.mem_cons_of_mem _ (List.mem_append_right _ h)
set_option maxRecDepth 20000 in
theorem fl_X5_character_X5_5 : Cond.fieldLink RX5 22 (TX5 5).1 (TX5 5).2.1 (TX5 5).2.2.1 ∈ wsX5_character := by decide +kernel
set_option maxRecDepth 20000 in
theorem fl_X5_character_X5_6 : Cond.fieldLink RX5 145 (TX5 6).1 (TX5 6).2.1 (TX5 6).2.2.1 ∈ wsX5_character := by decide +kernel
theorem in_X5_takeDigit_X5 : ∀ x ∈ u_ws RX5 TX5 18, x ∈ wsX5_takeDigit := fun x h => List.mem_cons_of_mem _ (List.mem_append_right _ h)
set_option maxRecDepth 20000 in
theorem fl_X5_takeDigit_X5_5 : Cond.fieldLink RX5 22 (TX5 5).1 (TX5 5).2.1 (TX5 5).2.2.1 ∈ wsX5_takeDigit := by decide +kernel
set_option maxRecDepth 20000 in
theorem fl_X5_takeDigit_X5_6 : Cond.fieldLink RX5 145 (TX5 6).1 (TX5 6).2.1 (TX5 6).2.2.1 ∈ wsX5_takeDigit := by decide +kernel
set_option maxRecDepth 20000 in
theorem fl_X5_takeDigit_X5_14 : Cond.fieldLink RX5 153 (TX5 14).1 (TX5 14).2.1 (TX5 14).2.2.1 ∈ wsX5_takeDigit := by decide +kernel
theorem in_X5_takePart_X5 : ∀ x ∈ u_ws RX5 TX5 18, x ∈ wsX5_takePart := fun x h => List.mem_cons_of_mem _ (List.mem_append_right _ h)
set_option maxRecDepth 20000 in
theorem fl_X5_takePart_X5_5 : Cond.fieldLink RX5 22 (TX5 5).1 (TX5 5).2.1 (TX5 5).2.2.1 ∈ wsX5_takePart := by decide +kernel
set_option maxRecDepth 20000 in
theorem fl_X5_takePart_X5_6 : Cond.fieldLink RX5 145 (TX5 6).1 (TX5 6).2.1 (TX5 6).2.2.1 ∈ wsX5_takePart := by decide +kernel
set_option maxRecDepth 20000 in
theorem fl_X5_takePart_X5_14 : Cond.fieldLink RX5 153 (TX5 14).1 (TX5 14).2.1 (TX5 14).2.2.1 ∈ wsX5_takePart := by decide +kernel
theorem in_X5_takeDay_X5 : ∀ x ∈ u_ws RX5 TX5 18, x ∈ wsX5_takeDay := fun x h => List.mem_cons_of_mem _ (List.mem_append_right _ h)
set_option maxRecDepth 20000 in
theorem fl_X5_takeDay_X5_5 : Cond.fieldLink RX5 22 (TX5 5).1 (TX5 5).2.1 (TX5 5).2.2.1 ∈ wsX5_takeDay := by decide +kernel
set_option maxRecDepth 20000 in
theorem fl_X5_takeDay_X5_6 : Cond.fieldLink RX5 145 (TX5 6).1 (TX5 6).2.1 (TX5 6).2.2.1 ∈ wsX5_takeDay := by decide +kernel
set_option maxRecDepth 20000 in
theorem fl_X5_takeDay_X5_14 : Cond.fieldLink RX5 153 (TX5 14).1 (TX5 14).2.1 (TX5 14).2.2.1 ∈ wsX5_takeDay := by decide +kernel
theorem in_X5_readsShow_X5 : ∀ x ∈ u_ws RX5 TX5 18, x ∈ wsX5_readsShow := fun x h => List.mem_cons_of_mem _ (List.mem_append_right _ h)
set_option maxRecDepth 20000 in
theorem fl_X5_readsShow_X5_5 : Cond.fieldLink RX5 22 (TX5 5).1 (TX5 5).2.1 (TX5 5).2.2.1 ∈ wsX5_readsShow := by decide +kernel
set_option maxRecDepth 20000 in
theorem fl_X5_readsShow_X5_6 : Cond.fieldLink RX5 145 (TX5 6).1 (TX5 6).2.1 (TX5 6).2.2.1 ∈ wsX5_readsShow := by decide +kernel
set_option maxRecDepth 20000 in
theorem fl_X5_readsShow_X5_14 : Cond.fieldLink RX5 153 (TX5 14).1 (TX5 14).2.1 (TX5 14).2.2.1 ∈ wsX5_readsShow := by decide +kernel
set_option maxRecDepth 20000 in
theorem fl_X5_readsShow_X5_15 : Cond.fieldLink RX5 162 (TX5 15).1 (TX5 15).2.1 (TX5 15).2.2.1 ∈ wsX5_readsShow := by decide +kernel
set_option maxRecDepth 20000 in
theorem fl_X5_readsShow_X5_16 : Cond.fieldLink RX5 168 (TX5 16).1 (TX5 16).2.1 (TX5 16).2.2.1 ∈ wsX5_readsShow := by decide +kernel
set_option maxRecDepth 20000 in
theorem fl_X5_readsShow_X5_17 : Cond.fieldLink RX5 174 (TX5 17).1 (TX5 17).2.1 (TX5 17).2.2.1 ∈ wsX5_readsShow := by decide +kernel
theorem in_X5_isNext_X5 : ∀ x ∈ u_ws RX5 TX5 18, x ∈ wsX5_isNext := fun x h => List.mem_cons_of_mem _ (List.mem_append_right _ h)
set_option maxRecDepth 20000 in
theorem fl_X5_isNext_X5_5 : Cond.fieldLink RX5 22 (TX5 5).1 (TX5 5).2.1 (TX5 5).2.2.1 ∈ wsX5_isNext := by decide +kernel
set_option maxRecDepth 20000 in
theorem fl_X5_isNext_X5_6 : Cond.fieldLink RX5 145 (TX5 6).1 (TX5 6).2.1 (TX5 6).2.2.1 ∈ wsX5_isNext := by decide +kernel
set_option maxRecDepth 20000 in
theorem fl_X5_isNext_X5_14 : Cond.fieldLink RX5 153 (TX5 14).1 (TX5 14).2.1 (TX5 14).2.2.1 ∈ wsX5_isNext := by decide +kernel
theorem in_X5_findFault_X5 : ∀ x ∈ u_ws RX5 TX5 18, x ∈ wsX5_findFault := fun x h => List.mem_cons_of_mem _ (List.mem_append_right _ h)
set_option maxRecDepth 20000 in
theorem fl_X5_findFault_X5_5 : Cond.fieldLink RX5 22 (TX5 5).1 (TX5 5).2.1 (TX5 5).2.2.1 ∈ wsX5_findFault := by decide +kernel
set_option maxRecDepth 20000 in
theorem fl_X5_findFault_X5_6 : Cond.fieldLink RX5 145 (TX5 6).1 (TX5 6).2.1 (TX5 6).2.2.1 ∈ wsX5_findFault := by decide +kernel
set_option maxRecDepth 20000 in
theorem fl_X5_findFault_X5_14 : Cond.fieldLink RX5 153 (TX5 14).1 (TX5 14).2.1 (TX5 14).2.2.1 ∈ wsX5_findFault := by decide +kernel
set_option maxRecDepth 20000 in
theorem fl_X5_findFault_X5_15 : Cond.fieldLink RX5 162 (TX5 15).1 (TX5 15).2.1 (TX5 15).2.2.1 ∈ wsX5_findFault := by decide +kernel
set_option maxRecDepth 20000 in
theorem fl_X5_findFault_X5_16 : Cond.fieldLink RX5 168 (TX5 16).1 (TX5 16).2.1 (TX5 16).2.2.1 ∈ wsX5_findFault := by decide +kernel
set_option maxRecDepth 20000 in
theorem fl_X5_findFault_X5_17 : Cond.fieldLink RX5 174 (TX5 17).1 (TX5 17).2.1 (TX5 17).2.2.1 ∈ wsX5_findFault := by decide +kernel
theorem in_X5_fault_X5 : ∀ x ∈ u_ws RX5 TX5 18, x ∈ wsX5_fault := fun x h => List.mem_cons_of_mem _ (List.mem_append_right _ h)
set_option maxRecDepth 20000 in
theorem fl_X5_fault_X5_5 : Cond.fieldLink RX5 22 (TX5 5).1 (TX5 5).2.1 (TX5 5).2.2.1 ∈ wsX5_fault := by decide +kernel
set_option maxRecDepth 20000 in
theorem fl_X5_fault_X5_6 : Cond.fieldLink RX5 145 (TX5 6).1 (TX5 6).2.1 (TX5 6).2.2.1 ∈ wsX5_fault := by decide +kernel
set_option maxRecDepth 20000 in
theorem fl_X5_fault_X5_14 : Cond.fieldLink RX5 153 (TX5 14).1 (TX5 14).2.1 (TX5 14).2.2.1 ∈ wsX5_fault := by decide +kernel
set_option maxRecDepth 20000 in
theorem fl_X5_fault_X5_15 : Cond.fieldLink RX5 162 (TX5 15).1 (TX5 15).2.1 (TX5 15).2.2.1 ∈ wsX5_fault := by decide +kernel
set_option maxRecDepth 20000 in
theorem fl_X5_fault_X5_16 : Cond.fieldLink RX5 168 (TX5 16).1 (TX5 16).2.1 (TX5 16).2.2.1 ∈ wsX5_fault := by decide +kernel
set_option maxRecDepth 20000 in
theorem fl_X5_fault_X5_17 : Cond.fieldLink RX5 174 (TX5 17).1 (TX5 17).2.1 (TX5 17).2.2.1 ∈ wsX5_fault := by decide +kernel
theorem in_X5_carryOut_X5 : ∀ x ∈ u_ws RX5 TX5 18, x ∈ wsX5_carryOut := fun x h => List.mem_cons_of_mem _ (List.mem_append_right _ h)
set_option maxRecDepth 20000 in
theorem fl_X5_carryOut_X5_0 : Cond.fieldLink RX5 7 (TX5 0).1 (TX5 0).2.1 (TX5 0).2.2.1 ∈ wsX5_carryOut := by decide +kernel
set_option maxRecDepth 20000 in
theorem fl_X5_carryOut_X5_1 : Cond.fieldLink RX5 13 (TX5 1).1 (TX5 1).2.1 (TX5 1).2.2.1 ∈ wsX5_carryOut := by decide +kernel
set_option maxRecDepth 20000 in
theorem fl_X5_carryOut_X5_5 : Cond.fieldLink RX5 22 (TX5 5).1 (TX5 5).2.1 (TX5 5).2.2.1 ∈ wsX5_carryOut := by decide +kernel
set_option maxRecDepth 20000 in
theorem fl_X5_carryOut_X5_2 : Cond.fieldLink RX5 46 (TX5 2).1 (TX5 2).2.1 (TX5 2).2.2.1 ∈ wsX5_carryOut := by decide +kernel
set_option maxRecDepth 20000 in
theorem fl_X5_carryOut_X5_6 : Cond.fieldLink RX5 145 (TX5 6).1 (TX5 6).2.1 (TX5 6).2.2.1 ∈ wsX5_carryOut := by decide +kernel
set_option maxRecDepth 20000 in
theorem fl_X5_carryOut_X5_14 : Cond.fieldLink RX5 153 (TX5 14).1 (TX5 14).2.1 (TX5 14).2.2.1 ∈ wsX5_carryOut := by decide +kernel
set_option maxRecDepth 20000 in
theorem fl_X5_carryOut_X5_15 : Cond.fieldLink RX5 162 (TX5 15).1 (TX5 15).2.1 (TX5 15).2.2.1 ∈ wsX5_carryOut := by decide +kernel
set_option maxRecDepth 20000 in
theorem fl_X5_carryOut_X5_16 : Cond.fieldLink RX5 168 (TX5 16).1 (TX5 16).2.1 (TX5 16).2.2.1 ∈ wsX5_carryOut := by decide +kernel
set_option maxRecDepth 20000 in
theorem fl_X5_carryOut_X5_17 : Cond.fieldLink RX5 174 (TX5 17).1 (TX5 17).2.1 (TX5 17).2.2.1 ∈ wsX5_carryOut := by decide +kernel
theorem in_X5_undo_X5 : ∀ x ∈ u_ws RX5 TX5 18, x ∈ wsX5_undo := fun x h => List.mem_cons_of_mem _ (List.mem_append_right _ h)
set_option maxRecDepth 20000 in
theorem fl_X5_undo_X5_0 : Cond.fieldLink RX5 7 (TX5 0).1 (TX5 0).2.1 (TX5 0).2.2.1 ∈ wsX5_undo := by decide +kernel
set_option maxRecDepth 20000 in
theorem fl_X5_undo_X5_1 : Cond.fieldLink RX5 13 (TX5 1).1 (TX5 1).2.1 (TX5 1).2.2.1 ∈ wsX5_undo := by decide +kernel
set_option maxRecDepth 20000 in
theorem fl_X5_undo_X5_2 : Cond.fieldLink RX5 46 (TX5 2).1 (TX5 2).2.1 (TX5 2).2.2.1 ∈ wsX5_undo := by decide +kernel
theorem in_X5_showsMany_X5 : ∀ x ∈ u_ws RX5 TX5 18, x ∈ wsX5_showsMany := fun x h => List.mem_cons_of_mem _ (List.mem_append_right _ h)
set_option maxRecDepth 20000 in
theorem fl_X5_showsMany_X5_0 : Cond.fieldLink RX5 7 (TX5 0).1 (TX5 0).2.1 (TX5 0).2.2.1 ∈ wsX5_showsMany := by decide +kernel
theorem in_X5_save_X5 : ∀ x ∈ u_ws RX5 TX5 18, x ∈ wsX5_save := fun x h => List.mem_cons_of_mem _ (List.mem_append_right _ h)
set_option maxRecDepth 20000 in
theorem fl_X5_save_X5_0 : Cond.fieldLink RX5 7 (TX5 0).1 (TX5 0).2.1 (TX5 0).2.2.1 ∈ wsX5_save := by decide +kernel
set_option maxRecDepth 20000 in
theorem fl_X5_save_X5_3 : Cond.fieldLink RX5 16 (TX5 3).1 (TX5 3).2.1 (TX5 3).2.2.1 ∈ wsX5_save := by decide +kernel
set_option maxRecDepth 20000 in
theorem fl_X5_save_X5_4 : Cond.fieldLink RX5 19 (TX5 4).1 (TX5 4).2.1 (TX5 4).2.2.1 ∈ wsX5_save := by decide +kernel
theorem in_X5_restore_X5 : ∀ x ∈ u_ws RX5 TX5 18, x ∈ wsX5_restore := fun x h => List.mem_cons_of_mem _ (List.mem_append_right _ h)
set_option maxRecDepth 20000 in
theorem fl_X5_restore_X5_0 : Cond.fieldLink RX5 7 (TX5 0).1 (TX5 0).2.1 (TX5 0).2.2.1 ∈ wsX5_restore := by decide +kernel
set_option maxRecDepth 20000 in
theorem fl_X5_restore_X5_1 : Cond.fieldLink RX5 13 (TX5 1).1 (TX5 1).2.1 (TX5 1).2.2.1 ∈ wsX5_restore := by decide +kernel
set_option maxRecDepth 20000 in
theorem fl_X5_restore_X5_3 : Cond.fieldLink RX5 16 (TX5 3).1 (TX5 3).2.1 (TX5 3).2.2.1 ∈ wsX5_restore := by decide +kernel
set_option maxRecDepth 20000 in
theorem fl_X5_restore_X5_4 : Cond.fieldLink RX5 19 (TX5 4).1 (TX5 4).2.1 (TX5 4).2.2.1 ∈ wsX5_restore := by decide +kernel
set_option maxRecDepth 20000 in
theorem fl_X5_restore_X5_2 : Cond.fieldLink RX5 46 (TX5 2).1 (TX5 2).2.1 (TX5 2).2.2.1 ∈ wsX5_restore := by decide +kernel
theorem hd_X0_init : yX0_init.cls = RX0 ∧ yX0_init.cls ≠ "java/lang/invoke/MethodHandle" ∧ yX0_init.cls ≠ "java/lang/invoke/VarHandle" ∧ (parseMethodDescriptor yX0_init.desc).map (fun d => d.parameters.length) = some 0 := by decide +kernel
theorem hd_X0_follow : yX0_follow.cls = RX0 ∧ yX0_follow.cls ≠ "java/lang/invoke/MethodHandle" ∧ yX0_follow.cls ≠ "java/lang/invoke/VarHandle" ∧ (parseMethodDescriptor yX0_follow.desc).map (fun d => d.parameters.length) = some 2 := by decide +kernel
theorem hd_X0_followWeek : yX0_followWeek.cls = RX0 ∧ yX0_followWeek.cls ≠ "java/lang/invoke/MethodHandle" ∧ yX0_followWeek.cls ≠ "java/lang/invoke/VarHandle" ∧ (parseMethodDescriptor yX0_followWeek.desc).map (fun d => d.parameters.length) = some 4 := by decide +kernel
theorem hd_X0_peopleOf : yX0_peopleOf.cls = RX0 ∧ yX0_peopleOf.cls ≠ "java/lang/invoke/MethodHandle" ∧ yX0_peopleOf.cls ≠ "java/lang/invoke/VarHandle" ∧ (parseMethodDescriptor yX0_peopleOf.desc).map (fun d => d.parameters.length) = some 3 := by decide +kernel
theorem hd_X0_nextShare : yX0_nextShare.cls = RX0 ∧ yX0_nextShare.cls ≠ "java/lang/invoke/MethodHandle" ∧ yX0_nextShare.cls ≠ "java/lang/invoke/VarHandle" ∧ (parseMethodDescriptor yX0_nextShare.desc).map (fun d => d.parameters.length) = some 3 := by decide +kernel
theorem hd_X0_reckonWeek : yX0_reckonWeek.cls = RX0 ∧ yX0_reckonWeek.cls ≠ "java/lang/invoke/MethodHandle" ∧ yX0_reckonWeek.cls ≠ "java/lang/invoke/VarHandle" ∧ (parseMethodDescriptor yX0_reckonWeek.desc).map (fun d => d.parameters.length) = some 3 := by decide +kernel
theorem hd_X0_shareOfTakings : yX0_shareOfTakings.cls = RX0 ∧ yX0_shareOfTakings.cls ≠ "java/lang/invoke/MethodHandle" ∧ yX0_shareOfTakings.cls ≠ "java/lang/invoke/VarHandle" ∧ (parseMethodDescriptor yX0_shareOfTakings.desc).map (fun d => d.parameters.length) = some 1 := by decide +kernel
theorem hd_X0_dueAboveShare : yX0_dueAboveShare.cls = RX0 ∧ yX0_dueAboveShare.cls ≠ "java/lang/invoke/MethodHandle" ∧ yX0_dueAboveShare.cls ≠ "java/lang/invoke/VarHandle" ∧ (parseMethodDescriptor yX0_dueAboveShare.desc).map (fun d => d.parameters.length) = some 1 := by decide +kernel
theorem hd_X0_sumOfWeek : yX0_sumOfWeek.cls = RX0 ∧ yX0_sumOfWeek.cls ≠ "java/lang/invoke/MethodHandle" ∧ yX0_sumOfWeek.cls ≠ "java/lang/invoke/VarHandle" ∧ (parseMethodDescriptor yX0_sumOfWeek.desc).map (fun d => d.parameters.length) = some 2 := by decide +kernel
theorem hd_X0_sum : yX0_sum.cls = RX0 ∧ yX0_sum.cls ≠ "java/lang/invoke/MethodHandle" ∧ yX0_sum.cls ≠ "java/lang/invoke/VarHandle" ∧ (parseMethodDescriptor yX0_sum.desc).map (fun d => d.parameters.length) = some 1 := by decide +kernel
theorem hd_X0_shareIn : yX0_shareIn.cls = RX0 ∧ yX0_shareIn.cls ≠ "java/lang/invoke/MethodHandle" ∧ yX0_shareIn.cls ≠ "java/lang/invoke/VarHandle" ∧ (parseMethodDescriptor yX0_shareIn.desc).map (fun d => d.parameters.length) = some 1 := by decide +kernel
theorem hd_X0_peopleAt : yX0_peopleAt.cls = RX0 ∧ yX0_peopleAt.cls ≠ "java/lang/invoke/MethodHandle" ∧ yX0_peopleAt.cls ≠ "java/lang/invoke/VarHandle" ∧ (parseMethodDescriptor yX0_peopleAt.desc).map (fun d => d.parameters.length) = some 1 := by decide +kernel
theorem hd_X0_leftBehind : yX0_leftBehind.cls = RX0 ∧ yX0_leftBehind.cls ≠ "java/lang/invoke/MethodHandle" ∧ yX0_leftBehind.cls ≠ "java/lang/invoke/VarHandle" ∧ (parseMethodDescriptor yX0_leftBehind.desc).map (fun d => d.parameters.length) = some 1 := by decide +kernel
theorem hd_X0_fullShows : yX0_fullShows.cls = RX0 ∧ yX0_fullShows.cls ≠ "java/lang/invoke/MethodHandle" ∧ yX0_fullShows.cls ≠ "java/lang/invoke/VarHandle" ∧ (parseMethodDescriptor yX0_fullShows.desc).map (fun d => d.parameters.length) = some 0 := by decide +kernel
theorem hd_X0_leftAtEnd : yX0_leftAtEnd.cls = RX0 ∧ yX0_leftAtEnd.cls ≠ "java/lang/invoke/MethodHandle" ∧ yX0_leftAtEnd.cls ≠ "java/lang/invoke/VarHandle" ∧ (parseMethodDescriptor yX0_leftAtEnd.desc).map (fun d => d.parameters.length) = some 0 := by decide +kernel
theorem hd_X1_init : yX1_init.cls = RX1 ∧ yX1_init.cls ≠ "java/lang/invoke/MethodHandle" ∧ yX1_init.cls ≠ "java/lang/invoke/VarHandle" ∧ (parseMethodDescriptor yX1_init.desc).map (fun d => d.parameters.length) = some 0 := by decide +kernel
theorem hd_X1_copyTo : yX1_copyTo.cls = RX1 ∧ yX1_copyTo.cls ≠ "java/lang/invoke/MethodHandle" ∧ yX1_copyTo.cls ≠ "java/lang/invoke/VarHandle" ∧ (parseMethodDescriptor yX1_copyTo.desc).map (fun d => d.parameters.length) = some 1 := by decide +kernel
theorem hd_X1_copyFrom : yX1_copyFrom.cls = RX1 ∧ yX1_copyFrom.cls ≠ "java/lang/invoke/MethodHandle" ∧ yX1_copyFrom.cls ≠ "java/lang/invoke/VarHandle" ∧ (parseMethodDescriptor yX1_copyFrom.desc).map (fun d => d.parameters.length) = some 1 := by decide +kernel
theorem hd_X1_setting : yX1_setting.cls = RX1 ∧ yX1_setting.cls ≠ "java/lang/invoke/MethodHandle" ∧ yX1_setting.cls ≠ "java/lang/invoke/VarHandle" ∧ (parseMethodDescriptor yX1_setting.desc).map (fun d => d.parameters.length) = some 1 := by decide +kernel
theorem hd_X1_changeSetting : yX1_changeSetting.cls = RX1 ∧ yX1_changeSetting.cls ≠ "java/lang/invoke/MethodHandle" ∧ yX1_changeSetting.cls ≠ "java/lang/invoke/VarHandle" ∧ (parseMethodDescriptor yX1_changeSetting.desc).map (fun d => d.parameters.length) = some 2 := by decide +kernel
theorem hd_X1_films : yX1_films.cls = RX1 ∧ yX1_films.cls ≠ "java/lang/invoke/MethodHandle" ∧ yX1_films.cls ≠ "java/lang/invoke/VarHandle" ∧ (parseMethodDescriptor yX1_films.desc).map (fun d => d.parameters.length) = some 0 := by decide +kernel
theorem hd_X1_hasFilm : yX1_hasFilm.cls = RX1 ∧ yX1_hasFilm.cls ≠ "java/lang/invoke/MethodHandle" ∧ yX1_hasFilm.cls ≠ "java/lang/invoke/VarHandle" ∧ (parseMethodDescriptor yX1_hasFilm.desc).map (fun d => d.parameters.length) = some 1 := by decide +kernel
theorem hd_X1_addFilm : yX1_addFilm.cls = RX1 ∧ yX1_addFilm.cls ≠ "java/lang/invoke/MethodHandle" ∧ yX1_addFilm.cls ≠ "java/lang/invoke/VarHandle" ∧ (parseMethodDescriptor yX1_addFilm.desc).map (fun d => d.parameters.length) = some 5 := by decide +kernel
theorem hd_X1_fact : yX1_fact.cls = RX1 ∧ yX1_fact.cls ≠ "java/lang/invoke/MethodHandle" ∧ yX1_fact.cls ≠ "java/lang/invoke/VarHandle" ∧ (parseMethodDescriptor yX1_fact.desc).map (fun d => d.parameters.length) = some 2 := by decide +kernel
theorem hd_X1_showAt : yX1_showAt.cls = RX1 ∧ yX1_showAt.cls ≠ "java/lang/invoke/MethodHandle" ∧ yX1_showAt.cls ≠ "java/lang/invoke/VarHandle" ∧ (parseMethodDescriptor yX1_showAt.desc).map (fun d => d.parameters.length) = some 1 := by decide +kernel
theorem hd_X1_replaceShow : yX1_replaceShow.cls = RX1 ∧ yX1_replaceShow.cls ≠ "java/lang/invoke/MethodHandle" ∧ yX1_replaceShow.cls ≠ "java/lang/invoke/VarHandle" ∧ (parseMethodDescriptor yX1_replaceShow.desc).map (fun d => d.parameters.length) = some 2 := by decide +kernel
theorem hd_X1_canHold : yX1_canHold.cls = RX1 ∧ yX1_canHold.cls ≠ "java/lang/invoke/MethodHandle" ∧ yX1_canHold.cls ≠ "java/lang/invoke/VarHandle" ∧ (parseMethodDescriptor yX1_canHold.desc).map (fun d => d.parameters.length) = some 2 := by decide +kernel
theorem hd_X1_shows : yX1_shows.cls = RX1 ∧ yX1_shows.cls ≠ "java/lang/invoke/MethodHandle" ∧ yX1_shows.cls ≠ "java/lang/invoke/VarHandle" ∧ (parseMethodDescriptor yX1_shows.desc).map (fun d => d.parameters.length) = some 0 := by decide +kernel
theorem hd_X1_firstDayShown : yX1_firstDayShown.cls = RX1 ∧ yX1_firstDayShown.cls ≠ "java/lang/invoke/MethodHandle" ∧ yX1_firstDayShown.cls ≠ "java/lang/invoke/VarHandle" ∧ (parseMethodDescriptor yX1_firstDayShown.desc).map (fun d => d.parameters.length) = some 1 := by decide +kernel
theorem hd_X1_rentOf : yX1_rentOf.cls = RX1 ∧ yX1_rentOf.cls ≠ "java/lang/invoke/MethodHandle" ∧ yX1_rentOf.cls ≠ "java/lang/invoke/VarHandle" ∧ (parseMethodDescriptor yX1_rentOf.desc).map (fun d => d.parameters.length) = some 1 := by decide +kernel
theorem hd_X1_changeRent : yX1_changeRent.cls = RX1 ∧ yX1_changeRent.cls ≠ "java/lang/invoke/MethodHandle" ∧ yX1_changeRent.cls ≠ "java/lang/invoke/VarHandle" ∧ (parseMethodDescriptor yX1_changeRent.desc).map (fun d => d.parameters.length) = some 2 := by decide +kernel
theorem hd_X1_rentsOf : yX1_rentsOf.cls = RX1 ∧ yX1_rentsOf.cls ≠ "java/lang/invoke/MethodHandle" ∧ yX1_rentsOf.cls ≠ "java/lang/invoke/VarHandle" ∧ (parseMethodDescriptor yX1_rentsOf.desc).map (fun d => d.parameters.length) = some 2 := by decide +kernel
theorem hd_X2_init : yX2_init.cls = RX2 ∧ yX2_init.cls ≠ "java/lang/invoke/MethodHandle" ∧ yX2_init.cls ≠ "java/lang/invoke/VarHandle" ∧ (parseMethodDescriptor yX2_init.desc).map (fun d => d.parameters.length) = some 0 := by decide +kernel
theorem hd_X2_size : yX2_size.cls = RX2 ∧ yX2_size.cls ≠ "java/lang/invoke/MethodHandle" ∧ yX2_size.cls ≠ "java/lang/invoke/VarHandle" ∧ (parseMethodDescriptor yX2_size.desc).map (fun d => d.parameters.length) = some 0 := by decide +kernel
theorem hd_X2_record : yX2_record.cls = RX2 ∧ yX2_record.cls ≠ "java/lang/invoke/MethodHandle" ∧ yX2_record.cls ≠ "java/lang/invoke/VarHandle" ∧ (parseMethodDescriptor yX2_record.desc).map (fun d => d.parameters.length) = some 1 := by decide +kernel
theorem hd_X2_takeBack : yX2_takeBack.cls = RX2 ∧ yX2_takeBack.cls ≠ "java/lang/invoke/MethodHandle" ∧ yX2_takeBack.cls ≠ "java/lang/invoke/VarHandle" ∧ (parseMethodDescriptor yX2_takeBack.desc).map (fun d => d.parameters.length) = some 1 := by decide +kernel
theorem hd_X3_init : yX3_init.cls = RX3 ∧ yX3_init.cls ≠ "java/lang/invoke/MethodHandle" ∧ yX3_init.cls ≠ "java/lang/invoke/VarHandle" ∧ (parseMethodDescriptor yX3_init.desc).map (fun d => d.parameters.length) = some 0 := by decide +kernel
theorem hd_X3_length : yX3_length.cls = RX3 ∧ yX3_length.cls ≠ "java/lang/invoke/MethodHandle" ∧ yX3_length.cls ≠ "java/lang/invoke/VarHandle" ∧ (parseMethodDescriptor yX3_length.desc).map (fun d => d.parameters.length) = some 0 := by decide +kernel
theorem hd_X3_empty : yX3_empty.cls = RX3 ∧ yX3_empty.cls ≠ "java/lang/invoke/MethodHandle" ∧ yX3_empty.cls ≠ "java/lang/invoke/VarHandle" ∧ (parseMethodDescriptor yX3_empty.desc).map (fun d => d.parameters.length) = some 0 := by decide +kernel
theorem hd_X3_append : yX3_append.cls = RX3 ∧ yX3_append.cls ≠ "java/lang/invoke/MethodHandle" ∧ yX3_append.cls ≠ "java/lang/invoke/VarHandle" ∧ (parseMethodDescriptor yX3_append.desc).map (fun d => d.parameters.length) = some 1 := by decide +kernel
theorem hd_X3_charactersIn : yX3_charactersIn.cls = RX3 ∧ yX3_charactersIn.cls ≠ "java/lang/invoke/MethodHandle" ∧ yX3_charactersIn.cls ≠ "java/lang/invoke/VarHandle" ∧ (parseMethodDescriptor yX3_charactersIn.desc).map (fun d => d.parameters.length) = some 1 := by decide +kernel
theorem hd_X3_firstFault : yX3_firstFault.cls = RX3 ∧ yX3_firstFault.cls ≠ "java/lang/invoke/MethodHandle" ∧ yX3_firstFault.cls ≠ "java/lang/invoke/VarHandle" ∧ (parseMethodDescriptor yX3_firstFault.desc).map (fun d => d.parameters.length) = some 0 := by decide +kernel
theorem hd_X3_behind : yX3_behind.cls = RX3 ∧ yX3_behind.cls ≠ "java/lang/invoke/MethodHandle" ∧ yX3_behind.cls ≠ "java/lang/invoke/VarHandle" ∧ (parseMethodDescriptor yX3_behind.desc).map (fun d => d.parameters.length) = some 2 := by decide +kernel
theorem hd_X3_behindFirstDigit : yX3_behindFirstDigit.cls = RX3 ∧ yX3_behindFirstDigit.cls ≠ "java/lang/invoke/MethodHandle" ∧ yX3_behindFirstDigit.cls ≠ "java/lang/invoke/VarHandle" ∧ (parseMethodDescriptor yX3_behindFirstDigit.desc).map (fun d => d.parameters.length) = some 1 := by decide +kernel
theorem hd_X3_behindDay : yX3_behindDay.cls = RX3 ∧ yX3_behindDay.cls ≠ "java/lang/invoke/MethodHandle" ∧ yX3_behindDay.cls ≠ "java/lang/invoke/VarHandle" ∧ (parseMethodDescriptor yX3_behindDay.desc).map (fun d => d.parameters.length) = some 1 := by decide +kernel
theorem hd_X3_isBetween : yX3_isBetween.cls = RX3 ∧ yX3_isBetween.cls ≠ "java/lang/invoke/MethodHandle" ∧ yX3_isBetween.cls ≠ "java/lang/invoke/VarHandle" ∧ (parseMethodDescriptor yX3_isBetween.desc).map (fun d => d.parameters.length) = some 3 := by decide +kernel
theorem hd_X3_characterAt : yX3_characterAt.cls = RX3 ∧ yX3_characterAt.cls ≠ "java/lang/invoke/MethodHandle" ∧ yX3_characterAt.cls ≠ "java/lang/invoke/VarHandle" ∧ (parseMethodDescriptor yX3_characterAt.desc).map (fun d => d.parameters.length) = some 1 := by decide +kernel
theorem hd_X3_endOfShow : yX3_endOfShow.cls = RX3 ∧ yX3_endOfShow.cls ≠ "java/lang/invoke/MethodHandle" ∧ yX3_endOfShow.cls ≠ "java/lang/invoke/VarHandle" ∧ (parseMethodDescriptor yX3_endOfShow.desc).map (fun d => d.parameters.length) = some 1 := by decide +kernel
theorem hd_X3_filmAt : yX3_filmAt.cls = RX3 ∧ yX3_filmAt.cls ≠ "java/lang/invoke/MethodHandle" ∧ yX3_filmAt.cls ≠ "java/lang/invoke/VarHandle" ∧ (parseMethodDescriptor yX3_filmAt.desc).map (fun d => d.parameters.length) = some 1 := by decide +kernel
theorem hd_X3_partAt : yX3_partAt.cls = RX3 ∧ yX3_partAt.cls ≠ "java/lang/invoke/MethodHandle" ∧ yX3_partAt.cls ≠ "java/lang/invoke/VarHandle" ∧ (parseMethodDescriptor yX3_partAt.desc).map (fun d => d.parameters.length) = some 1 := by decide +kernel
theorem hd_X3_dayAt : yX3_dayAt.cls = RX3 ∧ yX3_dayAt.cls ≠ "java/lang/invoke/MethodHandle" ∧ yX3_dayAt.cls ≠ "java/lang/invoke/VarHandle" ∧ (parseMethodDescriptor yX3_dayAt.desc).map (fun d => d.parameters.length) = some 2 := by decide +kernel
theorem hd_X4_init : yX4_init.cls = RX4 ∧ yX4_init.cls ≠ "java/lang/invoke/MethodHandle" ∧ yX4_init.cls ≠ "java/lang/invoke/VarHandle" ∧ (parseMethodDescriptor yX4_init.desc).map (fun d => d.parameters.length) = some 0 := by decide +kernel
theorem hd_X4_set : yX4_set.cls = RX4 ∧ yX4_set.cls ≠ "java/lang/invoke/MethodHandle" ∧ yX4_set.cls ≠ "java/lang/invoke/VarHandle" ∧ (parseMethodDescriptor yX4_set.desc).map (fun d => d.parameters.length) = some 2 := by decide +kernel
theorem hd_X4_film : yX4_film.cls = RX4 ∧ yX4_film.cls ≠ "java/lang/invoke/MethodHandle" ∧ yX4_film.cls ≠ "java/lang/invoke/VarHandle" ∧ (parseMethodDescriptor yX4_film.desc).map (fun d => d.parameters.length) = some 5 := by decide +kernel
theorem hd_X4_show : yX4_show.cls = RX4 ∧ yX4_show.cls ≠ "java/lang/invoke/MethodHandle" ∧ yX4_show.cls ≠ "java/lang/invoke/VarHandle" ∧ (parseMethodDescriptor yX4_show.desc).map (fun d => d.parameters.length) = some 3 := by decide +kernel
theorem hd_X4_drop : yX4_drop.cls = RX4 ∧ yX4_drop.cls ≠ "java/lang/invoke/MethodHandle" ∧ yX4_drop.cls ≠ "java/lang/invoke/VarHandle" ∧ (parseMethodDescriptor yX4_drop.desc).map (fun d => d.parameters.length) = some 2 := by decide +kernel
theorem hd_X4_exchange : yX4_exchange.cls = RX4 ∧ yX4_exchange.cls ≠ "java/lang/invoke/MethodHandle" ∧ yX4_exchange.cls ≠ "java/lang/invoke/VarHandle" ∧ (parseMethodDescriptor yX4_exchange.desc).map (fun d => d.parameters.length) = some 4 := by decide +kernel
theorem hd_X4_let : yX4_let.cls = RX4 ∧ yX4_let.cls ≠ "java/lang/invoke/MethodHandle" ∧ yX4_let.cls ≠ "java/lang/invoke/VarHandle" ∧ (parseMethodDescriptor yX4_let.desc).map (fun d => d.parameters.length) = some 2 := by decide +kernel
theorem hd_X4_carryOut : yX4_carryOut.cls = RX4 ∧ yX4_carryOut.cls ≠ "java/lang/invoke/MethodHandle" ∧ yX4_carryOut.cls ≠ "java/lang/invoke/VarHandle" ∧ (parseMethodDescriptor yX4_carryOut.desc).map (fun d => d.parameters.length) = some 0 := by decide +kernel
theorem hd_X4_at : yX4_at.cls = RX4 ∧ yX4_at.cls ≠ "java/lang/invoke/MethodHandle" ∧ yX4_at.cls ≠ "java/lang/invoke/VarHandle" ∧ (parseMethodDescriptor yX4_at.desc).map (fun d => d.parameters.length) = some 3 := by decide +kernel
theorem hd_X4_of : yX4_of.cls = RX4 ∧ yX4_of.cls ≠ "java/lang/invoke/MethodHandle" ∧ yX4_of.cls ≠ "java/lang/invoke/VarHandle" ∧ (parseMethodDescriptor yX4_of.desc).map (fun d => d.parameters.length) = some 2 := by decide +kernel
theorem hd_X4_inWeek : yX4_inWeek.cls = RX4 ∧ yX4_inWeek.cls ≠ "java/lang/invoke/MethodHandle" ∧ yX4_inWeek.cls ≠ "java/lang/invoke/VarHandle" ∧ (parseMethodDescriptor yX4_inWeek.desc).map (fun d => d.parameters.length) = some 3 := by decide +kernel
theorem hd_X4_week : yX4_week.cls = RX4 ∧ yX4_week.cls ≠ "java/lang/invoke/MethodHandle" ∧ yX4_week.cls ≠ "java/lang/invoke/VarHandle" ∧ (parseMethodDescriptor yX4_week.desc).map (fun d => d.parameters.length) = some 2 := by decide +kernel
theorem hd_X4_distributor : yX4_distributor.cls = RX4 ∧ yX4_distributor.cls ≠ "java/lang/invoke/MethodHandle" ∧ yX4_distributor.cls ≠ "java/lang/invoke/VarHandle" ∧ (parseMethodDescriptor yX4_distributor.desc).map (fun d => d.parameters.length) = some 2 := by decide +kernel
theorem hd_X4_rent : yX4_rent.cls = RX4 ∧ yX4_rent.cls ≠ "java/lang/invoke/MethodHandle" ∧ yX4_rent.cls ≠ "java/lang/invoke/VarHandle" ∧ (parseMethodDescriptor yX4_rent.desc).map (fun d => d.parameters.length) = some 1 := by decide +kernel
theorem hd_X4_count : yX4_count.cls = RX4 ∧ yX4_count.cls ≠ "java/lang/invoke/MethodHandle" ∧ yX4_count.cls ≠ "java/lang/invoke/VarHandle" ∧ (parseMethodDescriptor yX4_count.desc).map (fun d => d.parameters.length) = some 1 := by decide +kernel
theorem hd_X4_ifShown : yX4_ifShown.cls = RX4 ∧ yX4_ifShown.cls ≠ "java/lang/invoke/MethodHandle" ∧ yX4_ifShown.cls ≠ "java/lang/invoke/VarHandle" ∧ (parseMethodDescriptor yX4_ifShown.desc).map (fun d => d.parameters.length) = some 3 := by decide +kernel
theorem hd_X4_bestFilm : yX4_bestFilm.cls = RX4 ∧ yX4_bestFilm.cls ≠ "java/lang/invoke/MethodHandle" ∧ yX4_bestFilm.cls ≠ "java/lang/invoke/VarHandle" ∧ (parseMethodDescriptor yX4_bestFilm.desc).map (fun d => d.parameters.length) = some 3 := by decide +kernel
theorem hd_X4_worstShow : yX4_worstShow.cls = RX4 ∧ yX4_worstShow.cls ≠ "java/lang/invoke/MethodHandle" ∧ yX4_worstShow.cls ≠ "java/lang/invoke/VarHandle" ∧ (parseMethodDescriptor yX4_worstShow.desc).map (fun d => d.parameters.length) = some 1 := by decide +kernel
theorem hd_X4_priceFor : yX4_priceFor.cls = RX4 ∧ yX4_priceFor.cls ≠ "java/lang/invoke/MethodHandle" ∧ yX4_priceFor.cls ≠ "java/lang/invoke/VarHandle" ∧ (parseMethodDescriptor yX4_priceFor.desc).map (fun d => d.parameters.length) = some 3 := by decide +kernel
theorem hd_X4_put : yX4_put.cls = RX4 ∧ yX4_put.cls ≠ "java/lang/invoke/MethodHandle" ∧ yX4_put.cls ≠ "java/lang/invoke/VarHandle" ∧ (parseMethodDescriptor yX4_put.desc).map (fun d => d.parameters.length) = some 1 := by decide +kernel
theorem hd_X4_wipe : yX4_wipe.cls = RX4 ∧ yX4_wipe.cls ≠ "java/lang/invoke/MethodHandle" ∧ yX4_wipe.cls ≠ "java/lang/invoke/VarHandle" ∧ (parseMethodDescriptor yX4_wipe.desc).map (fun d => d.parameters.length) = some 0 := by decide +kernel
theorem hd_X4_fault : yX4_fault.cls = RX4 ∧ yX4_fault.cls ≠ "java/lang/invoke/MethodHandle" ∧ yX4_fault.cls ≠ "java/lang/invoke/VarHandle" ∧ (parseMethodDescriptor yX4_fault.desc).map (fun d => d.parameters.length) = some 0 := by decide +kernel
theorem hd_X4_undo : yX4_undo.cls = RX4 ∧ yX4_undo.cls ≠ "java/lang/invoke/MethodHandle" ∧ yX4_undo.cls ≠ "java/lang/invoke/VarHandle" ∧ (parseMethodDescriptor yX4_undo.desc).map (fun d => d.parameters.length) = some 0 := by decide +kernel
theorem hd_X4_save : yX4_save.cls = RX4 ∧ yX4_save.cls ≠ "java/lang/invoke/MethodHandle" ∧ yX4_save.cls ≠ "java/lang/invoke/VarHandle" ∧ (parseMethodDescriptor yX4_save.desc).map (fun d => d.parameters.length) = some 1 := by decide +kernel
theorem hd_X4_restore : yX4_restore.cls = RX4 ∧ yX4_restore.cls ≠ "java/lang/invoke/MethodHandle" ∧ yX4_restore.cls ≠ "java/lang/invoke/VarHandle" ∧ (parseMethodDescriptor yX4_restore.desc).map (fun d => d.parameters.length) = some 1 := by decide +kernel
theorem hd_X4_isWithin : yX4_isWithin.cls = RX4 ∧ yX4_isWithin.cls ≠ "java/lang/invoke/MethodHandle" ∧ yX4_isWithin.cls ≠ "java/lang/invoke/VarHandle" ∧ (parseMethodDescriptor yX4_isWithin.desc).map (fun d => d.parameters.length) = some 3 := by decide +kernel
theorem hd_X4_isDay : yX4_isDay.cls = RX4 ∧ yX4_isDay.cls ≠ "java/lang/invoke/MethodHandle" ∧ yX4_isDay.cls ≠ "java/lang/invoke/VarHandle" ∧ (parseMethodDescriptor yX4_isDay.desc).map (fun d => d.parameters.length) = some 1 := by decide +kernel
theorem hd_X4_isWeek : yX4_isWeek.cls = RX4 ∧ yX4_isWeek.cls ≠ "java/lang/invoke/MethodHandle" ∧ yX4_isWeek.cls ≠ "java/lang/invoke/VarHandle" ∧ (parseMethodDescriptor yX4_isWeek.desc).map (fun d => d.parameters.length) = some 1 := by decide +kernel
theorem hd_X4_isPlace : yX4_isPlace.cls = RX4 ∧ yX4_isPlace.cls ≠ "java/lang/invoke/MethodHandle" ∧ yX4_isPlace.cls ≠ "java/lang/invoke/VarHandle" ∧ (parseMethodDescriptor yX4_isPlace.desc).map (fun d => d.parameters.length) = some 2 := by decide +kernel
theorem hd_X4_placeOf : yX4_placeOf.cls = RX4 ∧ yX4_placeOf.cls ≠ "java/lang/invoke/MethodHandle" ∧ yX4_placeOf.cls ≠ "java/lang/invoke/VarHandle" ∧ (parseMethodDescriptor yX4_placeOf.desc).map (fun d => d.parameters.length) = some 2 := by decide +kernel
theorem hd_X4_errorOfShow : yX4_errorOfShow.cls = RX4 ∧ yX4_errorOfShow.cls ≠ "java/lang/invoke/MethodHandle" ∧ yX4_errorOfShow.cls ≠ "java/lang/invoke/VarHandle" ∧ (parseMethodDescriptor yX4_errorOfShow.desc).map (fun d => d.parameters.length) = some 3 := by decide +kernel
theorem hd_X4_dropShowsOfDay : yX4_dropShowsOfDay.cls = RX4 ∧ yX4_dropShowsOfDay.cls ≠ "java/lang/invoke/MethodHandle" ∧ yX4_dropShowsOfDay.cls ≠ "java/lang/invoke/VarHandle" ∧ (parseMethodDescriptor yX4_dropShowsOfDay.desc).map (fun d => d.parameters.length) = some 1 := by decide +kernel
theorem hd_X4_putInShowsOfPad : yX4_putInShowsOfPad.cls = RX4 ∧ yX4_putInShowsOfPad.cls ≠ "java/lang/invoke/MethodHandle" ∧ yX4_putInShowsOfPad.cls ≠ "java/lang/invoke/VarHandle" ∧ (parseMethodDescriptor yX4_putInShowsOfPad.desc).map (fun d => d.parameters.length) = some 0 := by decide +kernel
theorem hd_X4_sumOfFilm : yX4_sumOfFilm.cls = RX4 ∧ yX4_sumOfFilm.cls ≠ "java/lang/invoke/MethodHandle" ∧ yX4_sumOfFilm.cls ≠ "java/lang/invoke/VarHandle" ∧ (parseMethodDescriptor yX4_sumOfFilm.desc).map (fun d => d.parameters.length) = some 2 := by decide +kernel
theorem hd_X4_sumOfFilms : yX4_sumOfFilms.cls = RX4 ∧ yX4_sumOfFilms.cls ≠ "java/lang/invoke/MethodHandle" ∧ yX4_sumOfFilms.cls ≠ "java/lang/invoke/VarHandle" ∧ (parseMethodDescriptor yX4_sumOfFilms.desc).map (fun d => d.parameters.length) = some 1 := by decide +kernel
theorem hd_X4_sumOfFilmsInWeek : yX4_sumOfFilmsInWeek.cls = RX4 ∧ yX4_sumOfFilmsInWeek.cls ≠ "java/lang/invoke/MethodHandle" ∧ yX4_sumOfFilmsInWeek.cls ≠ "java/lang/invoke/VarHandle" ∧ (parseMethodDescriptor yX4_sumOfFilmsInWeek.desc).map (fun d => d.parameters.length) = some 2 := by decide +kernel
theorem hd_X4_fullShows : yX4_fullShows.cls = RX4 ∧ yX4_fullShows.cls ≠ "java/lang/invoke/MethodHandle" ∧ yX4_fullShows.cls ≠ "java/lang/invoke/VarHandle" ∧ (parseMethodDescriptor yX4_fullShows.desc).map (fun d => d.parameters.length) = some 0 := by decide +kernel
theorem hd_X4_leftOfFilm : yX4_leftOfFilm.cls = RX4 ∧ yX4_leftOfFilm.cls ≠ "java/lang/invoke/MethodHandle" ∧ yX4_leftOfFilm.cls ≠ "java/lang/invoke/VarHandle" ∧ (parseMethodDescriptor yX4_leftOfFilm.desc).map (fun d => d.parameters.length) = some 1 := by decide +kernel
theorem hd_X4_gainWith : yX4_gainWith.cls = RX4 ∧ yX4_gainWith.cls ≠ "java/lang/invoke/MethodHandle" ∧ yX4_gainWith.cls ≠ "java/lang/invoke/VarHandle" ∧ (parseMethodDescriptor yX4_gainWith.desc).map (fun d => d.parameters.length) = some 2 := by decide +kernel
theorem hd_X5_init : yX5_init.cls = RX5 ∧ yX5_init.cls ≠ "java/lang/invoke/MethodHandle" ∧ yX5_init.cls ≠ "java/lang/invoke/VarHandle" ∧ (parseMethodDescriptor yX5_init.desc).map (fun d => d.parameters.length) = some 0 := by decide +kernel
theorem hd_X5_moves : yX5_moves.cls = RX5 ∧ yX5_moves.cls ≠ "java/lang/invoke/MethodHandle" ∧ yX5_moves.cls ≠ "java/lang/invoke/VarHandle" ∧ (parseMethodDescriptor yX5_moves.desc).map (fun d => d.parameters.length) = some 4 := by decide +kernel
theorem hd_X5_within : yX5_within.cls = RX5 ∧ yX5_within.cls ≠ "java/lang/invoke/MethodHandle" ∧ yX5_within.cls ≠ "java/lang/invoke/VarHandle" ∧ (parseMethodDescriptor yX5_within.desc).map (fun d => d.parameters.length) = some 3 := by decide +kernel
theorem hd_X5_record : yX5_record.cls = RX5 ∧ yX5_record.cls ≠ "java/lang/invoke/MethodHandle" ∧ yX5_record.cls ≠ "java/lang/invoke/VarHandle" ∧ (parseMethodDescriptor yX5_record.desc).map (fun d => d.parameters.length) = some 0 := by decide +kernel
theorem hd_X5_isFilm : yX5_isFilm.cls = RX5 ∧ yX5_isFilm.cls ≠ "java/lang/invoke/MethodHandle" ∧ yX5_isFilm.cls ≠ "java/lang/invoke/VarHandle" ∧ (parseMethodDescriptor yX5_isFilm.desc).map (fun d => d.parameters.length) = some 1 := by decide +kernel
theorem hd_X5_filmPart : yX5_filmPart.cls = RX5 ∧ yX5_filmPart.cls ≠ "java/lang/invoke/MethodHandle" ∧ yX5_filmPart.cls ≠ "java/lang/invoke/VarHandle" ∧ (parseMethodDescriptor yX5_filmPart.desc).map (fun d => d.parameters.length) = some 2 := by decide +kernel
theorem hd_X5_isPart : yX5_isPart.cls = RX5 ∧ yX5_isPart.cls ≠ "java/lang/invoke/MethodHandle" ∧ yX5_isPart.cls ≠ "java/lang/invoke/VarHandle" ∧ (parseMethodDescriptor yX5_isPart.desc).map (fun d => d.parameters.length) = some 2 := by decide +kernel
theorem hd_X5_showAt : yX5_showAt.cls = RX5 ∧ yX5_showAt.cls ≠ "java/lang/invoke/MethodHandle" ∧ yX5_showAt.cls ≠ "java/lang/invoke/VarHandle" ∧ (parseMethodDescriptor yX5_showAt.desc).map (fun d => d.parameters.length) = some 2 := by decide +kernel
theorem hd_X5_isLet : yX5_isLet.cls = RX5 ∧ yX5_isLet.cls ≠ "java/lang/invoke/MethodHandle" ∧ yX5_isLet.cls ≠ "java/lang/invoke/VarHandle" ∧ (parseMethodDescriptor yX5_isLet.desc).map (fun d => d.parameters.length) = some 1 := by decide +kernel
theorem hd_X5_fade : yX5_fade.cls = RX5 ∧ yX5_fade.cls ≠ "java/lang/invoke/MethodHandle" ∧ yX5_fade.cls ≠ "java/lang/invoke/VarHandle" ∧ (parseMethodDescriptor yX5_fade.desc).map (fun d => d.parameters.length) = some 1 := by decide +kernel
theorem hd_X5_findPeople : yX5_findPeople.cls = RX5 ∧ yX5_findPeople.cls ≠ "java/lang/invoke/MethodHandle" ∧ yX5_findPeople.cls ≠ "java/lang/invoke/VarHandle" ∧ (parseMethodDescriptor yX5_findPeople.desc).map (fun d => d.parameters.length) = some 0 := by decide +kernel
theorem hd_X5_findTakings : yX5_findTakings.cls = RX5 ∧ yX5_findTakings.cls ≠ "java/lang/invoke/MethodHandle" ∧ yX5_findTakings.cls ≠ "java/lang/invoke/VarHandle" ∧ (parseMethodDescriptor yX5_findTakings.desc).map (fun d => d.parameters.length) = some 0 := by decide +kernel
theorem hd_X5_shareOf : yX5_shareOf.cls = RX5 ∧ yX5_shareOf.cls ≠ "java/lang/invoke/MethodHandle" ∧ yX5_shareOf.cls ≠ "java/lang/invoke/VarHandle" ∧ (parseMethodDescriptor yX5_shareOf.desc).map (fun d => d.parameters.length) = some 2 := by decide +kernel
theorem hd_X5_shareOfTakings : yX5_shareOfTakings.cls = RX5 ∧ yX5_shareOfTakings.cls ≠ "java/lang/invoke/MethodHandle" ∧ yX5_shareOfTakings.cls ≠ "java/lang/invoke/VarHandle" ∧ (parseMethodDescriptor yX5_shareOfTakings.desc).map (fun d => d.parameters.length) = some 1 := by decide +kernel
theorem hd_X5_findDues : yX5_findDues.cls = RX5 ∧ yX5_findDues.cls ≠ "java/lang/invoke/MethodHandle" ∧ yX5_findDues.cls ≠ "java/lang/invoke/VarHandle" ∧ (parseMethodDescriptor yX5_findDues.desc).map (fun d => d.parameters.length) = some 0 := by decide +kernel
theorem hd_X5_reckon : yX5_reckon.cls = RX5 ∧ yX5_reckon.cls ≠ "java/lang/invoke/MethodHandle" ∧ yX5_reckon.cls ≠ "java/lang/invoke/VarHandle" ∧ (parseMethodDescriptor yX5_reckon.desc).map (fun d => d.parameters.length) = some 0 := by decide +kernel
theorem hd_X5_sumOf : yX5_sumOf.cls = RX5 ∧ yX5_sumOf.cls ≠ "java/lang/invoke/MethodHandle" ∧ yX5_sumOf.cls ≠ "java/lang/invoke/VarHandle" ∧ (parseMethodDescriptor yX5_sumOf.desc).map (fun d => d.parameters.length) = some 2 := by decide +kernel
theorem hd_X5_sumOfFilm : yX5_sumOfFilm.cls = RX5 ∧ yX5_sumOfFilm.cls ≠ "java/lang/invoke/MethodHandle" ∧ yX5_sumOfFilm.cls ≠ "java/lang/invoke/VarHandle" ∧ (parseMethodDescriptor yX5_sumOfFilm.desc).map (fun d => d.parameters.length) = some 2 := by decide +kernel
theorem hd_X5_rentsOf : yX5_rentsOf.cls = RX5 ∧ yX5_rentsOf.cls ≠ "java/lang/invoke/MethodHandle" ∧ yX5_rentsOf.cls ≠ "java/lang/invoke/VarHandle" ∧ (parseMethodDescriptor yX5_rentsOf.desc).map (fun d => d.parameters.length) = some 1 := by decide +kernel
theorem hd_X5_peopleIn : yX5_peopleIn.cls = RX5 ∧ yX5_peopleIn.cls ≠ "java/lang/invoke/MethodHandle" ∧ yX5_peopleIn.cls ≠ "java/lang/invoke/VarHandle" ∧ (parseMethodDescriptor yX5_peopleIn.desc).map (fun d => d.parameters.length) = some 1 := by decide +kernel
theorem hd_X5_leftOf : yX5_leftOf.cls = RX5 ∧ yX5_leftOf.cls ≠ "java/lang/invoke/MethodHandle" ∧ yX5_leftOf.cls ≠ "java/lang/invoke/VarHandle" ∧ (parseMethodDescriptor yX5_leftOf.desc).map (fun d => d.parameters.length) = some 1 := by decide +kernel
theorem hd_X5_leftNow : yX5_leftNow.cls = RX5 ∧ yX5_leftNow.cls ≠ "java/lang/invoke/MethodHandle" ∧ yX5_leftNow.cls ≠ "java/lang/invoke/VarHandle" ∧ (parseMethodDescriptor yX5_leftNow.desc).map (fun d => d.parameters.length) = some 0 := by decide +kernel
theorem hd_X5_isValue : yX5_isValue.cls = RX5 ∧ yX5_isValue.cls ≠ "java/lang/invoke/MethodHandle" ∧ yX5_isValue.cls ≠ "java/lang/invoke/VarHandle" ∧ (parseMethodDescriptor yX5_isValue.desc).map (fun d => d.parameters.length) = some 2 := by decide +kernel
theorem hd_X5_set : yX5_set.cls = RX5 ∧ yX5_set.cls ≠ "java/lang/invoke/MethodHandle" ∧ yX5_set.cls ≠ "java/lang/invoke/VarHandle" ∧ (parseMethodDescriptor yX5_set.desc).map (fun d => d.parameters.length) = some 2 := by decide +kernel
theorem hd_X5_film : yX5_film.cls = RX5 ∧ yX5_film.cls ≠ "java/lang/invoke/MethodHandle" ∧ yX5_film.cls ≠ "java/lang/invoke/VarHandle" ∧ (parseMethodDescriptor yX5_film.desc).map (fun d => d.parameters.length) = some 5 := by decide +kernel
theorem hd_X5_canShow : yX5_canShow.cls = RX5 ∧ yX5_canShow.cls ≠ "java/lang/invoke/MethodHandle" ∧ yX5_canShow.cls ≠ "java/lang/invoke/VarHandle" ∧ (parseMethodDescriptor yX5_canShow.desc).map (fun d => d.parameters.length) = some 2 := by decide +kernel
theorem hd_X5_whyNotShown : yX5_whyNotShown.cls = RX5 ∧ yX5_whyNotShown.cls ≠ "java/lang/invoke/MethodHandle" ∧ yX5_whyNotShown.cls ≠ "java/lang/invoke/VarHandle" ∧ (parseMethodDescriptor yX5_whyNotShown.desc).map (fun d => d.parameters.length) = some 3 := by decide +kernel
theorem hd_X5_show : yX5_show.cls = RX5 ∧ yX5_show.cls ≠ "java/lang/invoke/MethodHandle" ∧ yX5_show.cls ≠ "java/lang/invoke/VarHandle" ∧ (parseMethodDescriptor yX5_show.desc).map (fun d => d.parameters.length) = some 3 := by decide +kernel
theorem hd_X5_drop : yX5_drop.cls = RX5 ∧ yX5_drop.cls ≠ "java/lang/invoke/MethodHandle" ∧ yX5_drop.cls ≠ "java/lang/invoke/VarHandle" ∧ (parseMethodDescriptor yX5_drop.desc).map (fun d => d.parameters.length) = some 2 := by decide +kernel
theorem hd_X5_canBe : yX5_canBe.cls = RX5 ∧ yX5_canBe.cls ≠ "java/lang/invoke/MethodHandle" ∧ yX5_canBe.cls ≠ "java/lang/invoke/VarHandle" ∧ (parseMethodDescriptor yX5_canBe.desc).map (fun d => d.parameters.length) = some 2 := by decide +kernel
theorem hd_X5_exchange : yX5_exchange.cls = RX5 ∧ yX5_exchange.cls ≠ "java/lang/invoke/MethodHandle" ∧ yX5_exchange.cls ≠ "java/lang/invoke/VarHandle" ∧ (parseMethodDescriptor yX5_exchange.desc).map (fun d => d.parameters.length) = some 4 := by decide +kernel
theorem hd_X5_let : yX5_let.cls = RX5 ∧ yX5_let.cls ≠ "java/lang/invoke/MethodHandle" ∧ yX5_let.cls ≠ "java/lang/invoke/VarHandle" ∧ (parseMethodDescriptor yX5_let.desc).map (fun d => d.parameters.length) = some 2 := by decide +kernel
theorem hd_X5_at : yX5_at.cls = RX5 ∧ yX5_at.cls ≠ "java/lang/invoke/MethodHandle" ∧ yX5_at.cls ≠ "java/lang/invoke/VarHandle" ∧ (parseMethodDescriptor yX5_at.desc).map (fun d => d.parameters.length) = some 3 := by decide +kernel
theorem hd_X5_peopleOf : yX5_peopleOf.cls = RX5 ∧ yX5_peopleOf.cls ≠ "java/lang/invoke/MethodHandle" ∧ yX5_peopleOf.cls ≠ "java/lang/invoke/VarHandle" ∧ (parseMethodDescriptor yX5_peopleOf.desc).map (fun d => d.parameters.length) = some 1 := by decide +kernel
theorem hd_X5_firstShow : yX5_firstShow.cls = RX5 ∧ yX5_firstShow.cls ≠ "java/lang/invoke/MethodHandle" ∧ yX5_firstShow.cls ≠ "java/lang/invoke/VarHandle" ∧ (parseMethodDescriptor yX5_firstShow.desc).map (fun d => d.parameters.length) = some 1 := by decide +kernel
theorem hd_X5_of : yX5_of.cls = RX5 ∧ yX5_of.cls ≠ "java/lang/invoke/MethodHandle" ∧ yX5_of.cls ≠ "java/lang/invoke/VarHandle" ∧ (parseMethodDescriptor yX5_of.desc).map (fun d => d.parameters.length) = some 2 := by decide +kernel
theorem hd_X5_inWeek : yX5_inWeek.cls = RX5 ∧ yX5_inWeek.cls ≠ "java/lang/invoke/MethodHandle" ∧ yX5_inWeek.cls ≠ "java/lang/invoke/VarHandle" ∧ (parseMethodDescriptor yX5_inWeek.desc).map (fun d => d.parameters.length) = some 3 := by decide +kernel
theorem hd_X5_week : yX5_week.cls = RX5 ∧ yX5_week.cls ≠ "java/lang/invoke/MethodHandle" ∧ yX5_week.cls ≠ "java/lang/invoke/VarHandle" ∧ (parseMethodDescriptor yX5_week.desc).map (fun d => d.parameters.length) = some 2 := by decide +kernel
theorem hd_X5_distributor : yX5_distributor.cls = RX5 ∧ yX5_distributor.cls ≠ "java/lang/invoke/MethodHandle" ∧ yX5_distributor.cls ≠ "java/lang/invoke/VarHandle" ∧ (parseMethodDescriptor yX5_distributor.desc).map (fun d => d.parameters.length) = some 2 := by decide +kernel
theorem hd_X5_rent : yX5_rent.cls = RX5 ∧ yX5_rent.cls ≠ "java/lang/invoke/MethodHandle" ∧ yX5_rent.cls ≠ "java/lang/invoke/VarHandle" ∧ (parseMethodDescriptor yX5_rent.desc).map (fun d => d.parameters.length) = some 1 := by decide +kernel
theorem hd_X5_fullShows : yX5_fullShows.cls = RX5 ∧ yX5_fullShows.cls ≠ "java/lang/invoke/MethodHandle" ∧ yX5_fullShows.cls ≠ "java/lang/invoke/VarHandle" ∧ (parseMethodDescriptor yX5_fullShows.desc).map (fun d => d.parameters.length) = some 0 := by decide +kernel
theorem hd_X5_count : yX5_count.cls = RX5 ∧ yX5_count.cls ≠ "java/lang/invoke/MethodHandle" ∧ yX5_count.cls ≠ "java/lang/invoke/VarHandle" ∧ (parseMethodDescriptor yX5_count.desc).map (fun d => d.parameters.length) = some 1 := by decide +kernel
theorem hd_X5_moreWith : yX5_moreWith.cls = RX5 ∧ yX5_moreWith.cls ≠ "java/lang/invoke/MethodHandle" ∧ yX5_moreWith.cls ≠ "java/lang/invoke/VarHandle" ∧ (parseMethodDescriptor yX5_moreWith.desc).map (fun d => d.parameters.length) = some 2 := by decide +kernel
theorem hd_X5_ifShown : yX5_ifShown.cls = RX5 ∧ yX5_ifShown.cls ≠ "java/lang/invoke/MethodHandle" ∧ yX5_ifShown.cls ≠ "java/lang/invoke/VarHandle" ∧ (parseMethodDescriptor yX5_ifShown.desc).map (fun d => d.parameters.length) = some 3 := by decide +kernel
theorem hd_X5_bestFilm : yX5_bestFilm.cls = RX5 ∧ yX5_bestFilm.cls ≠ "java/lang/invoke/MethodHandle" ∧ yX5_bestFilm.cls ≠ "java/lang/invoke/VarHandle" ∧ (parseMethodDescriptor yX5_bestFilm.desc).map (fun d => d.parameters.length) = some 3 := by decide +kernel
theorem hd_X5_worstShow : yX5_worstShow.cls = RX5 ∧ yX5_worstShow.cls ≠ "java/lang/invoke/MethodHandle" ∧ yX5_worstShow.cls ≠ "java/lang/invoke/VarHandle" ∧ (parseMethodDescriptor yX5_worstShow.desc).map (fun d => d.parameters.length) = some 1 := by decide +kernel
theorem hd_X5_priceFor : yX5_priceFor.cls = RX5 ∧ yX5_priceFor.cls ≠ "java/lang/invoke/MethodHandle" ∧ yX5_priceFor.cls ≠ "java/lang/invoke/VarHandle" ∧ (parseMethodDescriptor yX5_priceFor.desc).map (fun d => d.parameters.length) = some 3 := by decide +kernel
theorem hd_X5_put : yX5_put.cls = RX5 ∧ yX5_put.cls ≠ "java/lang/invoke/MethodHandle" ∧ yX5_put.cls ≠ "java/lang/invoke/VarHandle" ∧ (parseMethodDescriptor yX5_put.desc).map (fun d => d.parameters.length) = some 1 := by decide +kernel
theorem hd_X5_wipe : yX5_wipe.cls = RX5 ∧ yX5_wipe.cls ≠ "java/lang/invoke/MethodHandle" ∧ yX5_wipe.cls ≠ "java/lang/invoke/VarHandle" ∧ (parseMethodDescriptor yX5_wipe.desc).map (fun d => d.parameters.length) = some 0 := by decide +kernel
theorem hd_X5_character : yX5_character.cls = RX5 ∧ yX5_character.cls ≠ "java/lang/invoke/MethodHandle" ∧ yX5_character.cls ≠ "java/lang/invoke/VarHandle" ∧ (parseMethodDescriptor yX5_character.desc).map (fun d => d.parameters.length) = some 1 := by decide +kernel
theorem hd_X5_takeDigit : yX5_takeDigit.cls = RX5 ∧ yX5_takeDigit.cls ≠ "java/lang/invoke/MethodHandle" ∧ yX5_takeDigit.cls ≠ "java/lang/invoke/VarHandle" ∧ (parseMethodDescriptor yX5_takeDigit.desc).map (fun d => d.parameters.length) = some 1 := by decide +kernel
theorem hd_X5_takePart : yX5_takePart.cls = RX5 ∧ yX5_takePart.cls ≠ "java/lang/invoke/MethodHandle" ∧ yX5_takePart.cls ≠ "java/lang/invoke/VarHandle" ∧ (parseMethodDescriptor yX5_takePart.desc).map (fun d => d.parameters.length) = some 0 := by decide +kernel
theorem hd_X5_takeDay : yX5_takeDay.cls = RX5 ∧ yX5_takeDay.cls ≠ "java/lang/invoke/MethodHandle" ∧ yX5_takeDay.cls ≠ "java/lang/invoke/VarHandle" ∧ (parseMethodDescriptor yX5_takeDay.desc).map (fun d => d.parameters.length) = some 0 := by decide +kernel
theorem hd_X5_readsShow : yX5_readsShow.cls = RX5 ∧ yX5_readsShow.cls ≠ "java/lang/invoke/MethodHandle" ∧ yX5_readsShow.cls ≠ "java/lang/invoke/VarHandle" ∧ (parseMethodDescriptor yX5_readsShow.desc).map (fun d => d.parameters.length) = some 0 := by decide +kernel
theorem hd_X5_isNext : yX5_isNext.cls = RX5 ∧ yX5_isNext.cls ≠ "java/lang/invoke/MethodHandle" ∧ yX5_isNext.cls ≠ "java/lang/invoke/VarHandle" ∧ (parseMethodDescriptor yX5_isNext.desc).map (fun d => d.parameters.length) = some 0 := by decide +kernel
theorem hd_X5_findFault : yX5_findFault.cls = RX5 ∧ yX5_findFault.cls ≠ "java/lang/invoke/MethodHandle" ∧ yX5_findFault.cls ≠ "java/lang/invoke/VarHandle" ∧ (parseMethodDescriptor yX5_findFault.desc).map (fun d => d.parameters.length) = some 0 := by decide +kernel
theorem hd_X5_fault : yX5_fault.cls = RX5 ∧ yX5_fault.cls ≠ "java/lang/invoke/MethodHandle" ∧ yX5_fault.cls ≠ "java/lang/invoke/VarHandle" ∧ (parseMethodDescriptor yX5_fault.desc).map (fun d => d.parameters.length) = some 0 := by decide +kernel
theorem hd_X5_carryOut : yX5_carryOut.cls = RX5 ∧ yX5_carryOut.cls ≠ "java/lang/invoke/MethodHandle" ∧ yX5_carryOut.cls ≠ "java/lang/invoke/VarHandle" ∧ (parseMethodDescriptor yX5_carryOut.desc).map (fun d => d.parameters.length) = some 0 := by decide +kernel
theorem hd_X5_undo : yX5_undo.cls = RX5 ∧ yX5_undo.cls ≠ "java/lang/invoke/MethodHandle" ∧ yX5_undo.cls ≠ "java/lang/invoke/VarHandle" ∧ (parseMethodDescriptor yX5_undo.desc).map (fun d => d.parameters.length) = some 0 := by decide +kernel
theorem hd_X5_showsMany : yX5_showsMany.cls = RX5 ∧ yX5_showsMany.cls ≠ "java/lang/invoke/MethodHandle" ∧ yX5_showsMany.cls ≠ "java/lang/invoke/VarHandle" ∧ (parseMethodDescriptor yX5_showsMany.desc).map (fun d => d.parameters.length) = some 0 := by decide +kernel
theorem hd_X5_save : yX5_save.cls = RX5 ∧ yX5_save.cls ≠ "java/lang/invoke/MethodHandle" ∧ yX5_save.cls ≠ "java/lang/invoke/VarHandle" ∧ (parseMethodDescriptor yX5_save.desc).map (fun d => d.parameters.length) = some 1 := by decide +kernel
theorem hd_X5_restore : yX5_restore.cls = RX5 ∧ yX5_restore.cls ≠ "java/lang/invoke/MethodHandle" ∧ yX5_restore.cls ≠ "java/lang/invoke/VarHandle" ∧ (parseMethodDescriptor yX5_restore.desc).map (fun d => d.parameters.length) = some 1 := by decide +kernel
theorem ic_m6 : Int32.ofInt (-6) = -6 := by decide
theorem ic_m5 : Int32.ofInt (-5) = -5 := by decide
theorem ic_m4 : Int32.ofInt (-4) = -4 := by decide
theorem ic_m3 : Int32.ofInt (-3) = -3 := by decide
theorem ic_m2 : Int32.ofInt (-2) = -2 := by decide
theorem ic_m1 : Int32.ofInt (-1) = -1 := by decide
theorem ic_0 : Int32.ofInt (0) = 0 := by decide
theorem ic_1 : Int32.ofInt (1) = 1 := by decide
theorem ic_2 : Int32.ofInt (2) = 2 := by decide
theorem ic_3 : Int32.ofInt (3) = 3 := by decide
theorem ic_4 : Int32.ofInt (4) = 4 := by decide
theorem ic_5 : Int32.ofInt (5) = 5 := by decide
theorem bp_m6 : (Int8.ofInt (-6)).toInt32 = -6 := by decide
theorem bp_m5 : (Int8.ofInt (-5)).toInt32 = -5 := by decide
theorem bp_m4 : (Int8.ofInt (-4)).toInt32 = -4 := by decide
theorem bp_m3 : (Int8.ofInt (-3)).toInt32 = -3 := by decide
theorem bp_m2 : (Int8.ofInt (-2)).toInt32 = -2 := by decide
theorem bp_6 : (Int8.ofInt (6)).toInt32 = 6 := by decide
theorem bp_7 : (Int8.ofInt (7)).toInt32 = 7 := by decide
theorem bp_8 : (Int8.ofInt (8)).toInt32 = 8 := by decide
theorem bp_9 : (Int8.ofInt (9)).toInt32 = 9 := by decide
theorem bp_10 : (Int8.ofInt (10)).toInt32 = 10 := by decide
theorem bp_12 : (Int8.ofInt (12)).toInt32 = 12 := by decide
theorem bp_14 : (Int8.ofInt (14)).toInt32 = 14 := by decide
theorem bp_20 : (Int8.ofInt (20)).toInt32 = 20 := by decide
theorem bp_25 : (Int8.ofInt (25)).toInt32 = 25 := by decide
theorem bp_28 : (Int8.ofInt (28)).toInt32 = 28 := by decide
theorem bp_30 : (Int8.ofInt (30)).toInt32 = 30 := by decide
theorem bp_31 : (Int8.ofInt (31)).toInt32 = 31 := by decide
theorem bp_33 : (Int8.ofInt (33)).toInt32 = 33 := by decide
theorem bp_34 : (Int8.ofInt (34)).toInt32 = 34 := by decide
theorem bp_35 : (Int8.ofInt (35)).toInt32 = 35 := by decide
theorem bp_40 : (Int8.ofInt (40)).toInt32 = 40 := by decide
theorem bp_44 : (Int8.ofInt (44)).toInt32 = 44 := by decide
theorem bp_46 : (Int8.ofInt (46)).toInt32 = 46 := by decide
theorem bp_48 : (Int8.ofInt (48)).toInt32 = 48 := by decide
theorem bp_49 : (Int8.ofInt (49)).toInt32 = 49 := by decide
theorem bp_50 : (Int8.ofInt (50)).toInt32 = 50 := by decide
theorem bp_51 : (Int8.ofInt (51)).toInt32 = 51 := by decide
theorem bp_52 : (Int8.ofInt (52)).toInt32 = 52 := by decide
theorem bp_55 : (Int8.ofInt (55)).toInt32 = 55 := by decide
theorem bp_57 : (Int8.ofInt (57)).toInt32 = 57 := by decide
theorem bp_60 : (Int8.ofInt (60)).toInt32 = 60 := by decide
theorem bp_69 : (Int8.ofInt (69)).toInt32 = 69 := by decide
theorem bp_70 : (Int8.ofInt (70)).toInt32 = 70 := by decide
theorem bp_80 : (Int8.ofInt (80)).toInt32 = 80 := by decide
theorem bp_90 : (Int8.ofInt (90)).toInt32 = 90 := by decide
theorem bp_97 : (Int8.ofInt (97)).toInt32 = 97 := by decide
theorem bp_100 : (Int8.ofInt (100)).toInt32 = 100 := by decide
theorem bp_101 : (Int8.ofInt (101)).toInt32 = 101 := by decide
theorem bp_116 : (Int8.ofInt (116)).toInt32 = 116 := by decide
theorem bp_126 : (Int8.ofInt (126)).toInt32 = 126 := by decide
theorem sp_151 : (Int16.ofInt (151)).toInt32 = 151 := by decide
theorem sp_200 : (Int16.ofInt (200)).toInt32 = 200 := by decide
theorem sp_300 : (Int16.ofInt (300)).toInt32 = 300 := by decide
theorem sp_302 : (Int16.ofInt (302)).toInt32 = 302 := by decide
theorem sp_500 : (Int16.ofInt (500)).toInt32 = 500 := by decide
theorem sp_755 : (Int16.ofInt (755)).toInt32 = 755 := by decide
theorem sp_906 : (Int16.ofInt (906)).toInt32 = 906 := by decide
theorem sp_999 : (Int16.ofInt (999)).toInt32 = 999 := by decide
theorem sp_5000 : (Int16.ofInt (5000)).toInt32 = 5000 := by decide
theorem inc9 (d : Nat) : nI d + Int32.ofInt 1 = nI (d + 1) := nI_1 d
theorem dec9 (d : Nat) : nI (d + 1) + Int32.ofInt (-1) = nI d := by rw [show Int32.ofInt (-1) = (-1 : Int32) by decide]; exact pk_m1 d
end
section
theorem lit9 (n : Nat) : (OfNat.ofNat n : Int32) = nI n := rfl
/-! the reference: its object at ad 0, its arrays at ad 1 .. ad 12 (σ 0 .. σ 11), its whole numbers σ 12 0 .. σ 12 5 -/
def mFs (ad : Nat → Nat) (σ : S9) : List Value := [.ref (ad 1), .ref (ad 2), .int (σ 12 0), .ref (ad 3), .ref (ad 4), .ref (ad 5), .int (σ 12 1), .ref (ad 6), .ref (ad 7), .ref (ad 8), .ref (ad 9), .ref (ad 10), .ref (ad 11), .ref (ad 12), .int (σ 12 2), .int (σ 12 3), .int (σ 12 4), .int (σ 12 5)]
def mW (ad : Nat → Nat) (cI : ClassId) (σ : S9) : va_W := [(ad 0, .inr (5, mFs ad σ)), (ad 1, .inl (cI, 151, .inl (σ 0))), (ad 2, .inl (cI, 906, .inl (σ 1))), (ad 3, .inl (cI, 302, .inl (σ 2))), (ad 4, .inl (cI, 2, .inl (σ 3))), (ad 5, .inl (cI, 60, .inl (σ 4))), (ad 6, .inl (cI, 70, .inl (σ 5))), (ad 7, .inl (cI, 70, .inl (σ 6))), (ad 8, .inl (cI, 8, .inl (σ 7))), (ad 9, .inl (cI, 40, .inl (σ 8))), (ad 10, .inl (cI, 40, .inl (σ 9))), (ad 11, .inl (cI, 40, .inl (σ 10))), (ad 12, .inl (cI, 40, .inl (σ 11)))]
theorem mW_a0 (ad : Nat → Nat) (cI : ClassId) (σ : S9) (g : Nat → Int32) : (mW ad cI σ).set 1 (ad 1, .inl (cI, 151, .inl g)) = mW ad cI (st9 σ 0 g) := by simp [mW, mFs, st9]
theorem mW_a1 (ad : Nat → Nat) (cI : ClassId) (σ : S9) (g : Nat → Int32) : (mW ad cI σ).set 2 (ad 2, .inl (cI, 906, .inl g)) = mW ad cI (st9 σ 1 g) := by simp [mW, mFs, st9]
theorem mW_a2 (ad : Nat → Nat) (cI : ClassId) (σ : S9) (g : Nat → Int32) : (mW ad cI σ).set 3 (ad 3, .inl (cI, 302, .inl g)) = mW ad cI (st9 σ 2 g) := by simp [mW, mFs, st9]
theorem mW_a3 (ad : Nat → Nat) (cI : ClassId) (σ : S9) (g : Nat → Int32) : (mW ad cI σ).set 4 (ad 4, .inl (cI, 2, .inl g)) = mW ad cI (st9 σ 3 g) := by simp [mW, mFs, st9]
theorem mW_a4 (ad : Nat → Nat) (cI : ClassId) (σ : S9) (g : Nat → Int32) : (mW ad cI σ).set 5 (ad 5, .inl (cI, 60, .inl g)) = mW ad cI (st9 σ 4 g) := by simp [mW, mFs, st9]
theorem mW_a5 (ad : Nat → Nat) (cI : ClassId) (σ : S9) (g : Nat → Int32) : (mW ad cI σ).set 6 (ad 6, .inl (cI, 70, .inl g)) = mW ad cI (st9 σ 5 g) := by simp [mW, mFs, st9]
theorem mW_a6 (ad : Nat → Nat) (cI : ClassId) (σ : S9) (g : Nat → Int32) : (mW ad cI σ).set 7 (ad 7, .inl (cI, 70, .inl g)) = mW ad cI (st9 σ 6 g) := by simp [mW, mFs, st9]
theorem mW_a7 (ad : Nat → Nat) (cI : ClassId) (σ : S9) (g : Nat → Int32) : (mW ad cI σ).set 8 (ad 8, .inl (cI, 8, .inl g)) = mW ad cI (st9 σ 7 g) := by simp [mW, mFs, st9]
theorem mW_a8 (ad : Nat → Nat) (cI : ClassId) (σ : S9) (g : Nat → Int32) : (mW ad cI σ).set 9 (ad 9, .inl (cI, 40, .inl g)) = mW ad cI (st9 σ 8 g) := by simp [mW, mFs, st9]
theorem mW_a9 (ad : Nat → Nat) (cI : ClassId) (σ : S9) (g : Nat → Int32) : (mW ad cI σ).set 10 (ad 10, .inl (cI, 40, .inl g)) = mW ad cI (st9 σ 9 g) := by simp [mW, mFs, st9]
theorem mW_a10 (ad : Nat → Nat) (cI : ClassId) (σ : S9) (g : Nat → Int32) : (mW ad cI σ).set 11 (ad 11, .inl (cI, 40, .inl g)) = mW ad cI (st9 σ 10 g) := by simp [mW, mFs, st9]
theorem mW_a11 (ad : Nat → Nat) (cI : ClassId) (σ : S9) (g : Nat → Int32) : (mW ad cI σ).set 12 (ad 12, .inl (cI, 40, .inl g)) = mW ad cI (st9 σ 11 g) := by simp [mW, mFs, st9]
theorem mW_f0 (ad : Nat → Nat) (cI : ClassId) (σ : S9) (x : Int32) : (mW ad cI σ).set 0 (ad 0, .inr (5, (mFs ad σ).set 2 (.int x))) = mW ad cI (st9 σ 12 (upd (σ 12) 0 x)) := by simp [mW, mFs, st9, upd]
theorem mW_f1 (ad : Nat → Nat) (cI : ClassId) (σ : S9) (x : Int32) : (mW ad cI σ).set 0 (ad 0, .inr (5, (mFs ad σ).set 6 (.int x))) = mW ad cI (st9 σ 12 (upd (σ 12) 1 x)) := by simp [mW, mFs, st9, upd]
theorem mW_f2 (ad : Nat → Nat) (cI : ClassId) (σ : S9) (x : Int32) : (mW ad cI σ).set 0 (ad 0, .inr (5, (mFs ad σ).set 14 (.int x))) = mW ad cI (st9 σ 12 (upd (σ 12) 2 x)) := by simp [mW, mFs, st9, upd]
theorem mW_f3 (ad : Nat → Nat) (cI : ClassId) (σ : S9) (x : Int32) : (mW ad cI σ).set 0 (ad 0, .inr (5, (mFs ad σ).set 15 (.int x))) = mW ad cI (st9 σ 12 (upd (σ 12) 3 x)) := by simp [mW, mFs, st9, upd]
theorem mW_f4 (ad : Nat → Nat) (cI : ClassId) (σ : S9) (x : Int32) : (mW ad cI σ).set 0 (ad 0, .inr (5, (mFs ad σ).set 16 (.int x))) = mW ad cI (st9 σ 12 (upd (σ 12) 4 x)) := by simp [mW, mFs, st9, upd]
theorem mW_f5 (ad : Nat → Nat) (cI : ClassId) (σ : S9) (x : Int32) : (mW ad cI σ).set 0 (ad 0, .inr (5, (mFs ad σ).set 17 (.int x))) = mW ad cI (st9 σ 12 (upd (σ 12) 5 x)) := by simp [mW, mFs, st9, upd]
def mLen (a : Nat) : Nat := ([151, 906, 302, 2, 60, 70, 70, 8, 40, 40, 40, 40] : List Nat).getD a 0
theorem mW_get (ad : Nat → Nat) (cI : ClassId) (σ : S9) {a : Nat} (h : a < 12) : (mW ad cI σ)[a + 1]? = some (ad (a + 1), .inl (cI, mLen a, .inl (σ a))) := by
  rcases (show a = 0 ∨ a = 1 ∨ a = 2 ∨ a = 3 ∨ a = 4 ∨ a = 5 ∨ a = 6 ∨ a = 7 ∨ a = 8 ∨ a = 9 ∨ a = 10 ∨ a = 11 by omega) with rfl | rfl | rfl | rfl | rfl | rfl | rfl | rfl | rfl | rfl | rfl | rfl <;> rfl
theorem mW_ax (ad : Nat → Nat) (cI : ClassId) (σ : S9) (g : Nat → Int32) {a : Nat} (h : a < 12) : (mW ad cI σ).set (a + 1) (ad (a + 1), .inl (cI, mLen a, .inl g)) = mW ad cI (st9 σ a g) := by
  rcases (show a = 0 ∨ a = 1 ∨ a = 2 ∨ a = 3 ∨ a = 4 ∨ a = 5 ∨ a = 6 ∨ a = 7 ∨ a = 8 ∨ a = 9 ∨ a = 10 ∨ a = 11 by omega) with rfl | rfl | rfl | rfl | rfl | rfl | rfl | rfl | rfl | rfl | rfl | rfl
  · exact mW_a0 ad cI σ g
  · exact mW_a1 ad cI σ g
  · exact mW_a2 ad cI σ g
  · exact mW_a3 ad cI σ g
  · exact mW_a4 ad cI σ g
  · exact mW_a5 ad cI σ g
  · exact mW_a6 ad cI σ g
  · exact mW_a7 ad cI σ g
  · exact mW_a8 ad cI σ g
  · exact mW_a9 ad cI σ g
  · exact mW_a10 ad cI σ g
  · exact mW_a11 ad cI σ g
end
section
def p_in (v lo hi : Int32) : Int32 := if v < lo then 0 else if hi < v then 0 else 1
theorem p_in_nar (v lo hi : Int32) : narrow .boolean (.int (p_in v lo hi)) = .int (p_in v lo hi) := by
  unfold p_in
  split
  · rfl
  · split <;> rfl
set_option maxHeartbeats 4000000 in
set_option maxRecDepth 100000 in
theorem c_X5_within (l : Launch) (v lo hi : Int32) : CPi l yX5_within wsX5_within ({ frames := 0, cells := 0, slots := 0, locals := 0 } : Room) [.int v, .int lo, .int hi] (fun r => r = p_in v lo hi) := by
  refine v_startP (own := RX5) (cc := cX5_within) (nL := 3) ((fun _ => 0), (fun _ _ => 0)) rfl (by decide) rfl (Nat.le_of_ble_eq_true rfl) ?_
  intro p e s m args below meth c A Q C hend
  skip
  refine v_lv (lv' := [(0, .int v), (1, .int lo), (2, .int hi)]) [0, 1, 2] rfl ?_
  refine v_iload_n C dX5_within_0 rfl 0 0 rfl rfl ?_
  refine v_iload_n C dX5_within_1 rfl 1 1 rfl rfl ?_
  refine v_icmp_lt C 14 dX5_within_2 (by decide) rfl (fun h2 => ?_) (fun h2 => ?_)
  · skip
    refine v_iconst (v := 0) C dX5_within_14 rfl ic_0 ?_
    exact hend (by simp [p_in, h2]) (rfl) dX5_within_15
  · skip
    refine v_iload_n C dX5_within_5 rfl 0 0 rfl rfl ?_
    refine v_iload_n C dX5_within_6 rfl 2 2 rfl rfl ?_
    refine v_icmp_gt C 14 dX5_within_7 (by decide) rfl (fun h7 => ?_) (fun h7 => ?_)
    · skip
      refine v_iconst (v := 0) C dX5_within_14 rfl ic_0 ?_
      exact hend (by simp [p_in, h2, h7]) (rfl) dX5_within_15
    · skip
      refine v_iconst (v := 1) C dX5_within_10 rfl ic_1 ?_
      refine v_goto C 15 dX5_within_11 (by decide) ?_
      exact hend (by simp [p_in, h2, h7]) (rfl) dX5_within_15
set_option maxHeartbeats 4000000 in
set_option maxRecDepth 100000 in
theorem c_X5_isFilm (l : Launch) (D : va_G) (ad : Nat → Nat) (cI : ClassId) (σ : S9) (f : Int32) : CMi l (mW ad cI) D [(cI, .int)] yX5_isFilm wsX5_isFilm ({ frames := 1, cells := 0, slots := 0, locals := 22 } : Room) [.ref (ad 0), .int f] σ (fun r u => r = p_in f 0 (σ 0 5 - 1) ∧ u = σ) := by
  refine v_starti (own := RX5) (cc := cX5_isFilm) (nL := 2) rfl (by decide) rfl (Nat.le_of_ble_eq_true rfl) ?_
  intro p e s m args below meth c A Q C K hend
  refine v_lv (lv' := [(0, .ref (ad 0)), (1, .int f)]) [0, 1] rfl ?_
  refine v_iload_n C dX5_isFilm_0 rfl 1 1 rfl rfl ?_
  refine v_iconst (v := 0) C dX5_isFilm_1 rfl ic_0 ?_
  refine v_aload_n C dX5_isFilm_2 rfl 0 0 rfl rfl ?_
  refine v_get C K in_X5_isFilm_X5 0 rfl rfl 0 (by decide) fl_X5_isFilm_X5_0 rfl dX5_isFilm_3 rfl ?_
  refine v_iconst (v := 5) C dX5_isFilm_6 rfl ic_5 ?_
  refine v_iald C K 1 0 rfl rfl (5) (rfl) (by omega) (by decide) dX5_isFilm_7 rfl ?_
  refine v_iconst (v := 1) C dX5_isFilm_8 rfl ic_1 ?_
  refine v_isub C dX5_isFilm_9 rfl ?_
  refine v_callSp C (c_X5_within l _ _ _) gX5_isFilm_X5_within rfl hd_X5_within.2 ⟨rfl, rfl⟩ ⟨Nat.le_of_ble_eq_true rfl, Nat.le_of_ble_eq_true rfl⟩ rfl rfl (Nat.le_of_ble_eq_true rfl) ⟨Nat.le_refl _, Nat.le_refl _⟩ dX5_isFilm_10 rfl (fun r10 hc10 => ?_)
  subst hc10
  exact hend (⟨rfl, rfl⟩) (p_in_nar _ _ _) dX5_isFilm_13
set_option maxHeartbeats 4000000 in
set_option maxRecDepth 100000 in
theorem c_X5_filmPart (l : Launch) (D : va_G) (ad : Nat → Nat) (cI : ClassId) (σ : S9) (f w : Nat) (hf : f < 8) (hw : w < 5) : CMi l (mW ad cI) D [(cI, .int)] yX5_filmPart wsX5_filmPart ({ frames := 0, cells := 0, slots := 0, locals := 0 } : Room) [.ref (ad 0), .int (nI f), .int (nI w)] σ (fun r u => r = σ 0 (6 + 5 * f + w) ∧ u = σ) := by
  refine v_starti (own := RX5) (cc := cX5_filmPart) (nL := 3) rfl (by decide) rfl (Nat.le_of_ble_eq_true rfl) ?_
  intro p e s m args below meth c A Q C K hend
  refine v_lv (lv' := [(0, .ref (ad 0)), (1, .int (nI f)), (2, .int (nI w))]) [0, 1, 2] rfl ?_
  refine v_aload_n C dX5_filmPart_0 rfl 0 0 rfl rfl ?_
  refine v_get C K in_X5_filmPart_X5 0 rfl rfl 0 (by decide) fl_X5_filmPart_X5_0 rfl dX5_filmPart_1 rfl ?_
  refine v_bipush (v := 6) C dX5_filmPart_4 rfl bp_6 ?_
  refine v_iconst (v := 5) C dX5_filmPart_6 rfl ic_5 ?_
  refine v_iload_n C dX5_filmPart_7 rfl 1 1 rfl rfl ?_
  refine v_imul C dX5_filmPart_8 rfl ?_
  refine v_iadd C dX5_filmPart_9 rfl ?_
  refine v_iload_n C dX5_filmPart_10 rfl 2 2 rfl rfl ?_
  refine v_iadd C dX5_filmPart_11 rfl ?_
  refine v_iald C K 1 0 rfl rfl (6 + 5 * f + w) (by simp only [lit9, pk_mul, nI_add]) (by omega) (by decide) dX5_filmPart_12 rfl ?_
  exact hend (⟨rfl, rfl⟩) (rfl) dX5_filmPart_13
end
section
theorem st9_tw (σ : S9) (i : Nat) (g h : Nat → Int32) : st9 (st9 σ i g) i h = st9 σ i h := by
  funext k
  by_cases e : k = i <;> simp [st9, e]
theorem st9_sw (σ : S9) {i j : Nat} (g h : Nat → Int32) (n : i ≠ j) : st9 (st9 σ i g) j h = st9 (st9 σ j h) i g := by
  funext k
  by_cases e : k = i
  · subst e
    simp [st9, n]
  · by_cases e2 : k = j
    · subst e2
      simp [st9, e]
    · simp [st9, e, e2]
theorem st9_id (σ : S9) (i : Nat) : st9 σ i (σ i) = σ := by
  funext k
  by_cases e : k = i <;> simp [st9, e]
theorem upd_tw (f : Nat → Int32) (k : Nat) (x y : Int32) : upd (upd f k x) k y = upd f k y := by
  funext j
  by_cases e : j = k <;> simp [upd, e]
theorem upd_id (f : Nat → Int32) (k : Nat) : upd f k (f k) = f := by
  funext j
  by_cases e : j = k <;> simp [upd, e]
theorem upd_s (f : Nat → Int32) (k : Nat) (x : Int32) : upd f k x k = x := if_pos rfl
theorem upd_n (f : Nat → Int32) {j k : Nat} (x : Int32) (h : j ≠ k) : upd f k x j = f j := if_neg h
def sm9 (t : Nat → Int32) : Nat → Int32
  | 0 => 0
  | d + 1 => sm9 t d + t d
def it9 (g : Nat → S9 → S9) : Nat → S9 → S9
  | 0, u => u
  | k + 1, u => g k (it9 g k u)
def p_part (d q : Int32) : Int32 := if p_in d 0 34 = 0 then 0 else if p_in q 0 1 = 0 then 0 else 1
theorem p_part_nar (d q : Int32) : narrow .boolean (.int (p_part d q)) = .int (p_part d q) := by
  unfold p_part
  split
  · rfl
  · split <;> rfl
set_option maxHeartbeats 4000000 in
set_option maxRecDepth 100000 in
theorem c_X5_isPart (l : Launch) (d q : Int32) : CPi l yX5_isPart wsX5_isPart ({ frames := 1, cells := 0, slots := 0, locals := 22 } : Room) [.int d, .int q] (fun r => r = p_part d q) := by
  refine v_startP (own := RX5) (cc := cX5_isPart) (nL := 2) ((fun _ => 0), (fun _ _ => 0)) rfl (by decide) rfl (Nat.le_of_ble_eq_true rfl) ?_
  intro p e s m args below meth c A Q C hend
  skip
  refine v_lv (lv' := [(0, .int d), (1, .int q)]) [0, 1] rfl ?_
  refine v_iload_n C dX5_isPart_0 rfl 0 0 rfl rfl ?_
  refine v_iconst (v := 0) C dX5_isPart_1 rfl ic_0 ?_
  refine v_bipush (v := 34) C dX5_isPart_2 rfl bp_34 ?_
  refine v_callSp C (c_X5_within l _ _ _) gX5_isPart_X5_within rfl hd_X5_within.2 ⟨rfl, rfl⟩ ⟨Nat.le_of_ble_eq_true rfl, Nat.le_of_ble_eq_true rfl⟩ rfl rfl (Nat.le_of_ble_eq_true rfl) ⟨Nat.le_refl _, Nat.le_refl _⟩ dX5_isPart_4 rfl (fun r4 hc4 => ?_)
  subst hc4
  refine v_if_eq C 23 dX5_isPart_7 (by decide) rfl (fun h7 => ?_) (fun h7 => ?_)
  · skip
    refine v_iconst (v := 0) C dX5_isPart_23 rfl ic_0 ?_
    exact hend (by simp [p_part, h7]) (rfl) dX5_isPart_24
  · skip
    refine v_iload_n C dX5_isPart_10 rfl 1 1 rfl rfl ?_
    refine v_iconst (v := 0) C dX5_isPart_11 rfl ic_0 ?_
    refine v_iconst (v := 1) C dX5_isPart_12 rfl ic_1 ?_
    refine v_callSp C (c_X5_within l _ _ _) gX5_isPart_X5_within rfl hd_X5_within.2 ⟨rfl, rfl⟩ ⟨Nat.le_of_ble_eq_true rfl, Nat.le_of_ble_eq_true rfl⟩ rfl rfl (Nat.le_of_ble_eq_true rfl) ⟨Nat.le_refl _, Nat.le_refl _⟩ dX5_isPart_13 rfl (fun r13 hc13 => ?_)
    subst hc13
    refine v_if_eq C 23 dX5_isPart_16 (by decide) rfl (fun h16 => ?_) (fun h16 => ?_)
    · skip
      refine v_iconst (v := 0) C dX5_isPart_23 rfl ic_0 ?_
      exact hend (by simp [p_part, h7, h16]) (rfl) dX5_isPart_24
    · skip
      refine v_iconst (v := 1) C dX5_isPart_19 rfl ic_1 ?_
      refine v_goto C 24 dX5_isPart_20 (by decide) ?_
      exact hend (by simp [p_part, h7, h16]) (rfl) dX5_isPart_24
set_option maxHeartbeats 4000000 in
set_option maxRecDepth 100000 in
theorem c_X5_showAt (l : Launch) (D : va_G) (ad : Nat → Nat) (cI : ClassId) (σ : S9) (d q : Nat) (hd : d < 35) (hq : q < 2) : CMi l (mW ad cI) D [(cI, .int)] yX5_showAt wsX5_showAt ({ frames := 0, cells := 0, slots := 0, locals := 0 } : Room) [.ref (ad 0), .int (nI d), .int (nI q)] σ (fun r u => r = σ 0 (46 + 2 * d + q) ∧ u = σ) := by
  refine v_starti (own := RX5) (cc := cX5_showAt) (nL := 3) rfl (by decide) rfl (Nat.le_of_ble_eq_true rfl) ?_
  intro p e s m args below meth c A Q C K hend
  refine v_lv (lv' := [(0, .ref (ad 0)), (1, .int (nI d)), (2, .int (nI q))]) [0, 1, 2] rfl ?_
  refine v_aload_n C dX5_showAt_0 rfl 0 0 rfl rfl ?_
  refine v_get C K in_X5_showAt_X5 0 rfl rfl 0 (by decide) fl_X5_showAt_X5_0 rfl dX5_showAt_1 rfl ?_
  refine v_bipush (v := 46) C dX5_showAt_4 rfl bp_46 ?_
  refine v_iconst (v := 2) C dX5_showAt_6 rfl ic_2 ?_
  refine v_iload_n C dX5_showAt_7 rfl 1 1 rfl rfl ?_
  refine v_imul C dX5_showAt_8 rfl ?_
  refine v_iadd C dX5_showAt_9 rfl ?_
  refine v_iload_n C dX5_showAt_10 rfl 2 2 rfl rfl ?_
  refine v_iadd C dX5_showAt_11 rfl ?_
  refine v_iald C K 1 0 rfl rfl (46 + 2 * d + q) (by simp only [lit9, pk_mul, nI_add]) (by omega) (by decide) dX5_showAt_12 rfl ?_
  exact hend (⟨rfl, rfl⟩) (rfl) dX5_showAt_13
def p_let (r : Nat → Int32) (d : Nat) : Int32 := if r (116 + d) ≤ 0 then 0 else 1
set_option maxHeartbeats 4000000 in
set_option maxRecDepth 100000 in
theorem c_X5_isLet (l : Launch) (D : va_G) (ad : Nat → Nat) (cI : ClassId) (σ : S9) (d : Nat) (hd : d < 35) : CMi l (mW ad cI) D [(cI, .int)] yX5_isLet wsX5_isLet ({ frames := 0, cells := 0, slots := 0, locals := 0 } : Room) [.ref (ad 0), .int (nI d)] σ (fun r u => r = p_let (σ 0) d ∧ u = σ) := by
  refine v_starti (own := RX5) (cc := cX5_isLet) (nL := 2) rfl (by decide) rfl (Nat.le_of_ble_eq_true rfl) ?_
  intro p e s m args below meth c A Q C K hend
  refine v_lv (lv' := [(0, .ref (ad 0)), (1, .int (nI d))]) [0, 1] rfl ?_
  refine v_aload_n C dX5_isLet_0 rfl 0 0 rfl rfl ?_
  refine v_get C K in_X5_isLet_X5 0 rfl rfl 0 (by decide) fl_X5_isLet_X5_0 rfl dX5_isLet_1 rfl ?_
  refine v_bipush (v := 116) C dX5_isLet_4 rfl bp_116 ?_
  refine v_iload_n C dX5_isLet_6 rfl 1 1 rfl rfl ?_
  refine v_iadd C dX5_isLet_7 rfl ?_
  refine v_iald C K 1 0 rfl rfl (116 + d) (by simp only [lit9, pk_mul, nI_add]) (by omega) (by decide) dX5_isLet_8 rfl ?_
  refine v_if_le C 16 dX5_isLet_9 (by decide) rfl (fun h9 => ?_) (fun h9 => ?_)
  · skip
    refine v_iconst (v := 0) C dX5_isLet_16 rfl ic_0 ?_
    exact hend (⟨by simp [p_let, h9], rfl⟩) (rfl) dX5_isLet_17
  · skip
    refine v_iconst (v := 1) C dX5_isLet_12 rfl ic_1 ?_
    refine v_goto C 17 dX5_isLet_13 (by decide) ?_
    exact hend (⟨by simp [p_let, h9], rfl⟩) (rfl) dX5_isLet_17
def p_canShow (r : Nat → Int32) (f d : Nat) : Int32 := if ¬ p_let r d = 0 then 0 else if nI d < r (6 + 5 * f + 4) then 0 else 1
set_option maxHeartbeats 4000000 in
set_option maxRecDepth 100000 in
theorem c_X5_canShow (l : Launch) (D : va_G) (ad : Nat → Nat) (cI : ClassId) (σ : S9) (f d : Nat) (hf : f < 8) (hd : d < 35) : CMi l (mW ad cI) D [(cI, .int)] yX5_canShow wsX5_canShow ({ frames := 1, cells := 0, slots := 0, locals := 22 } : Room) [.ref (ad 0), .int (nI f), .int (nI d)] σ (fun r u => r = p_canShow (σ 0) f d ∧ u = σ) := by
  refine v_starti (own := RX5) (cc := cX5_canShow) (nL := 3) rfl (by decide) rfl (Nat.le_of_ble_eq_true rfl) ?_
  intro p e s m args below meth c A Q C K hend
  refine v_lv (lv' := [(0, .ref (ad 0)), (1, .int (nI f)), (2, .int (nI d))]) [0, 1, 2] rfl ?_
  refine v_aload_n C dX5_canShow_0 rfl 0 0 rfl rfl ?_
  refine v_iload_n C dX5_canShow_1 rfl 2 2 rfl rfl ?_
  refine v_callVi C K (c_X5_isLet l D ad cI _ _ hd) gX5_canShow_X5_isLet rfl hd_X5_isLet ⟨rfl, rfl⟩ ⟨Nat.le_of_ble_eq_true rfl, Nat.le_of_ble_eq_true rfl⟩ 0 rfl rfl rfl rfl rfl (Nat.le_of_ble_eq_true rfl) ⟨Nat.le_refl _, Nat.le_refl _⟩ dX5_canShow_2 rfl (fun r2 u2 hc2 => ?_)
  obtain ⟨rfl, rfl⟩ := hc2
  refine v_if_ne C 22 dX5_canShow_5 (by decide) rfl (fun h5 => ?_) (fun h5 => ?_)
  · skip
    refine v_iconst (v := 0) C dX5_canShow_22 rfl ic_0 ?_
    exact hend (⟨by simp [p_canShow, h5], rfl⟩) (rfl) dX5_canShow_23
  · skip
    refine v_iload_n C dX5_canShow_8 rfl 2 2 rfl rfl ?_
    refine v_aload_n C dX5_canShow_9 rfl 0 0 rfl rfl ?_
    refine v_iload_n C dX5_canShow_10 rfl 1 1 rfl rfl ?_
    refine v_iconst (v := 4) C dX5_canShow_11 rfl ic_4 ?_
    refine v_callVi C K (c_X5_filmPart l D ad cI _ f 4 hf (by decide)) gX5_canShow_X5_filmPart rfl hd_X5_filmPart ⟨rfl, rfl⟩ ⟨Nat.le_of_ble_eq_true rfl, Nat.le_of_ble_eq_true rfl⟩ 0 rfl rfl rfl rfl rfl (Nat.le_of_ble_eq_true rfl) ⟨Nat.le_refl _, Nat.le_refl _⟩ dX5_canShow_12 rfl (fun r12 u12 hc12 => ?_)
    obtain ⟨rfl, rfl⟩ := hc12
    refine v_icmp_lt C 22 dX5_canShow_15 (by decide) rfl (fun h15 => ?_) (fun h15 => ?_)
    · skip
      refine v_iconst (v := 0) C dX5_canShow_22 rfl ic_0 ?_
      exact hend (⟨by simp [p_canShow, h5, h15], rfl⟩) (rfl) dX5_canShow_23
    · skip
      refine v_iconst (v := 1) C dX5_canShow_18 rfl ic_1 ?_
      refine v_goto C 23 dX5_canShow_19 (by decide) ?_
      exact hend (⟨by simp [p_canShow, h5, h15], rfl⟩) (rfl) dX5_canShow_23
def p_why (r : Nat → Int32) (f d q : Int32) : Int32 := if p_in f 0 (r 5 - 1) = 0 then -1 else if p_part d q = 0 then -2 else if p_canShow r f.toNatClampNeg d.toNatClampNeg = 0 then -5 else 0
theorem p_in_ne {v lo hi : Int32} (h : ¬ p_in v lo hi = 0) : lo ≤ v ∧ v ≤ hi := by
  unfold p_in at h
  by_cases h1 : v < lo
  · simp [h1] at h
  · by_cases h2 : hi < v
    · simp [h1, h2] at h
    · exact ⟨Int32.not_lt.mp h1, Int32.not_lt.mp h2⟩
theorem p_in_nI {v : Int32} {n : Nat} (hn : n < 2 ^ 31) (h : ¬ p_in v 0 (nI n) = 0) : ∃ j : Nat, j ≤ n ∧ v = nI j := by
  obtain ⟨h1, h2⟩ := p_in_ne h
  exact nI_of2 (M := nI n) (nI_toInt hn) (Int32.not_lt.mpr h1) h2
theorem p_part_ne {d q : Int32} (h : ¬ p_part d q = 0) : ∃ (i j : Nat), i < 35 ∧ j < 2 ∧ d = nI i ∧ q = nI j := by
  unfold p_part at h
  by_cases h1 : p_in d 0 34 = 0
  · simp [h1] at h
  · by_cases h2 : p_in q 0 1 = 0
    · simp [h1, h2] at h
    · obtain ⟨i, hi, rfl⟩ := p_in_nI (n := 34) (by decide) h1
      obtain ⟨j, hj, rfl⟩ := p_in_nI (n := 1) (by decide) h2
      exact ⟨i, j, by omega, by omega, rfl, rfl⟩
theorem p_film_ne {f : Int32} {r : Nat → Int32} {n : Nat} (hn : r 5 = nI n) (h8 : n ≤ 8) (h : ¬ p_in f 0 (r 5 - 1) = 0) : ∃ i : Nat, i < n ∧ f = nI i := by
  rcases Nat.eq_zero_or_pos n with h0 | h0
  · subst h0
    obtain ⟨h1, h2⟩ := p_in_ne h
    rw [hn] at h2
    have h3 := Int32.le_trans h1 h2
    exact absurd h3 (by decide)
  · rw [hn, show nI n - 1 = nI (n - 1) by have := nI_pred (n - 1); rwa [Nat.sub_add_cancel h0] at this] at h
    obtain ⟨i, hi, rfl⟩ := p_in_nI (by omega) h
    exact ⟨i, by omega, rfl⟩
theorem nI_cl {n : Nat} (h : n < 100000) : (nI n).toNatClampNeg = n := nI_clamp (by omega)
set_option maxHeartbeats 4000000 in
set_option maxRecDepth 100000 in
theorem c_X5_whyNotShown (l : Launch) (D : va_G) (ad : Nat → Nat) (cI : ClassId) (σ : S9) (n : Nat) (hn : σ 0 5 = nI n) (h8 : n ≤ 8) (f d q : Int32) : CMi l (mW ad cI) D [(cI, .int)] yX5_whyNotShown wsX5_whyNotShown ({ frames := 2, cells := 0, slots := 0, locals := 44 } : Room) [.ref (ad 0), .int f, .int d, .int q] σ (fun r u => r = p_why (σ 0) f d q ∧ u = σ) := by
  refine v_starti (own := RX5) (cc := cX5_whyNotShown) (nL := 4) rfl (by decide) rfl (Nat.le_of_ble_eq_true rfl) ?_
  intro p e s m args below meth c A Q C K hend
  refine v_lv (lv' := [(0, .ref (ad 0)), (1, .int f), (2, .int d), (3, .int q)]) [0, 1, 2, 3] rfl ?_
  refine v_aload_n C dX5_whyNotShown_0 rfl 0 0 rfl rfl ?_
  refine v_iload_n C dX5_whyNotShown_1 rfl 1 1 rfl rfl ?_
  refine v_callVi C K (c_X5_isFilm l D ad cI _ _) gX5_whyNotShown_X5_isFilm rfl hd_X5_isFilm ⟨rfl, rfl⟩ ⟨Nat.le_of_ble_eq_true rfl, Nat.le_of_ble_eq_true rfl⟩ 0 rfl rfl rfl rfl rfl (Nat.le_of_ble_eq_true rfl) ⟨Nat.le_refl _, Nat.le_refl _⟩ dX5_whyNotShown_2 rfl (fun r2 u2 hc2 => ?_)
  obtain ⟨rfl, rfl⟩ := hc2
  refine v_if_ne C 10 dX5_whyNotShown_5 (by decide) rfl (fun h5 => ?_) (fun h5 => ?_)
  · skip
    refine v_iload_n C dX5_whyNotShown_10 rfl 2 2 rfl rfl ?_
    refine v_iload_n C dX5_whyNotShown_11 rfl 3 3 rfl rfl ?_
    refine v_callSp C (c_X5_isPart l _ _) gX5_whyNotShown_X5_isPart rfl hd_X5_isPart.2 ⟨rfl, rfl⟩ ⟨Nat.le_of_ble_eq_true rfl, Nat.le_of_ble_eq_true rfl⟩ rfl rfl (Nat.le_of_ble_eq_true rfl) ⟨Nat.le_refl _, Nat.le_refl _⟩ dX5_whyNotShown_12 rfl (fun r12 hc12 => ?_)
    subst hc12
    refine v_if_ne C 23 dX5_whyNotShown_15 (by decide) rfl (fun h15 => ?_) (fun h15 => ?_)
    · skip
      obtain ⟨f, hf, rfl⟩ := p_film_ne hn h8 h5
      obtain ⟨d, q, hi, hj, rfl, rfl⟩ := p_part_ne h15
      refine v_aload_n C dX5_whyNotShown_23 rfl 0 0 rfl rfl ?_
      refine v_iload_n C dX5_whyNotShown_24 rfl 1 1 rfl rfl ?_
      refine v_iload_n C dX5_whyNotShown_25 rfl 2 2 rfl rfl ?_
      refine v_callVi C K (c_X5_canShow l D ad cI _ _ _ (Nat.lt_of_lt_of_le hf h8) hi) gX5_whyNotShown_X5_canShow rfl hd_X5_canShow ⟨rfl, rfl⟩ ⟨Nat.le_of_ble_eq_true rfl, Nat.le_of_ble_eq_true rfl⟩ 0 rfl rfl rfl rfl rfl (Nat.le_of_ble_eq_true rfl) ⟨Nat.le_refl _, Nat.le_refl _⟩ dX5_whyNotShown_26 rfl (fun r26 u26 hc26 => ?_)
      obtain ⟨rfl, rfl⟩ := hc26
      refine v_if_eq C 36 dX5_whyNotShown_29 (by decide) rfl (fun h29 => ?_) (fun h29 => ?_)
      · skip
        refine v_bipush (v := -5) C dX5_whyNotShown_36 rfl bp_m5 ?_
        exact hend (⟨by simp [p_why, nI_cl (show d < 100000 by omega), nI_cl (show f < 100000 by omega), h5, h15, h29], rfl⟩) (rfl) dX5_whyNotShown_38
      · skip
        refine v_iconst (v := 0) C dX5_whyNotShown_32 rfl ic_0 ?_
        refine v_goto C 38 dX5_whyNotShown_33 (by decide) ?_
        exact hend (⟨by simp [p_why, nI_cl (show d < 100000 by omega), nI_cl (show f < 100000 by omega), h5, h15, h29], rfl⟩) (rfl) dX5_whyNotShown_38
    · skip
      refine v_bipush (v := -2) C dX5_whyNotShown_18 rfl bp_m2 ?_
      refine v_goto C 38 dX5_whyNotShown_20 (by decide) ?_
      exact hend (⟨by simp [p_why, h5, h15], rfl⟩) (rfl) dX5_whyNotShown_38
  · skip
    refine v_iconst (v := -1) C dX5_whyNotShown_8 rfl ic_m1 ?_
    exact hend (⟨by simp [p_why, h5], rfl⟩) (rfl) dX5_whyNotShown_9
def p_canBe (r : Nat → Int32) (x : Int32) (d : Nat) : Int32 := if ¬ p_let r d = 0 then 0 else if x = -6 then 1 else if nI d < r (6 + 5 * x.toNatClampNeg + 4) then 0 else 1
set_option maxHeartbeats 4000000 in
set_option maxRecDepth 100000 in
theorem c_X5_canBe (l : Launch) (D : va_G) (ad : Nat → Nat) (cI : ClassId) (σ : S9) (x : Int32) (hx : x = -6 ∨ ∃ f : Nat, f < 8 ∧ x = nI f) (d : Nat) (hd : d < 35) : CMi l (mW ad cI) D [(cI, .int)] yX5_canBe wsX5_canBe ({ frames := 1, cells := 0, slots := 0, locals := 22 } : Room) [.ref (ad 0), .int x, .int (nI d)] σ (fun r u => r = p_canBe (σ 0) x d ∧ u = σ) := by
  refine v_starti (own := RX5) (cc := cX5_canBe) (nL := 3) rfl (by decide) rfl (Nat.le_of_ble_eq_true rfl) ?_
  intro p e s m args below meth c A Q C K hend
  refine v_lv (lv' := [(0, .ref (ad 0)), (1, .int x), (2, .int (nI d))]) [0, 1, 2] rfl ?_
  refine v_aload_n C dX5_canBe_0 rfl 0 0 rfl rfl ?_
  refine v_iload_n C dX5_canBe_1 rfl 2 2 rfl rfl ?_
  refine v_callVi C K (c_X5_isLet l D ad cI _ _ hd) gX5_canBe_X5_isLet rfl hd_X5_isLet ⟨rfl, rfl⟩ ⟨Nat.le_of_ble_eq_true rfl, Nat.le_of_ble_eq_true rfl⟩ 0 rfl rfl rfl rfl rfl (Nat.le_of_ble_eq_true rfl) ⟨Nat.le_refl _, Nat.le_refl _⟩ dX5_canBe_2 rfl (fun r2 u2 hc2 => ?_)
  obtain ⟨rfl, rfl⟩ := hc2
  refine v_if_ne C 28 dX5_canBe_5 (by decide) rfl (fun h5 => ?_) (fun h5 => ?_)
  · skip
    refine v_iconst (v := 0) C dX5_canBe_28 rfl ic_0 ?_
    exact hend (⟨by simp [p_canBe, h5], rfl⟩) (rfl) dX5_canBe_29
  · skip
    refine v_iload_n C dX5_canBe_8 rfl 1 1 rfl rfl ?_
    refine v_bipush (v := -6) C dX5_canBe_9 rfl bp_m6 ?_
    refine v_icmp_eq C 24 dX5_canBe_11 (by decide) rfl (fun h11 => ?_) (fun h11 => ?_)
    · skip
      refine v_iconst (v := 1) C dX5_canBe_24 rfl ic_1 ?_
      refine v_goto C 29 dX5_canBe_25 (by decide) ?_
      exact hend (⟨by simp [p_canBe, h5, h11], rfl⟩) (rfl) dX5_canBe_29
    · skip
      obtain ⟨f, hf, rfl⟩ := hx.resolve_left h11
      refine v_iload_n C dX5_canBe_14 rfl 2 2 rfl rfl ?_
      refine v_aload_n C dX5_canBe_15 rfl 0 0 rfl rfl ?_
      refine v_iload_n C dX5_canBe_16 rfl 1 1 rfl rfl ?_
      refine v_iconst (v := 4) C dX5_canBe_17 rfl ic_4 ?_
      refine v_callVi C K (c_X5_filmPart l D ad cI _ f 4 hf (by decide)) gX5_canBe_X5_filmPart rfl hd_X5_filmPart ⟨rfl, rfl⟩ ⟨Nat.le_of_ble_eq_true rfl, Nat.le_of_ble_eq_true rfl⟩ 0 rfl rfl rfl rfl rfl (Nat.le_of_ble_eq_true rfl) ⟨Nat.le_refl _, Nat.le_refl _⟩ dX5_canBe_18 rfl (fun r18 u18 hc18 => ?_)
      obtain ⟨rfl, rfl⟩ := hc18
      refine v_icmp_lt C 28 dX5_canBe_21 (by decide) rfl (fun h21 => ?_) (fun h21 => ?_)
      · skip
        refine v_iconst (v := 0) C dX5_canBe_28 rfl ic_0 ?_
        exact hend (⟨by simp [p_canBe, nI_cl (show f < 100000 by omega), h5, h11, h21], rfl⟩) (rfl) dX5_canBe_29
      · skip
        refine v_iconst (v := 1) C dX5_canBe_24 rfl ic_1 ?_
        refine v_goto C 29 dX5_canBe_25 (by decide) ?_
        exact hend (⟨by simp [p_canBe, nI_cl (show f < 100000 by omega), h5, h11, h21], rfl⟩) (rfl) dX5_canBe_29
def mvF (g h : Nat → Int32) (fo t : Nat) : Nat → (Nat → Int32)
  | 0 => h
  | k + 1 => upd (mvF g h fo t k) (t + k) (g (fo + k))
theorem mvF_in (g h : Nat → Int32) (fo t : Nat) : ∀ (n k : Nat), k < n → mvF g h fo t n (t + k) = g (fo + k)
  | 0, k, hk => absurd hk (Nat.not_lt_zero k)
  | n + 1, k, hk => by
    by_cases e : k = n
    · subst e
      exact upd_s _ _ _
    · rw [mvF, upd_n _ _ (by omega)]
      exact mvF_in g h fo t n k (by omega)
theorem mvF_out (g h : Nat → Int32) (fo t : Nat) {j : Nat} : ∀ (n : Nat), (j < t ∨ t + n ≤ j) → mvF g h fo t n j = h j
  | 0, _ => rfl
  | n + 1, hj => by
    rw [mvF, upd_n _ _ (by omega)]
    exact mvF_out g h fo t n (by omega)
set_option maxHeartbeats 4000000 in
set_option maxRecDepth 100000 in
theorem c_X5_moves (l : Launch) (D : va_G) (ad : Nat → Nat) (cI : ClassId) (σ : S9) (a b fo t : Nat) (ha : a < 12) (hb : b < 12) (hab : a ≠ b) (h1 : fo + 151 ≤ mLen a) (h2 : t + 151 ≤ mLen b) (h3 : mLen a ≤ 1000 ∧ mLen b ≤ 1000) : CMv l (mW ad cI) D [(cI, .int)] yX5_moves wsX5_moves ({ frames := 0, cells := 0, slots := 0, locals := 0 } : Room) [.ref (ad (a + 1)), .int (nI fo), .ref (ad (b + 1)), .int (nI t)] σ (fun u => u = st9 σ b (mvF (σ a) (σ b) fo t 151)) := by
  refine v_startv (own := RX5) (cc := cX5_moves) (nL := 5) rfl (by decide) rfl (Nat.le_of_ble_eq_true rfl) ?_
  intro p e s m args below meth c A Q C K hend
  refine v_lv (lv' := [(0, .ref (ad (a + 1))), (1, .int (nI fo)), (2, .ref (ad (b + 1))), (3, .int (nI t))]) [0, 1, 2, 3] rfl ?_
  refine v_iconst (v := 0) C dX5_moves_0 rfl ic_0 ?_
  refine v_istore (lv' := [(4, _), (0, _), (1, _), (2, _), (3, _)]) C dX5_moves_1 rfl (by decide) rfl ?_
  have LP3 : ∀ d, d ≤ 151 → VV p l e ({ frames := 0, cells := 0, slots := 0, locals := 0 } : Room) s m args below meth c 0 0 Q (mW ad cI) D A s.heap 5 (st9 σ b (mvF (σ a) (σ b) fo t d)) 3 [(0, .ref (ad (a + 1))), (1, .int (nI fo)), (2, .ref (ad (b + 1))), (3, .int (nI t)), (4, .int (nI d))] [] := by
    refine lpB9 (fun d => VV p l e ({ frames := 0, cells := 0, slots := 0, locals := 0 } : Room) s m args below meth c 0 0 Q (mW ad cI) D A s.heap 5 (st9 σ b (mvF (σ a) (σ b) fo t d)) 3 [(0, .ref (ad (a + 1))), (1, .int (nI fo)), (2, .ref (ad (b + 1))), (3, .int (nI t)), (4, .int (nI d))] []) 151 (fun d hd ih => ?_) ?_
    · skip
      refine v_iload C dX5_moves_3 rfl 4 rfl ?_
      refine v_sipush (v := 151) C dX5_moves_5 rfl sp_151 ?_
      refine v_icmp_ge C 29 dX5_moves_8 (by decide) rfl (fun h9 => absurd h9 (nI_ge hd (by decide))) (fun _ => ?_)
      refine v_aload_n C dX5_moves_11 rfl 2 2 rfl rfl ?_
      refine v_iload_n C dX5_moves_12 rfl 3 3 rfl rfl ?_
      refine v_iload C dX5_moves_13 rfl 4 rfl ?_
      refine v_iadd C dX5_moves_15 rfl ?_
      refine v_aload_n C dX5_moves_16 rfl 0 0 rfl rfl ?_
      refine v_iload_n C dX5_moves_17 rfl 1 1 rfl rfl ?_
      refine v_iload C dX5_moves_18 rfl 4 rfl ?_
      refine v_iadd C dX5_moves_20 rfl ?_
      refine v_iald C K (a + 1) 0 (mW_get ad cI _ (by omega)) rfl (fo + d) (by simp only [nI_add]) (by omega) (by omega) dX5_moves_21 rfl ?_
      refine v_iast C K _ (b + 1) 0 (mW_get ad cI _ (by omega)) rfl (t + d) (by simp only [nI_add]) (by omega) (by omega) (mW_ax ad cI _ _ (by omega)) dX5_moves_22 rfl ?_
      refine v_iinc (lv' := [(4, _), (0, _), (1, _), (2, _), (3, _)]) C dX5_moves_23 rfl 4 rfl (inc9 _) (by decide) rfl ?_
      refine v_goto C 3 dX5_moves_26 (by decide) ?_
      refine v_lv [1, 2, 3, 4, 0] rfl ?_
      exact v9cast ih (by rw [st9_tw, st9_s, st9_n _ _ hab]; rfl) rfl rfl
    · skip
      refine v_iload C dX5_moves_3 rfl 4 rfl ?_
      refine v_sipush (v := 151) C dX5_moves_5 rfl sp_151 ?_
      refine v_icmp_ge C 29 dX5_moves_8 (by decide) rfl (fun _ => ?_) (fun h9 => absurd (nI_le (Nat.le_refl _) (by decide)) h9)
      exact hend (rfl) dX5_moves_29
  refine v_lv [1, 2, 3, 4, 0] rfl ?_
  exact v9cast (LP3 0 (by omega)) (st9_id σ b).symm rfl rfl
def shF (g : Nat → Int32) : Nat → (Nat → Int32)
  | 0 => g
  | k + 1 => upd (shF g k) k (shF g k (k + 151))
theorem shF_spec (g : Nat → Int32) : ∀ (n j : Nat), shF g n j = if j < n then g (j + 151) else g j
  | 0, j => by simp [shF]
  | n + 1, j => by
    rw [shF]
    by_cases e : j = n
    · subst e
      rw [upd_s, shF_spec g j (j + 151), if_neg (by omega), if_pos (by omega)]
    · rw [upd_n _ _ e, shF_spec g n j]
      by_cases h : j < n
      · rw [if_pos h, if_pos (by omega)]
      · rw [if_neg h, if_neg (by omega)]
def rcN (n : Nat) : Nat := if n = 6 then 5 else n
def rcH (σ : S9) (n : Nat) : Nat → Int32 := mvF (σ 0) (if n = 6 then shF (σ 1) 755 else σ 1) 0 (rcN n * 151) 151
def rcM (σ : S9) (n : Nat) : S9 := st9 (st9 σ 1 (rcH σ n)) 12 (upd (σ 12) 0 (nI (rcN n + 1)))
set_option maxHeartbeats 4000000 in
set_option maxRecDepth 100000 in
theorem c_X5_record (l : Launch) (D : va_G) (ad : Nat → Nat) (cI : ClassId) (σ : S9) (n : Nat) (hn : σ 12 0 = nI n) (h6 : n ≤ 6) : CMv l (mW ad cI) D [(cI, .int)] yX5_record wsX5_record ({ frames := 1, cells := 0, slots := 0, locals := 24 } : Room) [.ref (ad 0)] σ (fun u => u = rcM σ n) := by
  refine v_startv (own := RX5) (cc := cX5_record) (nL := 2) rfl (by decide) rfl (Nat.le_of_ble_eq_true rfl) ?_
  intro p e s m args below meth c A Q C K hend
  refine v_lv (lv' := [(0, .ref (ad 0))]) [0] rfl ?_
  refine v_aload_n C dX5_record_0 rfl 0 0 rfl rfl ?_
  refine v_get C K in_X5_record_X5 0 rfl rfl 2 (by decide) fl_X5_record_X5_2 rfl dX5_record_1 rfl ?_
  refine v_bipush (v := 6) C dX5_record_4 rfl bp_6 ?_
  refine v_icmp_ne C 50 dX5_record_6 (by decide) rfl (fun h6_ => ?_) (fun h6_ => ?_)
  · skip
    have n6 : n ≠ 6 := by
      rintro rfl
      exact h6_ hn
    refine v_aload_n C dX5_record_50 rfl 0 0 rfl rfl ?_
    refine v_get C K in_X5_record_X5 0 rfl rfl 0 (by decide) fl_X5_record_X5_0 rfl dX5_record_51 rfl ?_
    refine v_iconst (v := 0) C dX5_record_54 rfl ic_0 ?_
    refine v_aload_n C dX5_record_55 rfl 0 0 rfl rfl ?_
    refine v_get C K in_X5_record_X5 0 rfl rfl 1 (by decide) fl_X5_record_X5_1 rfl dX5_record_56 rfl ?_
    refine v_aload_n C dX5_record_59 rfl 0 0 rfl rfl ?_
    refine v_get C K in_X5_record_X5 0 rfl rfl 2 (by decide) fl_X5_record_X5_2 rfl dX5_record_60 rfl ?_
    refine v_sipush (v := 151) C dX5_record_63 rfl sp_151 ?_
    refine v_imul C dX5_record_66 rfl ?_
    refine v_top (nI (rcN n * 151)) (by rw [hn, rcN, if_neg n6]; simp only [lit9, pk_mul]) ?_
    refine v_callSv C K (c_X5_moves l D ad cI _ 0 1 0 _ (by decide) (by decide) (by decide) (by decide) (by have h9 : rcN n ≤ 5 := (by unfold rcN; split <;> omega); simp only [mLen]; simp; omega) (by decide)) gX5_record_X5_moves rfl hd_X5_moves.2 ⟨rfl, rfl⟩ ⟨Nat.le_of_ble_eq_true rfl, Nat.le_of_ble_eq_true rfl⟩ rfl rfl (Nat.le_of_ble_eq_true rfl) ⟨Nat.le_refl _, Nat.le_refl _⟩ dX5_record_67 rfl (fun u67 hc67 => ?_)
    subst hc67
    refine v_aload_n C dX5_record_70 rfl 0 0 rfl rfl ?_
    refine v_dup C dX5_record_71 rfl rfl ?_
    refine v_get C K in_X5_record_X5 0 rfl rfl 2 (by decide) fl_X5_record_X5_2 rfl dX5_record_72 rfl ?_
    refine v_iconst (v := 1) C dX5_record_75 rfl ic_1 ?_
    refine v_iadd C dX5_record_76 rfl ?_
    refine v_top (nI (rcN n + 1)) (by rw [st9_n _ _ (by decide), hn, rcN, if_neg n6]; exact nI_1 n) ?_
    refine v_put (ty := .int) C K _ in_X5_record_X5 tyX5_ok nmX5 0 rfl rfl 2 (by decide) fl_X5_record_X5_2 rfl (by decide +kernel) rfl rfl (Nat.le_of_ble_eq_true rfl) (mW_f0 ad cI _ _) dX5_record_77 rfl ?_
    exact hend (by first | (rw [st9_n _ _ (by decide)]; simp [rcM, rcH, n6]; done) | (funext i; by_cases e1 : i = 1 <;> by_cases e2 : i = 12 <;> simp [rcM, rcH, st9, e1, e2, upd_tw])) dX5_record_80
  · skip
    have e6 : n = 6 := by
      rw [hn] at h6_
      exact (nI_eq (by omega) (by decide)).mp h6_
    subst e6
    refine v_iconst (v := 0) C dX5_record_9 rfl ic_0 ?_
    refine v_istore_n (lv' := [(1, _), (0, _)]) C dX5_record_10 rfl 1 rfl (by decide) rfl ?_
    have LP11 : ∀ d, d ≤ 755 → VV p l e ({ frames := 1, cells := 0, slots := 0, locals := 24 } : Room) s m args below meth c 0 0 Q (mW ad cI) D A s.heap 2 (st9 σ 1 (shF (σ 1) d)) 11 [(0, .ref (ad 0)), (1, .int (nI d))] [] := by
      refine lpB9 (fun d => VV p l e ({ frames := 1, cells := 0, slots := 0, locals := 24 } : Room) s m args below meth c 0 0 Q (mW ad cI) D A s.heap 2 (st9 σ 1 (shF (σ 1) d)) 11 [(0, .ref (ad 0)), (1, .int (nI d))] []) 755 (fun d hd ih => ?_) ?_
      · skip
        refine v_iload_n C dX5_record_11 rfl 1 1 rfl rfl ?_
        refine v_sipush (v := 755) C dX5_record_12 rfl sp_755 ?_
        refine v_icmp_ge C 40 dX5_record_15 (by decide) rfl (fun h9 => absurd h9 (nI_ge hd (by decide))) (fun _ => ?_)
        refine v_aload_n C dX5_record_18 rfl 0 0 rfl rfl ?_
        refine v_get C K in_X5_record_X5 0 rfl rfl 1 (by decide) fl_X5_record_X5_1 rfl dX5_record_19 rfl ?_
        refine v_iload_n C dX5_record_22 rfl 1 1 rfl rfl ?_
        refine v_aload_n C dX5_record_23 rfl 0 0 rfl rfl ?_
        refine v_get C K in_X5_record_X5 0 rfl rfl 1 (by decide) fl_X5_record_X5_1 rfl dX5_record_24 rfl ?_
        refine v_iload_n C dX5_record_27 rfl 1 1 rfl rfl ?_
        refine v_sipush (v := 151) C dX5_record_28 rfl sp_151 ?_
        refine v_iadd C dX5_record_31 rfl ?_
        refine v_iald C K 2 0 rfl rfl (d + 151) (by simp only [lit9, pk_mul, nI_add]) (by omega) (by decide) dX5_record_32 rfl ?_
        refine v_iast C K _ 2 0 rfl rfl (d) (rfl) (by omega) (by decide) (mW_a1 ad cI _ _) dX5_record_33 rfl ?_
        refine v_iinc (lv' := [(1, _), (0, _)]) C dX5_record_34 rfl 1 rfl (inc9 _) (by decide) rfl ?_
        refine v_goto C 11 dX5_record_37 (by decide) ?_
        refine v_lv [1, 0] rfl ?_
        exact v9cast ih (by rw [st9_tw, st9_s]; rfl) rfl rfl
      · skip
        refine v_iload_n C dX5_record_11 rfl 1 1 rfl rfl ?_
        refine v_sipush (v := 755) C dX5_record_12 rfl sp_755 ?_
        refine v_icmp_ge C 40 dX5_record_15 (by decide) rfl (fun _ => ?_) (fun h9 => absurd (nI_le (Nat.le_refl _) (by decide)) h9)
        refine v_aload_n C dX5_record_40 rfl 0 0 rfl rfl ?_
        refine v_dup C dX5_record_41 rfl rfl ?_
        refine v_get C K in_X5_record_X5 0 rfl rfl 2 (by decide) fl_X5_record_X5_2 rfl dX5_record_42 rfl ?_
        refine v_iconst (v := 1) C dX5_record_45 rfl ic_1 ?_
        refine v_isub C dX5_record_46 rfl ?_
        refine v_top (nI 5) (by rw [st9_n _ _ (by decide), hn]; rfl) ?_
        refine v_put (ty := .int) C K _ in_X5_record_X5 tyX5_ok nmX5 0 rfl rfl 2 (by decide) fl_X5_record_X5_2 rfl (by decide +kernel) rfl rfl (Nat.le_of_ble_eq_true rfl) (mW_f0 ad cI _ _) dX5_record_47 rfl ?_
        refine v_aload_n C dX5_record_50 rfl 0 0 rfl rfl ?_
        refine v_get C K in_X5_record_X5 0 rfl rfl 0 (by decide) fl_X5_record_X5_0 rfl dX5_record_51 rfl ?_
        refine v_iconst (v := 0) C dX5_record_54 rfl ic_0 ?_
        refine v_aload_n C dX5_record_55 rfl 0 0 rfl rfl ?_
        refine v_get C K in_X5_record_X5 0 rfl rfl 1 (by decide) fl_X5_record_X5_1 rfl dX5_record_56 rfl ?_
        refine v_aload_n C dX5_record_59 rfl 0 0 rfl rfl ?_
        refine v_get C K in_X5_record_X5 0 rfl rfl 2 (by decide) fl_X5_record_X5_2 rfl dX5_record_60 rfl ?_
        refine v_sipush (v := 151) C dX5_record_63 rfl sp_151 ?_
        refine v_imul C dX5_record_66 rfl ?_
        refine v_top (nI (rcN 6 * 151)) (rfl) ?_
        refine v_callSv C K (c_X5_moves l D ad cI _ 0 1 0 _ (by decide) (by decide) (by decide) (by decide) (by decide) (by decide)) gX5_record_X5_moves rfl hd_X5_moves.2 ⟨rfl, rfl⟩ ⟨Nat.le_of_ble_eq_true rfl, Nat.le_of_ble_eq_true rfl⟩ rfl rfl (Nat.le_of_ble_eq_true rfl) ⟨Nat.le_refl _, Nat.le_refl _⟩ dX5_record_67 rfl (fun u67 hc67 => ?_)
        subst hc67
        refine v_aload_n C dX5_record_70 rfl 0 0 rfl rfl ?_
        refine v_dup C dX5_record_71 rfl rfl ?_
        refine v_get C K in_X5_record_X5 0 rfl rfl 2 (by decide) fl_X5_record_X5_2 rfl dX5_record_72 rfl ?_
        refine v_iconst (v := 1) C dX5_record_75 rfl ic_1 ?_
        refine v_iadd C dX5_record_76 rfl ?_
        refine v_top (nI (rcN 6 + 1)) (rfl) ?_
        refine v_put (ty := .int) C K _ in_X5_record_X5 tyX5_ok nmX5 0 rfl rfl 2 (by decide) fl_X5_record_X5_2 rfl (by decide +kernel) rfl rfl (Nat.le_of_ble_eq_true rfl) (mW_f0 ad cI _ _) dX5_record_77 rfl ?_
        exact hend (by first | (rw [st9_n _ _ (by decide)]; simp [rcM, rcH, n6]; done) | (funext i; by_cases e1 : i = 1 <;> by_cases e2 : i = 12 <;> simp [rcM, rcH, st9, e1, e2, upd_tw])) dX5_record_80
    refine v_lv [1, 0] rfl ?_
    exact v9cast (LP11 0 (by omega)) (st9_id σ 1).symm rfl rfl
end

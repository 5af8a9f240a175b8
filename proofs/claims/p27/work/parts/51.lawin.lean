/-! ===== the law: its words among the tables, by their places ===== -/
theorem in_at {big : List Cond} (ws : List Cond) (ps : List Nat) (hp : ws = ps.filterMap (fun i => big[i]?)) : ∀ w ∈ ws, w ∈ big := by
  intro w hw
  rw [hp] at hw
  obtain ⟨i, -, hi⟩ := List.mem_filterMap.mp hw
  first | exact List.mem_of_getElem? hi | exact List.getElem?_mem hi
set_option maxRecDepth 20000 in
theorem wsL_law_r1_in : ∀ w ∈ wsL_law_r1, w ∈ lw_tbl := in_at _ [19, 20, 12, 42, 381, 21, 22, 23, 24, 25, 26, 27, 28, 13, 101, 43, 44, 15, 102, 68, 69, 16, 103, 82] (by decide +kernel)
set_option maxRecDepth 20000 in
theorem wsL_law_r2_in : ∀ w ∈ wsL_law_r2, w ∈ lw_tbl := in_at _ [83, 17, 104, 100, 105, 120, 106, 29, 30, 31, 32, 38, 35, 37, 36, 14, 46, 47, 48, 49, 50, 51, 52, 71] (by decide +kernel)
set_option maxRecDepth 20000 in
theorem wsL_law_r3_in : ∀ w ∈ wsL_law_r3, w ∈ lw_tbl := in_at _ [72, 73, 81, 74, 85, 86, 87, 88, 90, 282, 283, 11, 284, 285, 286, 287, 288, 289, 290, 144, 145, 146, 147, 125] (by decide +kernel)
set_option maxRecDepth 20000 in
theorem wsL_law_r4_in : ∀ w ∈ wsL_law_r4, w ∈ lw_tbl := in_at _ [126, 127, 148, 149, 150, 151, 152, 153, 154, 132, 133, 134, 135, 91, 92, 136, 137, 138, 139, 155, 156, 157, 158, 159] (by decide +kernel)
set_option maxRecDepth 20000 in
theorem wsL_law_r5_in : ∀ w ∈ wsL_law_r5, w ∈ lw_tbl := in_at _ [291, 292, 293, 294, 295, 296, 297, 298, 299, 300, 301, 302, 303, 304, 305, 306, 307, 308, 309, 310, 311, 312, 313, 314] (by decide +kernel)
set_option maxRecDepth 20000 in
theorem wsL_law_r6_in : ∀ w ∈ wsL_law_r6, w ∈ lw_tbl := in_at _ [315, 316, 317, 270, 271, 272, 273, 257, 164, 166, 0, 167, 168, 169, 170, 171, 172, 173, 174, 175, 176, 177, 178, 179] (by decide +kernel)
set_option maxRecDepth 20000 in
theorem wsL_law_r7_in : ∀ w ∈ wsL_law_r7, w ∈ lw_tbl := in_at _ [180, 181, 182, 183, 184, 185, 186, 187, 188, 189, 190, 274, 276, 7, 277, 199, 200, 201, 202, 278, 280, 8, 281, 215] (by decide +kernel)
set_option maxRecDepth 20000 in
theorem wsL_law_r8_in : ∀ w ∈ wsL_law_r8, w ∈ lw_tbl := in_at _ [216, 217, 218, 53, 54, 219, 220, 222, 3, 223, 224, 225, 226, 227, 232, 233, 18, 234, 228, 229, 230, 231, 235, 236] (by decide +kernel)
set_option maxRecDepth 20000 in
theorem wsL_law_r9_in : ∀ w ∈ wsL_law_r9, w ∈ lw_tbl := in_at _ [237, 238, 239, 240, 241, 242, 243, 244, 245, 247, 4, 248, 249, 251, 5, 252, 253, 254, 255, 256, 191, 192, 193, 194] (by decide +kernel)
set_option maxRecDepth 20000 in
theorem wsL_law_r10_in : ∀ w ∈ wsL_law_r10, w ∈ lw_tbl := in_at _ [160, 161, 162, 163, 195, 196, 197, 198, 203, 204, 205, 206, 207, 209, 1, 210, 211, 213, 2, 214, 258, 259, 260, 261] (by decide +kernel)
set_option maxRecDepth 20000 in
theorem wsL_law_r11_a : ∀ w ∈ ([Cond.methodLink RX4 102 yX1_changeRent, Cond.instanceMethod yX1_changeRent, Cond.selects RX1 yX1_changeRent yX1_changeRent, Cond.code yX1_changeRent cX1_changeRent 3 none, Cond.methodLink RX4 106 yX4_dropShowsOfDay, Cond.instanceMethod yX4_dropShowsOfDay, Cond.selects RX4 yX4_dropShowsOfDay yX4_dropShowsOfDay, Cond.code yX4_dropShowsOfDay cX4_dropShowsOfDay 4 (some .int), Cond.methodLink RL 95 yX4_set, Cond.instanceMethod yX4_set, Cond.selects RX4 yX4_set yX4_set, Cond.code yX4_set cX4_set 3 (some .int), Cond.fieldLink RX4 50 "VillageCinema" "LEAST_SETTING" "[I", Cond.fieldLink RX4 54 "VillageCinema" "MOST_SETTING" "[I", Cond.methodLink RX4 61 yX1_changeSetting, Cond.instanceMethod yX1_changeSetting, Cond.selects RX1 yX1_changeSetting yX1_changeSetting, Cond.code yX1_changeSetting cX1_changeSetting 4 (some .int), Cond.methodLink RL 98 yL_same, Cond.static yL_same] : List Cond), w ∈ lw_tbl := in_at _ [262, 263, 264, 265, 266, 268, 6, 269, 121, 122, 123, 124, 128, 130, 140, 141, 142, 143, 318, 319] (by decide +kernel)
set_option maxRecDepth 20000 in
theorem wsL_law_r11_b : ∀ w ∈ ([Cond.methodLink RL 40 yX4_rent, Cond.instanceMethod yX4_rent, Cond.selects RX4 yX4_rent yX4_rent] : List Cond), w ∈ lw_tbl := in_at _ [321, 322, 323] (by decide +kernel)
set_option maxRecDepth 20000 in
theorem wsL_law_r11_c : Cond.code yL_same cL_same 22 (some .boolean) ∈ lw_tbl := List.mem_append_right _ (List.mem_of_getElem? (i := 309) rfl)
set_option maxRecDepth 20000 in
theorem wsL_law_r11_in : ∀ w ∈ wsL_law_r11, w ∈ lw_tbl := List.forall_mem_append.mpr ⟨wsL_law_r11_a, List.forall_mem_cons.mpr ⟨wsL_law_r11_c, wsL_law_r11_b⟩⟩
set_option maxRecDepth 20000 in
theorem wsL_law_r12_in : ∀ w ∈ wsL_law_r12, w ∈ lw_tbl := in_at _ [324, 325, 326, 327, 328, 329, 330, 331, 332, 333, 334, 335, 336, 337, 338, 339, 340, 341, 342, 343, 344, 345, 346, 347] (by decide +kernel)
set_option maxRecDepth 20000 in
theorem wsL_law_r13_in : ∀ w ∈ wsL_law_r13, w ∈ lw_tbl := in_at _ [348, 349, 350, 351, 352, 353, 354, 355, 356, 357, 358, 359, 360, 361, 362, 363, 364, 365, 366, 367, 368, 369, 370, 371] (by decide +kernel)
set_option maxRecDepth 20000 in
theorem wsL_law_r14_in : ∀ w ∈ wsL_law_r14, w ∈ lw_tbl := in_at _ [372, 373, 375, 9, 376, 377, 378, 379, 380, 382, 383, 384, 385, 386, 388, 10, 389, 390, 391, 392, 393, 394, 395, 396] (by decide +kernel)
set_option maxRecDepth 20000 in
theorem wsL_law_r15_in : ∀ w ∈ wsL_law_r15, w ∈ lw_tbl := in_at _ [397, 75, 398, 399, 400, 401] (by decide +kernel)
set_option maxRecDepth 20000 in
theorem wsL_law_cX0 : ∀ w ∈ wsX00, w ∈ lw_tbl := in_at _ [55, 57, 59, 61, 63, 65] (by decide +kernel)
set_option maxRecDepth 20000 in
theorem wsL_law_cX1 : ∀ w ∈ wsX10, w ∈ lw_tbl := in_at _ [39] (by decide +kernel)
set_option maxRecDepth 20000 in
theorem wsL_law_cX2 : ∀ w ∈ wsX20, w ∈ lw_tbl := in_at _ [93, 95, 97] (by decide +kernel)
set_option maxRecDepth 20000 in
theorem wsL_law_cX3 : ∀ w ∈ wsX30, w ∈ lw_tbl := in_at _ [76, 78] (by decide +kernel)
set_option maxRecDepth 20000 in
theorem wsL_law_cX4 : ∀ w ∈ wsX40, w ∈ lw_tbl := in_at _ [107, 109, 111, 113, 115, 117] (by decide +kernel)
theorem wsL_law_in : ∀ w ∈ wsL_law, w ∈ lw_tbl := by
  unfold wsL_law
  exact (List.forall_mem_append.mpr ⟨(List.forall_mem_append.mpr ⟨(List.forall_mem_append.mpr ⟨(List.forall_mem_append.mpr ⟨(List.forall_mem_append.mpr ⟨(List.forall_mem_append.mpr ⟨(List.forall_mem_append.mpr ⟨wsL_law_r1_in, (List.forall_mem_append.mpr ⟨wsL_law_r2_in, (List.forall_mem_append.mpr ⟨wsL_law_r3_in, (List.forall_mem_append.mpr ⟨wsL_law_r4_in, (List.forall_mem_append.mpr ⟨wsL_law_r5_in, (List.forall_mem_append.mpr ⟨wsL_law_r6_in, (List.forall_mem_append.mpr ⟨wsL_law_r7_in, (List.forall_mem_append.mpr ⟨wsL_law_r8_in, (List.forall_mem_append.mpr ⟨wsL_law_r9_in, (List.forall_mem_append.mpr ⟨wsL_law_r10_in, (List.forall_mem_append.mpr ⟨wsL_law_r11_in, (List.forall_mem_append.mpr ⟨wsL_law_r12_in, (List.forall_mem_append.mpr ⟨wsL_law_r13_in, (List.forall_mem_append.mpr ⟨wsL_law_r14_in, wsL_law_r15_in⟩)⟩)⟩)⟩)⟩)⟩)⟩)⟩)⟩)⟩)⟩)⟩)⟩)⟩), wsL_law_cX4⟩), wsL_law_cX1⟩), wsL_law_cX0⟩), wsL_law_cX3⟩), wsL_law_cX2⟩), (fun w h => absurd h List.not_mem_nil)⟩)
theorem inlX0 : ∀ w ∈ wsX00, w ∈ wsL_law := fun _ h => List.mem_append_left _ (List.mem_append_left _ (List.mem_append_left _ (List.mem_append_right _ h)))
theorem inX0 : ∀ w ∈ wsX00, w ∈ lw_tbl := fun w h => wsL_law_in w (inlX0 w h)
theorem inlX1 : ∀ w ∈ wsX10, w ∈ wsL_law := fun _ h => List.mem_append_left _ (List.mem_append_left _ (List.mem_append_left _ (List.mem_append_left _ (List.mem_append_right _ h))))
theorem inX1 : ∀ w ∈ wsX10, w ∈ lw_tbl := fun w h => wsL_law_in w (inlX1 w h)
theorem inlX2 : ∀ w ∈ wsX20, w ∈ wsL_law := fun _ h => List.mem_append_left _ (List.mem_append_right _ h)
theorem inX2 : ∀ w ∈ wsX20, w ∈ lw_tbl := fun w h => wsL_law_in w (inlX2 w h)
theorem inlX3 : ∀ w ∈ wsX30, w ∈ wsL_law := fun _ h => List.mem_append_left _ (List.mem_append_left _ (List.mem_append_right _ h))
theorem inX3 : ∀ w ∈ wsX30, w ∈ lw_tbl := fun w h => wsL_law_in w (inlX3 w h)
theorem inlX4 : ∀ w ∈ wsX40, w ∈ wsL_law := fun _ h => List.mem_append_left _ (List.mem_append_left _ (List.mem_append_left _ (List.mem_append_left _ (List.mem_append_left _ (List.mem_append_right _ h)))))
theorem inX4 : ∀ w ∈ wsX40, w ∈ lw_tbl := fun w h => wsL_law_in w (inlX4 w h)
theorem inX5 : ∀ w ∈ wsX50, w ∈ lw_tbl := by decide +kernel

/-! ===== the law: its words among the tables, by their places ===== -/
theorem in_at {big : List Cond} (ws : List Cond) (ps : List Nat) (hp : ws = ps.filterMap (fun i => big[i]?)) : ∀ w ∈ ws, w ∈ big := by
  intro w hw
  rw [hp] at hw
  obtain ⟨i, -, hi⟩ := List.mem_filterMap.mp hw
  first | exact List.mem_of_getElem? hi | exact List.getElem?_mem hi
set_option maxRecDepth 20000 in
theorem wsL_law_r1_in : ∀ w ∈ wsL_law_r1, w ∈ lw_tbl := in_at _ [53, 54, 45, 508, 509, 51, 809, 55, 56, 57, 58, 59, 60, 61, 62, 46, 135, 77, 78, 48, 136, 102, 103, 49] (by decide +kernel)
set_option maxRecDepth 20000 in
theorem wsL_law_r2_in : ∀ w ∈ wsL_law_r2, w ∈ lw_tbl := in_at _ [137, 116, 117, 50, 138, 134, 76, 139, 154, 140, 63, 64, 65, 66, 72, 69, 71, 70, 47, 80, 81, 82, 83, 84] (by decide +kernel)
set_option maxRecDepth 20000 in
theorem wsL_law_r3_in : ∀ w ∈ wsL_law_r3, w ∈ lw_tbl := in_at _ [85, 86, 105, 106, 107, 115, 108, 119, 120, 121, 122, 124, 510, 511, 512, 513, 514, 515, 517, 518, 519, 521, 522, 523] (by decide +kernel)
set_option maxRecDepth 20000 in
theorem wsL_law_r4_in : ∀ w ∈ wsL_law_r4, w ∈ lw_tbl := in_at _ [524, 525, 526, 527, 155, 156, 157, 158, 162, 164, 159, 160, 161, 166, 167, 168, 169, 125, 126, 170, 171, 172, 173, 174] (by decide +kernel)
set_option maxRecDepth 20000 in
theorem wsL_law_r5_in : ∀ w ∈ wsL_law_r5, w ∈ lw_tbl := in_at _ [175, 176, 177, 569, 570, 571, 572, 573, 574, 575, 576, 577, 578, 579, 581, 13, 582, 516, 583, 584, 585, 178, 179, 180] (by decide +kernel)
set_option maxRecDepth 20000 in
theorem wsL_law_r6_in : ∀ w ∈ wsL_law_r6, w ∈ lw_tbl := in_at _ [181, 182, 183, 184, 185, 186, 187, 188, 189, 190, 191, 192, 193, 586, 587, 588, 589, 194, 195, 196, 197, 198, 200, 0] (by decide +kernel)
set_option maxRecDepth 20000 in
theorem wsL_law_r7_in : ∀ w ∈ wsL_law_r7, w ∈ lw_tbl := in_at _ [201, 202, 203, 204, 205, 206, 207, 208, 209, 210, 211, 212, 213, 214, 215, 216, 217, 218, 219, 220, 221, 222, 223, 224] (by decide +kernel)
set_option maxRecDepth 20000 in
theorem wsL_law_r8_in : ∀ w ∈ wsL_law_r8, w ∈ lw_tbl := in_at _ [225, 226, 227, 228, 590, 591, 592, 593, 594, 596, 14, 597, 598, 600, 15, 601, 602, 603, 604, 605, 607, 16, 608, 609] (by decide +kernel)
set_option maxRecDepth 20000 in
theorem wsL_law_r9_in : ∀ w ∈ wsL_law_r9, w ∈ lw_tbl := in_at _ [611, 17, 612, 613, 615, 18, 616, 617, 619, 19, 620, 229, 230, 231, 232, 233, 234, 235, 236, 621, 622, 623, 624, 237] (by decide +kernel)
set_option maxRecDepth 20000 in
theorem wsL_law_r10_in : ∀ w ∈ wsL_law_r10, w ∈ lw_tbl := in_at _ [238, 239, 240, 291, 241, 243, 1, 244, 245, 247, 2, 248, 249, 250, 251, 252, 87, 88, 253, 254, 256, 3, 257, 258] (by decide +kernel)
set_option maxRecDepth 20000 in
theorem wsL_law_r11_in : ∀ w ∈ wsL_law_r11, w ∈ lw_tbl := in_at _ [259, 260, 261, 266, 267, 52, 268, 262, 263, 264, 265, 269, 270, 271, 272, 273, 274, 275, 276, 277, 278, 279, 281, 4] (by decide +kernel)
set_option maxRecDepth 20000 in
theorem wsL_law_r12_in : ∀ w ∈ wsL_law_r12, w ∈ lw_tbl := in_at _ [282, 283, 285, 5, 286, 287, 288, 289, 290, 625, 626, 627, 628, 676, 629, 631, 20, 632, 633, 635, 21, 636, 637, 639] (by decide +kernel)
set_option maxRecDepth 20000 in
theorem wsL_law_r13_in : ∀ w ∈ wsL_law_r13, w ∈ lw_tbl := in_at _ [22, 640, 641, 643, 23, 644, 645, 647, 24, 648, 649, 651, 25, 652, 653, 655, 26, 656, 657, 659, 27, 660, 661, 663] (by decide +kernel)
set_option maxRecDepth 20000 in
theorem wsL_law_r14_in : ∀ w ∈ wsL_law_r14, w ∈ lw_tbl := in_at _ [28, 664, 665, 667, 29, 668, 669, 670, 671, 672, 674, 30, 675, 292, 293, 294, 295, 296, 297, 298, 299, 300, 302, 6] (by decide +kernel)
set_option maxRecDepth 20000 in
theorem wsL_law_r15_in : ∀ w ∈ wsL_law_r15, w ∈ lw_tbl := in_at _ [303, 677, 678, 679, 680, 304, 305, 306, 307, 308, 309, 310, 311, 109, 312, 313, 314, 315, 316, 317, 318, 319, 320, 321] (by decide +kernel)
set_option maxRecDepth 20000 in
theorem wsL_law_r16_in : ∀ w ∈ wsL_law_r16, w ∈ lw_tbl := in_at _ [322, 323, 324, 326, 7, 327, 328, 329, 330, 331, 332, 333, 334, 335, 336, 338, 8, 339, 340, 341, 342, 343, 344, 345] (by decide +kernel)
set_option maxRecDepth 20000 in
theorem wsL_law_r17_in : ∀ w ∈ wsL_law_r17, w ∈ lw_tbl := in_at _ [346, 347, 348, 349, 350, 351, 352, 353, 354, 355, 789, 790, 791, 792, 528, 520, 529, 531, 530, 761, 763, 36, 764, 765] (by decide +kernel)
set_option maxRecDepth 20000 in
theorem wsL_law_r18_in : ∀ w ∈ wsL_law_r18, w ∈ lw_tbl := in_at _ [767, 37, 768, 769, 771, 38, 772, 773, 775, 39, 776, 777, 779, 40, 780, 781, 783, 41, 784, 785, 787, 42, 788, 356] (by decide +kernel)
set_option maxRecDepth 20000 in
theorem wsL_law_r19_in : ∀ w ∈ wsL_law_r19, w ∈ lw_tbl := in_at _ [357, 358, 359, 360, 361, 362, 363, 364, 365, 366, 367, 368, 681, 682, 683, 684, 369, 370, 371, 372, 373, 374, 375, 376] (by decide +kernel)
set_option maxRecDepth 20000 in
theorem wsL_law_r20_in : ∀ w ∈ wsL_law_r20, w ∈ lw_tbl := in_at _ [377, 378, 379, 380, 381, 382, 685, 686, 687, 688, 689, 690, 691, 692, 694, 31, 695, 696, 698, 32, 699, 383, 384, 385] (by decide +kernel)
set_option maxRecDepth 20000 in
theorem wsL_law_r21_in : ∀ w ∈ wsL_law_r21, w ∈ lw_tbl := in_at _ [386, 387, 388, 389, 390, 391, 392, 393, 394, 395, 396, 397, 398, 700, 701, 702, 703, 399, 400, 401, 402, 403, 405, 9] (by decide +kernel)
set_option maxRecDepth 20000 in
theorem wsL_law_r22_in : ∀ w ∈ wsL_law_r22, w ∈ lw_tbl := in_at _ [406, 407, 408, 409, 410, 704, 705, 706, 707, 708, 710, 33, 711, 411, 412, 413, 414, 712, 713, 714, 715, 415, 416, 417] (by decide +kernel)
set_option maxRecDepth 20000 in
theorem wsL_law_r23_in : ∀ w ∈ wsL_law_r23, w ∈ lw_tbl := in_at _ [418, 419, 716, 717, 718, 719, 420, 421, 422, 423, 424, 426, 10, 427, 428, 429, 430, 431, 432, 433, 434, 435, 720, 721] (by decide +kernel)
set_option maxRecDepth 20000 in
theorem wsL_law_r24_in : ∀ w ∈ wsL_law_r24, w ∈ lw_tbl := in_at _ [722, 723, 724, 726, 34, 727, 436, 437, 438, 439, 440, 442, 11, 443, 444, 446, 12, 447, 728, 729, 730, 731, 732, 734] (by decide +kernel)
set_option maxRecDepth 20000 in
theorem wsL_law_r25_in : ∀ w ∈ wsL_law_r25, w ∈ lw_tbl := in_at _ [35, 735, 448, 449, 450, 451, 736, 737, 738, 739, 452, 453, 454, 455, 740, 741, 742, 743, 456, 457, 458, 459, 744, 745] (by decide +kernel)
set_option maxRecDepth 20000 in
theorem wsL_law_r26_in : ∀ w ∈ wsL_law_r26, w ∈ lw_tbl := in_at _ [746, 747, 460, 461, 462, 463, 464, 465, 466, 467, 471, 468, 469, 470, 472, 473, 748, 749, 750, 751, 752, 474, 475, 476] (by decide +kernel)
set_option maxRecDepth 20000 in
theorem wsL_law_r27_in : ∀ w ∈ wsL_law_r27, w ∈ lw_tbl := in_at _ [477, 753, 754, 755, 756, 478, 479, 480, 481, 757, 758, 759, 760, 482, 483, 484, 485, 486, 487, 488, 489, 490, 491, 492] (by decide +kernel)
set_option maxRecDepth 20000 in
theorem wsL_law_r28_in : ∀ w ∈ wsL_law_r28, w ∈ lw_tbl := in_at _ [493, 793, 794, 795, 796, 494, 495, 496, 497, 498, 499, 500, 501, 502, 797, 798, 799, 800, 801, 803, 43, 804, 503, 504] (by decide +kernel)
set_option maxRecDepth 20000 in
theorem wsL_law_r29_in : ∀ w ∈ wsL_law_r29, w ∈ lw_tbl := in_at _ [505, 506, 507, 805, 806, 807, 808] (by decide +kernel)
set_option maxRecDepth 20000 in
theorem wsL_law_cX4 : ∀ w ∈ wsX40, w ∈ lw_tbl := in_at _ [141, 143, 145, 147, 149, 151] (by decide +kernel)
set_option maxRecDepth 20000 in
theorem wsL_law_cX5 : ∀ w ∈ wsX50, w ∈ lw_tbl := in_at _ [532, 534, 536, 538, 540, 542, 544, 546, 548, 550, 552, 554, 556, 558, 560, 562, 564, 566] (by decide +kernel)
set_option maxRecDepth 20000 in
theorem wsL_law_cX1 : ∀ w ∈ wsX10, w ∈ lw_tbl := in_at _ [73] (by decide +kernel)
set_option maxRecDepth 20000 in
theorem wsL_law_cX0 : ∀ w ∈ wsX00, w ∈ lw_tbl := in_at _ [89, 91, 93, 95, 97, 99] (by decide +kernel)
set_option maxRecDepth 20000 in
theorem wsL_law_cX3 : ∀ w ∈ wsX30, w ∈ lw_tbl := in_at _ [110, 112] (by decide +kernel)
set_option maxRecDepth 20000 in
theorem wsL_law_cX2 : ∀ w ∈ wsX20, w ∈ lw_tbl := in_at _ [127, 129, 131] (by decide +kernel)
theorem wsL_law_in : ∀ w ∈ wsL_law, w ∈ lw_tbl := by
  intro w h
  have h1 : ∀ w ∈ (wsL_law_r1 ++ (wsL_law_r2 ++ (wsL_law_r3 ++ (wsL_law_r4 ++ (wsL_law_r5 ++ (wsL_law_r6 ++ (wsL_law_r7 ++ (wsL_law_r8 ++ (wsL_law_r9 ++ (wsL_law_r10 ++ (wsL_law_r11 ++ (wsL_law_r12 ++ (wsL_law_r13 ++ (wsL_law_r14 ++ (wsL_law_r15 ++ (wsL_law_r16 ++ (wsL_law_r17 ++ (wsL_law_r18 ++ (wsL_law_r19 ++ (wsL_law_r20 ++ (wsL_law_r21 ++ (wsL_law_r22 ++ (wsL_law_r23 ++ (wsL_law_r24 ++ (wsL_law_r25 ++ (wsL_law_r26 ++ (wsL_law_r27 ++ (wsL_law_r28 ++ wsL_law_r29)))))))))))))))))))))))))))), w ∈ lw_tbl := List.forall_mem_append.mpr ⟨wsL_law_r1_in, List.forall_mem_append.mpr ⟨wsL_law_r2_in, List.forall_mem_append.mpr ⟨wsL_law_r3_in, List.forall_mem_append.mpr ⟨wsL_law_r4_in, List.forall_mem_append.mpr ⟨wsL_law_r5_in, List.forall_mem_append.mpr ⟨wsL_law_r6_in, List.forall_mem_append.mpr ⟨wsL_law_r7_in, List.forall_mem_append.mpr ⟨wsL_law_r8_in, List.forall_mem_append.mpr ⟨wsL_law_r9_in, List.forall_mem_append.mpr ⟨wsL_law_r10_in, List.forall_mem_append.mpr ⟨wsL_law_r11_in, List.forall_mem_append.mpr ⟨wsL_law_r12_in, List.forall_mem_append.mpr ⟨wsL_law_r13_in, List.forall_mem_append.mpr ⟨wsL_law_r14_in, List.forall_mem_append.mpr ⟨wsL_law_r15_in, List.forall_mem_append.mpr ⟨wsL_law_r16_in, List.forall_mem_append.mpr ⟨wsL_law_r17_in, List.forall_mem_append.mpr ⟨wsL_law_r18_in, List.forall_mem_append.mpr ⟨wsL_law_r19_in, List.forall_mem_append.mpr ⟨wsL_law_r20_in, List.forall_mem_append.mpr ⟨wsL_law_r21_in, List.forall_mem_append.mpr ⟨wsL_law_r22_in, List.forall_mem_append.mpr ⟨wsL_law_r23_in, List.forall_mem_append.mpr ⟨wsL_law_r24_in, List.forall_mem_append.mpr ⟨wsL_law_r25_in, List.forall_mem_append.mpr ⟨wsL_law_r26_in, List.forall_mem_append.mpr ⟨wsL_law_r27_in, List.forall_mem_append.mpr ⟨wsL_law_r28_in, wsL_law_r29_in⟩⟩⟩⟩⟩⟩⟩⟩⟩⟩⟩⟩⟩⟩⟩⟩⟩⟩⟩⟩⟩⟩⟩⟩⟩⟩⟩⟩
  have h9 : ∀ w ∈ wsL_law, w ∈ lw_tbl := List.forall_mem_append.mpr ⟨List.forall_mem_append.mpr ⟨List.forall_mem_append.mpr ⟨List.forall_mem_append.mpr ⟨List.forall_mem_append.mpr ⟨List.forall_mem_append.mpr ⟨List.forall_mem_append.mpr ⟨h1, wsL_law_cX4⟩, wsL_law_cX5⟩, wsL_law_cX1⟩, wsL_law_cX0⟩, wsL_law_cX3⟩, wsL_law_cX2⟩, fun _ h => absurd h List.not_mem_nil⟩
  exact h9 w h
set_option maxRecDepth 20000 in
theorem inX0 : ∀ w ∈ wsX00, w ∈ lw_tbl := fun w h => wsL_law_in w (inlX0 w h)
set_option maxRecDepth 20000 in
theorem inX1 : ∀ w ∈ wsX10, w ∈ lw_tbl := fun w h => wsL_law_in w (inlX1 w h)
set_option maxRecDepth 20000 in
theorem inX2 : ∀ w ∈ wsX20, w ∈ lw_tbl := fun w h => wsL_law_in w (inlX2 w h)
set_option maxRecDepth 20000 in
theorem inX3 : ∀ w ∈ wsX30, w ∈ lw_tbl := fun w h => wsL_law_in w (inlX3 w h)
set_option maxRecDepth 20000 in
theorem inX4 : ∀ w ∈ wsX40, w ∈ lw_tbl := fun w h => wsL_law_in w (inlX4 w h)
set_option maxRecDepth 20000 in
theorem inX5 : ∀ w ∈ wsX50, w ∈ lw_tbl := fun w h => wsL_law_in w (inlX5 w h)

/-! ===== the law: the heads of its methods, its constants ===== -/
set_option maxRecDepth 20000 in
theorem ct_L_cell_7 : Cond.constant RL 7 (760123163) ∈ wsL_cell := List.mem_of_getElem? (i := 1) (by decide +kernel)
set_option maxRecDepth 20000 in
theorem ct_L_cell_8 : Cond.constant RL 8 (1518091113) ∈ wsL_cell := List.mem_of_getElem? (i := 2) (by decide +kernel)
theorem hd_L_cell : yL_cell.cls = RL ∧ yL_cell.cls ≠ "java/lang/invoke/MethodHandle" ∧ yL_cell.cls ≠ "java/lang/invoke/VarHandle" ∧ (parseMethodDescriptor yL_cell.desc).map (fun d => d.parameters.length) = some 2 := by decide +kernel
set_option maxRecDepth 20000 in
theorem ct_L_low_9 : Cond.constant RL 9 (2147483647) ∈ wsL_low := List.mem_of_getElem? (i := 1) (by decide +kernel)
theorem hd_L_low : yL_low.cls = RL ∧ yL_low.cls ≠ "java/lang/invoke/MethodHandle" ∧ yL_low.cls ≠ "java/lang/invoke/VarHandle" ∧ (parseMethodDescriptor yL_low.desc).map (fun d => d.parameters.length) = some 2 := by decide +kernel
theorem hd_L_leftAt : yL_leftAt.cls = RL ∧ yL_leftAt.cls ≠ "java/lang/invoke/MethodHandle" ∧ yL_leftAt.cls ≠ "java/lang/invoke/VarHandle" ∧ (parseMethodDescriptor yL_leftAt.desc).map (fun d => d.parameters.length) = some 6 := by decide +kernel
theorem hd_L_coming : yL_coming.cls = RL ∧ yL_coming.cls ≠ "java/lang/invoke/MethodHandle" ∧ yL_coming.cls ≠ "java/lang/invoke/VarHandle" ∧ (parseMethodDescriptor yL_coming.desc).map (fun d => d.parameters.length) = some 3 := by decide +kernel
theorem hd_L_film : yL_film.cls = RL ∧ yL_film.cls ≠ "java/lang/invoke/MethodHandle" ∧ yL_film.cls ≠ "java/lang/invoke/VarHandle" ∧ (parseMethodDescriptor yL_film.desc).map (fun d => d.parameters.length) = some 4 := by decide +kernel
theorem hd_L_people : yL_people.cls = RL ∧ yL_people.cls ≠ "java/lang/invoke/MethodHandle" ∧ yL_people.cls ≠ "java/lang/invoke/VarHandle" ∧ (parseMethodDescriptor yL_people.desc).map (fun d => d.parameters.length) = some 6 := by decide +kernel
theorem hd_L_shows : yL_shows.cls = RL ∧ yL_shows.cls ≠ "java/lang/invoke/MethodHandle" ∧ yL_shows.cls ≠ "java/lang/invoke/VarHandle" ∧ (parseMethodDescriptor yL_shows.desc).map (fun d => d.parameters.length) = some 4 := by decide +kernel
theorem hd_L_takings : yL_takings.cls = RL ∧ yL_takings.cls ≠ "java/lang/invoke/MethodHandle" ∧ yL_takings.cls ≠ "java/lang/invoke/VarHandle" ∧ (parseMethodDescriptor yL_takings.desc).map (fun d => d.parameters.length) = some 6 := by decide +kernel
theorem hd_L_share : yL_share.cls = RL ∧ yL_share.cls ≠ "java/lang/invoke/MethodHandle" ∧ yL_share.cls ≠ "java/lang/invoke/VarHandle" ∧ (parseMethodDescriptor yL_share.desc).map (fun d => d.parameters.length) = some 5 := by decide +kernel
theorem hd_L_due : yL_due.cls = RL ∧ yL_due.cls ≠ "java/lang/invoke/MethodHandle" ∧ yL_due.cls ≠ "java/lang/invoke/VarHandle" ∧ (parseMethodDescriptor yL_due.desc).map (fun d => d.parameters.length) = some 6 := by decide +kernel
theorem hd_L_left : yL_left.cls = RL ∧ yL_left.cls ≠ "java/lang/invoke/MethodHandle" ∧ yL_left.cls ≠ "java/lang/invoke/VarHandle" ∧ (parseMethodDescriptor yL_left.desc).map (fun d => d.parameters.length) = some 5 := by decide +kernel
set_option maxRecDepth 20000 in
theorem ct_L_same_9 : Cond.constant RL 9 (2147483647) ∈ wsL_same := List.mem_of_getElem? (i := 163) (by decide +kernel)
set_option maxRecDepth 20000 in
theorem ct_L_same_63 : Cond.constant RL 63 (1000000) ∈ wsL_same := List.mem_of_getElem? (i := 1) (by decide +kernel)
theorem hd_L_same : yL_same.cls = RL ∧ yL_same.cls ≠ "java/lang/invoke/MethodHandle" ∧ yL_same.cls ≠ "java/lang/invoke/VarHandle" ∧ (parseMethodDescriptor yL_same.desc).map (fun d => d.parameters.length) = some 7 := by decide +kernel
set_option maxRecDepth 20000 in
theorem ct_L_law_7 : Cond.constant RL 7 (760123163) ∈ wsL_law := List.mem_of_getElem? (i := 61) (by decide +kernel)
set_option maxRecDepth 20000 in
theorem ct_L_law_8 : Cond.constant RL 8 (1518091113) ∈ wsL_law := List.mem_of_getElem? (i := 62) (by decide +kernel)
set_option maxRecDepth 20000 in
theorem ct_L_law_9 : Cond.constant RL 9 (2147483647) ∈ wsL_law := List.mem_of_getElem? (i := 66) (by decide +kernel)
set_option maxRecDepth 20000 in
theorem ct_L_law_63 : Cond.constant RL 63 (1000000) ∈ wsL_law := List.mem_of_getElem? (i := 4) (by decide +kernel)
theorem hd_L_law : yL_law.cls = RL ∧ yL_law.cls ≠ "java/lang/invoke/MethodHandle" ∧ yL_law.cls ≠ "java/lang/invoke/VarHandle" ∧ (parseMethodDescriptor yL_law.desc).map (fun d => d.parameters.length) = some 1 := by decide +kernel
theorem bp_11 : (Int8.ofInt (11)).toInt32 = 11 := by decide
theorem bp_16 : (Int8.ofInt (16)).toInt32 = 16 := by decide
theorem bp_71 : (Int8.ofInt (71)).toInt32 = 71 := by decide
theorem sp_201 : (Int16.ofInt (201)).toInt32 = 201 := by decide
theorem sp_291 : (Int16.ofInt (291)).toInt32 = 291 := by decide
theorem sp_501 : (Int16.ofInt (501)).toInt32 = 501 := by decide
theorem sp_1000 : (Int16.ofInt (1000)).toInt32 = 1000 := by decide

def rF (f : Nat → Int32) (j : Nat) : Nat → Int32 := fun i => if 46 ≤ i ∧ i < 46 + j then -6 else f i
theorem rF_0 (f : Nat → Int32) : rF f 0 = f := by
  funext i
  exact if_neg (fun q => by omega)
theorem rF_s (f : Nat → Int32) (j : Nat) : upd (rF f j) (46 + j) (-6) = rF f (j + 1) := by
  funext i
  by_cases e : i = 46 + j
  · subst e
    rw [upd_s, rF, if_pos (by omega)]
  · rw [upd_n _ _ e]
    unfold rF
    by_cases h : 46 ≤ i ∧ i < 46 + j
    · rw [if_pos h, if_pos (by omega)]
    · rw [if_neg h, if_neg (by omega)]
/-- the hall's row at the beginning -/
def r0 : Nat → Int32 := rF fsF 70
theorem r0_c : rF (va_cpy fsF (fun _ => 0) 0 0 5) 70 = r0 := by
  have e : va_cpy fsF (fun _ => 0) 0 0 5 = fsF := by
    funext k
    by_cases h : k < 5
    · rw [pk_cpy_in (by omega) (by omega), show 0 + (k - 0) = k by omega]
    · rw [pk_cpy_out (by omega), ]
      obtain ⟨i, rfl⟩ : ∃ i, k = i + 5 := ⟨k - 5, by omega⟩
      rfl
  rw [e, r0]
theorem r0_m : rF (upd (upd (upd (upd (upd (fun _ => 0) 0 80) 1 6) 2 30) 3 40) 4 20) 70 = r0 := by
  have e : upd (upd (upd (upd (upd (fun _ => 0) 0 80) 1 6) 2 30) 3 40) 4 20 = fsF := by
    funext k
    by_cases h : k < 5
    · rcases (show k = 0 ∨ k = 1 ∨ k = 2 ∨ k = 3 ∨ k = 4 by omega) with rfl | rfl | rfl | rfl | rfl <;> rfl
    · rw [upd_n _ _ (by omega), upd_n _ _ (by omega), upd_n _ _ (by omega), upd_n _ _ (by omega), upd_n _ _ (by omega), ]
      obtain ⟨i, rfl⟩ : ∃ i, k = i + 5 := ⟨k - 5, by omega⟩
      rfl
  rw [e, r0]
theorem in_X0_init_X0c : ∀ x ∈ u_ws RX0 TX0 6, x ∈ wsX0_init := fun x h => List.mem_cons_of_mem _ (List.mem_append_right _ h)
theorem in_X1_init_X1c : ∀ x ∈ u_ws RX1 TX1 1, x ∈ wsX1_init := fun x h => List.mem_cons_of_mem _ (List.mem_append_right _ h)
theorem in_X2_init_X2c : ∀ x ∈ u_ws RX2 TX2 3, x ∈ wsX2_init := fun x h => List.mem_cons_of_mem _ (List.mem_append_right _ h)
theorem in_X3_init_X3c : ∀ x ∈ u_ws RX3 TX3 2, x ∈ wsX3_init := fun x h => List.mem_cons_of_mem _ (List.mem_append_right _ h)
theorem in_X4_init_X4c : ∀ x ∈ u_ws RX4 TX4 6, x ∈ wsX4_init := fun x h => List.mem_cons_of_mem _ (List.mem_append_left _ (List.mem_append_left _ (List.mem_append_left _ (List.mem_append_right _ h))))
theorem in_X4_init_X1c : ∀ x ∈ u_ws RX1 TX1 1, x ∈ wsX4_init := fun x h => List.mem_cons_of_mem _ (List.mem_append_left _ (List.mem_append_left _ (List.mem_append_left _ (List.mem_append_left _ (List.mem_append_right _ h)))))
theorem in_X4_init_X0c : ∀ x ∈ u_ws RX0 TX0 6, x ∈ wsX4_init := fun x h => List.mem_cons_of_mem _ (List.mem_append_left _ (List.mem_append_left _ (List.mem_append_right _ h)))
theorem in_X4_init_X3c : ∀ x ∈ u_ws RX3 TX3 2, x ∈ wsX4_init := fun x h => List.mem_cons_of_mem _ (List.mem_append_left _ (List.mem_append_right _ h))
theorem in_X4_init_X2c : ∀ x ∈ u_ws RX2 TX2 3, x ∈ wsX4_init := fun x h => List.mem_cons_of_mem _ (List.mem_append_right _ h)
set_option maxRecDepth 40000 in
theorem cm_X0_init_0 : Cond.methodLink RX0 3 objectInit ∈ wsX0_init := by decide +kernel
set_option maxRecDepth 40000 in
theorem cm_X0_init_1 : Cond.instanceMethod objectInit ∈ wsX0_init := by decide +kernel
set_option maxRecDepth 40000 in
theorem cm_X0_init_2 : Cond.code objectInit ⟨#[0xb1]⟩ 1 none ∈ wsX0_init := by decide +kernel
set_option maxRecDepth 40000 in
theorem cm_X0_init_3 : Cond.arrayClass .int ∈ wsX0_init := by decide +kernel
set_option maxRecDepth 40000 in
theorem cm_X0_init_4 : Cond.fieldLink RX0 9 (TX0 0).1 (TX0 0).2.1 (TX0 0).2.2.1 ∈ wsX0_init := by decide +kernel
set_option maxRecDepth 40000 in
theorem cm_X0_init_5 : Cond.fieldLink RX0 15 (TX0 1).1 (TX0 1).2.1 (TX0 1).2.2.1 ∈ wsX0_init := by decide +kernel
set_option maxRecDepth 40000 in
theorem cm_X0_init_6 : Cond.fieldLink RX0 18 (TX0 2).1 (TX0 2).2.1 (TX0 2).2.2.1 ∈ wsX0_init := by decide +kernel
set_option maxRecDepth 40000 in
theorem cm_X0_init_7 : Cond.fieldLink RX0 21 (TX0 3).1 (TX0 3).2.1 (TX0 3).2.2.1 ∈ wsX0_init := by decide +kernel
set_option maxRecDepth 40000 in
theorem cm_X3_init_0 : Cond.methodLink RX3 3 objectInit ∈ wsX3_init := by decide +kernel
set_option maxRecDepth 40000 in
theorem cm_X3_init_1 : Cond.instanceMethod objectInit ∈ wsX3_init := by decide +kernel
set_option maxRecDepth 40000 in
theorem cm_X3_init_2 : Cond.code objectInit ⟨#[0xb1]⟩ 1 none ∈ wsX3_init := by decide +kernel
set_option maxRecDepth 40000 in
theorem cm_X3_init_3 : Cond.arrayClass .char ∈ wsX3_init := by decide +kernel
set_option maxRecDepth 40000 in
theorem cm_X3_init_4 : Cond.fieldLink RX3 11 (TX3 0).1 (TX3 0).2.1 (TX3 0).2.2.1 ∈ wsX3_init := by decide +kernel
set_option maxRecDepth 40000 in
theorem cm_X2_init_0 : Cond.methodLink RX2 1 objectInit ∈ wsX2_init := by decide +kernel
set_option maxRecDepth 40000 in
theorem cm_X2_init_1 : Cond.instanceMethod objectInit ∈ wsX2_init := by decide +kernel
set_option maxRecDepth 40000 in
theorem cm_X2_init_2 : Cond.code objectInit ⟨#[0xb1]⟩ 1 none ∈ wsX2_init := by decide +kernel
set_option maxRecDepth 40000 in
theorem cm_X2_init_3 : Cond.classLink RX2 11 "[[I" ∈ wsX2_init := by decide +kernel
set_option maxRecDepth 40000 in
theorem cm_X2_init_4 : Cond.arrayClass .int ∈ wsX2_init := by decide +kernel
set_option maxRecDepth 40000 in
theorem cm_X2_init_5 : Cond.fieldLink RX2 13 (TX2 0).1 (TX2 0).2.1 (TX2 0).2.2.1 ∈ wsX2_init := by decide +kernel
set_option maxRecDepth 40000 in
theorem cm_X1_init_0 : Cond.methodLink RX1 5 objectInit ∈ wsX1_init := by decide +kernel
set_option maxRecDepth 40000 in
theorem cm_X1_init_1 : Cond.instanceMethod objectInit ∈ wsX1_init := by decide +kernel
set_option maxRecDepth 40000 in
theorem cm_X1_init_2 : Cond.code objectInit ⟨#[0xb1]⟩ 1 none ∈ wsX1_init := by decide +kernel
set_option maxRecDepth 40000 in
theorem cm_X1_init_3 : Cond.arrayClass .int ∈ wsX1_init := by decide +kernel
set_option maxRecDepth 40000 in
theorem cm_X1_init_4 : Cond.fieldLink RX1 11 (TX1 0).1 (TX1 0).2.1 (TX1 0).2.2.1 ∈ wsX1_init := by decide +kernel
set_option maxRecDepth 40000 in
theorem cm_X1_init_5 : Cond.methodLink RX1 18 arraycopyName ∈ wsX1_init := by decide +kernel
set_option maxRecDepth 40000 in
theorem cm_X1_init_6 : Cond.native arraycopyName ∈ wsX1_init := by decide +kernel
set_option maxRecDepth 40000 in
theorem cm_X1_init_7 : Cond.static arraycopyName ∈ wsX1_init := by decide +kernel
set_option maxRecDepth 40000 in
theorem cm_X1_init_8 : Cond.initialized "java/lang/System" ∈ wsX1_init := by decide +kernel
set_option maxRecDepth 40000 in
theorem cm_X4_init_0 : Cond.methodLink RX4 3 objectInit ∈ wsX4_init := by decide +kernel
set_option maxRecDepth 40000 in
theorem cm_X4_init_1 : Cond.instanceMethod objectInit ∈ wsX4_init := by decide +kernel
set_option maxRecDepth 40000 in
theorem cm_X4_init_2 : Cond.code objectInit ⟨#[0xb1]⟩ 1 none ∈ wsX4_init := by decide +kernel
set_option maxRecDepth 40000 in
theorem cm_X4_init_3 : Cond.classLink RX4 9 RX1 ∈ wsX4_init := by decide +kernel
set_option maxRecDepth 40000 in
theorem cm_X4_init_4 : Cond.instantiable RX1 1 ∈ wsX4_init := by decide +kernel
set_option maxRecDepth 40000 in
theorem cm_X4_init_5 : Cond.initialized RX1 ∈ wsX4_init := by decide +kernel
set_option maxRecDepth 40000 in
theorem cm_X4_init_6 : Cond.methodLink RX4 11 yX1_init ∈ wsX4_init := by decide +kernel
set_option maxRecDepth 40000 in
theorem cm_X4_init_7 : Cond.instanceMethod yX1_init ∈ wsX4_init := by decide +kernel
set_option maxRecDepth 40000 in
theorem cm_X4_init_8 : Cond.fieldLink RX4 12 (TX4 0).1 (TX4 0).2.1 (TX4 0).2.2.1 ∈ wsX4_init := by decide +kernel
set_option maxRecDepth 40000 in
theorem cm_X4_init_9 : Cond.classLink RX4 16 RX0 ∈ wsX4_init := by decide +kernel
set_option maxRecDepth 40000 in
theorem cm_X4_init_10 : Cond.instantiable RX0 6 ∈ wsX4_init := by decide +kernel
set_option maxRecDepth 40000 in
theorem cm_X4_init_11 : Cond.initialized RX0 ∈ wsX4_init := by decide +kernel
set_option maxRecDepth 40000 in
theorem cm_X4_init_12 : Cond.instanceMethod yX0_init ∈ wsX4_init := by decide +kernel
set_option maxRecDepth 40000 in
theorem cm_X4_init_13 : Cond.fieldLink RX4 19 (TX4 1).1 (TX4 1).2.1 (TX4 1).2.2.1 ∈ wsX4_init := by decide +kernel
set_option maxRecDepth 40000 in
theorem cm_X4_init_14 : Cond.classLink RX4 23 RX3 ∈ wsX4_init := by decide +kernel
set_option maxRecDepth 40000 in
theorem cm_X4_init_15 : Cond.instantiable RX3 2 ∈ wsX4_init := by decide +kernel
set_option maxRecDepth 40000 in
theorem cm_X4_init_16 : Cond.initialized RX3 ∈ wsX4_init := by decide +kernel
set_option maxRecDepth 40000 in
theorem cm_X4_init_17 : Cond.instanceMethod yX3_init ∈ wsX4_init := by decide +kernel
set_option maxRecDepth 40000 in
theorem cm_X4_init_18 : Cond.fieldLink RX4 26 (TX4 2).1 (TX4 2).2.1 (TX4 2).2.2.1 ∈ wsX4_init := by decide +kernel
set_option maxRecDepth 40000 in
theorem cm_X4_init_19 : Cond.classLink RX4 30 RX2 ∈ wsX4_init := by decide +kernel
set_option maxRecDepth 40000 in
theorem cm_X4_init_20 : Cond.instantiable RX2 3 ∈ wsX4_init := by decide +kernel
set_option maxRecDepth 40000 in
theorem cm_X4_init_21 : Cond.initialized RX2 ∈ wsX4_init := by decide +kernel
set_option maxRecDepth 40000 in
theorem cm_X4_init_22 : Cond.instanceMethod yX2_init ∈ wsX4_init := by decide +kernel
set_option maxRecDepth 40000 in
theorem cm_X4_init_23 : Cond.fieldLink RX4 33 (TX4 3).1 (TX4 3).2.1 (TX4 3).2.2.1 ∈ wsX4_init := by decide +kernel
set_option maxRecDepth 40000 in
theorem cm_X4_init_24 : Cond.classLink RX4 37 "[[I" ∈ wsX4_init := by decide +kernel
set_option maxRecDepth 40000 in
theorem cm_X4_init_25 : Cond.arrayClass .int ∈ wsX4_init := by decide +kernel
set_option maxRecDepth 40000 in
theorem cm_X4_init_26 : Cond.fieldLink RX4 39 (TX4 4).1 (TX4 4).2.1 (TX4 4).2.2.1 ∈ wsX4_init := by decide +kernel
set_option maxRecDepth 40000 in
theorem cm_X4_init_27 : Cond.arrayClass .boolean ∈ wsX4_init := by decide +kernel
set_option maxRecDepth 40000 in
theorem cm_X4_init_28 : Cond.fieldLink RX4 42 (TX4 5).1 (TX4 5).2.1 (TX4 5).2.2.1 ∈ wsX4_init := by decide +kernel
set_option maxHeartbeats 4000000 in
set_option maxRecDepth 100000 in
theorem c_X0_init (l : Launch) (D : va_G) (cI cC cZ cQ : ClassId) (tl tm tf : Nat) (b : Nat) : CN l D (cTy cI cC cZ cQ) yX0_init wsX0_init ({ frames := 1, cells := 4, slots := 170, locals := 30 } : Room) [.ref b] [(b, .inr (0, [.null, .null, .null, .null, .int 0, .int 0]))] tl tm tf 4 170 (fun u => ∃ q7 q15 q23 q30 : Nat, u = [(b, .inr (0, [.ref q7, .ref q15, .ref q23, .ref q30, .int 0, .int 0])), (q7, .inl (cI, 70, .inl (fun _ => 0))), (q15, .inl (cI, 70, .inl (fun _ => 0))), (q23, .inl (cI, 25, .inl (fun _ => 0))), (q30, .inl (cI, 5, .inl (fun _ => 0)))]) := by
  refine v_startN (own := RX0) (cc := cX0_init) (nL := 1) rfl rfl (by decide) rfl (Nat.le_of_ble_eq_true rfl) ?_
  intro p e s m args below meth c A Q C K hE9 hin9 hend
  refine v_lv (lv' := [(0, .ref b)]) [0] rfl ?_
  refine v_aload_n C dX0_init_0 rfl 0 0 rfl rfl ?_
  refine v_objinit C cm_X0_init_0 cm_X0_init_1 cm_X0_init_2 dX0_init_1 rfl (Nat.le_of_ble_eq_true rfl) (Nat.le_of_ble_eq_true rfl) ?_
  refine v_aload_n C dX0_init_4 rfl 0 0 rfl rfl ?_
  refine v_bipush (v := 70) C dX0_init_5 rfl bp_70 ?_
  refine v_newa (atype := .int) (ty := .int) C K (ra_int s) rfl cm_X0_init_3 0 rfl (N' := 70) (a0 := (70, .inl (fun _ => 0))) (fun _ => rfl) rfl (by decide) (Nat.le_of_ble_eq_true rfl) (Nat.le_of_ble_eq_true rfl) (Nat.le_of_ble_eq_true rfl) dX0_init_7 rfl (fun q7 => ?_)
  refine v_st [(b, .inr (0, [.null, .null, .null, .null, .int 0, .int 0])), (q7, .inl (cI, 70, .inl (fun _ => 0)))] rfl ?_
  refine v_putF (ty := (.array .int)) C K hin9 [(b, .inr (0, [.ref q7, .null, .null, .null, .int 0, .int 0])), (q7, .inl (cI, 70, .inl (fun _ => 0)))] in_X0_init_X0c tyX0_ok nmX0 0 rfl rfl 0 (by decide) cm_X0_init_4 rfl rfl (by decide +kernel) rfl rfl (Nat.le_of_ble_eq_true rfl) rfl dX0_init_9 rfl ?_
  refine v_aload_n C dX0_init_12 rfl 0 0 rfl rfl ?_
  refine v_bipush (v := 70) C dX0_init_13 rfl bp_70 ?_
  refine v_newa (atype := .int) (ty := .int) C K (ra_int s) rfl cm_X0_init_3 0 rfl (N' := 70) (a0 := (70, .inl (fun _ => 0))) (fun _ => rfl) rfl (by decide) (Nat.le_of_ble_eq_true rfl) (Nat.le_of_ble_eq_true rfl) (Nat.le_of_ble_eq_true rfl) dX0_init_15 rfl (fun q15 => ?_)
  refine v_st [(b, .inr (0, [.ref q7, .null, .null, .null, .int 0, .int 0])), (q7, .inl (cI, 70, .inl (fun _ => 0))), (q15, .inl (cI, 70, .inl (fun _ => 0)))] rfl ?_
  refine v_putF (ty := (.array .int)) C K hin9 [(b, .inr (0, [.ref q7, .ref q15, .null, .null, .int 0, .int 0])), (q7, .inl (cI, 70, .inl (fun _ => 0))), (q15, .inl (cI, 70, .inl (fun _ => 0)))] in_X0_init_X0c tyX0_ok nmX0 0 rfl rfl 1 (by decide) cm_X0_init_5 rfl rfl (by decide +kernel) rfl rfl (Nat.le_of_ble_eq_true rfl) rfl dX0_init_17 rfl ?_
  refine v_aload_n C dX0_init_20 rfl 0 0 rfl rfl ?_
  refine v_bipush (v := 25) C dX0_init_21 rfl bp_25 ?_
  refine v_newa (atype := .int) (ty := .int) C K (ra_int s) rfl cm_X0_init_3 0 rfl (N' := 25) (a0 := (25, .inl (fun _ => 0))) (fun _ => rfl) rfl (by decide) (Nat.le_of_ble_eq_true rfl) (Nat.le_of_ble_eq_true rfl) (Nat.le_of_ble_eq_true rfl) dX0_init_23 rfl (fun q23 => ?_)
  refine v_st [(b, .inr (0, [.ref q7, .ref q15, .null, .null, .int 0, .int 0])), (q7, .inl (cI, 70, .inl (fun _ => 0))), (q15, .inl (cI, 70, .inl (fun _ => 0))), (q23, .inl (cI, 25, .inl (fun _ => 0)))] rfl ?_
  refine v_putF (ty := (.array .int)) C K hin9 [(b, .inr (0, [.ref q7, .ref q15, .ref q23, .null, .int 0, .int 0])), (q7, .inl (cI, 70, .inl (fun _ => 0))), (q15, .inl (cI, 70, .inl (fun _ => 0))), (q23, .inl (cI, 25, .inl (fun _ => 0)))] in_X0_init_X0c tyX0_ok nmX0 0 rfl rfl 2 (by decide) cm_X0_init_6 rfl rfl (by decide +kernel) rfl rfl (Nat.le_of_ble_eq_true rfl) rfl dX0_init_25 rfl ?_
  refine v_aload_n C dX0_init_28 rfl 0 0 rfl rfl ?_
  refine v_iconst (v := 5) C dX0_init_29 rfl ic_5 ?_
  refine v_newa (atype := .int) (ty := .int) C K (ra_int s) rfl cm_X0_init_3 0 rfl (N' := 5) (a0 := (5, .inl (fun _ => 0))) (fun _ => rfl) rfl (by decide) (Nat.le_of_ble_eq_true rfl) (Nat.le_of_ble_eq_true rfl) (Nat.le_of_ble_eq_true rfl) dX0_init_30 rfl (fun q30 => ?_)
  refine v_st [(b, .inr (0, [.ref q7, .ref q15, .ref q23, .null, .int 0, .int 0])), (q7, .inl (cI, 70, .inl (fun _ => 0))), (q15, .inl (cI, 70, .inl (fun _ => 0))), (q23, .inl (cI, 25, .inl (fun _ => 0))), (q30, .inl (cI, 5, .inl (fun _ => 0)))] rfl ?_
  refine v_putF (ty := (.array .int)) C K hin9 [(b, .inr (0, [.ref q7, .ref q15, .ref q23, .ref q30, .int 0, .int 0])), (q7, .inl (cI, 70, .inl (fun _ => 0))), (q15, .inl (cI, 70, .inl (fun _ => 0))), (q23, .inl (cI, 25, .inl (fun _ => 0))), (q30, .inl (cI, 5, .inl (fun _ => 0)))] in_X0_init_X0c tyX0_ok nmX0 0 rfl rfl 3 (by decide) cm_X0_init_7 rfl rfl (by decide +kernel) rfl rfl (Nat.le_of_ble_eq_true rfl) rfl dX0_init_32 rfl ?_
  refine v_wid (k := 4) (n := 170) (Nat.le_of_ble_eq_true rfl) (Nat.le_of_ble_eq_true rfl) ?_
  exact hend ⟨q7, q15, q23, q30, rfl⟩ dX0_init_35
set_option maxHeartbeats 4000000 in
set_option maxRecDepth 100000 in
theorem c_X3_init (l : Launch) (D : va_G) (cI cC cZ cQ : ClassId) (tl tm tf : Nat) (b : Nat) : CN l D (cTy cI cC cZ cQ) yX3_init wsX3_init ({ frames := 1, cells := 1, slots := 60, locals := 30 } : Room) [.ref b] [(b, .inr (3, [.null, .int 0]))] tl tm tf 1 60 (fun u => ∃ q7 : Nat, u = [(b, .inr (3, [.ref q7, .int 0])), (q7, .inl (cC, 60, .inl (fun _ => 0)))]) := by
  refine v_startN (own := RX3) (cc := cX3_init) (nL := 1) rfl rfl (by decide) rfl (Nat.le_of_ble_eq_true rfl) ?_
  intro p e s m args below meth c A Q C K hE9 hin9 hend
  refine v_lv (lv' := [(0, .ref b)]) [0] rfl ?_
  refine v_aload_n C dX3_init_0 rfl 0 0 rfl rfl ?_
  refine v_objinit C cm_X3_init_0 cm_X3_init_1 cm_X3_init_2 dX3_init_1 rfl (Nat.le_of_ble_eq_true rfl) (Nat.le_of_ble_eq_true rfl) ?_
  refine v_aload_n C dX3_init_4 rfl 0 0 rfl rfl ?_
  refine v_bipush (v := 60) C dX3_init_5 rfl bp_60 ?_
  refine v_newa (atype := .char) (ty := .char) C K (ra_char s) rfl cm_X3_init_3 1 rfl (N' := 60) (a0 := (60, .inl (fun _ => 0))) (fun _ => rfl) rfl (by decide) (Nat.le_of_ble_eq_true rfl) (Nat.le_of_ble_eq_true rfl) (Nat.le_of_ble_eq_true rfl) dX3_init_7 rfl (fun q7 => ?_)
  refine v_st [(b, .inr (3, [.null, .int 0])), (q7, .inl (cC, 60, .inl (fun _ => 0)))] rfl ?_
  refine v_putF (ty := (.array .char)) C K hin9 [(b, .inr (3, [.ref q7, .int 0])), (q7, .inl (cC, 60, .inl (fun _ => 0)))] in_X3_init_X3c tyX3_ok nmX3 0 rfl rfl 0 (by decide) cm_X3_init_4 rfl rfl (by decide +kernel) rfl rfl (Nat.le_of_ble_eq_true rfl) rfl dX3_init_9 rfl ?_
  refine v_wid (k := 1) (n := 60) (Nat.le_of_ble_eq_true rfl) (Nat.le_of_ble_eq_true rfl) ?_
  exact hend ⟨q7, rfl⟩ dX3_init_12
set_option maxHeartbeats 4000000 in
set_option maxRecDepth 100000 in
theorem c_X2_init (l : Launch) (D : va_G) (cI cC cZ cQ : ClassId) (tl tm tf : Nat) (b : Nat) : CN l D (cTy cI cC cZ cQ) yX2_init wsX2_init ({ frames := 1, cells := 7, slots := 912, locals := 30 } : Room) [.ref b] [(b, .inr (2, [.null, .int 0, .int 0]))] tl tm tf 7 912 (fun u => ∃ q10 : Nat, u = [(b, .inr (2, [.ref q10, .int 0, .int 0])), (q10, .inl (cQ, 6, .inr (.inr (.inr (.inr (fun i => if i < 6 then some (q10 + 1 + i) else none)))))), (q10 + 1 + 0, .inl (cI, 151, .inl (fun _ => 0))), (q10 + 1 + 1, .inl (cI, 151, .inl (fun _ => 0))), (q10 + 1 + 2, .inl (cI, 151, .inl (fun _ => 0))), (q10 + 1 + 3, .inl (cI, 151, .inl (fun _ => 0))), (q10 + 1 + 4, .inl (cI, 151, .inl (fun _ => 0))), (q10 + 1 + 5, .inl (cI, 151, .inl (fun _ => 0)))]) := by
  refine v_startN (own := RX2) (cc := cX2_init) (nL := 1) rfl rfl (by decide) rfl (Nat.le_of_ble_eq_true rfl) ?_
  intro p e s m args below meth c A Q C K hE9 hin9 hend
  refine v_lv (lv' := [(0, .ref b)]) [0] rfl ?_
  refine v_aload_n C dX2_init_0 rfl 0 0 rfl rfl ?_
  refine v_objinit C cm_X2_init_0 cm_X2_init_1 cm_X2_init_2 dX2_init_1 rfl (Nat.le_of_ble_eq_true rfl) (Nat.le_of_ble_eq_true rfl) ?_
  refine v_aload_n C dX2_init_4 rfl 0 0 rfl rfl ?_
  refine v_bipush (v := 6) C dX2_init_5 rfl bp_6 ?_
  refine v_sipush (v := 151) C dX2_init_7 rfl sp_151 ?_
  refine v_mna C K hE9.2.1 cm_X2_init_3 cm_X2_init_4 0 3 rfl rfl (N' := 6) (K' := 151) rfl rfl (by decide) (by decide) (Nat.le_of_ble_eq_true rfl) (Nat.le_of_ble_eq_true rfl) dX2_init_10 rfl (fun q10 => ?_)
  refine v_st [(b, .inr (2, [.null, .int 0, .int 0])), (q10, .inl (cQ, 6, .inr (.inr (.inr (.inr (fun i => if i < 6 then some (q10 + 1 + i) else none)))))), (q10 + 1 + 0, .inl (cI, 151, .inl (fun _ => 0))), (q10 + 1 + 1, .inl (cI, 151, .inl (fun _ => 0))), (q10 + 1 + 2, .inl (cI, 151, .inl (fun _ => 0))), (q10 + 1 + 3, .inl (cI, 151, .inl (fun _ => 0))), (q10 + 1 + 4, .inl (cI, 151, .inl (fun _ => 0))), (q10 + 1 + 5, .inl (cI, 151, .inl (fun _ => 0)))] rfl ?_
  refine v_putF (ty := (.array (.array .int))) C K hin9 [(b, .inr (2, [.ref q10, .int 0, .int 0])), (q10, .inl (cQ, 6, .inr (.inr (.inr (.inr (fun i => if i < 6 then some (q10 + 1 + i) else none)))))), (q10 + 1 + 0, .inl (cI, 151, .inl (fun _ => 0))), (q10 + 1 + 1, .inl (cI, 151, .inl (fun _ => 0))), (q10 + 1 + 2, .inl (cI, 151, .inl (fun _ => 0))), (q10 + 1 + 3, .inl (cI, 151, .inl (fun _ => 0))), (q10 + 1 + 4, .inl (cI, 151, .inl (fun _ => 0))), (q10 + 1 + 5, .inl (cI, 151, .inl (fun _ => 0)))] in_X2_init_X2c tyX2_ok nmX2 0 rfl rfl 0 (by decide) cm_X2_init_5 rfl rfl (by decide +kernel) rfl rfl (Nat.le_of_ble_eq_true rfl) rfl dX2_init_14 rfl ?_
  refine v_wid (k := 7) (n := 912) (Nat.le_of_ble_eq_true rfl) (Nat.le_of_ble_eq_true rfl) ?_
  exact hend ⟨q10, rfl⟩ dX2_init_17
set_option maxHeartbeats 4000000 in
set_option maxRecDepth 100000 in
theorem c_X1_init (l : Launch) (D : va_G) (cI cC cZ cQ : ClassId) (tl tm tf : Nat) (b : Nat) : CN l D (cTy cI cC cZ cQ) yX1_init wsX1_init ({ frames := 1, cells := 1, slots := 151, locals := 30 } : Room) [.ref b] [(b, .inr (1, [.null]))] tl tm tf 1 151 (fun u => ∃ q8 : Nat, u = [(b, .inr (1, [.ref q8])), (q8, .inl (cI, 151, .inl r0))]) := by
  refine v_startN (own := RX1) (cc := cX1_init) (nL := 2) rfl rfl (by decide) rfl (Nat.le_of_ble_eq_true rfl) ?_
  intro p e s m args below meth c A Q C K hE9 hin9 hend
  refine v_lv (lv' := [(0, .ref b)]) [0] rfl ?_
  refine v_aload_n C dX1_init_0 rfl 0 0 rfl rfl ?_
  refine v_objinit C cm_X1_init_0 cm_X1_init_1 cm_X1_init_2 dX1_init_1 rfl (Nat.le_of_ble_eq_true rfl) (Nat.le_of_ble_eq_true rfl) ?_
  refine v_aload_n C dX1_init_4 rfl 0 0 rfl rfl ?_
  refine v_sipush (v := 151) C dX1_init_5 rfl sp_151 ?_
  refine v_newa (atype := .int) (ty := .int) C K (ra_int s) rfl cm_X1_init_3 0 rfl (N' := 151) (a0 := (151, .inl (fun _ => 0))) (fun _ => rfl) rfl (by decide) (Nat.le_of_ble_eq_true rfl) (Nat.le_of_ble_eq_true rfl) (Nat.le_of_ble_eq_true rfl) dX1_init_8 rfl (fun q8 => ?_)
  refine v_st [(b, .inr (1, [.null])), (q8, .inl (cI, 151, .inl (fun _ => 0)))] rfl ?_
  refine v_putF (ty := (.array .int)) C K hin9 [(b, .inr (1, [.ref q8])), (q8, .inl (cI, 151, .inl (fun _ => 0)))] in_X1_init_X1c tyX1_ok nmX1 0 rfl rfl 0 (by decide) cm_X1_init_4 rfl rfl (by decide +kernel) rfl rfl (Nat.le_of_ble_eq_true rfl) rfl dX1_init_10 rfl ?_
  refine v_getsN C hE9.1.2.2.1 hE9.2.2.1 dX1_init_13 rfl ?_
  refine v_iconst (v := 0) C dX1_init_16 rfl ic_0 ?_
  refine v_aload_n C dX1_init_17 rfl 0 0 rfl rfl ?_
  refine v_get C K in_X1_init_X1c 0 rfl rfl 0 (by decide) cm_X1_init_4 rfl dX1_init_18 rfl ?_
  refine v_iconst (v := 0) C dX1_init_21 rfl ic_0 ?_
  refine v_iconst (v := 5) C dX1_init_22 rfl ic_5 ?_
  refine v_copyx C K cm_X1_init_5 cm_X1_init_6 cm_X1_init_7 cm_X1_init_8 [(b, .inr (1, [.ref q8])), (q8, .inl (cI, 151, .inl (va_cpy fsF (fun _ => 0) 0 0 5)))] hE9.1.2.2 1 0 rfl rfl (sj := 0) (dj := 0) (nj := 5) rfl rfl rfl ⟨by decide, by decide, by decide⟩ (by decide) (by decide) (Nat.le_of_ble_eq_true rfl) (Nat.le_of_ble_eq_true rfl) rfl dX1_init_23 rfl ?_
  refine v_iconst (v := 0) C dX1_init_26 rfl ic_0 ?_
  refine v_istore_n (lv' := [(1, _), (0, _)]) C dX1_init_27 rfl 1 rfl (by decide) rfl ?_
  refine v_lv (lv' := [(0, _), (1, _)]) [1, 0] rfl ?_
  have LP : ∀ j, j ≤ 70 → VV p l e ({ frames := 1, cells := 1, slots := 151, locals := 30 } : Room) s m args below meth c (0 + 1) (0 + 151) Q (fun u : va_W => u) D A s.heap 2 [(b, .inr (1, [.ref q8])), (q8, .inl (cI, 151, .inl (rF (va_cpy fsF (fun _ => 0) 0 0 5) j)))] 28 [(0, .ref b), (1, .int (nI j))] [] := by
    refine lpB9 (fun j => VV p l e ({ frames := 1, cells := 1, slots := 151, locals := 30 } : Room) s m args below meth c (0 + 1) (0 + 151) Q (fun u : va_W => u) D A s.heap 2 [(b, .inr (1, [.ref q8])), (q8, .inl (cI, 151, .inl (rF (va_cpy fsF (fun _ => 0) 0 0 5) j)))] 28 [(0, .ref b), (1, .int (nI j))] []) 70 (fun j hj ih => ?_) ?_
    · refine v_iload_n C dX1_init_28 rfl 1 1 rfl rfl ?_
      refine v_bipush (v := 70) C dX1_init_29 rfl bp_70 ?_
      refine v_icmp_ge C 51 dX1_init_31 (by decide) rfl (fun h9 => absurd h9 (nI_ge hj (by decide))) (fun _ => ?_)
      refine v_aload_n C dX1_init_34 rfl 0 0 rfl rfl ?_
      refine v_get C K in_X1_init_X1c 0 rfl rfl 0 (by decide) cm_X1_init_4 rfl dX1_init_35 rfl ?_
      refine v_bipush (v := 46) C dX1_init_38 rfl bp_46 ?_
      refine v_iload_n C dX1_init_40 rfl 1 1 rfl rfl ?_
      refine v_iadd C dX1_init_41 rfl ?_
      refine v_bipush (v := -6) C dX1_init_42 rfl bp_m6 ?_
      refine v_iast C K [(b, .inr (1, [.ref q8])), (q8, .inl (cI, 151, .inl (rF (va_cpy fsF (fun _ => 0) 0 0 5) (j + 1))))] 1 0 rfl rfl (46 + j) (nI_add 46 j) (by omega) (by decide) (by rw [← rF_s]; rfl) dX1_init_44 rfl ?_
      refine v_iinc (lv' := [(1, _), (0, _)]) C dX1_init_45 rfl 1 rfl (inc9 _) (by decide) rfl ?_
      refine v_goto C 28 dX1_init_48 (by decide) ?_
      refine v_lv (lv' := [(0, _), (1, _)]) [1, 0] rfl ?_
      exact ih
    · refine v_iload_n C dX1_init_28 rfl 1 1 rfl rfl ?_
      refine v_bipush (v := 70) C dX1_init_29 rfl bp_70 ?_
      refine v_icmp_ge C 51 dX1_init_31 (by decide) rfl (fun _ => ?_) (fun h9 => absurd (nI_le (Nat.le_refl _) (by decide)) h9)
      refine v_st [(b, .inr (1, [.ref q8])), (q8, .inl (cI, 151, .inl r0))] (by rw [show rF (va_cpy fsF (fun _ => 0) 0 0 5) 70 = r0 from r0_c]) ?_
      refine v_wid (k := 1) (n := 151) (Nat.le_of_ble_eq_true rfl) (Nat.le_of_ble_eq_true rfl) ?_
      exact hend ⟨q8, rfl⟩ dX1_init_51
  exact v_st [(b, .inr (1, [.ref q8])), (q8, .inl (cI, 151, .inl (rF (va_cpy fsF (fun _ => 0) 0 0 5) 0)))] (by rw [rF_0]) (LP 0 (by decide))

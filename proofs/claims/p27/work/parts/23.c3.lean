theorem min9 (a b : Int32) : (if b < a then b else a) = if b ≤ a then b else a := by
  by_cases h : b < a
  · rw [if_pos h, if_pos (Int32.le_of_lt h)]
  · rw [if_neg h]
    by_cases h2 : b ≤ a
    · rw [if_pos h2]
      exact Int32.le_antisymm (Int32.not_lt.mp h) h2
    · rw [if_neg h2]
theorem max9 (a b : Int32) : (if a < b then b else a) = if b ≤ a then a else b := by
  by_cases h : a < b
  · rw [if_pos h, if_neg (Int32.not_le.mpr h)]
  · rw [if_neg h, if_pos (Int32.not_lt.mp h)]
def q_pp (r : Nat → Int32) (pt : Nat) (x : Int32) : Int32 := if r 0 ≤ x * (if pt = 0 then r 4 else r 3) / 100 then r 0 else x * (if pt = 0 then r 4 else r 3) / 100
set_option maxHeartbeats 4000000 in
set_option maxRecDepth 100000 in
theorem c_X0_peopleOf (l : Launch) (D : va_G) (ad : Nat → Nat) (cI cC cZ cQ : ClassId) (σ : S9) (x : Int32) (pt : Nat) (hpt : pt < 2) : CMi l (cW ad cI cC cZ cQ) D (cTy cI cC cZ cQ) yX0_peopleOf wsX0_peopleOf ({ frames := 1, cells := 0, slots := 0, locals := 21 } : Room) [.ref (ad 1), .int x, .int (nI pt)] σ (fun r u => r = q_pp (σ 0) pt x ∧ u = σ) := by
  refine v_starti (own := RX0) (cc := cX0_peopleOf) (nL := 4) rfl (by decide) rfl (Nat.le_of_ble_eq_true rfl) ?_
  intro p e s m args below meth c A Q C K hend
  refine v_lv (lv' := [(0, .ref (ad 1)), (1, .int x), (2, .int (nI pt))]) [0, 1, 2] rfl ?_
  refine v_aload_n C dX0_peopleOf_0 rfl 0 0 rfl rfl ?_
  refine v_iload_n C dX0_peopleOf_1 rfl 2 2 rfl rfl ?_
  refine v_if_ne C 9 dX0_peopleOf_2 (by decide) rfl (fun h2t => ?_) (fun h2 => ?_)
  · skip
    have e0 : ¬ pt = 0 := by
      rintro rfl
      exact h2t rfl
    refine v_iconst (v := 3) C dX0_peopleOf_9 rfl ic_3 ?_
    refine v_callVid C K (c_X1_setting l D ad cI cC cZ cQ _ 3 (by decide)) gX0_peopleOf_X1_setting rfl hd_X1_setting ⟨rfl, rfl⟩ ⟨Nat.le_of_ble_eq_true rfl, Nat.le_of_ble_eq_true rfl⟩ 1 rfl rfl rfl rfl rfl (Nat.le_of_ble_eq_true rfl) ⟨Nat.le_refl _, Nat.le_refl _⟩ dX0_peopleOf_10 rfl ?_
    refine v_istore_n (lv' := [(3, _), (0, _), (1, _), (2, _)]) C dX0_peopleOf_13 rfl 3 rfl (by decide) rfl ?_
    refine v_iload_n C dX0_peopleOf_14 rfl 1 2 rfl rfl ?_
    refine v_iload_n C dX0_peopleOf_15 rfl 3 0 rfl rfl ?_
    refine v_imul C dX0_peopleOf_16 rfl ?_
    refine v_bipush (v := 100) C dX0_peopleOf_17 rfl bp_100 ?_
    refine v_idiv C dX0_peopleOf_19 rfl (by decide) ?_
    refine v_aload_n C dX0_peopleOf_20 rfl 0 1 rfl rfl ?_
    refine v_iconst (v := 0) C dX0_peopleOf_21 rfl ic_0 ?_
    refine v_callVid C K (c_X1_setting l D ad cI cC cZ cQ _ 0 (by decide)) gX0_peopleOf_X1_setting rfl hd_X1_setting ⟨rfl, rfl⟩ ⟨Nat.le_of_ble_eq_true rfl, Nat.le_of_ble_eq_true rfl⟩ 1 rfl rfl rfl rfl rfl (Nat.le_of_ble_eq_true rfl) ⟨Nat.le_refl _, Nat.le_refl _⟩ dX0_peopleOf_22 rfl ?_
    refine v_mmin C ma_X0_peopleOf_min_0 ma_X0_peopleOf_min_1 ma_X0_peopleOf_min_2 ma_X0_peopleOf_min_3 (Nat.le_of_ble_eq_true rfl) (Nat.le_of_ble_eq_true rfl) ⟨Nat.le_refl _, Nat.le_refl _⟩ dX0_peopleOf_25 rfl ?_
    exact hend (⟨by rw [min9, q_pp]; simp [e0], rfl⟩) (rfl) dX0_peopleOf_28
  · skip
    have e0 : pt = 0 := (nI_eq (by omega) (by decide)).mp h2
    refine v_iconst (v := 4) C dX0_peopleOf_5 rfl ic_4 ?_
    refine v_goto C 10 dX0_peopleOf_6 (by decide) ?_
    refine v_callVid C K (c_X1_setting l D ad cI cC cZ cQ _ 4 (by decide)) gX0_peopleOf_X1_setting rfl hd_X1_setting ⟨rfl, rfl⟩ ⟨Nat.le_of_ble_eq_true rfl, Nat.le_of_ble_eq_true rfl⟩ 1 rfl rfl rfl rfl rfl (Nat.le_of_ble_eq_true rfl) ⟨Nat.le_refl _, Nat.le_refl _⟩ dX0_peopleOf_10 rfl ?_
    refine v_istore_n (lv' := [(3, _), (0, _), (1, _), (2, _)]) C dX0_peopleOf_13 rfl 3 rfl (by decide) rfl ?_
    refine v_iload_n C dX0_peopleOf_14 rfl 1 2 rfl rfl ?_
    refine v_iload_n C dX0_peopleOf_15 rfl 3 0 rfl rfl ?_
    refine v_imul C dX0_peopleOf_16 rfl ?_
    refine v_bipush (v := 100) C dX0_peopleOf_17 rfl bp_100 ?_
    refine v_idiv C dX0_peopleOf_19 rfl (by decide) ?_
    refine v_aload_n C dX0_peopleOf_20 rfl 0 1 rfl rfl ?_
    refine v_iconst (v := 0) C dX0_peopleOf_21 rfl ic_0 ?_
    refine v_callVid C K (c_X1_setting l D ad cI cC cZ cQ _ 0 (by decide)) gX0_peopleOf_X1_setting rfl hd_X1_setting ⟨rfl, rfl⟩ ⟨Nat.le_of_ble_eq_true rfl, Nat.le_of_ble_eq_true rfl⟩ 1 rfl rfl rfl rfl rfl (Nat.le_of_ble_eq_true rfl) ⟨Nat.le_refl _, Nat.le_refl _⟩ dX0_peopleOf_22 rfl ?_
    refine v_mmin C ma_X0_peopleOf_min_0 ma_X0_peopleOf_min_1 ma_X0_peopleOf_min_2 ma_X0_peopleOf_min_3 (Nat.le_of_ble_eq_true rfl) (Nat.le_of_ble_eq_true rfl) ⟨Nat.le_refl _, Nat.le_refl _⟩ dX0_peopleOf_25 rfl ?_
    exact hend (⟨by rw [min9, q_pp]; simp [e0], rfl⟩) (rfl) dX0_peopleOf_28
set_option maxHeartbeats 4000000 in
set_option maxRecDepth 100000 in
theorem c_X0_nextShare (l : Launch) (x a b : Int32) : CPi l yX0_nextShare wsX0_nextShare ({ frames := 1, cells := 0, slots := 0, locals := 21 } : Room) [.int x, .int a, .int b] (fun r => r = p_next x a b) := by
  refine v_startP (own := RX0) (cc := cX0_nextShare) (nL := 3) ((fun _ => 0), (fun _ _ => 0)) rfl (by decide) rfl (Nat.le_of_ble_eq_true rfl) ?_
  intro p e s m args below meth c A Q C hend
  skip
  refine v_lv (lv' := [(0, .int x), (1, .int a), (2, .int b)]) [0, 1, 2] rfl ?_
  refine v_iload_n C dX0_nextShare_0 rfl 0 0 rfl rfl ?_
  refine v_bipush (v := -6) C dX0_nextShare_1 rfl bp_m6 ?_
  refine v_icmp_eq C 16 dX0_nextShare_3 (by decide) rfl (fun h3 => ?_) (fun h3 => ?_)
  · skip
    refine v_iload_n C dX0_nextShare_16 rfl 2 2 rfl rfl ?_
    refine v_if_eq C 24 dX0_nextShare_17 (by decide) rfl (fun h17 => ?_) (fun h17 => ?_)
    · skip
      refine v_bipush (v := -6) C dX0_nextShare_24 rfl bp_m6 ?_
      exact hend (by simp [p_next, h3, h17]) (rfl) dX0_nextShare_26
    · skip
      refine v_iload_n C dX0_nextShare_20 rfl 1 1 rfl rfl ?_
      refine v_goto C 26 dX0_nextShare_21 (by decide) ?_
      exact hend (by simp [p_next, h3, h17]) (rfl) dX0_nextShare_26
  · skip
    refine v_iload_n C dX0_nextShare_6 rfl 0 0 rfl rfl ?_
    refine v_bipush (v := 10) C dX0_nextShare_7 rfl bp_10 ?_
    refine v_isub C dX0_nextShare_9 rfl ?_
    refine v_bipush (v := 20) C dX0_nextShare_10 rfl bp_20 ?_
    refine v_mmax C ma_X0_nextShare_max_0 ma_X0_nextShare_max_1 ma_X0_nextShare_max_2 ma_X0_nextShare_max_3 (Nat.le_of_ble_eq_true rfl) (Nat.le_of_ble_eq_true rfl) ⟨Nat.le_refl _, Nat.le_refl _⟩ dX0_nextShare_12 rfl ?_
    exact hend (by simp [p_next, h3]) (rfl) dX0_nextShare_15
set_option maxHeartbeats 4000000 in
set_option maxRecDepth 100000 in
theorem c_X0_sumOfWeek (l : Launch) (D : va_G) (ad : Nat → Nat) (cI cC cZ cQ : ClassId) (σ : S9) (w9 c9 : Nat) (hw : w9 < 5) (hc : c9 < 5) : CMi l (cW ad cI cC cZ cQ) D (cTy cI cC cZ cQ) yX0_sumOfWeek wsX0_sumOfWeek ({ frames := 0, cells := 0, slots := 0, locals := 0 } : Room) [.ref (ad 3), .int (nI w9), .int (nI c9)] σ (fun r u => r = σ 3 (5 * w9 + c9) ∧ u = σ) := by
  refine v_starti (own := RX0) (cc := cX0_sumOfWeek) (nL := 3) rfl (by decide) rfl (Nat.le_of_ble_eq_true rfl) ?_
  intro p e s m args below meth c A Q C K hend
  refine v_lv (lv' := [(0, .ref (ad 3)), (1, .int (nI w9)), (2, .int (nI c9))]) [0, 1, 2] rfl ?_
  refine v_aload_n C dX0_sumOfWeek_0 rfl 0 0 rfl rfl ?_
  refine v_get C K in_X0_sumOfWeek_X0 3 rfl rfl 2 (by decide) fl_X0_sumOfWeek_X0_2 rfl dX0_sumOfWeek_1 rfl ?_
  refine v_iload_n C dX0_sumOfWeek_4 rfl 1 1 rfl rfl ?_
  refine v_iconst (v := 5) C dX0_sumOfWeek_5 rfl ic_5 ?_
  refine v_imul C dX0_sumOfWeek_6 rfl ?_
  refine v_iload_n C dX0_sumOfWeek_7 rfl 2 2 rfl rfl ?_
  refine v_iadd C dX0_sumOfWeek_8 rfl ?_
  refine v_iald C K 6 0 rfl rfl (5 * w9 + c9) (by simp only [lit9, pk_mul, nI_add]; congr 1; omega) (by omega) (by decide) dX0_sumOfWeek_9 rfl ?_
  exact hend (⟨rfl, rfl⟩) (rfl) dX0_sumOfWeek_10
def c_sot (σ : S9) (w : Nat) : Int32 := if σ 4 w = -6 then 0 else σ 3 (5 * w + 2) * σ 4 w / 100
set_option maxHeartbeats 4000000 in
set_option maxRecDepth 100000 in
theorem c_X0_shareOfTakings (l : Launch) (D : va_G) (ad : Nat → Nat) (cI cC cZ cQ : ClassId) (σ : S9) (w9 : Nat) (hw : w9 < 5) : CMi l (cW ad cI cC cZ cQ) D (cTy cI cC cZ cQ) yX0_shareOfTakings wsX0_shareOfTakings ({ frames := 1, cells := 0, slots := 0, locals := 22 } : Room) [.ref (ad 3), .int (nI w9)] σ (fun r u => r = c_sot σ w9 ∧ u = σ) := by
  refine v_starti (own := RX0) (cc := cX0_shareOfTakings) (nL := 2) rfl (by decide) rfl (Nat.le_of_ble_eq_true rfl) ?_
  intro p e s m args below meth c A Q C K hend
  refine v_lv (lv' := [(0, .ref (ad 3)), (1, .int (nI w9))]) [0, 1] rfl ?_
  refine v_aload_n C dX0_shareOfTakings_0 rfl 0 0 rfl rfl ?_
  refine v_get C K in_X0_shareOfTakings_X0 3 rfl rfl 3 (by decide) fl_X0_shareOfTakings_X0_3 rfl dX0_shareOfTakings_1 rfl ?_
  refine v_iload_n C dX0_shareOfTakings_4 rfl 1 1 rfl rfl ?_
  refine v_iald C K 7 0 rfl rfl (w9) (rfl) (by omega) (by decide) dX0_shareOfTakings_5 rfl ?_
  refine v_bipush (v := -6) C dX0_shareOfTakings_6 rfl bp_m6 ?_
  refine v_icmp_ne C 15 dX0_shareOfTakings_8 (by decide) rfl (fun h8 => ?_) (fun h8 => ?_)
  · skip
    refine v_aload_n C dX0_shareOfTakings_15 rfl 0 0 rfl rfl ?_
    refine v_iload_n C dX0_shareOfTakings_16 rfl 1 1 rfl rfl ?_
    refine v_iconst (v := 2) C dX0_shareOfTakings_17 rfl ic_2 ?_
    refine v_callVid C K (c_X0_sumOfWeek l D ad cI cC cZ cQ _ w9 2 hw (by decide)) gX0_shareOfTakings_X0_sumOfWeek rfl hd_X0_sumOfWeek ⟨rfl, rfl⟩ ⟨Nat.le_of_ble_eq_true rfl, Nat.le_of_ble_eq_true rfl⟩ 3 rfl rfl rfl rfl rfl (Nat.le_of_ble_eq_true rfl) ⟨Nat.le_refl _, Nat.le_refl _⟩ dX0_shareOfTakings_18 rfl ?_
    refine v_aload_n C dX0_shareOfTakings_21 rfl 0 0 rfl rfl ?_
    refine v_get C K in_X0_shareOfTakings_X0 3 rfl rfl 3 (by decide) fl_X0_shareOfTakings_X0_3 rfl dX0_shareOfTakings_22 rfl ?_
    refine v_iload_n C dX0_shareOfTakings_25 rfl 1 1 rfl rfl ?_
    refine v_iald C K 7 0 rfl rfl (w9) (rfl) (by omega) (by decide) dX0_shareOfTakings_26 rfl ?_
    refine v_imul C dX0_shareOfTakings_27 rfl ?_
    refine v_bipush (v := 100) C dX0_shareOfTakings_28 rfl bp_100 ?_
    refine v_idiv C dX0_shareOfTakings_30 rfl (by decide) ?_
    exact hend (⟨by simp [c_sot, h8], rfl⟩) (rfl) dX0_shareOfTakings_31
  · skip
    refine v_iconst (v := 0) C dX0_shareOfTakings_11 rfl ic_0 ?_
    refine v_goto C 31 dX0_shareOfTakings_12 (by decide) ?_
    exact hend (⟨by simp [c_sot, h8], rfl⟩) (rfl) dX0_shareOfTakings_31
set_option maxHeartbeats 4000000 in
set_option maxRecDepth 100000 in
theorem c_X0_dueAboveShare (l : Launch) (D : va_G) (ad : Nat → Nat) (cI cC cZ cQ : ClassId) (σ : S9) (w9 : Nat) (hw : w9 < 5) : CMi l (cW ad cI cC cZ cQ) D (cTy cI cC cZ cQ) yX0_dueAboveShare wsX0_dueAboveShare ({ frames := 2, cells := 0, slots := 0, locals := 43 } : Room) [.ref (ad 3), .int (nI w9)] σ (fun r u => r = σ 3 (5 * w9 + 3) - c_sot σ w9 ∧ u = σ) := by
  refine v_starti (own := RX0) (cc := cX0_dueAboveShare) (nL := 2) rfl (by decide) rfl (Nat.le_of_ble_eq_true rfl) ?_
  intro p e s m args below meth c A Q C K hend
  refine v_lv (lv' := [(0, .ref (ad 3)), (1, .int (nI w9))]) [0, 1] rfl ?_
  refine v_aload_n C dX0_dueAboveShare_0 rfl 0 0 rfl rfl ?_
  refine v_iload_n C dX0_dueAboveShare_1 rfl 1 1 rfl rfl ?_
  refine v_iconst (v := 3) C dX0_dueAboveShare_2 rfl ic_3 ?_
  refine v_callVid C K (c_X0_sumOfWeek l D ad cI cC cZ cQ _ w9 3 hw (by decide)) gX0_dueAboveShare_X0_sumOfWeek rfl hd_X0_sumOfWeek ⟨rfl, rfl⟩ ⟨Nat.le_of_ble_eq_true rfl, Nat.le_of_ble_eq_true rfl⟩ 3 rfl rfl rfl rfl rfl (Nat.le_of_ble_eq_true rfl) ⟨Nat.le_refl _, Nat.le_refl _⟩ dX0_dueAboveShare_3 rfl ?_
  refine v_aload_n C dX0_dueAboveShare_6 rfl 0 0 rfl rfl ?_
  refine v_iload_n C dX0_dueAboveShare_7 rfl 1 1 rfl rfl ?_
  refine v_callVid C K (c_X0_shareOfTakings l D ad cI cC cZ cQ _ w9 hw) gX0_dueAboveShare_X0_shareOfTakings rfl hd_X0_shareOfTakings ⟨rfl, rfl⟩ ⟨Nat.le_of_ble_eq_true rfl, Nat.le_of_ble_eq_true rfl⟩ 3 rfl rfl rfl rfl rfl (Nat.le_of_ble_eq_true rfl) ⟨Nat.le_refl _, Nat.le_refl _⟩ dX0_dueAboveShare_8 rfl ?_
  refine v_isub C dX0_dueAboveShare_11 rfl ?_
  exact hend (⟨rfl, rfl⟩) (rfl) dX0_dueAboveShare_12
set_option maxHeartbeats 4000000 in
set_option maxRecDepth 100000 in
theorem c_X0_sum (l : Launch) (D : va_G) (ad : Nat → Nat) (cI cC cZ cQ : ClassId) (σ : S9) (c9 : Nat) (hc : c9 < 5) : CMi l (cW ad cI cC cZ cQ) D (cTy cI cC cZ cQ) yX0_sum wsX0_sum ({ frames := 1, cells := 0, slots := 0, locals := 22 } : Room) [.ref (ad 3), .int (nI c9)] σ (fun r u => r = sm9 (fun w => σ 3 (5 * w + c9)) 5 ∧ u = σ) := by
  refine v_starti (own := RX0) (cc := cX0_sum) (nL := 4) rfl (by decide) rfl (Nat.le_of_ble_eq_true rfl) ?_
  intro p e s m args below meth c A Q C K hend
  refine v_lv (lv' := [(0, .ref (ad 3)), (1, .int (nI c9))]) [0, 1] rfl ?_
  refine v_iconst (v := 0) C dX0_sum_0 rfl ic_0 ?_
  refine v_istore_n (lv' := [(2, _), (0, _), (1, _)]) C dX0_sum_1 rfl 2 rfl (by decide) rfl ?_
  refine v_iconst (v := 0) C dX0_sum_2 rfl ic_0 ?_
  refine v_istore_n (lv' := [(3, _), (2, _), (0, _), (1, _)]) C dX0_sum_3 rfl 3 rfl (by decide) rfl ?_
  have LP4 : ∀ d, d ≤ 5 → VV p l e ({ frames := 1, cells := 0, slots := 0, locals := 22 } : Room) s m args below meth c 0 0 Q (cW ad cI cC cZ cQ) D A s.heap 4 σ 4 [(0, .ref (ad 3)), (1, .int (nI c9)), (2, .int (sm9 (fun w => σ 3 (5 * w + c9)) d)), (3, .int (nI d))] [] := by
    refine lpB9 (fun d => VV p l e ({ frames := 1, cells := 0, slots := 0, locals := 22 } : Room) s m args below meth c 0 0 Q (cW ad cI cC cZ cQ) D A s.heap 4 σ 4 [(0, .ref (ad 3)), (1, .int (nI c9)), (2, .int (sm9 (fun w => σ 3 (5 * w + c9)) d)), (3, .int (nI d))] []) 5 (fun d hd ih => ?_) ?_
    · skip
      refine v_iload_n C dX0_sum_4 rfl 3 3 rfl rfl ?_
      refine v_iconst (v := 5) C dX0_sum_5 rfl ic_5 ?_
      refine v_icmp_ge C 24 dX0_sum_6 (by decide) rfl (fun h9 => absurd h9 (nI_ge hd (by decide))) (fun _ => ?_)
      refine v_iload_n C dX0_sum_9 rfl 2 2 rfl rfl ?_
      refine v_aload_n C dX0_sum_10 rfl 0 0 rfl rfl ?_
      refine v_iload_n C dX0_sum_11 rfl 3 3 rfl rfl ?_
      refine v_iload_n C dX0_sum_12 rfl 1 1 rfl rfl ?_
      refine v_callVid C K (c_X0_sumOfWeek l D ad cI cC cZ cQ _ d c9 hd hc) gX0_sum_X0_sumOfWeek rfl hd_X0_sumOfWeek ⟨rfl, rfl⟩ ⟨Nat.le_of_ble_eq_true rfl, Nat.le_of_ble_eq_true rfl⟩ 3 rfl rfl rfl rfl rfl (Nat.le_of_ble_eq_true rfl) ⟨Nat.le_refl _, Nat.le_refl _⟩ dX0_sum_13 rfl ?_
      refine v_iadd C dX0_sum_16 rfl ?_
      refine v_top (sm9 (fun w => σ 3 (5 * w + c9)) (d + 1)) (rfl) ?_
      refine v_istore_n (lv' := [(2, _), (0, _), (1, _), (3, _)]) C dX0_sum_17 rfl 2 rfl (by decide) rfl ?_
      refine v_iinc (lv' := [(3, _), (2, _), (0, _), (1, _)]) C dX0_sum_18 rfl 3 rfl (inc9 _) (by decide) rfl ?_
      refine v_goto C 4 dX0_sum_21 (by decide) ?_
      refine v_lv (lv' := [(0, _), (1, _), (2, _), (3, _)]) [2, 3, 1, 0] rfl ?_
      exact ih
    · skip
      refine v_iload_n C dX0_sum_4 rfl 3 3 rfl rfl ?_
      refine v_iconst (v := 5) C dX0_sum_5 rfl ic_5 ?_
      refine v_icmp_ge C 24 dX0_sum_6 (by decide) rfl (fun _ => ?_) (fun h9 => absurd (nI_le (Nat.le_refl _) (by decide)) h9)
      refine v_iload_n C dX0_sum_24 rfl 2 2 rfl rfl ?_
      exact hend (⟨rfl, rfl⟩) (rfl) dX0_sum_25
  refine v_lv (lv' := [(0, _), (1, _), (2, _), (3, _)]) [2, 3, 1, 0] rfl ?_
  exact LP4 0 (by omega)
set_option maxHeartbeats 4000000 in
set_option maxRecDepth 100000 in
theorem c_X0_shareIn (l : Launch) (D : va_G) (ad : Nat → Nat) (cI cC cZ cQ : ClassId) (σ : S9) (w9 : Nat) (hw : w9 < 5) : CMi l (cW ad cI cC cZ cQ) D (cTy cI cC cZ cQ) yX0_shareIn wsX0_shareIn ({ frames := 0, cells := 0, slots := 0, locals := 0 } : Room) [.ref (ad 3), .int (nI w9)] σ (fun r u => r = σ 4 w9 ∧ u = σ) := by
  refine v_starti (own := RX0) (cc := cX0_shareIn) (nL := 2) rfl (by decide) rfl (Nat.le_of_ble_eq_true rfl) ?_
  intro p e s m args below meth c A Q C K hend
  refine v_lv (lv' := [(0, .ref (ad 3)), (1, .int (nI w9))]) [0, 1] rfl ?_
  refine v_aload_n C dX0_shareIn_0 rfl 0 0 rfl rfl ?_
  refine v_get C K in_X0_shareIn_X0 3 rfl rfl 3 (by decide) fl_X0_shareIn_X0_3 rfl dX0_shareIn_1 rfl ?_
  refine v_iload_n C dX0_shareIn_4 rfl 1 1 rfl rfl ?_
  refine v_iald C K 7 0 rfl rfl (w9) (rfl) (by omega) (by decide) dX0_shareIn_5 rfl ?_
  exact hend (⟨rfl, rfl⟩) (rfl) dX0_shareIn_6
set_option maxHeartbeats 4000000 in
set_option maxRecDepth 100000 in
theorem c_X0_peopleAt (l : Launch) (D : va_G) (ad : Nat → Nat) (cI cC cZ cQ : ClassId) (σ : S9) (k : Nat) (hk : k < 70) : CMi l (cW ad cI cC cZ cQ) D (cTy cI cC cZ cQ) yX0_peopleAt wsX0_peopleAt ({ frames := 0, cells := 0, slots := 0, locals := 0 } : Room) [.ref (ad 3), .int (nI k)] σ (fun r u => r = σ 1 k ∧ u = σ) := by
  refine v_starti (own := RX0) (cc := cX0_peopleAt) (nL := 2) rfl (by decide) rfl (Nat.le_of_ble_eq_true rfl) ?_
  intro p e s m args below meth c A Q C K hend
  refine v_lv (lv' := [(0, .ref (ad 3)), (1, .int (nI k))]) [0, 1] rfl ?_
  refine v_aload_n C dX0_peopleAt_0 rfl 0 0 rfl rfl ?_
  refine v_get C K in_X0_peopleAt_X0 3 rfl rfl 0 (by decide) fl_X0_peopleAt_X0_0 rfl dX0_peopleAt_1 rfl ?_
  refine v_iload_n C dX0_peopleAt_4 rfl 1 1 rfl rfl ?_
  refine v_iald C K 4 0 rfl rfl (k) (rfl) (by omega) (by decide) dX0_peopleAt_5 rfl ?_
  exact hend (⟨rfl, rfl⟩) (rfl) dX0_peopleAt_6
set_option maxHeartbeats 4000000 in
set_option maxRecDepth 100000 in
theorem c_X0_leftBehind (l : Launch) (D : va_G) (ad : Nat → Nat) (cI cC cZ cQ : ClassId) (σ : S9) (k : Nat) (hk : k < 70) : CMi l (cW ad cI cC cZ cQ) D (cTy cI cC cZ cQ) yX0_leftBehind wsX0_leftBehind ({ frames := 0, cells := 0, slots := 0, locals := 0 } : Room) [.ref (ad 3), .int (nI k)] σ (fun r u => r = σ 2 k ∧ u = σ) := by
  refine v_starti (own := RX0) (cc := cX0_leftBehind) (nL := 2) rfl (by decide) rfl (Nat.le_of_ble_eq_true rfl) ?_
  intro p e s m args below meth c A Q C K hend
  refine v_lv (lv' := [(0, .ref (ad 3)), (1, .int (nI k))]) [0, 1] rfl ?_
  refine v_aload_n C dX0_leftBehind_0 rfl 0 0 rfl rfl ?_
  refine v_get C K in_X0_leftBehind_X0 3 rfl rfl 1 (by decide) fl_X0_leftBehind_X0_1 rfl dX0_leftBehind_1 rfl ?_
  refine v_iload_n C dX0_leftBehind_4 rfl 1 1 rfl rfl ?_
  refine v_iald C K 5 0 rfl rfl (k) (rfl) (by omega) (by decide) dX0_leftBehind_5 rfl ?_
  exact hend (⟨rfl, rfl⟩) (rfl) dX0_leftBehind_6
set_option maxHeartbeats 4000000 in
set_option maxRecDepth 100000 in
theorem c_X0_fullShows (l : Launch) (D : va_G) (ad : Nat → Nat) (cI cC cZ cQ : ClassId) (σ : S9)  : CMi l (cW ad cI cC cZ cQ) D (cTy cI cC cZ cQ) yX0_fullShows wsX0_fullShows ({ frames := 0, cells := 0, slots := 0, locals := 0 } : Room) [.ref (ad 3)] σ (fun r u => r = σ 5 0 ∧ u = σ) := by
  refine v_starti (own := RX0) (cc := cX0_fullShows) (nL := 1) rfl (by decide) rfl (Nat.le_of_ble_eq_true rfl) ?_
  intro p e s m args below meth c A Q C K hend
  refine v_lv (lv' := [(0, .ref (ad 3))]) [0] rfl ?_
  refine v_aload_n C dX0_fullShows_0 rfl 0 0 rfl rfl ?_
  refine v_get C K in_X0_fullShows_X0 3 rfl rfl 4 (by decide) fl_X0_fullShows_X0_4 rfl dX0_fullShows_1 rfl ?_
  exact hend (⟨rfl, rfl⟩) (rfl) dX0_fullShows_4
set_option maxHeartbeats 4000000 in
set_option maxRecDepth 100000 in
theorem c_X0_leftAtEnd (l : Launch) (D : va_G) (ad : Nat → Nat) (cI cC cZ cQ : ClassId) (σ : S9)  : CMi l (cW ad cI cC cZ cQ) D (cTy cI cC cZ cQ) yX0_leftAtEnd wsX0_leftAtEnd ({ frames := 0, cells := 0, slots := 0, locals := 0 } : Room) [.ref (ad 3)] σ (fun r u => r = σ 5 1 ∧ u = σ) := by
  refine v_starti (own := RX0) (cc := cX0_leftAtEnd) (nL := 1) rfl (by decide) rfl (Nat.le_of_ble_eq_true rfl) ?_
  intro p e s m args below meth c A Q C K hend
  refine v_lv (lv' := [(0, .ref (ad 3))]) [0] rfl ?_
  refine v_aload_n C dX0_leftAtEnd_0 rfl 0 0 rfl rfl ?_
  refine v_get C K in_X0_leftAtEnd_X0 3 rfl rfl 5 (by decide) fl_X0_leftAtEnd_X0_5 rfl dX0_leftAtEnd_1 rfl ?_
  exact hend (⟨rfl, rfl⟩) (rfl) dX0_leftAtEnd_4
def rw_so (sh t : Int32) : Int32 := if sh = -6 then 0 else t * sh / 100
def rw_du (S m so : Int32) : Int32 := if S = 0 then 0 else if so ≤ m then m else so
def rwM (σ : S9) (w : Nat) (m : Int32) : S9 := st9 σ 3 (upd (upd (upd (σ 3) (5 * w + 2) (σ 3 (5 * w + 1) * σ 0 1)) (5 * w + 3) (rw_du (σ 3 (5 * w + 0)) m (rw_so (σ 4 w) (σ 3 (5 * w + 1) * σ 0 1)))) (5 * w + 4) (σ 3 (5 * w + 1) * σ 0 1 - rw_du (σ 3 (5 * w + 0)) m (rw_so (σ 4 w) (σ 3 (5 * w + 1) * σ 0 1)) - σ 3 (5 * w + 0) * σ 0 2))
set_option maxHeartbeats 4000000 in
set_option maxRecDepth 100000 in
theorem c_X0_reckonWeek (l : Launch) (D : va_G) (ad : Nat → Nat) (cI cC cZ cQ : ClassId) (σ : S9) (w9 : Nat) (hw : w9 < 5) (mi : Int32) : CMv l (cW ad cI cC cZ cQ) D (cTy cI cC cZ cQ) yX0_reckonWeek wsX0_reckonWeek ({ frames := 2, cells := 0, slots := 0, locals := 43 } : Room) [.ref (ad 3), .ref (ad 1), .int (nI w9), .int mi] σ (fun u => u = rwM σ w9 mi) := by
  refine v_startv (own := RX0) (cc := cX0_reckonWeek) (nL := 7) rfl (by decide) rfl (Nat.le_of_ble_eq_true rfl) ?_
  intro p e s m args below meth c A Q C K hend
  refine v_lv (lv' := [(0, .ref (ad 3)), (1, .ref (ad 1)), (2, .int (nI w9)), (3, .int mi)]) [0, 1, 2, 3] rfl ?_
  refine v_aload_n C dX0_reckonWeek_0 rfl 0 0 rfl rfl ?_
  refine v_iload_n C dX0_reckonWeek_1 rfl 2 2 rfl rfl ?_
  refine v_iconst (v := 0) C dX0_reckonWeek_2 rfl ic_0 ?_
  refine v_callVid C K (c_X0_sumOfWeek l D ad cI cC cZ cQ _ w9 0 hw (by decide)) gX0_reckonWeek_X0_sumOfWeek rfl hd_X0_sumOfWeek ⟨rfl, rfl⟩ ⟨Nat.le_of_ble_eq_true rfl, Nat.le_of_ble_eq_true rfl⟩ 3 rfl rfl rfl rfl rfl (Nat.le_of_ble_eq_true rfl) ⟨Nat.le_refl _, Nat.le_refl _⟩ dX0_reckonWeek_3 rfl ?_
  refine v_istore (lv' := [(4, _), (0, _), (1, _), (2, _), (3, _)]) C dX0_reckonWeek_6 rfl (by decide) rfl ?_
  refine v_aload_n C dX0_reckonWeek_8 rfl 0 1 rfl rfl ?_
  refine v_iload_n C dX0_reckonWeek_9 rfl 2 3 rfl rfl ?_
  refine v_iconst (v := 1) C dX0_reckonWeek_10 rfl ic_1 ?_
  refine v_callVid C K (c_X0_sumOfWeek l D ad cI cC cZ cQ _ w9 1 hw (by decide)) gX0_reckonWeek_X0_sumOfWeek rfl hd_X0_sumOfWeek ⟨rfl, rfl⟩ ⟨Nat.le_of_ble_eq_true rfl, Nat.le_of_ble_eq_true rfl⟩ 3 rfl rfl rfl rfl rfl (Nat.le_of_ble_eq_true rfl) ⟨Nat.le_refl _, Nat.le_refl _⟩ dX0_reckonWeek_11 rfl ?_
  refine v_aload_n C dX0_reckonWeek_14 rfl 1 2 rfl rfl ?_
  refine v_iconst (v := 1) C dX0_reckonWeek_15 rfl ic_1 ?_
  refine v_callVid C K (c_X1_setting l D ad cI cC cZ cQ _ 1 (by decide)) gX0_reckonWeek_X1_setting rfl hd_X1_setting ⟨rfl, rfl⟩ ⟨Nat.le_of_ble_eq_true rfl, Nat.le_of_ble_eq_true rfl⟩ 1 rfl rfl rfl rfl rfl (Nat.le_of_ble_eq_true rfl) ⟨Nat.le_refl _, Nat.le_refl _⟩ dX0_reckonWeek_16 rfl ?_
  refine v_imul C dX0_reckonWeek_19 rfl ?_
  refine v_istore (lv' := [(5, _), (4, _), (0, _), (1, _), (2, _), (3, _)]) C dX0_reckonWeek_20 rfl (by decide) rfl ?_
  refine v_aload_n C dX0_reckonWeek_22 rfl 0 2 rfl rfl ?_
  refine v_get C K in_X0_reckonWeek_X0 3 rfl rfl 2 (by decide) fl_X0_reckonWeek_X0_2 rfl dX0_reckonWeek_23 rfl ?_
  refine v_iload_n C dX0_reckonWeek_26 rfl 2 4 rfl rfl ?_
  refine v_iconst (v := 5) C dX0_reckonWeek_27 rfl ic_5 ?_
  refine v_imul C dX0_reckonWeek_28 rfl ?_
  refine v_iconst (v := 2) C dX0_reckonWeek_29 rfl ic_2 ?_
  refine v_iadd C dX0_reckonWeek_30 rfl ?_
  refine v_iload C dX0_reckonWeek_31 rfl 0 rfl ?_
  refine v_iast C K _ 6 0 rfl rfl (5 * w9 + 2) (by simp only [lit9, pk_mul, nI_add]; congr 1; omega) (by omega) (by decide) (cW_a6 ad cI cC cZ cQ _ _) dX0_reckonWeek_33 rfl ?_
  refine v_iload C dX0_reckonWeek_34 rfl 1 rfl ?_
  have J52 : VV p l e ({ frames := 2, cells := 0, slots := 0, locals := 43 } : Room) s m args below meth c 0 0 Q (cW ad cI cC cZ cQ) D A s.heap 7 (st9 σ 3 (upd (σ 3) (5 * w9 + 2) (σ 3 (5 * w9 + 1) * σ 0 1))) 52 [(0, .ref (ad 3)), (1, .ref (ad 1)), (2, .int (nI w9)), (3, .int mi), (4, .int (σ 3 (5 * w9 + 0))), (5, .int (σ 3 (5 * w9 + 1) * σ 0 1))] [.int (rw_du (σ 3 (5 * w9 + 0)) mi (rw_so (σ 4 w9) (σ 3 (5 * w9 + 1) * σ 0 1)))] := by
    refine v_istore (lv' := [(6, _), (0, _), (1, _), (2, _), (3, _), (4, _), (5, _)]) C dX0_reckonWeek_52 rfl (by decide) rfl ?_
    refine v_aload_n C dX0_reckonWeek_54 rfl 0 1 rfl rfl ?_
    refine v_get C K in_X0_reckonWeek_X0 3 rfl rfl 2 (by decide) fl_X0_reckonWeek_X0_2 rfl dX0_reckonWeek_55 rfl ?_
    refine v_iload_n C dX0_reckonWeek_58 rfl 2 3 rfl rfl ?_
    refine v_iconst (v := 5) C dX0_reckonWeek_59 rfl ic_5 ?_
    refine v_imul C dX0_reckonWeek_60 rfl ?_
    refine v_iconst (v := 3) C dX0_reckonWeek_61 rfl ic_3 ?_
    refine v_iadd C dX0_reckonWeek_62 rfl ?_
    refine v_iload C dX0_reckonWeek_63 rfl 0 rfl ?_
    refine v_iast C K _ 6 0 rfl rfl (5 * w9 + 3) (by simp only [lit9, pk_mul, nI_add]; congr 1; omega) (by omega) (by decide) (cW_a6 ad cI cC cZ cQ _ _) dX0_reckonWeek_65 rfl ?_
    refine v_aload_n C dX0_reckonWeek_66 rfl 0 1 rfl rfl ?_
    refine v_get C K in_X0_reckonWeek_X0 3 rfl rfl 2 (by decide) fl_X0_reckonWeek_X0_2 rfl dX0_reckonWeek_67 rfl ?_
    refine v_iload_n C dX0_reckonWeek_70 rfl 2 3 rfl rfl ?_
    refine v_iconst (v := 5) C dX0_reckonWeek_71 rfl ic_5 ?_
    refine v_imul C dX0_reckonWeek_72 rfl ?_
    refine v_iconst (v := 4) C dX0_reckonWeek_73 rfl ic_4 ?_
    refine v_iadd C dX0_reckonWeek_74 rfl ?_
    refine v_iload C dX0_reckonWeek_75 rfl 6 rfl ?_
    refine v_iload C dX0_reckonWeek_77 rfl 0 rfl ?_
    refine v_isub C dX0_reckonWeek_79 rfl ?_
    refine v_iload C dX0_reckonWeek_80 rfl 5 rfl ?_
    refine v_aload_n C dX0_reckonWeek_82 rfl 1 2 rfl rfl ?_
    refine v_iconst (v := 2) C dX0_reckonWeek_83 rfl ic_2 ?_
    refine v_callVid C K (c_X1_setting l D ad cI cC cZ cQ _ 2 (by decide)) gX0_reckonWeek_X1_setting rfl hd_X1_setting ⟨rfl, rfl⟩ ⟨Nat.le_of_ble_eq_true rfl, Nat.le_of_ble_eq_true rfl⟩ 1 rfl rfl rfl rfl rfl (Nat.le_of_ble_eq_true rfl) ⟨Nat.le_refl _, Nat.le_refl _⟩ dX0_reckonWeek_84 rfl ?_
    refine v_top (σ 0 2) (by simp [st9]) ?_
    refine v_imul C dX0_reckonWeek_87 rfl ?_
    refine v_isub C dX0_reckonWeek_88 rfl ?_
    refine v_iast C K _ 6 0 rfl rfl (5 * w9 + 4) (by simp only [lit9, pk_mul, nI_add]; congr 1; omega) (by omega) (by decide) (cW_a6 ad cI cC cZ cQ _ _) dX0_reckonWeek_89 rfl ?_
    exact hend (by rw [rwM]; simp only [st9_tw, st9_s]) dX0_reckonWeek_90
  refine v_if_ne C 43 dX0_reckonWeek_36 (by decide) rfl (fun h36n => ?_) (fun h36 => ?_)
  · skip
    refine v_iload_n C dX0_reckonWeek_43 rfl 3 5 rfl rfl ?_
    refine v_aload_n C dX0_reckonWeek_44 rfl 0 2 rfl rfl ?_
    refine v_iload_n C dX0_reckonWeek_45 rfl 2 4 rfl rfl ?_
    refine v_callVid C K (c_X0_shareOfTakings l D ad cI cC cZ cQ _ w9 hw) gX0_reckonWeek_X0_shareOfTakings rfl hd_X0_shareOfTakings ⟨rfl, rfl⟩ ⟨Nat.le_of_ble_eq_true rfl, Nat.le_of_ble_eq_true rfl⟩ 3 rfl rfl rfl rfl rfl (Nat.le_of_ble_eq_true rfl) ⟨Nat.le_refl _, Nat.le_refl _⟩ dX0_reckonWeek_46 rfl ?_
    refine v_mmax C ma_X0_reckonWeek_max_0 ma_X0_reckonWeek_max_1 ma_X0_reckonWeek_max_2 ma_X0_reckonWeek_max_3 (Nat.le_of_ble_eq_true rfl) (Nat.le_of_ble_eq_true rfl) ⟨Nat.le_refl _, Nat.le_refl _⟩ dX0_reckonWeek_49 rfl ?_
    refine v_lv (lv' := [(0, _), (1, _), (2, _), (3, _), (4, _), (5, _)]) [2, 3, 4, 5, 1, 0] rfl ?_
    exact v9cast J52 rfl rfl (by rw [max9, c_sot, st9_n _ _ (by decide), st9_s, upd_s, rw_du, if_neg h36n, rw_so])
  · skip
    refine v_iconst (v := 0) C dX0_reckonWeek_39 rfl ic_0 ?_
    refine v_goto C 52 dX0_reckonWeek_40 (by decide) ?_
    refine v_lv (lv' := [(0, _), (1, _), (2, _), (3, _), (4, _), (5, _)]) [2, 3, 4, 5, 1, 0] rfl ?_
    exact v9cast J52 rfl rfl (by rw [rw_du, if_pos h36])
def IW (r : Nat → Int32) (f w j : Nat) (σ u : S9) : Prop := (∀ i, i ≠ 1 → i ≠ 2 → i ≠ 5 → u i = σ i) ∧ (∀ k, u 1 k = if 14 * w ≤ k ∧ k < 14 * w + j ∧ r (46 + k) = nI f then q_P r f k else σ 1 k) ∧ (∀ k, u 2 k = if 14 * w ≤ k ∧ k < 14 * w + j ∧ r (46 + k) = nI f then q_L r f (k + 1) else σ 2 k) ∧ u 5 1 = σ 5 1 ∧ u 5 0 = σ 5 0 + sm9 (fun i => q_ff r f (14 * w + i)) j
theorem Z_L (r : Nat → Int32) (f w j : Nat) : q_Z r f w (j + 1) = q_L r f (14 * w + j + 1) := if_neg (Nat.succ_ne_zero j)
theorem IW_0 (r : Nat → Int32) (f w : Nat) (σ : S9) : IW r f w 0 σ σ := ⟨fun _ _ _ _ => rfl, fun k => (if_neg (fun q => by omega)).symm, fun k => (if_neg (fun q => by omega)).symm, rfl, (Int32.add_zero _).symm⟩
theorem IW_no {r : Nat → Int32} {f w j : Nat} {σ u : S9} (h : IW r f w j σ u) (e : ¬ r (46 + (14 * w + j)) = nI f) : IW r f w (j + 1) σ u := by
  obtain ⟨h0, h1, h2, h3, h4⟩ := h
  have hc : ∀ k, (14 * w ≤ k ∧ k < 14 * w + (j + 1) ∧ r (46 + k) = nI f) ↔ (14 * w ≤ k ∧ k < 14 * w + j ∧ r (46 + k) = nI f) := fun k => by
    constructor
    · rintro ⟨a, b, c⟩
      refine ⟨a, ?_, c⟩
      rcases Nat.lt_or_ge k (14 * w + j) with q | q
      · exact q
      · exact absurd (by rw [show 14 * w + j = k by omega]; exact c) e
    · rintro ⟨a, b, c⟩
      exact ⟨a, by omega, c⟩
  refine ⟨h0, fun k => ?_, fun k => ?_, h3, ?_⟩
  · rw [h1 k]
    by_cases q : 14 * w ≤ k ∧ k < 14 * w + j ∧ r (46 + k) = nI f
    · rw [if_pos q, if_pos ((hc k).mpr q)]
    · rw [if_neg q, if_neg (fun z => q ((hc k).mp z))]
  · rw [h2 k]
    by_cases q : 14 * w ≤ k ∧ k < 14 * w + j ∧ r (46 + k) = nI f
    · rw [if_pos q, if_pos ((hc k).mpr q)]
    · rw [if_neg q, if_neg (fun z => q ((hc k).mp z))]
  · rw [h4, sm9, show q_ff r f (14 * w + j) = 0 from if_neg (fun z => e z.1), Int32.add_zero]
theorem IW_yes {r : Nat → Int32} {f w j : Nat} {σ u u2 : S9} (h : IW r f w j σ u) (e : r (46 + (14 * w + j)) = nI f) (e0 : ∀ i, i ≠ 1 → i ≠ 2 → i ≠ 5 → u2 i = u i) (e1 : u2 1 = upd (u 1) (14 * w + j) (q_P r f (14 * w + j))) (e2 : u2 2 = upd (u 2) (14 * w + j) (q_L r f (14 * w + j + 1))) (e51 : u2 5 1 = u 5 1) (e50 : u2 5 0 = u 5 0 + q_ff r f (14 * w + j)) : IW r f w (j + 1) σ u2 := by
  obtain ⟨h0, h1, h2, h3, h4⟩ := h
  refine ⟨fun i a b c => (e0 i a b c).trans (h0 i a b c), fun k => ?_, fun k => ?_, e51.trans h3, ?_⟩
  · rw [e1]
    by_cases q : k = 14 * w + j
    · subst q
      rw [upd_s, if_pos ⟨by omega, by omega, e⟩]
    · rw [upd_n _ _ q, h1 k]
      by_cases z : 14 * w ≤ k ∧ k < 14 * w + j ∧ r (46 + k) = nI f
      · rw [if_pos z, if_pos ⟨z.1, by omega, z.2.2⟩]
      · rw [if_neg z, if_neg (fun y => z ⟨y.1, by omega, y.2.2⟩)]
  · rw [e2]
    by_cases q : k = 14 * w + j
    · subst q
      rw [upd_s, if_pos ⟨by omega, by omega, e⟩]
    · rw [upd_n _ _ q, h2 k]
      by_cases z : 14 * w ≤ k ∧ k < 14 * w + j ∧ r (46 + k) = nI f
      · rw [if_pos z, if_pos ⟨z.1, by omega, z.2.2⟩]
      · rw [if_neg z, if_neg (fun y => z ⟨y.1, by omega, y.2.2⟩)]
  · rw [e50, h4, sm9, Int32.add_assoc]
def fwE (r : Nat → Int32) (f w : Nat) (σ u : S9) : Prop := (∀ i, i ≠ 1 → i ≠ 2 → i ≠ 3 → i ≠ 5 → u i = σ i) ∧ (∀ k, u 1 k = if 14 * w ≤ k ∧ k < 14 * w + 14 ∧ r (46 + k) = nI f then q_P r f k else σ 1 k) ∧ (∀ k, u 2 k = if 14 * w ≤ k ∧ k < 14 * w + 14 ∧ r (46 + k) = nI f then q_L r f (k + 1) else σ 2 k) ∧ u 3 = upd (upd (σ 3) (5 * w + 0) (sm9 (q_cj r f w) 14)) (5 * w + 1) (q_ps r f w) ∧ u 5 1 = σ 5 1 ∧ u 5 0 = σ 5 0 + sm9 (fun i => q_ff r f (14 * w + i)) 14
set_option maxHeartbeats 4000000 in
set_option maxRecDepth 100000 in
theorem c_X0_followWeek (l : Launch) (D : va_G) (ad : Nat → Nat) (cI cC cZ cQ : ClassId) (σ : S9) (f : Nat) (hf : f < 8) (w9 : Nat) (hw : w9 < 5) (x : Int32) (hx : x = q_Y (σ 0) f (14 * w9)) : CMi l (cW ad cI cC cZ cQ) D (cTy cI cC cZ cQ) yX0_followWeek wsX0_followWeek ({ frames := 2, cells := 0, slots := 0, locals := 44 } : Room) [.ref (ad 3), .ref (ad 1), .int (nI f), .int (nI w9), .int x] σ (fun r u => r = q_L (σ 0) f (14 * w9 + 14) ∧ fwE (σ 0) f w9 σ u) := by
  refine v_starti (own := RX0) (cc := cX0_followWeek) (nL := 10) rfl (by decide) rfl (Nat.le_of_ble_eq_true rfl) ?_
  intro p e s m args below meth c A Q C K hend
  refine v_lv (lv' := [(0, .ref (ad 3)), (1, .ref (ad 1)), (2, .int (nI f)), (3, .int (nI w9)), (4, .int x)]) [0, 1, 2, 3, 4] rfl ?_
  refine v_iload C dX0_followWeek_0 rfl 4 rfl ?_
  refine v_top (q_Z (σ 0) f w9 0) (hx) ?_
  refine v_istore (lv' := [(5, _), (0, _), (1, _), (2, _), (3, _), (4, _)]) C dX0_followWeek_2 rfl (by decide) rfl ?_
  refine v_iconst (v := 0) C dX0_followWeek_4 rfl ic_0 ?_
  refine v_istore (lv' := [(6, _), (5, _), (0, _), (1, _), (2, _), (3, _), (4, _)]) C dX0_followWeek_5 rfl (by decide) rfl ?_
  refine v_iload_n C dX0_followWeek_7 rfl 3 5 rfl rfl ?_
  refine v_iconst (v := 1) C dX0_followWeek_8 rfl ic_1 ?_
  refine v_iadd C dX0_followWeek_9 rfl ?_
  refine v_bipush (v := 14) C dX0_followWeek_10 rfl bp_14 ?_
  refine v_imul C dX0_followWeek_12 rfl ?_
  refine v_top (nI (14 * w9 + 14)) (by simp only [lit9, pk_mul, nI_add]; congr 1; omega) ?_
  refine v_istore (lv' := [(7, _), (6, _), (5, _), (0, _), (1, _), (2, _), (3, _), (4, _)]) C dX0_followWeek_13 rfl (by decide) rfl ?_
  refine v_iload_n C dX0_followWeek_15 rfl 3 6 rfl rfl ?_
  refine v_bipush (v := 14) C dX0_followWeek_16 rfl bp_14 ?_
  refine v_imul C dX0_followWeek_18 rfl ?_
  refine v_top (nI (14 * w9 + 0)) (by simp only [lit9, pk_mul, nI_add]; congr 1; omega) ?_
  refine v_istore (lv' := [(8, _), (7, _), (6, _), (5, _), (0, _), (1, _), (2, _), (3, _), (4, _)]) C dX0_followWeek_19 rfl (by decide) rfl ?_
  have LP21 : ∀ d, d ≤ 14 → ∀ u : S9, IW (σ 0) f w9 d σ u → VV p l e ({ frames := 2, cells := 0, slots := 0, locals := 44 } : Room) s m args below meth c 0 0 Q (cW ad cI cC cZ cQ) D A s.heap 10 u 21 [(0, .ref (ad 3)), (1, .ref (ad 1)), (2, .int (nI f)), (3, .int (nI w9)), (4, .int x), (5, .int (q_Z (σ 0) f w9 d)), (6, .int (sm9 (q_cj (σ 0) f w9) d)), (7, .int (nI (14 * w9 + 14))), (8, .int (nI (14 * w9 + d)))] [] := by
    refine lpB9 (fun d => ∀ u : S9, IW (σ 0) f w9 d σ u → VV p l e ({ frames := 2, cells := 0, slots := 0, locals := 44 } : Room) s m args below meth c 0 0 Q (cW ad cI cC cZ cQ) D A s.heap 10 u 21 [(0, .ref (ad 3)), (1, .ref (ad 1)), (2, .int (nI f)), (3, .int (nI w9)), (4, .int x), (5, .int (q_Z (σ 0) f w9 d)), (6, .int (sm9 (q_cj (σ 0) f w9) d)), (7, .int (nI (14 * w9 + 14))), (8, .int (nI (14 * w9 + d)))] []) 14 (fun d hd ih => ?_) ?_
    · intro u hI
      have hu0 : u 0 = σ 0 := hI.1 0 (by decide) (by decide) (by decide)
      refine v_iload C dX0_followWeek_21 rfl 8 rfl ?_
      refine v_iload C dX0_followWeek_23 rfl 7 rfl ?_
      refine v_icmp_ge C 104 dX0_followWeek_25 (by decide) rfl (fun h9 => absurd h9 (nI_ge (by omega) (by omega))) (fun _ => ?_)
      refine v_aload_n C dX0_followWeek_28 rfl 1 1 rfl rfl ?_
      refine v_iload C dX0_followWeek_29 rfl 8 rfl ?_
      refine v_callVid C K (c_X1_showAt l D ad cI cC cZ cQ _ (14 * w9 + d) (by omega)) gX0_followWeek_X1_showAt rfl hd_X1_showAt ⟨rfl, rfl⟩ ⟨Nat.le_of_ble_eq_true rfl, Nat.le_of_ble_eq_true rfl⟩ 1 rfl rfl rfl rfl rfl (Nat.le_of_ble_eq_true rfl) ⟨Nat.le_refl _, Nat.le_refl _⟩ dX0_followWeek_31 rfl ?_
      refine v_top (σ 0 (46 + (14 * w9 + d))) (by rw [hu0]) ?_
      refine v_iload_n C dX0_followWeek_34 rfl 2 2 rfl rfl ?_
      refine v_icmp_ne C 98 dX0_followWeek_35 (by decide) rfl (fun h35t => ?_) (fun h35 => ?_)
      · skip
        refine v_iinc (lv' := [(8, _), (0, _), (1, _), (2, _), (3, _), (4, _), (5, _), (6, _), (7, _)]) C dX0_followWeek_98 rfl 8 rfl (inc9 _) (by decide) rfl ?_
        refine v_goto C 21 dX0_followWeek_101 (by decide) ?_
        refine v_lv (lv' := [(0, _), (1, _), (2, _), (3, _), (4, _), (5, _), (6, _), (7, _), (8, _)]) [1, 2, 3, 4, 5, 6, 7, 8, 0] rfl ?_
        exact v9cast (ih _ (IW_no hI h35t)) rfl (by rw [sm9, q_cj, if_neg h35t, Z_s _ _ _ hd, if_neg h35t, Int32.add_zero]; rfl) rfl
      · skip
        refine v_aload_n C dX0_followWeek_38 rfl 1 1 rfl rfl ?_
        refine v_iload C dX0_followWeek_39 rfl 5 rfl ?_
        refine v_iload C dX0_followWeek_41 rfl 8 rfl ?_
        refine v_iconst (v := 2) C dX0_followWeek_43 rfl ic_2 ?_
        refine v_irem C dX0_followWeek_44 rfl (by decide) ?_
        refine v_top (nI ((14 * w9 + d) % 2)) (pk_rem (by omega) (by decide) (by decide)) ?_
        refine v_callSid C K (c_X0_peopleOf l D ad cI cC cZ cQ _ _ ((14 * w9 + d) % 2) (by omega)) gX0_followWeek_X0_peopleOf rfl hd_X0_peopleOf.2 ⟨rfl, rfl⟩ ⟨Nat.le_of_ble_eq_true rfl, Nat.le_of_ble_eq_true rfl⟩ rfl rfl (Nat.le_of_ble_eq_true rfl) ⟨Nat.le_refl _, Nat.le_refl _⟩ dX0_followWeek_45 rfl ?_
        refine v_top (q_P (σ 0) f (14 * w9 + d)) (by rw [hu0, Z_Y _ _ _ hd]; rfl) ?_
        refine v_istore (lv' := [(9, _), (0, _), (1, _), (2, _), (3, _), (4, _), (5, _), (6, _), (7, _), (8, _)]) C dX0_followWeek_48 rfl (by decide) rfl ?_
        refine v_iload C dX0_followWeek_50 rfl 6 rfl ?_
        refine v_iload C dX0_followWeek_52 rfl 0 rfl ?_
        refine v_isub C dX0_followWeek_54 rfl ?_
        refine v_top (q_Z (σ 0) f w9 (d + 1)) (by rw [Z_s _ _ _ hd, if_pos h35]) ?_
        refine v_istore (lv' := [(5, _), (9, _), (0, _), (1, _), (2, _), (3, _), (4, _), (6, _), (7, _), (8, _)]) C dX0_followWeek_55 rfl (by decide) rfl ?_
        refine v_aload_n C dX0_followWeek_57 rfl 0 2 rfl rfl ?_
        refine v_get C K in_X0_followWeek_X0 3 rfl rfl 0 (by decide) fl_X0_followWeek_X0_0 rfl dX0_followWeek_58 rfl ?_
        refine v_iload C dX0_followWeek_61 rfl 9 rfl ?_
        refine v_iload C dX0_followWeek_63 rfl 1 rfl ?_
        refine v_iast C K _ 4 0 rfl rfl (14 * w9 + d) (rfl) (by omega) (by decide) (cW_a4 ad cI cC cZ cQ _ _) dX0_followWeek_65 rfl ?_
        refine v_aload_n C dX0_followWeek_66 rfl 0 2 rfl rfl ?_
        refine v_get C K in_X0_followWeek_X0 3 rfl rfl 1 (by decide) fl_X0_followWeek_X0_1 rfl dX0_followWeek_67 rfl ?_
        refine v_iload C dX0_followWeek_70 rfl 9 rfl ?_
        refine v_iload C dX0_followWeek_72 rfl 0 rfl ?_
        refine v_iast C K _ 5 0 rfl rfl (14 * w9 + d) (rfl) (by omega) (by decide) (cW_a5 ad cI cC cZ cQ _ _) dX0_followWeek_74 rfl ?_
        refine v_iinc (lv' := [(6, _), (5, _), (9, _), (0, _), (1, _), (2, _), (3, _), (4, _), (7, _), (8, _)]) C dX0_followWeek_75 rfl 7 rfl (show _ = sm9 (q_cj (σ 0) f w9) (d + 1) by rw [sm9, q_cj, if_pos h35]; rfl) (by decide) rfl ?_
        refine v_iload C dX0_followWeek_78 rfl 2 rfl ?_
        refine v_aload_n C dX0_followWeek_80 rfl 1 4 rfl rfl ?_
        refine v_iconst (v := 0) C dX0_followWeek_81 rfl ic_0 ?_
        refine v_callVid C K (c_X1_setting l D ad cI cC cZ cQ _ 0 (by decide)) gX0_followWeek_X1_setting rfl hd_X1_setting ⟨rfl, rfl⟩ ⟨Nat.le_of_ble_eq_true rfl, Nat.le_of_ble_eq_true rfl⟩ 1 rfl rfl rfl rfl rfl (Nat.le_of_ble_eq_true rfl) ⟨Nat.le_refl _, Nat.le_refl _⟩ dX0_followWeek_82 rfl ?_
        refine v_top (σ 0 0) (by simp [st9, hu0]) ?_
        refine v_icmp_ne C 98 dX0_followWeek_85 (by decide) rfl (fun h85t => ?_) (fun h85 => ?_)
        · skip
          refine v_iinc (lv' := [(8, _), (6, _), (5, _), (9, _), (0, _), (1, _), (2, _), (3, _), (4, _), (7, _)]) C dX0_followWeek_98 rfl 9 rfl (inc9 _) (by decide) rfl ?_
          refine v_goto C 21 dX0_followWeek_101 (by decide) ?_
          refine v_lv (lv' := [(0, _), (1, _), (2, _), (3, _), (4, _), (5, _), (6, _), (7, _), (8, _)]) [4, 5, 6, 7, 8, 2, 1, 9, 0] rfl ?_
          exact v9cast (ih _ (IW_yes hI h35 (fun i a b c => by simp [st9, a, b, c]) (by simp [st9]) (by simp [st9, Z_L]) (by simp [st9, upd]) (by simp [st9, q_ff, h85t]))) rfl rfl rfl
        · skip
          refine v_aload_n C dX0_followWeek_88 rfl 0 3 rfl rfl ?_
          refine v_dup C dX0_followWeek_89 rfl rfl ?_
          refine v_get C K in_X0_followWeek_X0 3 rfl rfl 4 (by decide) fl_X0_followWeek_X0_4 rfl dX0_followWeek_90 rfl ?_
          refine v_iconst (v := 1) C dX0_followWeek_93 rfl ic_1 ?_
          refine v_iadd C dX0_followWeek_94 rfl ?_
          refine v_put (ty := .int) C K _ in_X0_followWeek_X0 tyX0_ok nmX0 3 rfl rfl 4 (by decide) fl_X0_followWeek_X0_4 rfl (by decide +kernel) rfl rfl (Nat.le_of_ble_eq_true rfl) (cW_fX0_4 ad cI cC cZ cQ _ _) dX0_followWeek_95 rfl ?_
          refine v_iinc (lv' := [(8, _), (6, _), (5, _), (9, _), (0, _), (1, _), (2, _), (3, _), (4, _), (7, _)]) C dX0_followWeek_98 rfl 9 rfl (inc9 _) (by decide) rfl ?_
          refine v_goto C 21 dX0_followWeek_101 (by decide) ?_
          refine v_lv (lv' := [(0, _), (1, _), (2, _), (3, _), (4, _), (5, _), (6, _), (7, _), (8, _)]) [4, 5, 6, 7, 8, 2, 1, 9, 0] rfl ?_
          exact v9cast (ih _ (IW_yes hI h35 (fun i a b c => by simp [st9, a, b, c]) (by simp [st9]) (by simp [st9, Z_L]) (by simp [st9, upd]) (by simp [st9, upd, q_ff, h35, h85]))) rfl rfl rfl
    · intro u hI
      refine v_iload C dX0_followWeek_21 rfl 8 rfl ?_
      refine v_iload C dX0_followWeek_23 rfl 7 rfl ?_
      refine v_icmp_ge C 104 dX0_followWeek_25 (by decide) rfl (fun _ => ?_) (fun h9 => absurd (nI_le (by omega) (by omega)) h9)
      refine v_aload_n C dX0_followWeek_104 rfl 0 0 rfl rfl ?_
      refine v_get C K in_X0_followWeek_X0 3 rfl rfl 2 (by decide) fl_X0_followWeek_X0_2 rfl dX0_followWeek_105 rfl ?_
      refine v_iload_n C dX0_followWeek_108 rfl 3 3 rfl rfl ?_
      refine v_iconst (v := 5) C dX0_followWeek_109 rfl ic_5 ?_
      refine v_imul C dX0_followWeek_110 rfl ?_
      refine v_iconst (v := 0) C dX0_followWeek_111 rfl ic_0 ?_
      refine v_iadd C dX0_followWeek_112 rfl ?_
      refine v_iload C dX0_followWeek_113 rfl 6 rfl ?_
      refine v_iast C K _ 6 0 rfl rfl (5 * w9 + 0) (by simp only [lit9, pk_mul, nI_add]; congr 1; omega) (by omega) (by decide) (cW_a6 ad cI cC cZ cQ _ _) dX0_followWeek_115 rfl ?_
      refine v_aload_n C dX0_followWeek_116 rfl 0 0 rfl rfl ?_
      refine v_get C K in_X0_followWeek_X0 3 rfl rfl 2 (by decide) fl_X0_followWeek_X0_2 rfl dX0_followWeek_117 rfl ?_
      refine v_iload_n C dX0_followWeek_120 rfl 3 3 rfl rfl ?_
      refine v_iconst (v := 5) C dX0_followWeek_121 rfl ic_5 ?_
      refine v_imul C dX0_followWeek_122 rfl ?_
      refine v_iconst (v := 1) C dX0_followWeek_123 rfl ic_1 ?_
      refine v_iadd C dX0_followWeek_124 rfl ?_
      refine v_iload C dX0_followWeek_125 rfl 4 rfl ?_
      refine v_iload C dX0_followWeek_127 rfl 5 rfl ?_
      refine v_isub C dX0_followWeek_129 rfl ?_
      refine v_iast C K _ 6 0 rfl rfl (5 * w9 + 1) (by simp only [lit9, pk_mul, nI_add]; congr 1; omega) (by omega) (by decide) (cW_a6 ad cI cC cZ cQ _ _) dX0_followWeek_130 rfl ?_
      refine v_iload C dX0_followWeek_131 rfl 5 rfl ?_
      exact hend (⟨Z_14 _ _ _, fun i a b c d => by simp [st9, c, hI.1 i a b d], fun k => by rw [st9_n _ _ (by decide), st9_n _ _ (by decide)]; exact hI.2.1 k, fun k => by rw [st9_n _ _ (by decide), st9_n _ _ (by decide)]; exact hI.2.2.1 k, by rw [st9_s, st9_s, hI.1 3 (by decide) (by decide) (by decide), hx, Z_14]; rfl, by rw [st9_n _ _ (by decide), st9_n _ _ (by decide)]; exact hI.2.2.2.1, by rw [st9_n _ _ (by decide), st9_n _ _ (by decide)]; exact hI.2.2.2.2⟩) (rfl) dX0_followWeek_133
  refine v_lv (lv' := [(0, _), (1, _), (2, _), (3, _), (4, _), (5, _), (6, _), (7, _), (8, _)]) [4, 5, 6, 7, 8, 3, 2, 1, 0] rfl ?_
  exact LP21 0 (by omega) σ (IW_0 _ _ _ _)

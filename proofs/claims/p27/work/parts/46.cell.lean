/-! ===== the law: a cell of the script ===== -/
set_option maxHeartbeats 4000000 in
set_option maxRecDepth 100000 in
theorem c_L_cell (l : Launch) (b L : Nat) (xs : Nat → Int32) (k : Nat) (hk : k < 1000) (hL : L ≤ 260) : CPX l yL_cell wsL_cell ({ frames := 0, cells := 0, slots := 0, locals := 0 } : Room) [.ref b, .int (nI k)] b L xs (fun _ => True) := by
  refine v_startPX (own := RL) (cc := cL_cell) (nL := 2) ((fun _ => 0), (fun _ _ => 0)) rfl (by decide) rfl (Nat.le_of_ble_eq_true rfl) ?_
  intro p e s m args below meth c A Q C hX hbl hbA hend
  refine v_lv (lv' := [(0, .ref b), (1, .int (nI k))]) [0, 1] rfl ?_
  refine v_iload_n C dL_cell_0 rfl 1 1 rfl rfl ?_
  refine v_aload_n C dL_cell_1 rfl 0 0 rfl rfl ?_
  refine v_slen C hX hbl hbA dL_cell_2 rfl ?_
  refine v_icmp_ge C 12 dL_cell_3 (by decide) rfl (fun h3 => ?_) (fun h3 => ?_)
  · refine v_ldc C dL_cell_12 rfl ct_L_cell_7 ?_
    refine v_iload_n C dL_cell_14 rfl 1 1 rfl rfl ?_
    refine v_iconst (v := 1) C dL_cell_15 rfl ic_1 ?_
    refine v_iadd C dL_cell_16 rfl ?_
    refine v_imul C dL_cell_17 rfl ?_
    refine v_ldc C dL_cell_18 rfl ct_L_cell_8 ?_
    refine v_iadd C dL_cell_20 rfl ?_
    exact hend trivial rfl dL_cell_21
  · have hj : k < L := by
      rcases Nat.lt_or_ge k L with q | q
      · exact q
      · exact absurd (nI_le q (by omega)) h3
    refine v_aload_n C dL_cell_6 rfl 0 0 rfl rfl ?_
    refine v_iload_n C dL_cell_7 rfl 1 1 rfl rfl ?_
    refine v_sld C hX hbl hbA k rfl hj (by omega) dL_cell_8 rfl ?_
    refine v_goto C 21 dL_cell_9 (by decide) ?_
    exact hend trivial rfl dL_cell_21

def p_in (v lo hi : Int32) : Int32 := if v < lo then 0 else if hi < v then 0 else 1
theorem p_in_nar (v lo hi : Int32) : narrow .boolean (.int (p_in v lo hi)) = .int (p_in v lo hi) := by
  unfold p_in
  split
  · rfl
  · split <;> rfl
set_option maxHeartbeats 4000000 in
set_option maxRecDepth 100000 in
theorem c_X5_within (l : Launch) (v lo hi : Int32) : CPi l yX5_within wsX5_within ({ frames := 0, cells := 0, slots := 0, locals := 0 } : Room) [.int v, .int lo, .int hi] (fun r => r = p_in v lo hi) := by
  refine v_startP (own := RX5) (cc := cX5_within) (nL := 3) ((fun _ => 0), (fun _ _ => 0)) rfl (by decide) rfl (Nat.le_of_ble_eq_true rfl) ?_
  intro p e s m args below meth c A Q C hend
  skip
  refine v_lv (lv' := [(0, .int v), (1, .int lo), (2, .int hi)]) [0, 1, 2] rfl ?_
  refine v_iload_n C dX5_within_0 rfl 0 0 rfl rfl ?_
  refine v_iload_n C dX5_within_1 rfl 1 1 rfl rfl ?_
  refine v_icmp_lt C 14 dX5_within_2 (by decide) rfl (fun h2 => ?_) (fun h2 => ?_)
  · skip
    refine v_iconst (v := 0) C dX5_within_14 rfl ic_0 ?_
    exact hend (by simp [p_in, h2]) (rfl) dX5_within_15
  · skip
    refine v_iload_n C dX5_within_5 rfl 0 0 rfl rfl ?_
    refine v_iload_n C dX5_within_6 rfl 2 2 rfl rfl ?_
    refine v_icmp_gt C 14 dX5_within_7 (by decide) rfl (fun h7 => ?_) (fun h7 => ?_)
    · skip
      refine v_iconst (v := 0) C dX5_within_14 rfl ic_0 ?_
      exact hend (by simp [p_in, h2, h7]) (rfl) dX5_within_15
    · skip
      refine v_iconst (v := 1) C dX5_within_10 rfl ic_1 ?_
      refine v_goto C 15 dX5_within_11 (by decide) ?_
      exact hend (by simp [p_in, h2, h7]) (rfl) dX5_within_15
set_option maxHeartbeats 4000000 in
set_option maxRecDepth 100000 in
theorem c_X5_isFilm (l : Launch) (D : va_G) (ad : Nat → Nat) (cI : ClassId) (σ : S9) (f : Int32) : CMi l (mW ad cI) D [(cI, .int)] yX5_isFilm wsX5_isFilm ({ frames := 1, cells := 0, slots := 0, locals := 22 } : Room) [.ref (ad 0), .int f] σ (fun r u => r = p_in f 0 (σ 0 5 - 1) ∧ u = σ) := by
  refine v_starti (own := RX5) (cc := cX5_isFilm) (nL := 2) rfl (by decide) rfl (Nat.le_of_ble_eq_true rfl) ?_
  intro p e s m args below meth c A Q C K hend
  refine v_lv (lv' := [(0, .ref (ad 0)), (1, .int f)]) [0, 1] rfl ?_
  refine v_iload_n C dX5_isFilm_0 rfl 1 1 rfl rfl ?_
  refine v_iconst (v := 0) C dX5_isFilm_1 rfl ic_0 ?_
  refine v_aload_n C dX5_isFilm_2 rfl 0 0 rfl rfl ?_
  refine v_get C K in_X5_isFilm_X5 0 rfl rfl 0 (by decide) fl_X5_isFilm_X5_0 rfl dX5_isFilm_3 rfl ?_
  refine v_iconst (v := 5) C dX5_isFilm_6 rfl ic_5 ?_
  refine v_iald C K 1 0 rfl rfl (5) (rfl) (by omega) (by decide) dX5_isFilm_7 rfl ?_
  refine v_iconst (v := 1) C dX5_isFilm_8 rfl ic_1 ?_
  refine v_isub C dX5_isFilm_9 rfl ?_
  refine v_callSpd C (c_X5_within l _ _ _) gX5_isFilm_X5_within rfl hd_X5_within.2 ⟨rfl, rfl⟩ ⟨Nat.le_of_ble_eq_true rfl, Nat.le_of_ble_eq_true rfl⟩ rfl rfl (Nat.le_of_ble_eq_true rfl) ⟨Nat.le_refl _, Nat.le_refl _⟩ dX5_isFilm_10 rfl ?_
  exact hend (⟨rfl, rfl⟩) (p_in_nar _ _ _) dX5_isFilm_13
set_option maxHeartbeats 4000000 in
set_option maxRecDepth 100000 in
theorem c_X5_filmPart (l : Launch) (D : va_G) (ad : Nat → Nat) (cI : ClassId) (σ : S9) (f w : Nat) (hf : f < 8) (hw : w < 5) : CMi l (mW ad cI) D [(cI, .int)] yX5_filmPart wsX5_filmPart ({ frames := 0, cells := 0, slots := 0, locals := 0 } : Room) [.ref (ad 0), .int (nI f), .int (nI w)] σ (fun r u => r = σ 0 (6 + 5 * f + w) ∧ u = σ) := by
  refine v_starti (own := RX5) (cc := cX5_filmPart) (nL := 3) rfl (by decide) rfl (Nat.le_of_ble_eq_true rfl) ?_
  intro p e s m args below meth c A Q C K hend
  refine v_lv (lv' := [(0, .ref (ad 0)), (1, .int (nI f)), (2, .int (nI w))]) [0, 1, 2] rfl ?_
  refine v_aload_n C dX5_filmPart_0 rfl 0 0 rfl rfl ?_
  refine v_get C K in_X5_filmPart_X5 0 rfl rfl 0 (by decide) fl_X5_filmPart_X5_0 rfl dX5_filmPart_1 rfl ?_
  refine v_bipush (v := 6) C dX5_filmPart_4 rfl bp_6 ?_
  refine v_iconst (v := 5) C dX5_filmPart_6 rfl ic_5 ?_
  refine v_iload_n C dX5_filmPart_7 rfl 1 1 rfl rfl ?_
  refine v_imul C dX5_filmPart_8 rfl ?_
  refine v_iadd C dX5_filmPart_9 rfl ?_
  refine v_iload_n C dX5_filmPart_10 rfl 2 2 rfl rfl ?_
  refine v_iadd C dX5_filmPart_11 rfl ?_
  refine v_iald C K 1 0 rfl rfl (6 + 5 * f + w) (by simp only [lit9, pk_mul, nI_add]) (by omega) (by decide) dX5_filmPart_12 rfl ?_
  exact hend (⟨rfl, rfl⟩) (rfl) dX5_filmPart_13
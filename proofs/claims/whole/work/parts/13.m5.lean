def rkM (n : Nat) (σ : S9) : S9 := duM (ftM (fpM n σ))
theorem fpM_0 (n : Nat) (σ : S9) : fpM n σ 0 = σ 0 := fpM_i n 0 (by decide) (by decide) (by decide) σ
theorem ftM_0 (σ : S9) : ftM σ 0 = σ 0 := ftM_i 0 (by decide) (by decide) σ
theorem duM_i (i : Nat) (h10 : i ≠ 10) (h11 : i ≠ 11) (σ : S9) : duM σ i = σ i := duT_m i h10 h11 σ 8
theorem rkM_i (n i : Nat) (h : i < 5 ∨ 11 < i) (σ : S9) : rkM n σ i = σ i := by
  unfold rkM
  rw [duM_i i (by omega) (by omega), ftM_i i (by omega) (by omega), fpM_i n i (by omega) (by omega) (by omega)]
set_option maxHeartbeats 4000000 in
set_option maxRecDepth 100000 in
theorem c_X5_reckon (l : Launch) (D : va_G) (ad : Nat → Nat) (cI : ClassId) (σ : S9) (n : Nat) (hw : wfS (σ 0) n) : CMv l (mW ad cI) D [(cI, .int)] yX5_reckon wsX5_reckon ({ frames := 3, cells := 0, slots := 0, locals := 70 } : Room) [.ref (ad 0)] σ (fun u => u = rkM n σ) := by
  refine v_startv (own := RX5) (cc := cX5_reckon) (nL := 1) rfl (by decide) rfl (Nat.le_of_ble_eq_true rfl) ?_
  intro p e s m args below meth c A Q C K hend
  refine v_lv (lv' := [(0, .ref (ad 0))]) [0] rfl ?_
  refine v_aload_n C dX5_reckon_0 rfl 0 0 rfl rfl ?_
  refine v_callVvd C K (c_X5_findPeople l D ad cI _ n hw) gX5_reckon_X5_findPeople rfl hd_X5_findPeople ⟨rfl, rfl⟩ ⟨Nat.le_of_ble_eq_true rfl, Nat.le_of_ble_eq_true rfl⟩ 0 rfl rfl rfl rfl rfl (Nat.le_of_ble_eq_true rfl) ⟨Nat.le_refl _, Nat.le_refl _⟩ dX5_reckon_1 rfl ?_
  refine v_aload_n C dX5_reckon_4 rfl 0 0 rfl rfl ?_
  refine v_callVvd C K (c_X5_findTakings l D ad cI _ n (by rw [fpM_0]; exact hw)) gX5_reckon_X5_findTakings rfl hd_X5_findTakings ⟨rfl, rfl⟩ ⟨Nat.le_of_ble_eq_true rfl, Nat.le_of_ble_eq_true rfl⟩ 0 rfl rfl rfl rfl rfl (Nat.le_of_ble_eq_true rfl) ⟨Nat.le_refl _, Nat.le_refl _⟩ dX5_reckon_5 rfl ?_
  refine v_aload_n C dX5_reckon_8 rfl 0 0 rfl rfl ?_
  refine v_callVvd C K (c_X5_findDues l D ad cI _) gX5_reckon_X5_findDues rfl hd_X5_findDues ⟨rfl, rfl⟩ ⟨Nat.le_of_ble_eq_true rfl, Nat.le_of_ble_eq_true rfl⟩ 0 rfl rfl rfl rfl rfl (Nat.le_of_ble_eq_true rfl) ⟨Nat.le_refl _, Nat.le_refl _⟩ dX5_reckon_9 rfl ?_
  refine v_st (rkM n σ) (by rw [rkM]) ?_
  exact hend (rfl) dX5_reckon_12
def swT (g : Nat → Int32) (wk : Int32) (d : Nat) : Int32 := if wk < 0 ∨ nI (d % 5) = wk then g d else 0
def rnT (r : Nat → Int32) (wk : Int32) (d : Nat) : Int32 := if wk < 0 ∨ nI (d / 7) = wk then r (116 + d) else 0
def ppT (g : Nat → Int32) (wk : Int32) (d : Nat) : Int32 := if wk < 0 ∨ nI (d / 14) = wk then g d else 0
set_option maxHeartbeats 4000000 in
set_option maxRecDepth 100000 in
theorem c_X5_sumOf (l : Launch) (D : va_G) (ad : Nat → Nat) (cI : ClassId) (σ : S9) (a : Nat) (h8 : 8 ≤ a) (h11 : a ≤ 11) (wk : Int32) : CMi l (mW ad cI) D [(cI, .int)] yX5_sumOf wsX5_sumOf ({ frames := 0, cells := 0, slots := 0, locals := 0 } : Room) [.ref (ad (a + 1)), .int wk] σ (fun r u => r = sm9 (swT (σ a) wk) 40 ∧ u = σ) := by
  refine v_starti (own := RX5) (cc := cX5_sumOf) (nL := 4) rfl (by decide) rfl (Nat.le_of_ble_eq_true rfl) ?_
  intro p e s m args below meth c A Q C K hend
  refine v_lv (lv' := [(0, .ref (ad (a + 1))), (1, .int wk)]) [0, 1] rfl ?_
  refine v_iconst (v := 0) C dX5_sumOf_0 rfl ic_0 ?_
  refine v_istore_n (lv' := [(2, _), (0, _), (1, _)]) C dX5_sumOf_1 rfl 2 rfl (by decide) rfl ?_
  refine v_iconst (v := 0) C dX5_sumOf_2 rfl ic_0 ?_
  refine v_istore_n (lv' := [(3, _), (2, _), (0, _), (1, _)]) C dX5_sumOf_3 rfl 3 rfl (by decide) rfl ?_
  have LP4 : ∀ d, d ≤ 40 → VV p l e ({ frames := 0, cells := 0, slots := 0, locals := 0 } : Room) s m args below meth c 0 0 Q (mW ad cI) D A s.heap 4 σ 4 [(0, .ref (ad (a + 1))), (1, .int wk), (2, .int (sm9 (swT (σ a) wk) d)), (3, .int (nI d))] [] := by
    refine lpB9 (fun d => VV p l e ({ frames := 0, cells := 0, slots := 0, locals := 0 } : Room) s m args below meth c 0 0 Q (mW ad cI) D A s.heap 4 σ 4 [(0, .ref (ad (a + 1))), (1, .int wk), (2, .int (sm9 (swT (σ a) wk) d)), (3, .int (nI d))] []) 40 (fun d hd ih => ?_) ?_
    · skip
      have hl : mLen a = 40 := by rcases (show a = 8 ∨ a = 9 ∨ a = 10 ∨ a = 11 by omega) with rfl | rfl | rfl | rfl <;> rfl
      refine v_iload_n C dX5_sumOf_4 rfl 3 3 rfl rfl ?_
      refine v_bipush (v := 40) C dX5_sumOf_5 rfl bp_40 ?_
      refine v_icmp_ge C 37 dX5_sumOf_7 (by decide) rfl (fun h9 => absurd h9 (nI_ge hd (by decide))) (fun _ => ?_)
      refine v_iload_n C dX5_sumOf_10 rfl 2 2 rfl rfl ?_
      refine v_iload_n C dX5_sumOf_11 rfl 1 1 rfl rfl ?_
      refine v_if_lt C 22 dX5_sumOf_12 (by decide) rfl (fun h12 => ?_) (fun h12 => ?_)
      · skip
        refine v_aload_n C dX5_sumOf_22 rfl 0 0 rfl rfl ?_
        refine v_iload_n C dX5_sumOf_23 rfl 3 3 rfl rfl ?_
        refine v_iald C K (a + 1) 0 (mW_get ad cI _ (by omega)) rfl (d) (rfl) (by omega) (by omega) dX5_sumOf_24 rfl ?_
        refine v_goto C 29 dX5_sumOf_25 (by decide) ?_
        refine v_iadd C dX5_sumOf_29 rfl ?_
        refine v_top (sm9 (swT (σ a) wk) (d + 1)) (by simp [sm9, swT, h12]) ?_
        refine v_istore_n (lv' := [(2, _), (0, _), (1, _), (3, _)]) C dX5_sumOf_30 rfl 2 rfl (by decide) rfl ?_
        refine v_iinc (lv' := [(3, _), (2, _), (0, _), (1, _)]) C dX5_sumOf_31 rfl 3 rfl (inc9 _) (by decide) rfl ?_
        refine v_goto C 4 dX5_sumOf_34 (by decide) ?_
        refine v_lv (lv' := [(0, _), (1, _), (2, _), (3, _)]) [2, 3, 1, 0] rfl ?_
        exact ih
      · skip
        refine v_iload_n C dX5_sumOf_15 rfl 3 3 rfl rfl ?_
        refine v_iconst (v := 5) C dX5_sumOf_16 rfl ic_5 ?_
        refine v_irem C dX5_sumOf_17 rfl (by decide) ?_
        refine v_top (nI (d % 5)) (pk_rem (by omega) (by decide) (by decide)) ?_
        refine v_iload_n C dX5_sumOf_18 rfl 1 1 rfl rfl ?_
        refine v_icmp_ne C 28 dX5_sumOf_19 (by decide) rfl (fun h19 => ?_) (fun h19 => ?_)
        · skip
          refine v_iconst (v := 0) C dX5_sumOf_28 rfl ic_0 ?_
          refine v_iadd C dX5_sumOf_29 rfl ?_
          refine v_top (sm9 (swT (σ a) wk) (d + 1)) (by simp [sm9, swT, h12, h19]) ?_
          refine v_istore_n (lv' := [(2, _), (0, _), (1, _), (3, _)]) C dX5_sumOf_30 rfl 2 rfl (by decide) rfl ?_
          refine v_iinc (lv' := [(3, _), (2, _), (0, _), (1, _)]) C dX5_sumOf_31 rfl 3 rfl (inc9 _) (by decide) rfl ?_
          refine v_goto C 4 dX5_sumOf_34 (by decide) ?_
          refine v_lv (lv' := [(0, _), (1, _), (2, _), (3, _)]) [2, 3, 1, 0] rfl ?_
          exact ih
        · skip
          refine v_aload_n C dX5_sumOf_22 rfl 0 0 rfl rfl ?_
          refine v_iload_n C dX5_sumOf_23 rfl 3 3 rfl rfl ?_
          refine v_iald C K (a + 1) 0 (mW_get ad cI _ (by omega)) rfl (d) (rfl) (by omega) (by omega) dX5_sumOf_24 rfl ?_
          refine v_goto C 29 dX5_sumOf_25 (by decide) ?_
          refine v_iadd C dX5_sumOf_29 rfl ?_
          refine v_top (sm9 (swT (σ a) wk) (d + 1)) (by simp [sm9, swT, h12, h19]) ?_
          refine v_istore_n (lv' := [(2, _), (0, _), (1, _), (3, _)]) C dX5_sumOf_30 rfl 2 rfl (by decide) rfl ?_
          refine v_iinc (lv' := [(3, _), (2, _), (0, _), (1, _)]) C dX5_sumOf_31 rfl 3 rfl (inc9 _) (by decide) rfl ?_
          refine v_goto C 4 dX5_sumOf_34 (by decide) ?_
          refine v_lv (lv' := [(0, _), (1, _), (2, _), (3, _)]) [2, 3, 1, 0] rfl ?_
          exact ih
    · skip
      refine v_iload_n C dX5_sumOf_4 rfl 3 3 rfl rfl ?_
      refine v_bipush (v := 40) C dX5_sumOf_5 rfl bp_40 ?_
      refine v_icmp_ge C 37 dX5_sumOf_7 (by decide) rfl (fun _ => ?_) (fun h9 => absurd (nI_le (Nat.le_refl _) (by decide)) h9)
      refine v_iload_n C dX5_sumOf_37 rfl 2 2 rfl rfl ?_
      exact hend (⟨rfl, rfl⟩) (rfl) dX5_sumOf_38
  refine v_lv [2, 3, 1, 0] rfl ?_
  exact LP4 0 (by omega)
set_option maxHeartbeats 4000000 in
set_option maxRecDepth 100000 in
theorem c_X5_sumOfFilm (l : Launch) (D : va_G) (ad : Nat → Nat) (cI : ClassId) (σ : S9) (a : Nat) (h8 : 8 ≤ a) (h11 : a ≤ 11) (f : Nat) (hf : f < 8) : CMi l (mW ad cI) D [(cI, .int)] yX5_sumOfFilm wsX5_sumOfFilm ({ frames := 0, cells := 0, slots := 0, locals := 0 } : Room) [.ref (ad (a + 1)), .int (nI f)] σ (fun r u => r = sm9 (fun w => σ a (5 * f + w)) 5 ∧ u = σ) := by
  refine v_starti (own := RX5) (cc := cX5_sumOfFilm) (nL := 4) rfl (by decide) rfl (Nat.le_of_ble_eq_true rfl) ?_
  intro p e s m args below meth c A Q C K hend
  refine v_lv (lv' := [(0, .ref (ad (a + 1))), (1, .int (nI f))]) [0, 1] rfl ?_
  refine v_iconst (v := 0) C dX5_sumOfFilm_0 rfl ic_0 ?_
  refine v_istore_n (lv' := [(2, _), (0, _), (1, _)]) C dX5_sumOfFilm_1 rfl 2 rfl (by decide) rfl ?_
  refine v_iconst (v := 0) C dX5_sumOfFilm_2 rfl ic_0 ?_
  refine v_istore_n (lv' := [(3, _), (2, _), (0, _), (1, _)]) C dX5_sumOfFilm_3 rfl 3 rfl (by decide) rfl ?_
  have LP4 : ∀ d, d ≤ 5 → VV p l e ({ frames := 0, cells := 0, slots := 0, locals := 0 } : Room) s m args below meth c 0 0 Q (mW ad cI) D A s.heap 4 σ 4 [(0, .ref (ad (a + 1))), (1, .int (nI f)), (2, .int (sm9 (fun w => σ a (5 * f + w)) d)), (3, .int (nI d))] [] := by
    refine lpB9 (fun d => VV p l e ({ frames := 0, cells := 0, slots := 0, locals := 0 } : Room) s m args below meth c 0 0 Q (mW ad cI) D A s.heap 4 σ 4 [(0, .ref (ad (a + 1))), (1, .int (nI f)), (2, .int (sm9 (fun w => σ a (5 * f + w)) d)), (3, .int (nI d))] []) 5 (fun d hd ih => ?_) ?_
    · skip
      have hl : mLen a = 40 := by rcases (show a = 8 ∨ a = 9 ∨ a = 10 ∨ a = 11 by omega) with rfl | rfl | rfl | rfl <;> rfl
      refine v_iload_n C dX5_sumOfFilm_4 rfl 3 3 rfl rfl ?_
      refine v_iconst (v := 5) C dX5_sumOfFilm_5 rfl ic_5 ?_
      refine v_icmp_ge C 25 dX5_sumOfFilm_6 (by decide) rfl (fun h9 => absurd h9 (nI_ge hd (by decide))) (fun _ => ?_)
      refine v_iload_n C dX5_sumOfFilm_9 rfl 2 2 rfl rfl ?_
      refine v_aload_n C dX5_sumOfFilm_10 rfl 0 0 rfl rfl ?_
      refine v_iconst (v := 5) C dX5_sumOfFilm_11 rfl ic_5 ?_
      refine v_iload_n C dX5_sumOfFilm_12 rfl 1 1 rfl rfl ?_
      refine v_imul C dX5_sumOfFilm_13 rfl ?_
      refine v_iload_n C dX5_sumOfFilm_14 rfl 3 3 rfl rfl ?_
      refine v_iadd C dX5_sumOfFilm_15 rfl ?_
      refine v_iald C K (a + 1) 0 (mW_get ad cI _ (by omega)) rfl (5 * f + d) (by simp only [lit9, pk_mul, nI_add]) (by omega) (by omega) dX5_sumOfFilm_16 rfl ?_
      refine v_iadd C dX5_sumOfFilm_17 rfl ?_
      refine v_top (sm9 (fun w => σ a (5 * f + w)) (d + 1)) (rfl) ?_
      refine v_istore_n (lv' := [(2, _), (0, _), (1, _), (3, _)]) C dX5_sumOfFilm_18 rfl 2 rfl (by decide) rfl ?_
      refine v_iinc (lv' := [(3, _), (2, _), (0, _), (1, _)]) C dX5_sumOfFilm_19 rfl 3 rfl (inc9 _) (by decide) rfl ?_
      refine v_goto C 4 dX5_sumOfFilm_22 (by decide) ?_
      refine v_lv (lv' := [(0, _), (1, _), (2, _), (3, _)]) [2, 3, 1, 0] rfl ?_
      exact ih
    · skip
      refine v_iload_n C dX5_sumOfFilm_4 rfl 3 3 rfl rfl ?_
      refine v_iconst (v := 5) C dX5_sumOfFilm_5 rfl ic_5 ?_
      refine v_icmp_ge C 25 dX5_sumOfFilm_6 (by decide) rfl (fun _ => ?_) (fun h9 => absurd (nI_le (Nat.le_refl _) (by decide)) h9)
      refine v_iload_n C dX5_sumOfFilm_25 rfl 2 2 rfl rfl ?_
      exact hend (⟨rfl, rfl⟩) (rfl) dX5_sumOfFilm_26
  refine v_lv [2, 3, 1, 0] rfl ?_
  exact LP4 0 (by omega)
set_option maxHeartbeats 4000000 in
set_option maxRecDepth 100000 in
theorem c_X5_rentsOf (l : Launch) (D : va_G) (ad : Nat → Nat) (cI : ClassId) (σ : S9) (wk : Int32) : CMi l (mW ad cI) D [(cI, .int)] yX5_rentsOf wsX5_rentsOf ({ frames := 0, cells := 0, slots := 0, locals := 0 } : Room) [.ref (ad 0), .int wk] σ (fun r u => r = sm9 (rnT (σ 0) wk) 35 ∧ u = σ) := by
  refine v_starti (own := RX5) (cc := cX5_rentsOf) (nL := 4) rfl (by decide) rfl (Nat.le_of_ble_eq_true rfl) ?_
  intro p e s m args below meth c A Q C K hend
  refine v_lv (lv' := [(0, .ref (ad 0)), (1, .int wk)]) [0, 1] rfl ?_
  refine v_iconst (v := 0) C dX5_rentsOf_0 rfl ic_0 ?_
  refine v_istore_n (lv' := [(2, _), (0, _), (1, _)]) C dX5_rentsOf_1 rfl 2 rfl (by decide) rfl ?_
  refine v_iconst (v := 0) C dX5_rentsOf_2 rfl ic_0 ?_
  refine v_istore_n (lv' := [(3, _), (2, _), (0, _), (1, _)]) C dX5_rentsOf_3 rfl 3 rfl (by decide) rfl ?_
  have LP4 : ∀ d, d ≤ 35 → VV p l e ({ frames := 0, cells := 0, slots := 0, locals := 0 } : Room) s m args below meth c 0 0 Q (mW ad cI) D A s.heap 4 σ 4 [(0, .ref (ad 0)), (1, .int wk), (2, .int (sm9 (rnT (σ 0) wk) d)), (3, .int (nI d))] [] := by
    refine lpB9 (fun d => VV p l e ({ frames := 0, cells := 0, slots := 0, locals := 0 } : Room) s m args below meth c 0 0 Q (mW ad cI) D A s.heap 4 σ 4 [(0, .ref (ad 0)), (1, .int wk), (2, .int (sm9 (rnT (σ 0) wk) d)), (3, .int (nI d))] []) 35 (fun d hd ih => ?_) ?_
    · skip
      refine v_iload_n C dX5_rentsOf_4 rfl 3 3 rfl rfl ?_
      refine v_bipush (v := 35) C dX5_rentsOf_5 rfl bp_35 ?_
      refine v_icmp_ge C 44 dX5_rentsOf_7 (by decide) rfl (fun h9 => absurd h9 (nI_ge hd (by decide))) (fun _ => ?_)
      refine v_iload_n C dX5_rentsOf_10 rfl 2 2 rfl rfl ?_
      refine v_iload_n C dX5_rentsOf_11 rfl 1 1 rfl rfl ?_
      refine v_if_lt C 23 dX5_rentsOf_12 (by decide) rfl (fun h12 => ?_) (fun h12 => ?_)
      · skip
        refine v_aload_n C dX5_rentsOf_23 rfl 0 0 rfl rfl ?_
        refine v_get C K in_X5_rentsOf_X5 0 rfl rfl 0 (by decide) fl_X5_rentsOf_X5_0 rfl dX5_rentsOf_24 rfl ?_
        refine v_bipush (v := 116) C dX5_rentsOf_27 rfl bp_116 ?_
        refine v_iload_n C dX5_rentsOf_29 rfl 3 3 rfl rfl ?_
        refine v_iadd C dX5_rentsOf_30 rfl ?_
        refine v_iald C K 1 0 rfl rfl (116 + d) (by simp only [lit9, pk_mul, nI_add]) (by omega) (by decide) dX5_rentsOf_31 rfl ?_
        refine v_goto C 36 dX5_rentsOf_32 (by decide) ?_
        refine v_iadd C dX5_rentsOf_36 rfl ?_
        refine v_top (sm9 (rnT (σ 0) wk) (d + 1)) (by simp [sm9, rnT, h12]) ?_
        refine v_istore_n (lv' := [(2, _), (0, _), (1, _), (3, _)]) C dX5_rentsOf_37 rfl 2 rfl (by decide) rfl ?_
        refine v_iinc (lv' := [(3, _), (2, _), (0, _), (1, _)]) C dX5_rentsOf_38 rfl 3 rfl (inc9 _) (by decide) rfl ?_
        refine v_goto C 4 dX5_rentsOf_41 (by decide) ?_
        refine v_lv (lv' := [(0, _), (1, _), (2, _), (3, _)]) [2, 3, 1, 0] rfl ?_
        exact ih
      · skip
        refine v_iload_n C dX5_rentsOf_15 rfl 3 3 rfl rfl ?_
        refine v_bipush (v := 7) C dX5_rentsOf_16 rfl bp_7 ?_
        refine v_idiv C dX5_rentsOf_18 rfl (by decide) ?_
        refine v_top (nI (d / 7)) (pk_div (by omega) (by decide) (by decide)) ?_
        refine v_iload_n C dX5_rentsOf_19 rfl 1 1 rfl rfl ?_
        refine v_icmp_ne C 35 dX5_rentsOf_20 (by decide) rfl (fun h20 => ?_) (fun h20 => ?_)
        · skip
          refine v_iconst (v := 0) C dX5_rentsOf_35 rfl ic_0 ?_
          refine v_iadd C dX5_rentsOf_36 rfl ?_
          refine v_top (sm9 (rnT (σ 0) wk) (d + 1)) (by simp [sm9, rnT, h12, h20]) ?_
          refine v_istore_n (lv' := [(2, _), (0, _), (1, _), (3, _)]) C dX5_rentsOf_37 rfl 2 rfl (by decide) rfl ?_
          refine v_iinc (lv' := [(3, _), (2, _), (0, _), (1, _)]) C dX5_rentsOf_38 rfl 3 rfl (inc9 _) (by decide) rfl ?_
          refine v_goto C 4 dX5_rentsOf_41 (by decide) ?_
          refine v_lv (lv' := [(0, _), (1, _), (2, _), (3, _)]) [2, 3, 1, 0] rfl ?_
          exact ih
        · skip
          refine v_aload_n C dX5_rentsOf_23 rfl 0 0 rfl rfl ?_
          refine v_get C K in_X5_rentsOf_X5 0 rfl rfl 0 (by decide) fl_X5_rentsOf_X5_0 rfl dX5_rentsOf_24 rfl ?_
          refine v_bipush (v := 116) C dX5_rentsOf_27 rfl bp_116 ?_
          refine v_iload_n C dX5_rentsOf_29 rfl 3 3 rfl rfl ?_
          refine v_iadd C dX5_rentsOf_30 rfl ?_
          refine v_iald C K 1 0 rfl rfl (116 + d) (by simp only [lit9, pk_mul, nI_add]) (by omega) (by decide) dX5_rentsOf_31 rfl ?_
          refine v_goto C 36 dX5_rentsOf_32 (by decide) ?_
          refine v_iadd C dX5_rentsOf_36 rfl ?_
          refine v_top (sm9 (rnT (σ 0) wk) (d + 1)) (by simp [sm9, rnT, h12, h20]) ?_
          refine v_istore_n (lv' := [(2, _), (0, _), (1, _), (3, _)]) C dX5_rentsOf_37 rfl 2 rfl (by decide) rfl ?_
          refine v_iinc (lv' := [(3, _), (2, _), (0, _), (1, _)]) C dX5_rentsOf_38 rfl 3 rfl (inc9 _) (by decide) rfl ?_
          refine v_goto C 4 dX5_rentsOf_41 (by decide) ?_
          refine v_lv (lv' := [(0, _), (1, _), (2, _), (3, _)]) [2, 3, 1, 0] rfl ?_
          exact ih
    · skip
      refine v_iload_n C dX5_rentsOf_4 rfl 3 3 rfl rfl ?_
      refine v_bipush (v := 35) C dX5_rentsOf_5 rfl bp_35 ?_
      refine v_icmp_ge C 44 dX5_rentsOf_7 (by decide) rfl (fun _ => ?_) (fun h9 => absurd (nI_le (Nat.le_refl _) (by decide)) h9)
      refine v_iload_n C dX5_rentsOf_44 rfl 2 2 rfl rfl ?_
      exact hend (⟨rfl, rfl⟩) (rfl) dX5_rentsOf_45
  refine v_lv [2, 3, 1, 0] rfl ?_
  exact LP4 0 (by omega)
set_option maxHeartbeats 4000000 in
set_option maxRecDepth 100000 in
theorem c_X5_peopleIn (l : Launch) (D : va_G) (ad : Nat → Nat) (cI : ClassId) (σ : S9) (wk : Int32) : CMi l (mW ad cI) D [(cI, .int)] yX5_peopleIn wsX5_peopleIn ({ frames := 0, cells := 0, slots := 0, locals := 0 } : Room) [.ref (ad 0), .int wk] σ (fun r u => r = sm9 (ppT (σ 5) wk) 70 ∧ u = σ) := by
  refine v_starti (own := RX5) (cc := cX5_peopleIn) (nL := 4) rfl (by decide) rfl (Nat.le_of_ble_eq_true rfl) ?_
  intro p e s m args below meth c A Q C K hend
  refine v_lv (lv' := [(0, .ref (ad 0)), (1, .int wk)]) [0, 1] rfl ?_
  refine v_iconst (v := 0) C dX5_peopleIn_0 rfl ic_0 ?_
  refine v_istore_n (lv' := [(2, _), (0, _), (1, _)]) C dX5_peopleIn_1 rfl 2 rfl (by decide) rfl ?_
  refine v_iconst (v := 0) C dX5_peopleIn_2 rfl ic_0 ?_
  refine v_istore_n (lv' := [(3, _), (2, _), (0, _), (1, _)]) C dX5_peopleIn_3 rfl 3 rfl (by decide) rfl ?_
  have LP4 : ∀ d, d ≤ 70 → VV p l e ({ frames := 0, cells := 0, slots := 0, locals := 0 } : Room) s m args below meth c 0 0 Q (mW ad cI) D A s.heap 4 σ 4 [(0, .ref (ad 0)), (1, .int wk), (2, .int (sm9 (ppT (σ 5) wk) d)), (3, .int (nI d))] [] := by
    refine lpB9 (fun d => VV p l e ({ frames := 0, cells := 0, slots := 0, locals := 0 } : Room) s m args below meth c 0 0 Q (mW ad cI) D A s.heap 4 σ 4 [(0, .ref (ad 0)), (1, .int wk), (2, .int (sm9 (ppT (σ 5) wk) d)), (3, .int (nI d))] []) 70 (fun d hd ih => ?_) ?_
    · skip
      refine v_iload_n C dX5_peopleIn_4 rfl 3 3 rfl rfl ?_
      refine v_bipush (v := 70) C dX5_peopleIn_5 rfl bp_70 ?_
      refine v_icmp_ge C 41 dX5_peopleIn_7 (by decide) rfl (fun h9 => absurd h9 (nI_ge hd (by decide))) (fun _ => ?_)
      refine v_iload_n C dX5_peopleIn_10 rfl 2 2 rfl rfl ?_
      refine v_iload_n C dX5_peopleIn_11 rfl 1 1 rfl rfl ?_
      refine v_if_lt C 23 dX5_peopleIn_12 (by decide) rfl (fun h12 => ?_) (fun h12 => ?_)
      · skip
        refine v_aload_n C dX5_peopleIn_23 rfl 0 0 rfl rfl ?_
        refine v_get C K in_X5_peopleIn_X5 0 rfl rfl 7 (by decide) fl_X5_peopleIn_X5_7 rfl dX5_peopleIn_24 rfl ?_
        refine v_iload_n C dX5_peopleIn_27 rfl 3 3 rfl rfl ?_
        refine v_iald C K 6 0 rfl rfl (d) (rfl) (by omega) (by decide) dX5_peopleIn_28 rfl ?_
        refine v_goto C 33 dX5_peopleIn_29 (by decide) ?_
        refine v_iadd C dX5_peopleIn_33 rfl ?_
        refine v_top (sm9 (ppT (σ 5) wk) (d + 1)) (by simp [sm9, ppT, h12]) ?_
        refine v_istore_n (lv' := [(2, _), (0, _), (1, _), (3, _)]) C dX5_peopleIn_34 rfl 2 rfl (by decide) rfl ?_
        refine v_iinc (lv' := [(3, _), (2, _), (0, _), (1, _)]) C dX5_peopleIn_35 rfl 3 rfl (inc9 _) (by decide) rfl ?_
        refine v_goto C 4 dX5_peopleIn_38 (by decide) ?_
        refine v_lv (lv' := [(0, _), (1, _), (2, _), (3, _)]) [2, 3, 1, 0] rfl ?_
        exact ih
      · skip
        refine v_iload_n C dX5_peopleIn_15 rfl 3 3 rfl rfl ?_
        refine v_bipush (v := 14) C dX5_peopleIn_16 rfl bp_14 ?_
        refine v_idiv C dX5_peopleIn_18 rfl (by decide) ?_
        refine v_top (nI (d / 14)) (pk_div (by omega) (by decide) (by decide)) ?_
        refine v_iload_n C dX5_peopleIn_19 rfl 1 1 rfl rfl ?_
        refine v_icmp_ne C 32 dX5_peopleIn_20 (by decide) rfl (fun h20 => ?_) (fun h20 => ?_)
        · skip
          refine v_iconst (v := 0) C dX5_peopleIn_32 rfl ic_0 ?_
          refine v_iadd C dX5_peopleIn_33 rfl ?_
          refine v_top (sm9 (ppT (σ 5) wk) (d + 1)) (by simp [sm9, ppT, h12, h20]) ?_
          refine v_istore_n (lv' := [(2, _), (0, _), (1, _), (3, _)]) C dX5_peopleIn_34 rfl 2 rfl (by decide) rfl ?_
          refine v_iinc (lv' := [(3, _), (2, _), (0, _), (1, _)]) C dX5_peopleIn_35 rfl 3 rfl (inc9 _) (by decide) rfl ?_
          refine v_goto C 4 dX5_peopleIn_38 (by decide) ?_
          refine v_lv (lv' := [(0, _), (1, _), (2, _), (3, _)]) [2, 3, 1, 0] rfl ?_
          exact ih
        · skip
          refine v_aload_n C dX5_peopleIn_23 rfl 0 0 rfl rfl ?_
          refine v_get C K in_X5_peopleIn_X5 0 rfl rfl 7 (by decide) fl_X5_peopleIn_X5_7 rfl dX5_peopleIn_24 rfl ?_
          refine v_iload_n C dX5_peopleIn_27 rfl 3 3 rfl rfl ?_
          refine v_iald C K 6 0 rfl rfl (d) (rfl) (by omega) (by decide) dX5_peopleIn_28 rfl ?_
          refine v_goto C 33 dX5_peopleIn_29 (by decide) ?_
          refine v_iadd C dX5_peopleIn_33 rfl ?_
          refine v_top (sm9 (ppT (σ 5) wk) (d + 1)) (by simp [sm9, ppT, h12, h20]) ?_
          refine v_istore_n (lv' := [(2, _), (0, _), (1, _), (3, _)]) C dX5_peopleIn_34 rfl 2 rfl (by decide) rfl ?_
          refine v_iinc (lv' := [(3, _), (2, _), (0, _), (1, _)]) C dX5_peopleIn_35 rfl 3 rfl (inc9 _) (by decide) rfl ?_
          refine v_goto C 4 dX5_peopleIn_38 (by decide) ?_
          refine v_lv (lv' := [(0, _), (1, _), (2, _), (3, _)]) [2, 3, 1, 0] rfl ?_
          exact ih
    · skip
      refine v_iload_n C dX5_peopleIn_4 rfl 3 3 rfl rfl ?_
      refine v_bipush (v := 70) C dX5_peopleIn_5 rfl bp_70 ?_
      refine v_icmp_ge C 41 dX5_peopleIn_7 (by decide) rfl (fun _ => ?_) (fun h9 => absurd (nI_le (Nat.le_refl _) (by decide)) h9)
      refine v_iload_n C dX5_peopleIn_41 rfl 2 2 rfl rfl ?_
      exact hend (⟨rfl, rfl⟩) (rfl) dX5_peopleIn_42
  refine v_lv [2, 3, 1, 0] rfl ?_
  exact LP4 0 (by omega)
def p_left (σ : S9) (wk : Int32) : Int32 := sm9 (swT (σ 9) wk) 40 - sm9 (swT (σ 11) wk) 40 - σ 0 2 * sm9 (swT (σ 8) wk) 40 + sm9 (rnT (σ 0) wk) 35
set_option maxHeartbeats 4000000 in
set_option maxRecDepth 100000 in
theorem c_X5_leftOf (l : Launch) (D : va_G) (ad : Nat → Nat) (cI : ClassId) (σ : S9) (wk : Int32) : CMi l (mW ad cI) D [(cI, .int)] yX5_leftOf wsX5_leftOf ({ frames := 1, cells := 0, slots := 0, locals := 23 } : Room) [.ref (ad 0), .int wk] σ (fun r u => r = p_left σ wk ∧ u = σ) := by
  refine v_starti (own := RX5) (cc := cX5_leftOf) (nL := 2) rfl (by decide) rfl (Nat.le_of_ble_eq_true rfl) ?_
  intro p e s m args below meth c A Q C K hend
  refine v_lv (lv' := [(0, .ref (ad 0)), (1, .int wk)]) [0, 1] rfl ?_
  refine v_aload_n C dX5_leftOf_0 rfl 0 0 rfl rfl ?_
  refine v_get C K in_X5_leftOf_X5 0 rfl rfl 11 (by decide) fl_X5_leftOf_X5_11 rfl dX5_leftOf_1 rfl ?_
  refine v_iload_n C dX5_leftOf_4 rfl 1 1 rfl rfl ?_
  refine v_callSid C K (c_X5_sumOf l D ad cI _ 9 (by decide) (by decide) _) gX5_leftOf_X5_sumOf rfl hd_X5_sumOf.2 ⟨rfl, rfl⟩ ⟨Nat.le_of_ble_eq_true rfl, Nat.le_of_ble_eq_true rfl⟩ rfl rfl (Nat.le_of_ble_eq_true rfl) ⟨Nat.le_refl _, Nat.le_refl _⟩ dX5_leftOf_5 rfl ?_
  refine v_aload_n C dX5_leftOf_8 rfl 0 0 rfl rfl ?_
  refine v_get C K in_X5_leftOf_X5 0 rfl rfl 13 (by decide) fl_X5_leftOf_X5_13 rfl dX5_leftOf_9 rfl ?_
  refine v_iload_n C dX5_leftOf_12 rfl 1 1 rfl rfl ?_
  refine v_callSid C K (c_X5_sumOf l D ad cI _ 11 (by decide) (by decide) _) gX5_leftOf_X5_sumOf rfl hd_X5_sumOf.2 ⟨rfl, rfl⟩ ⟨Nat.le_of_ble_eq_true rfl, Nat.le_of_ble_eq_true rfl⟩ rfl rfl (Nat.le_of_ble_eq_true rfl) ⟨Nat.le_refl _, Nat.le_refl _⟩ dX5_leftOf_13 rfl ?_
  refine v_isub C dX5_leftOf_16 rfl ?_
  refine v_aload_n C dX5_leftOf_17 rfl 0 0 rfl rfl ?_
  refine v_get C K in_X5_leftOf_X5 0 rfl rfl 0 (by decide) fl_X5_leftOf_X5_0 rfl dX5_leftOf_18 rfl ?_
  refine v_iconst (v := 2) C dX5_leftOf_21 rfl ic_2 ?_
  refine v_iald C K 1 0 rfl rfl (2) (rfl) (by omega) (by decide) dX5_leftOf_22 rfl ?_
  refine v_aload_n C dX5_leftOf_23 rfl 0 0 rfl rfl ?_
  refine v_get C K in_X5_leftOf_X5 0 rfl rfl 10 (by decide) fl_X5_leftOf_X5_10 rfl dX5_leftOf_24 rfl ?_
  refine v_iload_n C dX5_leftOf_27 rfl 1 1 rfl rfl ?_
  refine v_callSid C K (c_X5_sumOf l D ad cI _ 8 (by decide) (by decide) _) gX5_leftOf_X5_sumOf rfl hd_X5_sumOf.2 ⟨rfl, rfl⟩ ⟨Nat.le_of_ble_eq_true rfl, Nat.le_of_ble_eq_true rfl⟩ rfl rfl (Nat.le_of_ble_eq_true rfl) ⟨Nat.le_refl _, Nat.le_refl _⟩ dX5_leftOf_28 rfl ?_
  refine v_imul C dX5_leftOf_31 rfl ?_
  refine v_isub C dX5_leftOf_32 rfl ?_
  refine v_aload_n C dX5_leftOf_33 rfl 0 0 rfl rfl ?_
  refine v_iload_n C dX5_leftOf_34 rfl 1 1 rfl rfl ?_
  refine v_callVid C K (c_X5_rentsOf l D ad cI _ _) gX5_leftOf_X5_rentsOf rfl hd_X5_rentsOf ⟨rfl, rfl⟩ ⟨Nat.le_of_ble_eq_true rfl, Nat.le_of_ble_eq_true rfl⟩ 0 rfl rfl rfl rfl rfl (Nat.le_of_ble_eq_true rfl) ⟨Nat.le_refl _, Nat.le_refl _⟩ dX5_leftOf_35 rfl ?_
  refine v_iadd C dX5_leftOf_38 rfl ?_
  exact hend (⟨rfl, rfl⟩) (rfl) dX5_leftOf_39
set_option maxHeartbeats 4000000 in
set_option maxRecDepth 100000 in
theorem c_X5_leftNow (l : Launch) (D : va_G) (ad : Nat → Nat) (cI : ClassId) (σ : S9) (n : Nat) (hw : wfS (σ 0) n) : CMi l (mW ad cI) D [(cI, .int)] yX5_leftNow wsX5_leftNow ({ frames := 4, cells := 0, slots := 0, locals := 90 } : Room) [.ref (ad 0)] σ (fun r u => r = p_left (rkM n σ) (-1) ∧ u = rkM n σ) := by
  refine v_starti (own := RX5) (cc := cX5_leftNow) (nL := 1) rfl (by decide) rfl (Nat.le_of_ble_eq_true rfl) ?_
  intro p e s m args below meth c A Q C K hend
  refine v_lv (lv' := [(0, .ref (ad 0))]) [0] rfl ?_
  refine v_aload_n C dX5_leftNow_0 rfl 0 0 rfl rfl ?_
  refine v_callVvd C K (c_X5_reckon l D ad cI _ n hw) gX5_leftNow_X5_reckon rfl hd_X5_reckon ⟨rfl, rfl⟩ ⟨Nat.le_of_ble_eq_true rfl, Nat.le_of_ble_eq_true rfl⟩ 0 rfl rfl rfl rfl rfl (Nat.le_of_ble_eq_true rfl) ⟨Nat.le_refl _, Nat.le_refl _⟩ dX5_leftNow_1 rfl ?_
  refine v_aload_n C dX5_leftNow_4 rfl 0 0 rfl rfl ?_
  refine v_iconst (v := -1) C dX5_leftNow_5 rfl ic_m1 ?_
  refine v_callVid C K (c_X5_leftOf l D ad cI _ _) gX5_leftNow_X5_leftOf rfl hd_X5_leftOf ⟨rfl, rfl⟩ ⟨Nat.le_of_ble_eq_true rfl, Nat.le_of_ble_eq_true rfl⟩ 0 rfl rfl rfl rfl rfl (Nat.le_of_ble_eq_true rfl) ⟨Nat.le_refl _, Nat.le_refl _⟩ dX5_leftNow_6 rfl ?_
  exact hend (⟨rfl, rfl⟩) (rfl) dX5_leftNow_9
def p_val (x v : Int32) : Int32 := if x = 0 then p_in v 10 300 else if x = 1 then p_in v 1 20 else if x = 2 then p_in v 0 200 else if x = 3 then p_in v 1 100 else if x = 4 then p_in v 1 100 else 0
set_option maxHeartbeats 4000000 in
set_option maxRecDepth 100000 in
theorem c_X5_isValue (l : Launch) (x v : Int32) : CPi l yX5_isValue wsX5_isValue ({ frames := 1, cells := 0, slots := 0, locals := 22 } : Room) [.int x, .int v] (fun r => r = p_val x v) := by
  refine v_startP (own := RX5) (cc := cX5_isValue) (nL := 2) ((fun _ => 0), (fun _ _ => 0)) rfl (by decide) rfl (Nat.le_of_ble_eq_true rfl) ?_
  intro p e s m args below meth c A Q C hend
  skip
  refine v_lv (lv' := [(0, .int x), (1, .int v)]) [0, 1] rfl ?_
  refine v_iload_n C dX5_isValue_0 rfl 0 0 rfl rfl ?_
  by_cases h1_0 : x = 0
  · refine v_tableIn C 36 dX5_isValue_1 (by rw [h1_0]; decide) (by rw [h1_0]; decide) (off := 35) (by rw [h1_0]; rfl) (by decide) ?_
    refine v_iload_n C dX5_isValue_36 rfl 1 1 rfl rfl ?_
    refine v_bipush (v := 10) C dX5_isValue_37 rfl bp_10 ?_
    refine v_sipush (v := 300) C dX5_isValue_39 rfl sp_300 ?_
    refine v_callSpd C (c_X5_within l _ _ _) gX5_isValue_X5_within rfl hd_X5_within.2 ⟨rfl, rfl⟩ ⟨Nat.le_of_ble_eq_true rfl, Nat.le_of_ble_eq_true rfl⟩ rfl rfl (Nat.le_of_ble_eq_true rfl) ⟨Nat.le_refl _, Nat.le_refl _⟩ dX5_isValue_42 rfl ?_
    exact hend (by simp [p_val, h1_0]) (p_in_nar _ _ _) dX5_isValue_45
  by_cases h1_1 : x = 1
  · refine v_tableIn C 46 dX5_isValue_1 (by rw [h1_1]; decide) (by rw [h1_1]; decide) (off := 45) (by rw [h1_1]; rfl) (by decide) ?_
    refine v_iload_n C dX5_isValue_46 rfl 1 1 rfl rfl ?_
    refine v_iconst (v := 1) C dX5_isValue_47 rfl ic_1 ?_
    refine v_bipush (v := 20) C dX5_isValue_48 rfl bp_20 ?_
    refine v_callSpd C (c_X5_within l _ _ _) gX5_isValue_X5_within rfl hd_X5_within.2 ⟨rfl, rfl⟩ ⟨Nat.le_of_ble_eq_true rfl, Nat.le_of_ble_eq_true rfl⟩ rfl rfl (Nat.le_of_ble_eq_true rfl) ⟨Nat.le_refl _, Nat.le_refl _⟩ dX5_isValue_50 rfl ?_
    exact hend (by simp [p_val, h1_0, h1_1]) (p_in_nar _ _ _) dX5_isValue_53
  by_cases h1_2 : x = 2
  · refine v_tableIn C 54 dX5_isValue_1 (by rw [h1_2]; decide) (by rw [h1_2]; decide) (off := 53) (by rw [h1_2]; rfl) (by decide) ?_
    refine v_iload_n C dX5_isValue_54 rfl 1 1 rfl rfl ?_
    refine v_iconst (v := 0) C dX5_isValue_55 rfl ic_0 ?_
    refine v_sipush (v := 200) C dX5_isValue_56 rfl sp_200 ?_
    refine v_callSpd C (c_X5_within l _ _ _) gX5_isValue_X5_within rfl hd_X5_within.2 ⟨rfl, rfl⟩ ⟨Nat.le_of_ble_eq_true rfl, Nat.le_of_ble_eq_true rfl⟩ rfl rfl (Nat.le_of_ble_eq_true rfl) ⟨Nat.le_refl _, Nat.le_refl _⟩ dX5_isValue_59 rfl ?_
    exact hend (by simp [p_val, h1_0, h1_1, h1_2]) (p_in_nar _ _ _) dX5_isValue_62
  by_cases h1_3 : x = 3
  · refine v_tableIn C 63 dX5_isValue_1 (by rw [h1_3]; decide) (by rw [h1_3]; decide) (off := 62) (by rw [h1_3]; rfl) (by decide) ?_
    refine v_iload_n C dX5_isValue_63 rfl 1 1 rfl rfl ?_
    refine v_iconst (v := 1) C dX5_isValue_64 rfl ic_1 ?_
    refine v_bipush (v := 100) C dX5_isValue_65 rfl bp_100 ?_
    refine v_callSpd C (c_X5_within l _ _ _) gX5_isValue_X5_within rfl hd_X5_within.2 ⟨rfl, rfl⟩ ⟨Nat.le_of_ble_eq_true rfl, Nat.le_of_ble_eq_true rfl⟩ rfl rfl (Nat.le_of_ble_eq_true rfl) ⟨Nat.le_refl _, Nat.le_refl _⟩ dX5_isValue_67 rfl ?_
    exact hend (by simp [p_val, h1_0, h1_1, h1_2, h1_3]) (p_in_nar _ _ _) dX5_isValue_70
  by_cases h1_4 : x = 4
  · refine v_tableIn C 63 dX5_isValue_1 (by rw [h1_4]; decide) (by rw [h1_4]; decide) (off := 62) (by rw [h1_4]; rfl) (by decide) ?_
    refine v_iload_n C dX5_isValue_63 rfl 1 1 rfl rfl ?_
    refine v_iconst (v := 1) C dX5_isValue_64 rfl ic_1 ?_
    refine v_bipush (v := 100) C dX5_isValue_65 rfl bp_100 ?_
    refine v_callSpd C (c_X5_within l _ _ _) gX5_isValue_X5_within rfl hd_X5_within.2 ⟨rfl, rfl⟩ ⟨Nat.le_of_ble_eq_true rfl, Nat.le_of_ble_eq_true rfl⟩ rfl rfl (Nat.le_of_ble_eq_true rfl) ⟨Nat.le_refl _, Nat.le_refl _⟩ dX5_isValue_67 rfl ?_
    exact hend (by simp [p_val, h1_0, h1_1, h1_2, h1_3, h1_4]) (p_in_nar _ _ _) dX5_isValue_70
  refine v_tableOut C 71 dX5_isValue_1 (sw9 (x := x) (n := 4) (by decide) (fun j hj => by rcases (show j = 0 ∨ j = 1 ∨ j = 2 ∨ j = 3 ∨ j = 4 by omega) with rfl | rfl | rfl | rfl | rfl <;> first | exact h1_0 | exact h1_1 | exact h1_2 | exact h1_3 | exact h1_4)) (by decide) ?_
  refine v_iconst (v := 0) C dX5_isValue_71 rfl ic_0 ?_
  exact hend (by simp [p_val, h1_0, h1_1, h1_2, h1_3, h1_4]) (rfl) dX5_isValue_72
def poT (u : S9) (x : Int32) (d : Nat) : Int32 := if u 0 (46 + d) = x then u 5 d else 0
def fsT (u : S9) (d : Nat) : Int32 := if ¬ u 0 (46 + d) = -6 ∧ u 5 d = u 0 0 then 1 else 0
def shT (r : Nat → Int32) (d : Nat) : Int32 := if r (46 + d) = -6 then 0 else 1
/-- the first show of a film, found from behind: down from n -/
def fsh (r : Nat → Int32) (x : Int32) : Nat → Int32
  | 0 => -6
  | n + 1 => if r (46 + (69 - n)) = x then nI ((69 - n) / 2) else fsh r x n
set_option maxHeartbeats 4000000 in
set_option maxRecDepth 100000 in
theorem c_X5_peopleOf (l : Launch) (D : va_G) (ad : Nat → Nat) (cI : ClassId) (σ : S9) (x : Int32) : CMi l (mW ad cI) D [(cI, .int)] yX5_peopleOf wsX5_peopleOf ({ frames := 0, cells := 0, slots := 0, locals := 0 } : Room) [.ref (ad 0), .int x] σ (fun r u => r = sm9 (poT σ x) 70 ∧ u = σ) := by
  refine v_starti (own := RX5) (cc := cX5_peopleOf) (nL := 4) rfl (by decide) rfl (Nat.le_of_ble_eq_true rfl) ?_
  intro p e s m args below meth c A Q C K hend
  refine v_lv (lv' := [(0, .ref (ad 0)), (1, .int x)]) [0, 1] rfl ?_
  refine v_iconst (v := 0) C dX5_peopleOf_0 rfl ic_0 ?_
  refine v_istore_n (lv' := [(2, _), (0, _), (1, _)]) C dX5_peopleOf_1 rfl 2 rfl (by decide) rfl ?_
  refine v_iconst (v := 0) C dX5_peopleOf_2 rfl ic_0 ?_
  refine v_istore_n (lv' := [(3, _), (2, _), (0, _), (1, _)]) C dX5_peopleOf_3 rfl 3 rfl (by decide) rfl ?_
  have LP4 : ∀ d, d ≤ 70 → VV p l e ({ frames := 0, cells := 0, slots := 0, locals := 0 } : Room) s m args below meth c 0 0 Q (mW ad cI) D A s.heap 4 σ 4 [(0, .ref (ad 0)), (1, .int x), (2, .int (sm9 (poT σ x) d)), (3, .int (nI d))] [] := by
    refine lpB9 (fun d => VV p l e ({ frames := 0, cells := 0, slots := 0, locals := 0 } : Room) s m args below meth c 0 0 Q (mW ad cI) D A s.heap 4 σ 4 [(0, .ref (ad 0)), (1, .int x), (2, .int (sm9 (poT σ x) d)), (3, .int (nI d))] []) 70 (fun d hd ih => ?_) ?_
    · skip
      refine v_iload_n C dX5_peopleOf_4 rfl 3 3 rfl rfl ?_
      refine v_bipush (v := 70) C dX5_peopleOf_5 rfl bp_70 ?_
      refine v_icmp_ge C 42 dX5_peopleOf_7 (by decide) rfl (fun h9 => absurd h9 (nI_ge hd (by decide))) (fun _ => ?_)
      refine v_iload_n C dX5_peopleOf_10 rfl 2 2 rfl rfl ?_
      refine v_aload_n C dX5_peopleOf_11 rfl 0 0 rfl rfl ?_
      refine v_get C K in_X5_peopleOf_X5 0 rfl rfl 0 (by decide) fl_X5_peopleOf_X5_0 rfl dX5_peopleOf_12 rfl ?_
      refine v_bipush (v := 46) C dX5_peopleOf_15 rfl bp_46 ?_
      refine v_iload_n C dX5_peopleOf_17 rfl 3 3 rfl rfl ?_
      refine v_iadd C dX5_peopleOf_18 rfl ?_
      refine v_iald C K 1 0 rfl rfl (46 + d) (by simp only [lit9, pk_mul, nI_add]) (by omega) (by decide) dX5_peopleOf_19 rfl ?_
      refine v_iload_n C dX5_peopleOf_20 rfl 1 1 rfl rfl ?_
      refine v_icmp_ne C 33 dX5_peopleOf_21 (by decide) rfl (fun h21 => ?_) (fun h21 => ?_)
      · skip
        refine v_iconst (v := 0) C dX5_peopleOf_33 rfl ic_0 ?_
        refine v_iadd C dX5_peopleOf_34 rfl ?_
        refine v_top (sm9 (poT σ x) (d + 1)) (by simp [sm9, poT, h21]) ?_
        refine v_istore_n (lv' := [(2, _), (0, _), (1, _), (3, _)]) C dX5_peopleOf_35 rfl 2 rfl (by decide) rfl ?_
        refine v_iinc (lv' := [(3, _), (2, _), (0, _), (1, _)]) C dX5_peopleOf_36 rfl 3 rfl (inc9 _) (by decide) rfl ?_
        refine v_goto C 4 dX5_peopleOf_39 (by decide) ?_
        refine v_lv (lv' := [(0, _), (1, _), (2, _), (3, _)]) [2, 3, 1, 0] rfl ?_
        exact ih
      · skip
        refine v_aload_n C dX5_peopleOf_24 rfl 0 0 rfl rfl ?_
        refine v_get C K in_X5_peopleOf_X5 0 rfl rfl 7 (by decide) fl_X5_peopleOf_X5_7 rfl dX5_peopleOf_25 rfl ?_
        refine v_iload_n C dX5_peopleOf_28 rfl 3 3 rfl rfl ?_
        refine v_iald C K 6 0 rfl rfl (d) (rfl) (by omega) (by decide) dX5_peopleOf_29 rfl ?_
        refine v_goto C 34 dX5_peopleOf_30 (by decide) ?_
        refine v_iadd C dX5_peopleOf_34 rfl ?_
        refine v_top (sm9 (poT σ x) (d + 1)) (by simp [sm9, poT, h21]) ?_
        refine v_istore_n (lv' := [(2, _), (0, _), (1, _), (3, _)]) C dX5_peopleOf_35 rfl 2 rfl (by decide) rfl ?_
        refine v_iinc (lv' := [(3, _), (2, _), (0, _), (1, _)]) C dX5_peopleOf_36 rfl 3 rfl (inc9 _) (by decide) rfl ?_
        refine v_goto C 4 dX5_peopleOf_39 (by decide) ?_
        refine v_lv (lv' := [(0, _), (1, _), (2, _), (3, _)]) [2, 3, 1, 0] rfl ?_
        exact ih
    · skip
      refine v_iload_n C dX5_peopleOf_4 rfl 3 3 rfl rfl ?_
      refine v_bipush (v := 70) C dX5_peopleOf_5 rfl bp_70 ?_
      refine v_icmp_ge C 42 dX5_peopleOf_7 (by decide) rfl (fun _ => ?_) (fun h9 => absurd (nI_le (Nat.le_refl _) (by decide)) h9)
      refine v_iload_n C dX5_peopleOf_42 rfl 2 2 rfl rfl ?_
      exact hend (⟨rfl, rfl⟩) (rfl) dX5_peopleOf_43
  refine v_lv [2, 3, 1, 0] rfl ?_
  exact LP4 0 (by omega)
set_option maxHeartbeats 4000000 in
set_option maxRecDepth 100000 in
theorem c_X5_fullShows (l : Launch) (D : va_G) (ad : Nat → Nat) (cI : ClassId) (σ : S9)  : CMi l (mW ad cI) D [(cI, .int)] yX5_fullShows wsX5_fullShows ({ frames := 0, cells := 0, slots := 0, locals := 0 } : Room) [.ref (ad 0)] σ (fun r u => r = sm9 (fsT σ) 70 ∧ u = σ) := by
  refine v_starti (own := RX5) (cc := cX5_fullShows) (nL := 3) rfl (by decide) rfl (Nat.le_of_ble_eq_true rfl) ?_
  intro p e s m args below meth c A Q C K hend
  refine v_lv (lv' := [(0, .ref (ad 0))]) [0] rfl ?_
  refine v_iconst (v := 0) C dX5_fullShows_0 rfl ic_0 ?_
  refine v_istore_n (lv' := [(1, _), (0, _)]) C dX5_fullShows_1 rfl 1 rfl (by decide) rfl ?_
  refine v_iconst (v := 0) C dX5_fullShows_2 rfl ic_0 ?_
  refine v_istore_n (lv' := [(2, _), (1, _), (0, _)]) C dX5_fullShows_3 rfl 2 rfl (by decide) rfl ?_
  have LP4 : ∀ d, d ≤ 70 → VV p l e ({ frames := 0, cells := 0, slots := 0, locals := 0 } : Room) s m args below meth c 0 0 Q (mW ad cI) D A s.heap 3 σ 4 [(0, .ref (ad 0)), (1, .int (sm9 (fsT σ) d)), (2, .int (nI d))] [] := by
    refine lpB9 (fun d => VV p l e ({ frames := 0, cells := 0, slots := 0, locals := 0 } : Room) s m args below meth c 0 0 Q (mW ad cI) D A s.heap 3 σ 4 [(0, .ref (ad 0)), (1, .int (sm9 (fsT σ) d)), (2, .int (nI d))] []) 70 (fun d hd ih => ?_) ?_
    · skip
      refine v_iload_n C dX5_fullShows_4 rfl 2 2 rfl rfl ?_
      refine v_bipush (v := 70) C dX5_fullShows_5 rfl bp_70 ?_
      refine v_icmp_ge C 53 dX5_fullShows_7 (by decide) rfl (fun h9 => absurd h9 (nI_ge hd (by decide))) (fun _ => ?_)
      refine v_iload_n C dX5_fullShows_10 rfl 1 1 rfl rfl ?_
      refine v_aload_n C dX5_fullShows_11 rfl 0 0 rfl rfl ?_
      refine v_get C K in_X5_fullShows_X5 0 rfl rfl 0 (by decide) fl_X5_fullShows_X5_0 rfl dX5_fullShows_12 rfl ?_
      refine v_bipush (v := 46) C dX5_fullShows_15 rfl bp_46 ?_
      refine v_iload_n C dX5_fullShows_17 rfl 2 2 rfl rfl ?_
      refine v_iadd C dX5_fullShows_18 rfl ?_
      refine v_iald C K 1 0 rfl rfl (46 + d) (by simp only [lit9, pk_mul, nI_add]) (by omega) (by decide) dX5_fullShows_19 rfl ?_
      refine v_bipush (v := -6) C dX5_fullShows_20 rfl bp_m6 ?_
      refine v_icmp_eq C 44 dX5_fullShows_22 (by decide) rfl (fun h22 => ?_) (fun h22 => ?_)
      · skip
        refine v_iconst (v := 0) C dX5_fullShows_44 rfl ic_0 ?_
        refine v_iadd C dX5_fullShows_45 rfl ?_
        refine v_top (sm9 (fsT σ) (d + 1)) (by simp [sm9, fsT, h22]) ?_
        refine v_istore_n (lv' := [(1, _), (0, _), (2, _)]) C dX5_fullShows_46 rfl 1 rfl (by decide) rfl ?_
        refine v_iinc (lv' := [(2, _), (1, _), (0, _)]) C dX5_fullShows_47 rfl 2 rfl (inc9 _) (by decide) rfl ?_
        refine v_goto C 4 dX5_fullShows_50 (by decide) ?_
        refine v_lv (lv' := [(0, _), (1, _), (2, _)]) [2, 1, 0] rfl ?_
        exact ih
      · skip
        refine v_aload_n C dX5_fullShows_25 rfl 0 0 rfl rfl ?_
        refine v_get C K in_X5_fullShows_X5 0 rfl rfl 7 (by decide) fl_X5_fullShows_X5_7 rfl dX5_fullShows_26 rfl ?_
        refine v_iload_n C dX5_fullShows_29 rfl 2 2 rfl rfl ?_
        refine v_iald C K 6 0 rfl rfl (d) (rfl) (by omega) (by decide) dX5_fullShows_30 rfl ?_
        refine v_aload_n C dX5_fullShows_31 rfl 0 0 rfl rfl ?_
        refine v_get C K in_X5_fullShows_X5 0 rfl rfl 0 (by decide) fl_X5_fullShows_X5_0 rfl dX5_fullShows_32 rfl ?_
        refine v_iconst (v := 0) C dX5_fullShows_35 rfl ic_0 ?_
        refine v_iald C K 1 0 rfl rfl (0) (rfl) (by omega) (by decide) dX5_fullShows_36 rfl ?_
        refine v_icmp_ne C 44 dX5_fullShows_37 (by decide) rfl (fun h37 => ?_) (fun h37 => ?_)
        · skip
          refine v_iconst (v := 0) C dX5_fullShows_44 rfl ic_0 ?_
          refine v_iadd C dX5_fullShows_45 rfl ?_
          refine v_top (sm9 (fsT σ) (d + 1)) (by simp [sm9, fsT, h22, h37]) ?_
          refine v_istore_n (lv' := [(1, _), (0, _), (2, _)]) C dX5_fullShows_46 rfl 1 rfl (by decide) rfl ?_
          refine v_iinc (lv' := [(2, _), (1, _), (0, _)]) C dX5_fullShows_47 rfl 2 rfl (inc9 _) (by decide) rfl ?_
          refine v_goto C 4 dX5_fullShows_50 (by decide) ?_
          refine v_lv (lv' := [(0, _), (1, _), (2, _)]) [2, 1, 0] rfl ?_
          exact ih
        · skip
          refine v_iconst (v := 1) C dX5_fullShows_40 rfl ic_1 ?_
          refine v_goto C 45 dX5_fullShows_41 (by decide) ?_
          refine v_iadd C dX5_fullShows_45 rfl ?_
          refine v_top (sm9 (fsT σ) (d + 1)) (by simp [sm9, fsT, h22, h37]) ?_
          refine v_istore_n (lv' := [(1, _), (0, _), (2, _)]) C dX5_fullShows_46 rfl 1 rfl (by decide) rfl ?_
          refine v_iinc (lv' := [(2, _), (1, _), (0, _)]) C dX5_fullShows_47 rfl 2 rfl (inc9 _) (by decide) rfl ?_
          refine v_goto C 4 dX5_fullShows_50 (by decide) ?_
          refine v_lv (lv' := [(0, _), (1, _), (2, _)]) [2, 1, 0] rfl ?_
          exact ih
    · skip
      refine v_iload_n C dX5_fullShows_4 rfl 2 2 rfl rfl ?_
      refine v_bipush (v := 70) C dX5_fullShows_5 rfl bp_70 ?_
      refine v_icmp_ge C 53 dX5_fullShows_7 (by decide) rfl (fun _ => ?_) (fun h9 => absurd (nI_le (Nat.le_refl _) (by decide)) h9)
      refine v_iload_n C dX5_fullShows_53 rfl 1 1 rfl rfl ?_
      exact hend (⟨rfl, rfl⟩) (rfl) dX5_fullShows_54
  refine v_lv [2, 1, 0] rfl ?_
  exact LP4 0 (by omega)
set_option maxHeartbeats 4000000 in
set_option maxRecDepth 100000 in
theorem c_X5_showsMany (l : Launch) (D : va_G) (ad : Nat → Nat) (cI : ClassId) (σ : S9)  : CMi l (mW ad cI) D [(cI, .int)] yX5_showsMany wsX5_showsMany ({ frames := 0, cells := 0, slots := 0, locals := 0 } : Room) [.ref (ad 0)] σ (fun r u => r = sm9 (shT (σ 0)) 70 ∧ u = σ) := by
  refine v_starti (own := RX5) (cc := cX5_showsMany) (nL := 3) rfl (by decide) rfl (Nat.le_of_ble_eq_true rfl) ?_
  intro p e s m args below meth c A Q C K hend
  refine v_lv (lv' := [(0, .ref (ad 0))]) [0] rfl ?_
  refine v_iconst (v := 0) C dX5_showsMany_0 rfl ic_0 ?_
  refine v_istore_n (lv' := [(1, _), (0, _)]) C dX5_showsMany_1 rfl 1 rfl (by decide) rfl ?_
  refine v_iconst (v := 0) C dX5_showsMany_2 rfl ic_0 ?_
  refine v_istore_n (lv' := [(2, _), (1, _), (0, _)]) C dX5_showsMany_3 rfl 2 rfl (by decide) rfl ?_
  have LP4 : ∀ d, d ≤ 70 → VV p l e ({ frames := 0, cells := 0, slots := 0, locals := 0 } : Room) s m args below meth c 0 0 Q (mW ad cI) D A s.heap 3 σ 4 [(0, .ref (ad 0)), (1, .int (sm9 (shT (σ 0)) d)), (2, .int (nI d))] [] := by
    refine lpB9 (fun d => VV p l e ({ frames := 0, cells := 0, slots := 0, locals := 0 } : Room) s m args below meth c 0 0 Q (mW ad cI) D A s.heap 3 σ 4 [(0, .ref (ad 0)), (1, .int (sm9 (shT (σ 0)) d)), (2, .int (nI d))] []) 70 (fun d hd ih => ?_) ?_
    · skip
      refine v_iload_n C dX5_showsMany_4 rfl 2 2 rfl rfl ?_
      refine v_bipush (v := 70) C dX5_showsMany_5 rfl bp_70 ?_
      refine v_icmp_ge C 38 dX5_showsMany_7 (by decide) rfl (fun h9 => absurd h9 (nI_ge hd (by decide))) (fun _ => ?_)
      refine v_iload_n C dX5_showsMany_10 rfl 1 1 rfl rfl ?_
      refine v_aload_n C dX5_showsMany_11 rfl 0 0 rfl rfl ?_
      refine v_get C K in_X5_showsMany_X5 0 rfl rfl 0 (by decide) fl_X5_showsMany_X5_0 rfl dX5_showsMany_12 rfl ?_
      refine v_bipush (v := 46) C dX5_showsMany_15 rfl bp_46 ?_
      refine v_iload_n C dX5_showsMany_17 rfl 2 2 rfl rfl ?_
      refine v_iadd C dX5_showsMany_18 rfl ?_
      refine v_iald C K 1 0 rfl rfl (46 + d) (by simp only [lit9, pk_mul, nI_add]) (by omega) (by decide) dX5_showsMany_19 rfl ?_
      refine v_bipush (v := -6) C dX5_showsMany_20 rfl bp_m6 ?_
      refine v_icmp_ne C 29 dX5_showsMany_22 (by decide) rfl (fun h22 => ?_) (fun h22 => ?_)
      · skip
        refine v_iconst (v := 1) C dX5_showsMany_29 rfl ic_1 ?_
        refine v_iadd C dX5_showsMany_30 rfl ?_
        refine v_top (sm9 (shT (σ 0)) (d + 1)) (by simp [sm9, shT, h22]) ?_
        refine v_istore_n (lv' := [(1, _), (0, _), (2, _)]) C dX5_showsMany_31 rfl 1 rfl (by decide) rfl ?_
        refine v_iinc (lv' := [(2, _), (1, _), (0, _)]) C dX5_showsMany_32 rfl 2 rfl (inc9 _) (by decide) rfl ?_
        refine v_goto C 4 dX5_showsMany_35 (by decide) ?_
        refine v_lv (lv' := [(0, _), (1, _), (2, _)]) [2, 1, 0] rfl ?_
        exact ih
      · skip
        refine v_iconst (v := 0) C dX5_showsMany_25 rfl ic_0 ?_
        refine v_goto C 30 dX5_showsMany_26 (by decide) ?_
        refine v_iadd C dX5_showsMany_30 rfl ?_
        refine v_top (sm9 (shT (σ 0)) (d + 1)) (by simp [sm9, shT, h22]) ?_
        refine v_istore_n (lv' := [(1, _), (0, _), (2, _)]) C dX5_showsMany_31 rfl 1 rfl (by decide) rfl ?_
        refine v_iinc (lv' := [(2, _), (1, _), (0, _)]) C dX5_showsMany_32 rfl 2 rfl (inc9 _) (by decide) rfl ?_
        refine v_goto C 4 dX5_showsMany_35 (by decide) ?_
        refine v_lv (lv' := [(0, _), (1, _), (2, _)]) [2, 1, 0] rfl ?_
        exact ih
    · skip
      refine v_iload_n C dX5_showsMany_4 rfl 2 2 rfl rfl ?_
      refine v_bipush (v := 70) C dX5_showsMany_5 rfl bp_70 ?_
      refine v_icmp_ge C 38 dX5_showsMany_7 (by decide) rfl (fun _ => ?_) (fun h9 => absurd (nI_le (Nat.le_refl _) (by decide)) h9)
      refine v_iload_n C dX5_showsMany_38 rfl 1 1 rfl rfl ?_
      exact hend (⟨rfl, rfl⟩) (rfl) dX5_showsMany_39
  refine v_lv [2, 1, 0] rfl ?_
  exact LP4 0 (by omega)

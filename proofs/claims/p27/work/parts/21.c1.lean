set_option maxHeartbeats 4000000 in
set_option maxRecDepth 100000 in
theorem c_X1_copyTo (l : Launch) (D : va_G) (ad : Nat → Nat) (cI cC cZ cQ : ClassId) (σ : S9) (i : Nat) (hi : i < 8) : CMv l (cW ad cI cC cZ cQ) D (cTy cI cC cZ cQ) yX1_copyTo wsX1_copyTo ({ frames := 1, cells := 0, slots := 0, locals := 26 } : Room) [.ref (ad 1), .ref (ad (14 + i))] σ (fun u => u = st9 σ (10 + i) (va_cpy (σ 0) (σ (10 + i)) 0 0 151)) := by
  refine v_startv (own := RX1) (cc := cX1_copyTo) (nL := 2) rfl (by decide) rfl (Nat.le_of_ble_eq_true rfl) ?_
  intro p e s m args below meth c A Q C K hend
  refine v_lv (lv' := [(0, .ref (ad 1)), (1, .ref (ad (14 + i)))]) [0, 1] rfl ?_
  refine v_aload_n C dX1_copyTo_0 rfl 0 0 rfl rfl ?_
  refine v_get C K in_X1_copyTo_X1 1 rfl rfl 0 (by decide) fl_X1_copyTo_X1_0 rfl dX1_copyTo_1 rfl ?_
  refine v_iconst (v := 0) C dX1_copyTo_4 rfl ic_0 ?_
  refine v_aload_n C dX1_copyTo_5 rfl 1 1 rfl rfl ?_
  refine v_iconst (v := 0) C dX1_copyTo_6 rfl ic_0 ?_
  refine v_sipush (v := 151) C dX1_copyTo_7 rfl sp_151 ?_
  refine v_copyi C K cp_X1_copyTo_0 cp_X1_copyTo_1 cp_X1_copyTo_2 cp_X1_copyTo_3 _ 2 (14 + i) 0 0 rfl (cW_row ad cI cC cZ cQ _ (by omega)) rfl rfl 0 0 151 rfl rfl rfl (by decide) (by decide) (by decide) (Nat.le_of_ble_eq_true rfl) (by decide) (cW_rx ad cI cC cZ cQ _ _ (by omega)) dX1_copyTo_10 rfl ?_
  exact hend (rfl) dX1_copyTo_13
set_option maxHeartbeats 4000000 in
set_option maxRecDepth 100000 in
theorem c_X1_setting (l : Launch) (D : va_G) (ad : Nat → Nat) (cI cC cZ cQ : ClassId) (σ : S9) (k : Nat) (hk : k < 5) : CMi l (cW ad cI cC cZ cQ) D (cTy cI cC cZ cQ) yX1_setting wsX1_setting ({ frames := 0, cells := 0, slots := 0, locals := 0 } : Room) [.ref (ad 1), .int (nI k)] σ (fun r u => r = σ 0 k ∧ u = σ) := by
  refine v_starti (own := RX1) (cc := cX1_setting) (nL := 2) rfl (by decide) rfl (Nat.le_of_ble_eq_true rfl) ?_
  intro p e s m args below meth c A Q C K hend
  refine v_lv (lv' := [(0, .ref (ad 1)), (1, .int (nI k))]) [0, 1] rfl ?_
  refine v_aload_n C dX1_setting_0 rfl 0 0 rfl rfl ?_
  refine v_get C K in_X1_setting_X1 1 rfl rfl 0 (by decide) fl_X1_setting_X1_0 rfl dX1_setting_1 rfl ?_
  refine v_iload_n C dX1_setting_4 rfl 1 1 rfl rfl ?_
  refine v_iald C K 2 0 rfl rfl (k) (rfl) (by omega) (by decide) dX1_setting_5 rfl ?_
  exact hend (⟨rfl, rfl⟩) (rfl) dX1_setting_6
set_option maxHeartbeats 4000000 in
set_option maxRecDepth 100000 in
theorem c_X1_changeSetting (l : Launch) (D : va_G) (ad : Nat → Nat) (cI cC cZ cQ : ClassId) (σ : S9) (k : Nat) (hk : k < 5) (v : Int32) : CMi l (cW ad cI cC cZ cQ) D (cTy cI cC cZ cQ) yX1_changeSetting wsX1_changeSetting ({ frames := 0, cells := 0, slots := 0, locals := 0 } : Room) [.ref (ad 1), .int (nI k), .int v] σ (fun r u => r = σ 0 k ∧ u = st9 σ 0 (upd (σ 0) k v)) := by
  refine v_starti (own := RX1) (cc := cX1_changeSetting) (nL := 4) rfl (by decide) rfl (Nat.le_of_ble_eq_true rfl) ?_
  intro p e s m args below meth c A Q C K hend
  refine v_lv (lv' := [(0, .ref (ad 1)), (1, .int (nI k)), (2, .int v)]) [0, 1, 2] rfl ?_
  refine v_aload_n C dX1_changeSetting_0 rfl 0 0 rfl rfl ?_
  refine v_get C K in_X1_changeSetting_X1 1 rfl rfl 0 (by decide) fl_X1_changeSetting_X1_0 rfl dX1_changeSetting_1 rfl ?_
  refine v_iload_n C dX1_changeSetting_4 rfl 1 1 rfl rfl ?_
  refine v_iald C K 2 0 rfl rfl (k) (rfl) (by omega) (by decide) dX1_changeSetting_5 rfl ?_
  refine v_istore_n (lv' := [(3, _), (0, _), (1, _), (2, _)]) C dX1_changeSetting_6 rfl 3 rfl (by decide) rfl ?_
  refine v_aload_n C dX1_changeSetting_7 rfl 0 1 rfl rfl ?_
  refine v_get C K in_X1_changeSetting_X1 1 rfl rfl 0 (by decide) fl_X1_changeSetting_X1_0 rfl dX1_changeSetting_8 rfl ?_
  refine v_iload_n C dX1_changeSetting_11 rfl 1 2 rfl rfl ?_
  refine v_iload_n C dX1_changeSetting_12 rfl 2 3 rfl rfl ?_
  refine v_iast C K _ 2 0 rfl rfl (k) (rfl) (by omega) (by decide) (cW_a2 ad cI cC cZ cQ _ _) dX1_changeSetting_13 rfl ?_
  refine v_iload_n C dX1_changeSetting_14 rfl 3 0 rfl rfl ?_
  exact hend (⟨rfl, rfl⟩) (rfl) dX1_changeSetting_15
set_option maxHeartbeats 4000000 in
set_option maxRecDepth 100000 in
theorem c_X1_films (l : Launch) (D : va_G) (ad : Nat → Nat) (cI cC cZ cQ : ClassId) (σ : S9)  : CMi l (cW ad cI cC cZ cQ) D (cTy cI cC cZ cQ) yX1_films wsX1_films ({ frames := 0, cells := 0, slots := 0, locals := 0 } : Room) [.ref (ad 1)] σ (fun r u => r = σ 0 5 ∧ u = σ) := by
  refine v_starti (own := RX1) (cc := cX1_films) (nL := 1) rfl (by decide) rfl (Nat.le_of_ble_eq_true rfl) ?_
  intro p e s m args below meth c A Q C K hend
  refine v_lv (lv' := [(0, .ref (ad 1))]) [0] rfl ?_
  refine v_aload_n C dX1_films_0 rfl 0 0 rfl rfl ?_
  refine v_get C K in_X1_films_X1 1 rfl rfl 0 (by decide) fl_X1_films_X1_0 rfl dX1_films_1 rfl ?_
  refine v_iconst (v := 5) C dX1_films_4 rfl ic_5 ?_
  refine v_iald C K 2 0 rfl rfl (5) (rfl) (by omega) (by decide) dX1_films_5 rfl ?_
  exact hend (⟨rfl, rfl⟩) (rfl) dX1_films_6
def c_has (r : Nat → Int32) (x : Int32) : Int32 := if x < 0 then 0 else if r 5 ≤ x then 0 else 1
set_option maxHeartbeats 4000000 in
set_option maxRecDepth 100000 in
theorem c_X1_hasFilm (l : Launch) (D : va_G) (ad : Nat → Nat) (cI cC cZ cQ : ClassId) (σ : S9) (x : Int32) : CMi l (cW ad cI cC cZ cQ) D (cTy cI cC cZ cQ) yX1_hasFilm wsX1_hasFilm ({ frames := 1, cells := 0, slots := 0, locals := 20 } : Room) [.ref (ad 1), .int x] σ (fun r u => r = c_has (σ 0) x ∧ u = σ) := by
  refine v_starti (own := RX1) (cc := cX1_hasFilm) (nL := 2) rfl (by decide) rfl (Nat.le_of_ble_eq_true rfl) ?_
  intro p e s m args below meth c A Q C K hend
  refine v_lv (lv' := [(0, .ref (ad 1)), (1, .int x)]) [0, 1] rfl ?_
  refine v_iload_n C dX1_hasFilm_0 rfl 1 1 rfl rfl ?_
  refine v_if_lt C 16 dX1_hasFilm_1 (by decide) rfl (fun h1 => ?_) (fun h1 => ?_)
  · skip
    refine v_iconst (v := 0) C dX1_hasFilm_16 rfl ic_0 ?_
    exact hend (⟨by simp [c_has, h1], rfl⟩) (rfl) dX1_hasFilm_17
  · skip
    refine v_iload_n C dX1_hasFilm_4 rfl 1 1 rfl rfl ?_
    refine v_aload_n C dX1_hasFilm_5 rfl 0 0 rfl rfl ?_
    refine v_callVid C K (c_X1_films l D ad cI cC cZ cQ _) gX1_hasFilm_X1_films rfl hd_X1_films ⟨rfl, rfl⟩ ⟨Nat.le_of_ble_eq_true rfl, Nat.le_of_ble_eq_true rfl⟩ 1 rfl rfl rfl rfl rfl (Nat.le_of_ble_eq_true rfl) ⟨Nat.le_refl _, Nat.le_refl _⟩ dX1_hasFilm_6 rfl ?_
    refine v_icmp_ge C 16 dX1_hasFilm_9 (by decide) rfl (fun h9 => ?_) (fun h9 => ?_)
    · skip
      refine v_iconst (v := 0) C dX1_hasFilm_16 rfl ic_0 ?_
      exact hend (⟨by simp [c_has, h1, h9], rfl⟩) (rfl) dX1_hasFilm_17
    · skip
      refine v_iconst (v := 1) C dX1_hasFilm_12 rfl ic_1 ?_
      refine v_goto C 17 dX1_hasFilm_13 (by decide) ?_
      exact hend (⟨by simp [c_has, h1, h9], rfl⟩) (rfl) dX1_hasFilm_17
set_option maxHeartbeats 4000000 in
set_option maxRecDepth 100000 in
theorem c_X1_addFilm (l : Launch) (D : va_G) (ad : Nat → Nat) (cI cC cZ cQ : ClassId) (σ : S9) (n : Nat) (hn : σ 0 5 = nI n) (hn8 : n < 8) (xd xc xm xs xf : Int32) : CMi l (cW ad cI cC cZ cQ) D (cTy cI cC cZ cQ) yX1_addFilm wsX1_addFilm ({ frames := 1, cells := 0, slots := 0, locals := 20 } : Room) [.ref (ad 1), .int xd, .int xc, .int xm, .int xs, .int xf] σ (fun r u => r = nI n ∧ u = st9 σ 0 (film9 (σ 0) n xd xc xm xs xf)) := by
  refine v_starti (own := RX1) (cc := cX1_addFilm) (nL := 8) rfl (by decide) rfl (Nat.le_of_ble_eq_true rfl) ?_
  intro p e s m args below meth c A Q C K hend
  refine v_lv (lv' := [(0, .ref (ad 1)), (1, .int xd), (2, .int xc), (3, .int xm), (4, .int xs), (5, .int xf)]) [0, 1, 2, 3, 4, 5] rfl ?_
  refine v_aload_n C dX1_addFilm_0 rfl 0 0 rfl rfl ?_
  refine v_callVid C K (c_X1_films l D ad cI cC cZ cQ _) gX1_addFilm_X1_films rfl hd_X1_films ⟨rfl, rfl⟩ ⟨Nat.le_of_ble_eq_true rfl, Nat.le_of_ble_eq_true rfl⟩ 1 rfl rfl rfl rfl rfl (Nat.le_of_ble_eq_true rfl) ⟨Nat.le_refl _, Nat.le_refl _⟩ dX1_addFilm_1 rfl ?_
  refine v_top (nI n) (hn) ?_
  refine v_istore (lv' := [(6, _), (0, _), (1, _), (2, _), (3, _), (4, _), (5, _)]) C dX1_addFilm_4 rfl (by decide) rfl ?_
  refine v_bipush (v := 6) C dX1_addFilm_6 rfl bp_6 ?_
  refine v_iload C dX1_addFilm_8 rfl 0 rfl ?_
  refine v_iconst (v := 5) C dX1_addFilm_10 rfl ic_5 ?_
  refine v_imul C dX1_addFilm_11 rfl ?_
  refine v_iadd C dX1_addFilm_12 rfl ?_
  refine v_top (nI (6 + 5 * n)) (by simp only [lit9, pk_mul, nI_add]; congr 1; omega) ?_
  refine v_istore (lv' := [(7, _), (6, _), (0, _), (1, _), (2, _), (3, _), (4, _), (5, _)]) C dX1_addFilm_13 rfl (by decide) rfl ?_
  refine v_aload_n C dX1_addFilm_15 rfl 0 2 rfl rfl ?_
  refine v_get C K in_X1_addFilm_X1 1 rfl rfl 0 (by decide) fl_X1_addFilm_X1_0 rfl dX1_addFilm_16 rfl ?_
  refine v_iload C dX1_addFilm_19 rfl 0 rfl ?_
  refine v_iconst (v := 0) C dX1_addFilm_21 rfl ic_0 ?_
  refine v_iadd C dX1_addFilm_22 rfl ?_
  refine v_iload_n C dX1_addFilm_23 rfl 1 3 rfl rfl ?_
  refine v_iast C K _ 2 0 rfl rfl (6 + 5 * n + 0) (by simp only [lit9, pk_mul, nI_add]) (by omega) (by decide) (cW_a2 ad cI cC cZ cQ _ _) dX1_addFilm_24 rfl ?_
  refine v_aload_n C dX1_addFilm_25 rfl 0 2 rfl rfl ?_
  refine v_get C K in_X1_addFilm_X1 1 rfl rfl 0 (by decide) fl_X1_addFilm_X1_0 rfl dX1_addFilm_26 rfl ?_
  refine v_iload C dX1_addFilm_29 rfl 0 rfl ?_
  refine v_iconst (v := 1) C dX1_addFilm_31 rfl ic_1 ?_
  refine v_iadd C dX1_addFilm_32 rfl ?_
  refine v_iload_n C dX1_addFilm_33 rfl 2 4 rfl rfl ?_
  refine v_iast C K _ 2 0 rfl rfl (6 + 5 * n + 1) (by simp only [lit9, pk_mul, nI_add]) (by omega) (by decide) (cW_a2 ad cI cC cZ cQ _ _) dX1_addFilm_34 rfl ?_
  refine v_aload_n C dX1_addFilm_35 rfl 0 2 rfl rfl ?_
  refine v_get C K in_X1_addFilm_X1 1 rfl rfl 0 (by decide) fl_X1_addFilm_X1_0 rfl dX1_addFilm_36 rfl ?_
  refine v_iload C dX1_addFilm_39 rfl 0 rfl ?_
  refine v_iconst (v := 2) C dX1_addFilm_41 rfl ic_2 ?_
  refine v_iadd C dX1_addFilm_42 rfl ?_
  refine v_iload_n C dX1_addFilm_43 rfl 3 5 rfl rfl ?_
  refine v_iast C K _ 2 0 rfl rfl (6 + 5 * n + 2) (by simp only [lit9, pk_mul, nI_add]) (by omega) (by decide) (cW_a2 ad cI cC cZ cQ _ _) dX1_addFilm_44 rfl ?_
  refine v_aload_n C dX1_addFilm_45 rfl 0 2 rfl rfl ?_
  refine v_get C K in_X1_addFilm_X1 1 rfl rfl 0 (by decide) fl_X1_addFilm_X1_0 rfl dX1_addFilm_46 rfl ?_
  refine v_iload C dX1_addFilm_49 rfl 0 rfl ?_
  refine v_iconst (v := 3) C dX1_addFilm_51 rfl ic_3 ?_
  refine v_iadd C dX1_addFilm_52 rfl ?_
  refine v_iload C dX1_addFilm_53 rfl 6 rfl ?_
  refine v_iast C K _ 2 0 rfl rfl (6 + 5 * n + 3) (by simp only [lit9, pk_mul, nI_add]) (by omega) (by decide) (cW_a2 ad cI cC cZ cQ _ _) dX1_addFilm_55 rfl ?_
  refine v_aload_n C dX1_addFilm_56 rfl 0 2 rfl rfl ?_
  refine v_get C K in_X1_addFilm_X1 1 rfl rfl 0 (by decide) fl_X1_addFilm_X1_0 rfl dX1_addFilm_57 rfl ?_
  refine v_iload C dX1_addFilm_60 rfl 0 rfl ?_
  refine v_iconst (v := 4) C dX1_addFilm_62 rfl ic_4 ?_
  refine v_iadd C dX1_addFilm_63 rfl ?_
  refine v_iload C dX1_addFilm_64 rfl 7 rfl ?_
  refine v_iast C K _ 2 0 rfl rfl (6 + 5 * n + 4) (by simp only [lit9, pk_mul, nI_add]) (by omega) (by decide) (cW_a2 ad cI cC cZ cQ _ _) dX1_addFilm_66 rfl ?_
  refine v_aload_n C dX1_addFilm_67 rfl 0 2 rfl rfl ?_
  refine v_get C K in_X1_addFilm_X1 1 rfl rfl 0 (by decide) fl_X1_addFilm_X1_0 rfl dX1_addFilm_68 rfl ?_
  refine v_iconst (v := 5) C dX1_addFilm_71 rfl ic_5 ?_
  refine v_iload C dX1_addFilm_72 rfl 1 rfl ?_
  refine v_iconst (v := 1) C dX1_addFilm_74 rfl ic_1 ?_
  refine v_iadd C dX1_addFilm_75 rfl ?_
  refine v_top (nI (n + 1)) (nI_1 n) ?_
  refine v_iast C K _ 2 0 rfl rfl (5) (rfl) (by omega) (by decide) (cW_a2 ad cI cC cZ cQ _ _) dX1_addFilm_76 rfl ?_
  refine v_iload C dX1_addFilm_77 rfl 1 rfl ?_
  exact hend (⟨rfl, by simp only [st9_tw, st9_s]; rfl⟩) (rfl) dX1_addFilm_79
set_option maxHeartbeats 4000000 in
set_option maxRecDepth 100000 in
theorem c_X1_fact (l : Launch) (D : va_G) (ad : Nat → Nat) (cI cC cZ cQ : ClassId) (σ : S9) (f w : Nat) (hf : f < 8) (hw : w < 5) : CMi l (cW ad cI cC cZ cQ) D (cTy cI cC cZ cQ) yX1_fact wsX1_fact ({ frames := 0, cells := 0, slots := 0, locals := 0 } : Room) [.ref (ad 1), .int (nI f), .int (nI w)] σ (fun r u => r = σ 0 (6 + 5 * f + w) ∧ u = σ) := by
  refine v_starti (own := RX1) (cc := cX1_fact) (nL := 3) rfl (by decide) rfl (Nat.le_of_ble_eq_true rfl) ?_
  intro p e s m args below meth c A Q C K hend
  refine v_lv (lv' := [(0, .ref (ad 1)), (1, .int (nI f)), (2, .int (nI w))]) [0, 1, 2] rfl ?_
  refine v_aload_n C dX1_fact_0 rfl 0 0 rfl rfl ?_
  refine v_get C K in_X1_fact_X1 1 rfl rfl 0 (by decide) fl_X1_fact_X1_0 rfl dX1_fact_1 rfl ?_
  refine v_bipush (v := 6) C dX1_fact_4 rfl bp_6 ?_
  refine v_iload_n C dX1_fact_6 rfl 1 1 rfl rfl ?_
  refine v_iconst (v := 5) C dX1_fact_7 rfl ic_5 ?_
  refine v_imul C dX1_fact_8 rfl ?_
  refine v_iadd C dX1_fact_9 rfl ?_
  refine v_iload_n C dX1_fact_10 rfl 2 2 rfl rfl ?_
  refine v_iadd C dX1_fact_11 rfl ?_
  refine v_iald C K 2 0 rfl rfl (6 + 5 * f + w) (by simp only [lit9, pk_mul, nI_add]; congr 1; omega) (by omega) (by decide) dX1_fact_12 rfl ?_
  exact hend (⟨rfl, rfl⟩) (rfl) dX1_fact_13
set_option maxHeartbeats 4000000 in
set_option maxRecDepth 100000 in
theorem c_X1_showAt (l : Launch) (D : va_G) (ad : Nat → Nat) (cI cC cZ cQ : ClassId) (σ : S9) (k : Nat) (hk : k < 70) : CMi l (cW ad cI cC cZ cQ) D (cTy cI cC cZ cQ) yX1_showAt wsX1_showAt ({ frames := 0, cells := 0, slots := 0, locals := 0 } : Room) [.ref (ad 1), .int (nI k)] σ (fun r u => r = σ 0 (46 + k) ∧ u = σ) := by
  refine v_starti (own := RX1) (cc := cX1_showAt) (nL := 2) rfl (by decide) rfl (Nat.le_of_ble_eq_true rfl) ?_
  intro p e s m args below meth c A Q C K hend
  refine v_lv (lv' := [(0, .ref (ad 1)), (1, .int (nI k))]) [0, 1] rfl ?_
  refine v_aload_n C dX1_showAt_0 rfl 0 0 rfl rfl ?_
  refine v_get C K in_X1_showAt_X1 1 rfl rfl 0 (by decide) fl_X1_showAt_X1_0 rfl dX1_showAt_1 rfl ?_
  refine v_bipush (v := 46) C dX1_showAt_4 rfl bp_46 ?_
  refine v_iload_n C dX1_showAt_6 rfl 1 1 rfl rfl ?_
  refine v_iadd C dX1_showAt_7 rfl ?_
  refine v_iald C K 2 0 rfl rfl (46 + k) (by simp only [lit9, pk_mul, nI_add]) (by omega) (by decide) dX1_showAt_8 rfl ?_
  exact hend (⟨rfl, rfl⟩) (rfl) dX1_showAt_9
set_option maxHeartbeats 4000000 in
set_option maxRecDepth 100000 in
theorem c_X1_replaceShow (l : Launch) (D : va_G) (ad : Nat → Nat) (cI cC cZ cQ : ClassId) (σ : S9) (k : Nat) (hk : k < 70) (x : Int32) : CMi l (cW ad cI cC cZ cQ) D (cTy cI cC cZ cQ) yX1_replaceShow wsX1_replaceShow ({ frames := 0, cells := 0, slots := 0, locals := 0 } : Room) [.ref (ad 1), .int (nI k), .int x] σ (fun r u => r = σ 0 (46 + k) ∧ u = st9 σ 0 (upd (σ 0) (46 + k) x)) := by
  refine v_starti (own := RX1) (cc := cX1_replaceShow) (nL := 4) rfl (by decide) rfl (Nat.le_of_ble_eq_true rfl) ?_
  intro p e s m args below meth c A Q C K hend
  refine v_lv (lv' := [(0, .ref (ad 1)), (1, .int (nI k)), (2, .int x)]) [0, 1, 2] rfl ?_
  refine v_aload_n C dX1_replaceShow_0 rfl 0 0 rfl rfl ?_
  refine v_get C K in_X1_replaceShow_X1 1 rfl rfl 0 (by decide) fl_X1_replaceShow_X1_0 rfl dX1_replaceShow_1 rfl ?_
  refine v_bipush (v := 46) C dX1_replaceShow_4 rfl bp_46 ?_
  refine v_iload_n C dX1_replaceShow_6 rfl 1 1 rfl rfl ?_
  refine v_iadd C dX1_replaceShow_7 rfl ?_
  refine v_iald C K 2 0 rfl rfl (46 + k) (by simp only [lit9, pk_mul, nI_add]) (by omega) (by decide) dX1_replaceShow_8 rfl ?_
  refine v_istore_n (lv' := [(3, _), (0, _), (1, _), (2, _)]) C dX1_replaceShow_9 rfl 3 rfl (by decide) rfl ?_
  refine v_aload_n C dX1_replaceShow_10 rfl 0 1 rfl rfl ?_
  refine v_get C K in_X1_replaceShow_X1 1 rfl rfl 0 (by decide) fl_X1_replaceShow_X1_0 rfl dX1_replaceShow_11 rfl ?_
  refine v_bipush (v := 46) C dX1_replaceShow_14 rfl bp_46 ?_
  refine v_iload_n C dX1_replaceShow_16 rfl 1 2 rfl rfl ?_
  refine v_iadd C dX1_replaceShow_17 rfl ?_
  refine v_iload_n C dX1_replaceShow_18 rfl 2 3 rfl rfl ?_
  refine v_iast C K _ 2 0 rfl rfl (46 + k) (by simp only [lit9, pk_mul, nI_add]) (by omega) (by decide) (cW_a2 ad cI cC cZ cQ _ _) dX1_replaceShow_19 rfl ?_
  refine v_iload_n C dX1_replaceShow_20 rfl 3 0 rfl rfl ?_
  exact hend (⟨rfl, rfl⟩) (rfl) dX1_replaceShow_21
set_option maxHeartbeats 4000000 in
set_option maxRecDepth 100000 in
theorem c_X1_rentOf (l : Launch) (D : va_G) (ad : Nat → Nat) (cI cC cZ cQ : ClassId) (σ : S9) (d : Nat) (hd : d < 35) : CMi l (cW ad cI cC cZ cQ) D (cTy cI cC cZ cQ) yX1_rentOf wsX1_rentOf ({ frames := 0, cells := 0, slots := 0, locals := 0 } : Room) [.ref (ad 1), .int (nI d)] σ (fun r u => r = σ 0 (116 + d) ∧ u = σ) := by
  refine v_starti (own := RX1) (cc := cX1_rentOf) (nL := 2) rfl (by decide) rfl (Nat.le_of_ble_eq_true rfl) ?_
  intro p e s m args below meth c A Q C K hend
  refine v_lv (lv' := [(0, .ref (ad 1)), (1, .int (nI d))]) [0, 1] rfl ?_
  refine v_aload_n C dX1_rentOf_0 rfl 0 0 rfl rfl ?_
  refine v_get C K in_X1_rentOf_X1 1 rfl rfl 0 (by decide) fl_X1_rentOf_X1_0 rfl dX1_rentOf_1 rfl ?_
  refine v_bipush (v := 116) C dX1_rentOf_4 rfl bp_116 ?_
  refine v_iload_n C dX1_rentOf_6 rfl 1 1 rfl rfl ?_
  refine v_iadd C dX1_rentOf_7 rfl ?_
  refine v_iald C K 2 0 rfl rfl (116 + d) (by simp only [lit9, pk_mul, nI_add]) (by omega) (by decide) dX1_rentOf_8 rfl ?_
  exact hend (⟨rfl, rfl⟩) (rfl) dX1_rentOf_9
set_option maxHeartbeats 4000000 in
set_option maxRecDepth 100000 in
theorem c_X1_changeRent (l : Launch) (D : va_G) (ad : Nat → Nat) (cI cC cZ cQ : ClassId) (σ : S9) (d : Nat) (hd : d < 35) (v : Int32) : CMv l (cW ad cI cC cZ cQ) D (cTy cI cC cZ cQ) yX1_changeRent wsX1_changeRent ({ frames := 0, cells := 0, slots := 0, locals := 0 } : Room) [.ref (ad 1), .int (nI d), .int v] σ (fun u => u = st9 σ 0 (upd (σ 0) (116 + d) v)) := by
  refine v_startv (own := RX1) (cc := cX1_changeRent) (nL := 3) rfl (by decide) rfl (Nat.le_of_ble_eq_true rfl) ?_
  intro p e s m args below meth c A Q C K hend
  refine v_lv (lv' := [(0, .ref (ad 1)), (1, .int (nI d)), (2, .int v)]) [0, 1, 2] rfl ?_
  refine v_aload_n C dX1_changeRent_0 rfl 0 0 rfl rfl ?_
  refine v_get C K in_X1_changeRent_X1 1 rfl rfl 0 (by decide) fl_X1_changeRent_X1_0 rfl dX1_changeRent_1 rfl ?_
  refine v_bipush (v := 116) C dX1_changeRent_4 rfl bp_116 ?_
  refine v_iload_n C dX1_changeRent_6 rfl 1 1 rfl rfl ?_
  refine v_iadd C dX1_changeRent_7 rfl ?_
  refine v_iload_n C dX1_changeRent_8 rfl 2 2 rfl rfl ?_
  refine v_iast C K _ 2 0 rfl rfl (116 + d) (by simp only [lit9, pk_mul, nI_add]) (by omega) (by decide) (cW_a2 ad cI cC cZ cQ _ _) dX1_changeRent_9 rfl ?_
  exact hend (rfl) dX1_changeRent_10
def c_can (r : Nat → Int32) (d : Nat) (x : Int32) : Int32 := if ¬ r (116 + d) = 0 then 0 else if c_has r x = 0 then 1 else if nI d < r (6 + 5 * x.toNatClampNeg + 4) then 0 else 1
theorem c_has_ne {r : Nat → Int32} {n : Nat} (hn : r 5 = nI n) (h8 : n ≤ 8) {x : Int32} (h : ¬ c_has r x = 0) : ∃ f : Nat, f < n ∧ x = nI f := by
  unfold c_has at h
  by_cases h1 : x < 0
  · simp [h1] at h
  · by_cases h2 : r 5 ≤ x
    · simp [h1, h2] at h
    · rw [hn] at h2
      have h3 := Int32.not_le.mp h2
      obtain ⟨f, hf, rfl⟩ := nI_of h1
      exact ⟨f, (nI_ltI hf (by omega)).mp h3, rfl⟩
theorem c_has_nI {r : Nat → Int32} {n : Nat} (hn : r 5 = nI n) (h8 : n ≤ 8) {f : Nat} (hf : f < n) : c_has r (nI f) = 1 := by
  unfold c_has
  rw [if_neg (nI_pos (by omega)), hn, if_neg (nI_ge hf (by omega))]
theorem c_has_6 (r : Nat → Int32) : c_has r (-6) = 0 := by
  unfold c_has
  rw [if_pos (by decide)]
set_option maxHeartbeats 4000000 in
set_option maxRecDepth 100000 in
theorem c_X1_canHold (l : Launch) (D : va_G) (ad : Nat → Nat) (cI cC cZ cQ : ClassId) (σ : S9) (n : Nat) (hw : wfS (σ 0) n) (d : Nat) (hd : d < 35) (x : Int32) : CMi l (cW ad cI cC cZ cQ) D (cTy cI cC cZ cQ) yX1_canHold wsX1_canHold ({ frames := 2, cells := 0, slots := 0, locals := 41 } : Room) [.ref (ad 1), .int (nI d), .int x] σ (fun r u => r = c_can (σ 0) d x ∧ u = σ) := by
  refine v_starti (own := RX1) (cc := cX1_canHold) (nL := 3) rfl (by decide) rfl (Nat.le_of_ble_eq_true rfl) ?_
  intro p e s m args below meth c A Q C K hend
  refine v_lv (lv' := [(0, .ref (ad 1)), (1, .int (nI d)), (2, .int x)]) [0, 1, 2] rfl ?_
  refine v_aload_n C dX1_canHold_0 rfl 0 0 rfl rfl ?_
  refine v_iload_n C dX1_canHold_1 rfl 1 1 rfl rfl ?_
  refine v_callVid C K (c_X1_rentOf l D ad cI cC cZ cQ _ d hd) gX1_canHold_X1_rentOf rfl hd_X1_rentOf ⟨rfl, rfl⟩ ⟨Nat.le_of_ble_eq_true rfl, Nat.le_of_ble_eq_true rfl⟩ 1 rfl rfl rfl rfl rfl (Nat.le_of_ble_eq_true rfl) ⟨Nat.le_refl _, Nat.le_refl _⟩ dX1_canHold_2 rfl ?_
  refine v_if_eq C 10 dX1_canHold_5 (by decide) rfl (fun h5 => ?_) (fun h5 => ?_)
  · skip
    refine v_aload_n C dX1_canHold_10 rfl 0 0 rfl rfl ?_
    refine v_iload_n C dX1_canHold_11 rfl 2 2 rfl rfl ?_
    refine v_callVid C K (c_X1_hasFilm l D ad cI cC cZ cQ _ _) gX1_canHold_X1_hasFilm rfl hd_X1_hasFilm ⟨rfl, rfl⟩ ⟨Nat.le_of_ble_eq_true rfl, Nat.le_of_ble_eq_true rfl⟩ 1 rfl rfl rfl rfl rfl (Nat.le_of_ble_eq_true rfl) ⟨Nat.le_refl _, Nat.le_refl _⟩ dX1_canHold_12 rfl ?_
    refine v_if_eq C 28 dX1_canHold_15 (by decide) rfl (fun h15t => ?_) (fun h15 => ?_)
    · skip
      refine v_iconst (v := 1) C dX1_canHold_28 rfl ic_1 ?_
      refine v_goto C 33 dX1_canHold_29 (by decide) ?_
      exact hend (⟨by simp [c_can, h5, h15t], rfl⟩) (rfl) dX1_canHold_33
    · skip
      obtain ⟨f, hf, rfl⟩ := c_has_ne hw.1 hw.2.1 h15
      have ecf : (nI f).toNatClampNeg = f := nI_cl (by have := hw.2.1; omega)
      refine v_aload_n C dX1_canHold_18 rfl 0 0 rfl rfl ?_
      refine v_iload_n C dX1_canHold_19 rfl 2 2 rfl rfl ?_
      refine v_iconst (v := 4) C dX1_canHold_20 rfl ic_4 ?_
      refine v_callVid C K (c_X1_fact l D ad cI cC cZ cQ _ f 4 (by have := hw.2.1; omega) (by decide)) gX1_canHold_X1_fact rfl hd_X1_fact ⟨rfl, rfl⟩ ⟨Nat.le_of_ble_eq_true rfl, Nat.le_of_ble_eq_true rfl⟩ 1 rfl rfl rfl rfl rfl (Nat.le_of_ble_eq_true rfl) ⟨Nat.le_refl _, Nat.le_refl _⟩ dX1_canHold_21 rfl ?_
      refine v_iload_n C dX1_canHold_24 rfl 1 1 rfl rfl ?_
      refine v_icmp_gt C 32 dX1_canHold_25 (by decide) rfl (fun h25 => ?_) (fun h25 => ?_)
      · skip
        refine v_iconst (v := 0) C dX1_canHold_32 rfl ic_0 ?_
        exact hend (⟨by simp [c_can, ecf, h5, h15, h25], rfl⟩) (rfl) dX1_canHold_33
      · skip
        refine v_iconst (v := 1) C dX1_canHold_28 rfl ic_1 ?_
        refine v_goto C 33 dX1_canHold_29 (by decide) ?_
        exact hend (⟨by simp [c_can, ecf, h5, h15, h25], rfl⟩) (rfl) dX1_canHold_33
  · skip
    refine v_iconst (v := 0) C dX1_canHold_8 rfl ic_0 ?_
    exact hend (⟨by simp [c_can, h5], rfl⟩) (rfl) dX1_canHold_9
set_option maxHeartbeats 4000000 in
set_option maxRecDepth 100000 in
theorem c_X1_firstDayShown (l : Launch) (D : va_G) (ad : Nat → Nat) (cI cC cZ cQ : ClassId) (σ : S9) (x : Int32) : CMi l (cW ad cI cC cZ cQ) D (cTy cI cC cZ cQ) yX1_firstDayShown wsX1_firstDayShown ({ frames := 1, cells := 0, slots := 0, locals := 21 } : Room) [.ref (ad 1), .int x] σ (fun r u => r = fsh (σ 0) x 70 ∧ u = σ) := by
  refine v_starti (own := RX1) (cc := cX1_firstDayShown) (nL := 3) rfl (by decide) rfl (Nat.le_of_ble_eq_true rfl) ?_
  intro p e s m args below meth c A Q C K hend
  refine v_lv (lv' := [(0, .ref (ad 1)), (1, .int x)]) [0, 1] rfl ?_
  refine v_iconst (v := 0) C dX1_firstDayShown_0 rfl ic_0 ?_
  refine v_istore_n (lv' := [(2, _), (0, _), (1, _)]) C dX1_firstDayShown_1 rfl 2 rfl (by decide) rfl ?_
  have LP2 : ∀ d, d ≤ 70 → fsh (σ 0) x 70 = fsh (σ 0) x (70 - d) → VV p l e ({ frames := 1, cells := 0, slots := 0, locals := 21 } : Room) s m args below meth c 0 0 Q (cW ad cI cC cZ cQ) D A s.heap 3 σ 2 [(0, .ref (ad 1)), (1, .int x), (2, .int (nI d))] [] := by
    refine lpB9 (fun d => fsh (σ 0) x 70 = fsh (σ 0) x (70 - d) → VV p l e ({ frames := 1, cells := 0, slots := 0, locals := 21 } : Room) s m args below meth c 0 0 Q (cW ad cI cC cZ cQ) D A s.heap 3 σ 2 [(0, .ref (ad 1)), (1, .int x), (2, .int (nI d))] []) 70 (fun d hd ih => ?_) ?_
    · intro hq
      refine v_iload_n C dX1_firstDayShown_2 rfl 2 2 rfl rfl ?_
      refine v_bipush (v := 70) C dX1_firstDayShown_3 rfl bp_70 ?_
      refine v_icmp_ge C 27 dX1_firstDayShown_5 (by decide) rfl (fun h9 => absurd h9 (nI_ge hd (by decide))) (fun _ => ?_)
      refine v_aload_n C dX1_firstDayShown_8 rfl 0 0 rfl rfl ?_
      refine v_iload_n C dX1_firstDayShown_9 rfl 2 2 rfl rfl ?_
      refine v_callVid C K (c_X1_showAt l D ad cI cC cZ cQ _ d hd) gX1_firstDayShown_X1_showAt rfl hd_X1_showAt ⟨rfl, rfl⟩ ⟨Nat.le_of_ble_eq_true rfl, Nat.le_of_ble_eq_true rfl⟩ 1 rfl rfl rfl rfl rfl (Nat.le_of_ble_eq_true rfl) ⟨Nat.le_refl _, Nat.le_refl _⟩ dX1_firstDayShown_10 rfl ?_
      refine v_iload_n C dX1_firstDayShown_13 rfl 1 1 rfl rfl ?_
      refine v_icmp_ne C 21 dX1_firstDayShown_14 (by decide) rfl (fun h14 => ?_) (fun h14f => ?_)
      · skip
        refine v_iinc (lv' := [(2, _), (0, _), (1, _)]) C dX1_firstDayShown_21 rfl 2 rfl (inc9 _) (by decide) rfl ?_
        refine v_goto C 2 dX1_firstDayShown_24 (by decide) ?_
        refine v_lv (lv' := [(0, _), (1, _), (2, _)]) [1, 2, 0] rfl ?_
        exact ih (by rw [hq, show 70 - d = (70 - (d + 1)) + 1 by omega, fsh, show 69 - (70 - (d + 1)) = d by omega, if_neg h14])
      · skip
        refine v_iload_n C dX1_firstDayShown_17 rfl 2 2 rfl rfl ?_
        refine v_iconst (v := 2) C dX1_firstDayShown_18 rfl ic_2 ?_
        refine v_idiv C dX1_firstDayShown_19 rfl (by decide) ?_
        refine v_top (nI (d / 2)) (pk_div (by omega) (by decide) (by decide)) ?_
        exact hend (⟨by rw [hq, show 70 - d = (69 - d) + 1 by omega, fsh, show 69 - (69 - d) = d by omega, if_pos h14f], rfl⟩) (rfl) dX1_firstDayShown_20
    · intro hq
      refine v_iload_n C dX1_firstDayShown_2 rfl 2 2 rfl rfl ?_
      refine v_bipush (v := 70) C dX1_firstDayShown_3 rfl bp_70 ?_
      refine v_icmp_ge C 27 dX1_firstDayShown_5 (by decide) rfl (fun _ => ?_) (fun h9 => absurd (nI_le (Nat.le_refl _) (by decide)) h9)
      refine v_bipush (v := -6) C dX1_firstDayShown_27 rfl bp_m6 ?_
      exact hend (⟨by rw [hq]; rfl, rfl⟩) (rfl) dX1_firstDayShown_29
  refine v_lv (lv' := [(0, _), (1, _), (2, _)]) [1, 2, 0] rfl ?_
  exact LP2 0 (by omega) rfl
set_option maxHeartbeats 4000000 in
set_option maxRecDepth 100000 in
theorem c_X1_rentsOf (l : Launch) (D : va_G) (ad : Nat → Nat) (cI cC cZ cQ : ClassId) (σ : S9) (a b : Nat) (hab : a ≤ b) (hb : b ≤ 35) : CMi l (cW ad cI cC cZ cQ) D (cTy cI cC cZ cQ) yX1_rentsOf wsX1_rentsOf ({ frames := 1, cells := 0, slots := 0, locals := 21 } : Room) [.ref (ad 1), .int (nI a), .int (nI b)] σ (fun r u => r = sm9 (fun j => σ 0 (116 + (a + j))) (b - a) ∧ u = σ) := by
  refine v_starti (own := RX1) (cc := cX1_rentsOf) (nL := 5) rfl (by decide) rfl (Nat.le_of_ble_eq_true rfl) ?_
  intro p e s m args below meth c A Q C K hend
  refine v_lv (lv' := [(0, .ref (ad 1)), (1, .int (nI a)), (2, .int (nI b))]) [0, 1, 2] rfl ?_
  refine v_iconst (v := 0) C dX1_rentsOf_0 rfl ic_0 ?_
  refine v_istore_n (lv' := [(3, _), (0, _), (1, _), (2, _)]) C dX1_rentsOf_1 rfl 3 rfl (by decide) rfl ?_
  refine v_iload_n C dX1_rentsOf_2 rfl 1 2 rfl rfl ?_
  refine v_istore (lv' := [(4, _), (3, _), (0, _), (1, _), (2, _)]) C dX1_rentsOf_3 rfl (by decide) rfl ?_
  have LP5 : ∀ d, d ≤ (b - a) → VV p l e ({ frames := 1, cells := 0, slots := 0, locals := 21 } : Room) s m args below meth c 0 0 Q (cW ad cI cC cZ cQ) D A s.heap 5 σ 5 [(0, .ref (ad 1)), (1, .int (nI a)), (2, .int (nI b)), (3, .int (sm9 (fun j => σ 0 (116 + (a + j))) d)), (4, .int (nI (a + d)))] [] := by
    refine lpB9 (fun d => VV p l e ({ frames := 1, cells := 0, slots := 0, locals := 21 } : Room) s m args below meth c 0 0 Q (cW ad cI cC cZ cQ) D A s.heap 5 σ 5 [(0, .ref (ad 1)), (1, .int (nI a)), (2, .int (nI b)), (3, .int (sm9 (fun j => σ 0 (116 + (a + j))) d)), (4, .int (nI (a + d)))] []) (b - a) (fun d hd ih => ?_) ?_
    · skip
      refine v_iload C dX1_rentsOf_5 rfl 4 rfl ?_
      refine v_iload_n C dX1_rentsOf_7 rfl 2 2 rfl rfl ?_
      refine v_icmp_ge C 26 dX1_rentsOf_8 (by decide) rfl (fun h9 => absurd h9 (nI_ge (by omega) (by omega))) (fun _ => ?_)
      refine v_iload_n C dX1_rentsOf_11 rfl 3 3 rfl rfl ?_
      refine v_aload_n C dX1_rentsOf_12 rfl 0 0 rfl rfl ?_
      refine v_iload C dX1_rentsOf_13 rfl 4 rfl ?_
      refine v_callVid C K (c_X1_rentOf l D ad cI cC cZ cQ _ (a + d) (by omega)) gX1_rentsOf_X1_rentOf rfl hd_X1_rentOf ⟨rfl, rfl⟩ ⟨Nat.le_of_ble_eq_true rfl, Nat.le_of_ble_eq_true rfl⟩ 1 rfl rfl rfl rfl rfl (Nat.le_of_ble_eq_true rfl) ⟨Nat.le_refl _, Nat.le_refl _⟩ dX1_rentsOf_15 rfl ?_
      refine v_iadd C dX1_rentsOf_18 rfl ?_
      refine v_top (sm9 (fun j => σ 0 (116 + (a + j))) (d + 1)) (rfl) ?_
      refine v_istore_n (lv' := [(3, _), (0, _), (1, _), (2, _), (4, _)]) C dX1_rentsOf_19 rfl 3 rfl (by decide) rfl ?_
      refine v_iinc (lv' := [(4, _), (3, _), (0, _), (1, _), (2, _)]) C dX1_rentsOf_20 rfl 4 rfl (inc9 _) (by decide) rfl ?_
      refine v_goto C 5 dX1_rentsOf_23 (by decide) ?_
      refine v_lv (lv' := [(0, _), (1, _), (2, _), (3, _), (4, _)]) [2, 3, 4, 1, 0] rfl ?_
      exact ih
    · skip
      refine v_iload C dX1_rentsOf_5 rfl 4 rfl ?_
      refine v_iload_n C dX1_rentsOf_7 rfl 2 2 rfl rfl ?_
      refine v_icmp_ge C 26 dX1_rentsOf_8 (by decide) rfl (fun _ => ?_) (fun h9 => absurd (nI_le (by omega) (by omega)) h9)
      refine v_iload_n C dX1_rentsOf_26 rfl 3 3 rfl rfl ?_
      exact hend (⟨rfl, rfl⟩) (rfl) dX1_rentsOf_27
  refine v_lv (lv' := [(0, _), (1, _), (2, _), (3, _), (4, _)]) [2, 3, 4, 1, 0] rfl ?_
  exact LP5 0 (Nat.zero_le _)
def hsM (σ : S9) (o s : Nat) : S9 := st9 (st9 σ (10 + (o + s) % 6) (va_cpy (σ 0) (σ (10 + (o + s) % 6)) 0 0 151)) 8 (if s < 6 then upd (σ 8) 1 (nI (s + 1)) else upd (σ 8) 0 (nI ((o + 1) % 6)))
def tbM (σ : S9) (o g : Nat) : S9 := st9 (st9 σ 8 (upd (σ 8) 1 (nI g))) 0 (va_cpy (σ (10 + (o + g) % 6)) (σ 0) 0 0 151)
set_option maxHeartbeats 4000000 in
set_option maxRecDepth 100000 in
theorem c_X2_size (l : Launch) (D : va_G) (ad : Nat → Nat) (cI cC cZ cQ : ClassId) (σ : S9)  : CMi l (cW ad cI cC cZ cQ) D (cTy cI cC cZ cQ) yX2_size wsX2_size ({ frames := 0, cells := 0, slots := 0, locals := 0 } : Room) [.ref (ad 10)] σ (fun r u => r = σ 8 1 ∧ u = σ) := by
  refine v_starti (own := RX2) (cc := cX2_size) (nL := 1) rfl (by decide) rfl (Nat.le_of_ble_eq_true rfl) ?_
  intro p e s m args below meth c A Q C K hend
  refine v_lv (lv' := [(0, .ref (ad 10))]) [0] rfl ?_
  refine v_aload_n C dX2_size_0 rfl 0 0 rfl rfl ?_
  refine v_get C K in_X2_size_X2 10 rfl rfl 2 (by decide) fl_X2_size_X2_2 rfl dX2_size_1 rfl ?_
  exact hend (⟨rfl, rfl⟩) (rfl) dX2_size_4
set_option maxHeartbeats 4000000 in
set_option maxRecDepth 100000 in
theorem c_X2_record (l : Launch) (D : va_G) (ad : Nat → Nat) (cI cC cZ cQ : ClassId) (σ : S9) (o : Nat) (ho : σ 8 0 = nI o) (ho6 : o < 6) (s9 : Nat) (hs : σ 8 1 = nI s9) (hs6 : s9 ≤ 6) : CMv l (cW ad cI cC cZ cQ) D (cTy cI cC cZ cQ) yX2_record wsX2_record ({ frames := 2, cells := 0, slots := 0, locals := 47 } : Room) [.ref (ad 10), .ref (ad 1)] σ (fun u => u = hsM σ o s9) := by
  refine v_startv (own := RX2) (cc := cX2_record) (nL := 2) rfl (by decide) rfl (Nat.le_of_ble_eq_true rfl) ?_
  intro p e s m args below meth c A Q C K hend
  refine v_lv (lv' := [(0, .ref (ad 10)), (1, .ref (ad 1))]) [0, 1] rfl ?_
  refine v_aload_n C dX2_record_0 rfl 1 1 rfl rfl ?_
  refine v_aload_n C dX2_record_1 rfl 0 0 rfl rfl ?_
  refine v_get C K in_X2_record_X2 10 rfl rfl 0 (by decide) fl_X2_record_X2_0 rfl dX2_record_2 rfl ?_
  refine v_aload_n C dX2_record_5 rfl 0 0 rfl rfl ?_
  refine v_get C K in_X2_record_X2 10 rfl rfl 1 (by decide) fl_X2_record_X2_1 rfl dX2_record_6 rfl ?_
  refine v_aload_n C dX2_record_9 rfl 0 0 rfl rfl ?_
  refine v_get C K in_X2_record_X2 10 rfl rfl 2 (by decide) fl_X2_record_X2_2 rfl dX2_record_10 rfl ?_
  refine v_iadd C dX2_record_13 rfl ?_
  refine v_bipush (v := 6) C dX2_record_14 rfl bp_6 ?_
  refine v_irem C dX2_record_16 rfl (by decide) ?_
  refine v_top (nI ((o + s9) % 6)) (by rw [ho, hs, nI_add]; exact pk_rem (by omega) (by decide) (by decide)) ?_
  refine v_aald C K rfl 11 3 rfl rfl ((o + s9) % 6) (rfl) (by omega) (by decide) (if_pos (by omega)) dX2_record_17 rfl ?_
  refine v_callVvd C K (c_X1_copyTo l D ad cI cC cZ cQ _ ((o + s9) % 6) (by omega)) gX2_record_X1_copyTo rfl hd_X1_copyTo ⟨rfl, rfl⟩ ⟨Nat.le_of_ble_eq_true rfl, Nat.le_of_ble_eq_true rfl⟩ 1 rfl rfl rfl rfl rfl (Nat.le_of_ble_eq_true rfl) ⟨Nat.le_refl _, Nat.le_refl _⟩ dX2_record_18 rfl ?_
  refine v_aload_n C dX2_record_21 rfl 0 0 rfl rfl ?_
  refine v_get C K in_X2_record_X2 10 rfl rfl 2 (by decide) fl_X2_record_X2_2 rfl dX2_record_22 rfl ?_
  refine v_top (nI s9) (by rw [st9_n _ _ (by omega), hs]) ?_
  refine v_bipush (v := 6) C dX2_record_25 rfl bp_6 ?_
  refine v_icmp_ge C 43 dX2_record_27 (by decide) rfl (fun h27 => ?_) (fun h27f => ?_)
  · skip
    have hn : ¬ s9 < 6 := fun q => absurd h27 (nI_ge (b := 6) q (by decide))
    refine v_aload_n C dX2_record_43 rfl 0 0 rfl rfl ?_
    refine v_aload_n C dX2_record_44 rfl 0 0 rfl rfl ?_
    refine v_get C K in_X2_record_X2 10 rfl rfl 1 (by decide) fl_X2_record_X2_1 rfl dX2_record_45 rfl ?_
    refine v_iconst (v := 1) C dX2_record_48 rfl ic_1 ?_
    refine v_iadd C dX2_record_49 rfl ?_
    refine v_bipush (v := 6) C dX2_record_50 rfl bp_6 ?_
    refine v_irem C dX2_record_52 rfl (by decide) ?_
    refine v_top (nI ((o + 1) % 6)) (by rw [st9_n _ _ (by omega), ho, show nI o + 1 = nI (o + 1) from nI_1 o]; exact pk_rem (by omega) (by decide) (by decide)) ?_
    refine v_put (ty := .int) C K _ in_X2_record_X2 tyX2_ok nmX2 10 rfl rfl 1 (by decide) fl_X2_record_X2_1 rfl (by decide +kernel) rfl rfl (Nat.le_of_ble_eq_true rfl) (cW_fX2_1 ad cI cC cZ cQ _ _) dX2_record_53 rfl ?_
    exact hend (by rw [hsM, if_neg hn, st9_n _ _ (by omega)]) dX2_record_56
  · skip
    have hn : s9 < 6 := by
      rcases Nat.lt_or_ge s9 6 with q | q
      · exact q
      · exact absurd (nI_le q (by omega)) h27f
    refine v_aload_n C dX2_record_30 rfl 0 0 rfl rfl ?_
    refine v_dup C dX2_record_31 rfl rfl ?_
    refine v_get C K in_X2_record_X2 10 rfl rfl 2 (by decide) fl_X2_record_X2_2 rfl dX2_record_32 rfl ?_
    refine v_iconst (v := 1) C dX2_record_35 rfl ic_1 ?_
    refine v_iadd C dX2_record_36 rfl ?_
    refine v_top (nI (s9 + 1)) (by rw [st9_n _ _ (by omega), hs]; exact nI_1 s9) ?_
    refine v_put (ty := .int) C K _ in_X2_record_X2 tyX2_ok nmX2 10 rfl rfl 2 (by decide) fl_X2_record_X2_2 rfl (by decide +kernel) rfl rfl (Nat.le_of_ble_eq_true rfl) (cW_fX2_2 ad cI cC cZ cQ _ _) dX2_record_37 rfl ?_
    refine v_goto C 56 dX2_record_40 (by decide) ?_
    exact hend (by rw [hsM, if_pos hn, st9_n _ _ (by omega)]) dX2_record_56

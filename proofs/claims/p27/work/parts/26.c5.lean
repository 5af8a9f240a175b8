set_option maxHeartbeats 4000000 in
set_option maxRecDepth 100000 in
theorem c_X4_isWithin (l : Launch) (v lo hi : Int32) : CPi l yX4_isWithin wsX4_isWithin ({ frames := 0, cells := 0, slots := 0, locals := 0 } : Room) [.int v, .int lo, .int hi] (fun r => r = p_in v lo hi) := by
  refine v_startP (own := RX4) (cc := cX4_isWithin) (nL := 3) ((fun _ => 0), (fun _ _ => 0)) rfl (by decide) rfl (Nat.le_of_ble_eq_true rfl) ?_
  intro p e s m args below meth c A Q C hend
  skip
  refine v_lv (lv' := [(0, .int v), (1, .int lo), (2, .int hi)]) [0, 1, 2] rfl ?_
  refine v_iload_n C dX4_isWithin_0 rfl 0 0 rfl rfl ?_
  refine v_iload_n C dX4_isWithin_1 rfl 1 1 rfl rfl ?_
  refine v_icmp_lt C 14 dX4_isWithin_2 (by decide) rfl (fun h2 => ?_) (fun h2 => ?_)
  · skip
    refine v_iconst (v := 0) C dX4_isWithin_14 rfl ic_0 ?_
    exact hend (by simp [p_in, h2]) (rfl) dX4_isWithin_15
  · skip
    refine v_iload_n C dX4_isWithin_5 rfl 0 0 rfl rfl ?_
    refine v_iload_n C dX4_isWithin_6 rfl 2 2 rfl rfl ?_
    refine v_icmp_gt C 14 dX4_isWithin_7 (by decide) rfl (fun h7 => ?_) (fun h7 => ?_)
    · skip
      refine v_iconst (v := 0) C dX4_isWithin_14 rfl ic_0 ?_
      exact hend (by simp [p_in, h2, h7]) (rfl) dX4_isWithin_15
    · skip
      refine v_iconst (v := 1) C dX4_isWithin_10 rfl ic_1 ?_
      refine v_goto C 15 dX4_isWithin_11 (by decide) ?_
      exact hend (by simp [p_in, h2, h7]) (rfl) dX4_isWithin_15
set_option maxHeartbeats 4000000 in
set_option maxRecDepth 100000 in
theorem c_X4_isDay (l : Launch) (d : Int32) : CPi l yX4_isDay wsX4_isDay ({ frames := 1, cells := 0, slots := 0, locals := 22 } : Room) [.int d] (fun r => r = p_in d 0 34) := by
  refine v_startP (own := RX4) (cc := cX4_isDay) (nL := 1) ((fun _ => 0), (fun _ _ => 0)) rfl (by decide) rfl (Nat.le_of_ble_eq_true rfl) ?_
  intro p e s m args below meth c A Q C hend
  skip
  refine v_lv (lv' := [(0, .int d)]) [0] rfl ?_
  refine v_iload_n C dX4_isDay_0 rfl 0 0 rfl rfl ?_
  refine v_iconst (v := 0) C dX4_isDay_1 rfl ic_0 ?_
  refine v_bipush (v := 34) C dX4_isDay_2 rfl bp_34 ?_
  refine v_callSpd C (c_X4_isWithin l _ _ _) gX4_isDay_X4_isWithin rfl hd_X4_isWithin.2 ⟨rfl, rfl⟩ ⟨Nat.le_of_ble_eq_true rfl, Nat.le_of_ble_eq_true rfl⟩ rfl rfl (Nat.le_of_ble_eq_true rfl) ⟨Nat.le_refl _, Nat.le_refl _⟩ dX4_isDay_4 rfl ?_
  exact hend (rfl) (p_in_nar _ _ _) dX4_isDay_7
set_option maxHeartbeats 4000000 in
set_option maxRecDepth 100000 in
theorem c_X4_isWeek (l : Launch) (d : Int32) : CPi l yX4_isWeek wsX4_isWeek ({ frames := 1, cells := 0, slots := 0, locals := 22 } : Room) [.int d] (fun r => r = p_in d 0 4) := by
  refine v_startP (own := RX4) (cc := cX4_isWeek) (nL := 1) ((fun _ => 0), (fun _ _ => 0)) rfl (by decide) rfl (Nat.le_of_ble_eq_true rfl) ?_
  intro p e s m args below meth c A Q C hend
  skip
  refine v_lv (lv' := [(0, .int d)]) [0] rfl ?_
  refine v_iload_n C dX4_isWeek_0 rfl 0 0 rfl rfl ?_
  refine v_iconst (v := 0) C dX4_isWeek_1 rfl ic_0 ?_
  refine v_iconst (v := 4) C dX4_isWeek_2 rfl ic_4 ?_
  refine v_callSpd C (c_X4_isWithin l _ _ _) gX4_isWeek_X4_isWithin rfl hd_X4_isWithin.2 ⟨rfl, rfl⟩ ⟨Nat.le_of_ble_eq_true rfl, Nat.le_of_ble_eq_true rfl⟩ rfl rfl (Nat.le_of_ble_eq_true rfl) ⟨Nat.le_refl _, Nat.le_refl _⟩ dX4_isWeek_3 rfl ?_
  exact hend (rfl) (p_in_nar _ _ _) dX4_isWeek_6
set_option maxHeartbeats 4000000 in
set_option maxRecDepth 100000 in
theorem c_X4_isPlace (l : Launch) (d q : Int32) : CPi l yX4_isPlace wsX4_isPlace ({ frames := 2, cells := 0, slots := 0, locals := 42 } : Room) [.int d, .int q] (fun r => r = p_part d q) := by
  refine v_startP (own := RX4) (cc := cX4_isPlace) (nL := 2) ((fun _ => 0), (fun _ _ => 0)) rfl (by decide) rfl (Nat.le_of_ble_eq_true rfl) ?_
  intro p e s m args below meth c A Q C hend
  skip
  refine v_lv (lv' := [(0, .int d), (1, .int q)]) [0, 1] rfl ?_
  refine v_iload_n C dX4_isPlace_0 rfl 0 0 rfl rfl ?_
  refine v_callSpd C (c_X4_isDay l _) gX4_isPlace_X4_isDay rfl hd_X4_isDay.2 ⟨rfl, rfl⟩ ⟨Nat.le_of_ble_eq_true rfl, Nat.le_of_ble_eq_true rfl⟩ rfl rfl (Nat.le_of_ble_eq_true rfl) ⟨Nat.le_refl _, Nat.le_refl _⟩ dX4_isPlace_1 rfl ?_
  refine v_if_eq C 20 dX4_isPlace_4 (by decide) rfl (fun h4 => ?_) (fun h4 => ?_)
  · skip
    refine v_iconst (v := 0) C dX4_isPlace_20 rfl ic_0 ?_
    exact hend (by simp [p_part, h4]) (rfl) dX4_isPlace_21
  · skip
    refine v_iload_n C dX4_isPlace_7 rfl 1 1 rfl rfl ?_
    refine v_iconst (v := 0) C dX4_isPlace_8 rfl ic_0 ?_
    refine v_iconst (v := 1) C dX4_isPlace_9 rfl ic_1 ?_
    refine v_callSpd C (c_X4_isWithin l _ _ _) gX4_isPlace_X4_isWithin rfl hd_X4_isWithin.2 ⟨rfl, rfl⟩ ⟨Nat.le_of_ble_eq_true rfl, Nat.le_of_ble_eq_true rfl⟩ rfl rfl (Nat.le_of_ble_eq_true rfl) ⟨Nat.le_refl _, Nat.le_refl _⟩ dX4_isPlace_10 rfl ?_
    refine v_if_eq C 20 dX4_isPlace_13 (by decide) rfl (fun h13 => ?_) (fun h13 => ?_)
    · skip
      refine v_iconst (v := 0) C dX4_isPlace_20 rfl ic_0 ?_
      exact hend (by simp [p_part, h4, h13]) (rfl) dX4_isPlace_21
    · skip
      refine v_iconst (v := 1) C dX4_isPlace_16 rfl ic_1 ?_
      refine v_goto C 21 dX4_isPlace_17 (by decide) ?_
      exact hend (by simp [p_part, h4, h13]) (rfl) dX4_isPlace_21
set_option maxHeartbeats 4000000 in
set_option maxRecDepth 100000 in
theorem c_X4_placeOf (l : Launch) (d q : Nat) : CPi l yX4_placeOf wsX4_placeOf ({ frames := 0, cells := 0, slots := 0, locals := 0 } : Room) [.int (nI d), .int (nI q)] (fun r => r = nI (2 * d + q)) := by
  refine v_startP (own := RX4) (cc := cX4_placeOf) (nL := 2) ((fun _ => 0), (fun _ _ => 0)) rfl (by decide) rfl (Nat.le_of_ble_eq_true rfl) ?_
  intro p e s m args below meth c A Q C hend
  skip
  refine v_lv (lv' := [(0, .int (nI d)), (1, .int (nI q))]) [0, 1] rfl ?_
  refine v_iload_n C dX4_placeOf_0 rfl 0 0 rfl rfl ?_
  refine v_iconst (v := 2) C dX4_placeOf_1 rfl ic_2 ?_
  refine v_imul C dX4_placeOf_2 rfl ?_
  refine v_iload_n C dX4_placeOf_3 rfl 1 1 rfl rfl ?_
  refine v_iadd C dX4_placeOf_4 rfl ?_
  exact hend (by simp only [lit9, pk_mul, nI_add]; congr 1; omega) (rfl) dX4_placeOf_5
/-- but for what is followed, nothing is different -/
def cc9 (σ u : S9) : Prop := ∀ i, (i = 0 ∨ 5 < i) → u i = σ i
theorem cc9_rf (σ : S9) : cc9 σ σ := fun _ _ => rfl
theorem cc9_tr {a b c : S9} (h : cc9 a b) (k : cc9 b c) : cc9 a c := fun i hi => (k i hi).trans (h i hi)
theorem cc9_0 {σ u : S9} (h : cc9 σ u) : u 0 = σ 0 := h 0 (Or.inl rfl)
theorem has_in {r : Nat → Int32} {n : Nat} (hw : wfS r n) (x : Int32) : c_has r x = p_in x 0 (r 5 - 1) := by
  unfold c_has p_in
  by_cases h1 : x < 0
  · rw [if_pos h1, if_pos h1]
  · rw [if_neg h1, if_neg h1, hw.1]
    obtain ⟨j, hj, rfl⟩ := nI_of h1
    rcases Nat.eq_zero_or_pos n with h0 | h0
    · subst h0
      rw [if_pos (nI_le (Nat.zero_le j) hj), if_pos]
      have : (nI 0 - 1) < 0 := by decide
      exact Int32.lt_of_lt_of_le this (nI_pos' hj)
    · have hn := hw.2.1
      rw [show nI n - 1 = nI (n - 1) by have := nI_pred (n - 1); rwa [Nat.sub_add_cancel h0] at this]
      by_cases q : n ≤ j
      · rw [if_pos (nI_le q hj), if_pos (nI_lt (by omega) hj)]
      · rw [if_neg (nI_ge (by omega) (by omega)), if_neg (nI_nlt (by omega) (by omega))]
theorem can_show {r : Nat → Int32} {n : Nat} (hw : wfH r n) {d f : Nat} (hd : d < 35) (hf : f < n) : c_can r d (nI f) = p_canShow r f d := by
  obtain ⟨v, hv, ev⟩ := hw.2.2 d hd
  have hn := hw.1.2.1
  unfold c_can p_canShow p_let
  rw [c_has_nI hw.1.1 hn hf, if_neg (show ¬ (1 : Int32) = 0 by decide), nI_cl (show f < 100000 by omega), ev]
  by_cases q : v = 0
  · subst q
    rw [if_neg (show ¬ ¬ nI 0 = 0 from fun z => z rfl), if_pos (show nI 0 ≤ 0 by decide), if_neg (show ¬ ¬ (0 : Int32) = 0 from fun z => z rfl)]
  · rw [if_pos (nI_ne0 (by omega) (by omega)), if_neg (nI_nle (by omega) (by omega)), if_pos (by decide)]
theorem can_be {r : Nat → Int32} {n : Nat} (hw : wfH r n) {d : Nat} (hd : d < 35) {x : Int32} (hx : x = -6 ∨ ∃ f : Nat, f < n ∧ x = nI f) : c_can r d x = p_canBe r x d := by
  obtain ⟨v, hv, ev⟩ := hw.2.2 d hd
  have hn := hw.1.2.1
  unfold c_can p_canBe p_let
  rw [ev]
  by_cases q : v = 0
  · subst q
    rw [if_neg (show ¬ ¬ nI 0 = 0 from fun z => z rfl), if_pos (show nI 0 ≤ 0 by decide), if_neg (show ¬ ¬ (0 : Int32) = 0 from fun z => z rfl)]
    rcases hx with rfl | ⟨f, hf, rfl⟩
    · rw [c_has_6, if_pos rfl, if_pos rfl]
    · rw [c_has_nI hw.1.1 hn hf, if_neg (show ¬ (1 : Int32) = 0 by decide), if_neg (nI_ne6 (by omega))]
  · rw [if_pos (nI_ne0 (by omega) (by omega)), if_neg (nI_nle (by omega) (by omega)), if_pos (by decide)]
set_option maxHeartbeats 4000000 in
set_option maxRecDepth 100000 in
theorem c_X4_errorOfShow (l : Launch) (D : va_G) (ad : Nat → Nat) (cI cC cZ cQ : ClassId) (σ : S9) (n : Nat) (hw : wfH (σ 0) n) (f d q : Int32) : CMi l (cW ad cI cC cZ cQ) D (cTy cI cC cZ cQ) yX4_errorOfShow wsX4_errorOfShow ({ frames := 3, cells := 0, slots := 0, locals := 63 } : Room) [.ref (ad 0), .int f, .int d, .int q] σ (fun r u => r = p_why (σ 0) f d q ∧ u = σ) := by
  refine v_starti (own := RX4) (cc := cX4_errorOfShow) (nL := 4) rfl (by decide) rfl (Nat.le_of_ble_eq_true rfl) ?_
  intro p e s m args below meth c A Q C K hend
  refine v_lv (lv' := [(0, .ref (ad 0)), (1, .int f), (2, .int d), (3, .int q)]) [0, 1, 2, 3] rfl ?_
  refine v_aload_n C dX4_errorOfShow_0 rfl 0 0 rfl rfl ?_
  refine v_get C K in_X4_errorOfShow_X4 0 rfl rfl 0 (by decide) fl_X4_errorOfShow_X4_0 rfl dX4_errorOfShow_1 rfl ?_
  refine v_iload_n C dX4_errorOfShow_4 rfl 1 1 rfl rfl ?_
  refine v_callVid C K (c_X1_hasFilm l D ad cI cC cZ cQ _ _) gX4_errorOfShow_X1_hasFilm rfl hd_X1_hasFilm ⟨rfl, rfl⟩ ⟨Nat.le_of_ble_eq_true rfl, Nat.le_of_ble_eq_true rfl⟩ 1 rfl rfl rfl rfl rfl (Nat.le_of_ble_eq_true rfl) ⟨Nat.le_refl _, Nat.le_refl _⟩ dX4_errorOfShow_5 rfl ?_
  refine v_top (p_in f 0 (σ 0 5 - 1)) (has_in hw.1 f) ?_
  refine v_if_ne C 13 dX4_errorOfShow_8 (by decide) rfl (fun h8 => ?_) (fun h8 => ?_)
  · skip
    refine v_iload_n C dX4_errorOfShow_13 rfl 2 2 rfl rfl ?_
    refine v_iload_n C dX4_errorOfShow_14 rfl 3 3 rfl rfl ?_
    refine v_callSpd C (c_X4_isPlace l _ _) gX4_errorOfShow_X4_isPlace rfl hd_X4_isPlace.2 ⟨rfl, rfl⟩ ⟨Nat.le_of_ble_eq_true rfl, Nat.le_of_ble_eq_true rfl⟩ rfl rfl (Nat.le_of_ble_eq_true rfl) ⟨Nat.le_refl _, Nat.le_refl _⟩ dX4_errorOfShow_15 rfl ?_
    refine v_if_ne C 24 dX4_errorOfShow_18 (by decide) rfl (fun h18 => ?_) (fun h18 => ?_)
    · skip
      obtain ⟨f, hf, rfl⟩ := p_film_ne hw.1.1 hw.1.2.1 h8
      obtain ⟨d, q, hd, hq, rfl, rfl⟩ := p_part_ne h18
      have ecd : (nI d).toNatClampNeg = d := nI_cl (by omega)
      have ecf : (nI f).toNatClampNeg = f := nI_cl (by have := hw.1.2.1; omega)
      refine v_aload_n C dX4_errorOfShow_24 rfl 0 0 rfl rfl ?_
      refine v_get C K in_X4_errorOfShow_X4 0 rfl rfl 0 (by decide) fl_X4_errorOfShow_X4_0 rfl dX4_errorOfShow_25 rfl ?_
      refine v_iload_n C dX4_errorOfShow_28 rfl 2 2 rfl rfl ?_
      refine v_iload_n C dX4_errorOfShow_29 rfl 1 1 rfl rfl ?_
      refine v_callVid C K (c_X1_canHold l D ad cI cC cZ cQ _ n hw.1 d hd _) gX4_errorOfShow_X1_canHold rfl hd_X1_canHold ⟨rfl, rfl⟩ ⟨Nat.le_of_ble_eq_true rfl, Nat.le_of_ble_eq_true rfl⟩ 1 rfl rfl rfl rfl rfl (Nat.le_of_ble_eq_true rfl) ⟨Nat.le_refl _, Nat.le_refl _⟩ dX4_errorOfShow_30 rfl ?_
      refine v_top (p_canShow (σ 0) f d) (can_show hw hd hf) ?_
      refine v_if_eq C 40 dX4_errorOfShow_33 (by decide) rfl (fun h33 => ?_) (fun h33 => ?_)
      · skip
        refine v_bipush (v := -5) C dX4_errorOfShow_40 rfl bp_m5 ?_
        exact hend (⟨by simp [p_why, h8, h18, h33, ecd, ecf], rfl⟩) (rfl) dX4_errorOfShow_42
      · skip
        refine v_iconst (v := 0) C dX4_errorOfShow_36 rfl ic_0 ?_
        refine v_goto C 42 dX4_errorOfShow_37 (by decide) ?_
        exact hend (⟨by simp [p_why, h8, h18, h33, ecd, ecf], rfl⟩) (rfl) dX4_errorOfShow_42
    · skip
      refine v_bipush (v := -2) C dX4_errorOfShow_21 rfl bp_m2 ?_
      exact hend (⟨by simp [p_why, h8, h18], rfl⟩) (rfl) dX4_errorOfShow_23
  · skip
    refine v_iconst (v := -1) C dX4_errorOfShow_11 rfl ic_m1 ?_
    exact hend (⟨by simp [p_why, h8], rfl⟩) (rfl) dX4_errorOfShow_12
def c_sum (r : Nat → Int32) (c f : Nat) : Int32 := sm9 (c_X r c f) 5
theorem sum_J {r : Nat → Int32} {f c : Nat} {σ u : S9} (h : foE r f σ u) (hc : c < 5) : sm9 (fun w => u 3 (5 * w + c)) 5 = c_sum r c f := sm9_congr (fun w hw => FS_c (h.2.2.1 w hw) hc)
set_option maxHeartbeats 4000000 in
set_option maxRecDepth 100000 in
theorem c_X4_sumOfFilm (l : Launch) (D : va_G) (ad : Nat → Nat) (cI cC cZ cQ : ClassId) (σ : S9) (n : Nat) (hw : wfH (σ 0) n) (f : Nat) (hf : f < n) (c9 : Nat) (hc : c9 < 5) : CMi l (cW ad cI cC cZ cQ) D (cTy cI cC cZ cQ) yX4_sumOfFilm wsX4_sumOfFilm ({ frames := 4, cells := 0, slots := 0, locals := 99 } : Room) [.ref (ad 0), .int (nI f), .int (nI c9)] σ (fun r u => r = c_sum (σ 0) c9 f ∧ cc9 σ u) := by
  refine v_starti (own := RX4) (cc := cX4_sumOfFilm) (nL := 3) rfl (by decide) rfl (Nat.le_of_ble_eq_true rfl) ?_
  intro p e s m args below meth c A Q C K hend
  refine v_lv (lv' := [(0, .ref (ad 0)), (1, .int (nI f)), (2, .int (nI c9))]) [0, 1, 2] rfl ?_
  refine v_aload_n C dX4_sumOfFilm_0 rfl 0 0 rfl rfl ?_
  refine v_get C K in_X4_sumOfFilm_X4 0 rfl rfl 1 (by decide) fl_X4_sumOfFilm_X4_1 rfl dX4_sumOfFilm_1 rfl ?_
  refine v_aload_n C dX4_sumOfFilm_4 rfl 0 0 rfl rfl ?_
  refine v_get C K in_X4_sumOfFilm_X4 0 rfl rfl 0 (by decide) fl_X4_sumOfFilm_X4_0 rfl dX4_sumOfFilm_5 rfl ?_
  refine v_iload_n C dX4_sumOfFilm_8 rfl 1 1 rfl rfl ?_
  refine v_callVv C K (c_X0_follow l D ad cI cC cZ cQ _ n hw f hf) gX4_sumOfFilm_X0_follow rfl hd_X0_follow ⟨rfl, rfl⟩ ⟨Nat.le_of_ble_eq_true rfl, Nat.le_of_ble_eq_true rfl⟩ 3 rfl rfl rfl rfl rfl (Nat.le_of_ble_eq_true rfl) ⟨Nat.le_refl _, Nat.le_refl _⟩ dX4_sumOfFilm_9 rfl (fun u9 hc9 => ?_)
  have hE := hc9
  have hs : cc9 σ u9 := hE.1
  clear hc9
  refine v_aload_n C dX4_sumOfFilm_12 rfl 0 0 rfl rfl ?_
  refine v_get C K in_X4_sumOfFilm_X4 0 rfl rfl 1 (by decide) fl_X4_sumOfFilm_X4_1 rfl dX4_sumOfFilm_13 rfl ?_
  refine v_iload_n C dX4_sumOfFilm_16 rfl 2 2 rfl rfl ?_
  refine v_callVid C K (c_X0_sum l D ad cI cC cZ cQ _ c9 hc) gX4_sumOfFilm_X0_sum rfl hd_X0_sum ⟨rfl, rfl⟩ ⟨Nat.le_of_ble_eq_true rfl, Nat.le_of_ble_eq_true rfl⟩ 3 rfl rfl rfl rfl rfl (Nat.le_of_ble_eq_true rfl) ⟨Nat.le_refl _, Nat.le_refl _⟩ dX4_sumOfFilm_17 rfl ?_
  exact hend (⟨sum_J hE hc, hs⟩) (rfl) dX4_sumOfFilm_20
set_option maxHeartbeats 4000000 in
set_option maxRecDepth 100000 in
theorem c_X4_sumOfFilms (l : Launch) (D : va_G) (ad : Nat → Nat) (cI cC cZ cQ : ClassId) (σ : S9) (n : Nat) (hw : wfH (σ 0) n) (c9 : Nat) (hc : c9 < 5) : CMi l (cW ad cI cC cZ cQ) D (cTy cI cC cZ cQ) yX4_sumOfFilms wsX4_sumOfFilms ({ frames := 5, cells := 0, slots := 0, locals := 121 } : Room) [.ref (ad 0), .int (nI c9)] σ (fun r u => r = sm9 (c_sum (σ 0) c9) n ∧ cc9 σ u) := by
  refine v_starti (own := RX4) (cc := cX4_sumOfFilms) (nL := 4) rfl (by decide) rfl (Nat.le_of_ble_eq_true rfl) ?_
  intro p e s m args below meth c A Q C K hend
  refine v_lv (lv' := [(0, .ref (ad 0)), (1, .int (nI c9))]) [0, 1] rfl ?_
  refine v_iconst (v := 0) C dX4_sumOfFilms_0 rfl ic_0 ?_
  refine v_istore_n (lv' := [(2, _), (0, _), (1, _)]) C dX4_sumOfFilms_1 rfl 2 rfl (by decide) rfl ?_
  refine v_iconst (v := 0) C dX4_sumOfFilms_2 rfl ic_0 ?_
  refine v_istore_n (lv' := [(3, _), (2, _), (0, _), (1, _)]) C dX4_sumOfFilms_3 rfl 3 rfl (by decide) rfl ?_
  have LP4 : ∀ f, f ≤ n → ∀ u : S9, cc9 σ u → VV p l e ({ frames := 5, cells := 0, slots := 0, locals := 121 } : Room) s m args below meth c 0 0 Q (cW ad cI cC cZ cQ) D A s.heap 4 u 4 [(0, .ref (ad 0)), (1, .int (nI c9)), (2, .int (sm9 (c_sum (σ 0) c9) f)), (3, .int (nI f))] [] := by
    refine lpB9 (fun f => ∀ u : S9, cc9 σ u → VV p l e ({ frames := 5, cells := 0, slots := 0, locals := 121 } : Room) s m args below meth c 0 0 Q (cW ad cI cC cZ cQ) D A s.heap 4 u 4 [(0, .ref (ad 0)), (1, .int (nI c9)), (2, .int (sm9 (c_sum (σ 0) c9) f)), (3, .int (nI f))] []) n (fun f hf ih => ?_) ?_
    · intro u hs
      refine v_iload_n C dX4_sumOfFilms_4 rfl 3 3 rfl rfl ?_
      refine v_aload_n C dX4_sumOfFilms_5 rfl 0 0 rfl rfl ?_
      refine v_get C K in_X4_sumOfFilms_X4 0 rfl rfl 0 (by decide) fl_X4_sumOfFilms_X4_0 rfl dX4_sumOfFilms_6 rfl ?_
      refine v_callVid C K (c_X1_films l D ad cI cC cZ cQ _) gX4_sumOfFilms_X1_films rfl hd_X1_films ⟨rfl, rfl⟩ ⟨Nat.le_of_ble_eq_true rfl, Nat.le_of_ble_eq_true rfl⟩ 1 rfl rfl rfl rfl rfl (Nat.le_of_ble_eq_true rfl) ⟨Nat.le_refl _, Nat.le_refl _⟩ dX4_sumOfFilms_9 rfl ?_
      refine v_top (nI n) (by rw [cc9_0 hs]; exact hw.1.1) ?_
      refine v_icmp_ge C 30 dX4_sumOfFilms_12 (by decide) rfl (fun h9 => absurd h9 (nI_ge hf (by have := hw.1.2.1; omega))) (fun _ => ?_)
      refine v_iload_n C dX4_sumOfFilms_15 rfl 2 2 rfl rfl ?_
      refine v_aload_n C dX4_sumOfFilms_16 rfl 0 0 rfl rfl ?_
      refine v_iload_n C dX4_sumOfFilms_17 rfl 3 3 rfl rfl ?_
      refine v_iload_n C dX4_sumOfFilms_18 rfl 1 1 rfl rfl ?_
      refine v_callVi C K (c_X4_sumOfFilm l D ad cI cC cZ cQ _ n (by rw [cc9_0 hs]; exact hw) f hf c9 hc) gX4_sumOfFilms_X4_sumOfFilm rfl hd_X4_sumOfFilm ⟨rfl, rfl⟩ ⟨Nat.le_of_ble_eq_true rfl, Nat.le_of_ble_eq_true rfl⟩ 0 rfl rfl rfl rfl rfl (Nat.le_of_ble_eq_true rfl) ⟨Nat.le_refl _, Nat.le_refl _⟩ dX4_sumOfFilms_19 rfl (fun r19 u19 hc19 => ?_)
      obtain ⟨rfl, hs19⟩ := hc19
      rw [cc9_0 hs]
      replace hs19 := cc9_tr hs hs19
      refine v_iadd C dX4_sumOfFilms_22 rfl ?_
      refine v_top (sm9 (c_sum (σ 0) c9) (f + 1)) (rfl) ?_
      refine v_istore_n (lv' := [(2, _), (0, _), (1, _), (3, _)]) C dX4_sumOfFilms_23 rfl 2 rfl (by decide) rfl ?_
      refine v_iinc (lv' := [(3, _), (2, _), (0, _), (1, _)]) C dX4_sumOfFilms_24 rfl 3 rfl (inc9 _) (by decide) rfl ?_
      refine v_goto C 4 dX4_sumOfFilms_27 (by decide) ?_
      refine v_lv (lv' := [(0, _), (1, _), (2, _), (3, _)]) [2, 3, 1, 0] rfl ?_
      exact ih _ hs19
    · intro u hs
      refine v_iload_n C dX4_sumOfFilms_4 rfl 3 3 rfl rfl ?_
      refine v_aload_n C dX4_sumOfFilms_5 rfl 0 0 rfl rfl ?_
      refine v_get C K in_X4_sumOfFilms_X4 0 rfl rfl 0 (by decide) fl_X4_sumOfFilms_X4_0 rfl dX4_sumOfFilms_6 rfl ?_
      refine v_callVid C K (c_X1_films l D ad cI cC cZ cQ _) gX4_sumOfFilms_X1_films rfl hd_X1_films ⟨rfl, rfl⟩ ⟨Nat.le_of_ble_eq_true rfl, Nat.le_of_ble_eq_true rfl⟩ 1 rfl rfl rfl rfl rfl (Nat.le_of_ble_eq_true rfl) ⟨Nat.le_refl _, Nat.le_refl _⟩ dX4_sumOfFilms_9 rfl ?_
      refine v_top (nI n) (by rw [cc9_0 hs]; exact hw.1.1) ?_
      refine v_icmp_ge C 30 dX4_sumOfFilms_12 (by decide) rfl (fun _ => ?_) (fun h9 => absurd (nI_le (Nat.le_refl _) (by have := hw.1.2.1; omega)) h9)
      refine v_iload_n C dX4_sumOfFilms_30 rfl 2 2 rfl rfl ?_
      exact hend (⟨rfl, hs⟩) (rfl) dX4_sumOfFilms_31
  refine v_lv (lv' := [(0, _), (1, _), (2, _), (3, _)]) [2, 3, 1, 0] rfl ?_
  exact LP4 0 (Nat.zero_le _) σ (cc9_rf σ)
set_option maxHeartbeats 4000000 in
set_option maxRecDepth 100000 in
theorem c_X4_sumOfFilmsInWeek (l : Launch) (D : va_G) (ad : Nat → Nat) (cI cC cZ cQ : ClassId) (σ : S9) (n : Nat) (hw : wfH (σ 0) n) (w9 : Nat) (hw9 : w9 < 5) (c9 : Nat) (hc : c9 < 5) : CMi l (cW ad cI cC cZ cQ) D (cTy cI cC cZ cQ) yX4_sumOfFilmsInWeek wsX4_sumOfFilmsInWeek ({ frames := 4, cells := 0, slots := 0, locals := 99 } : Room) [.ref (ad 0), .int (nI w9), .int (nI c9)] σ (fun r u => r = sm9 (fun f => c_X (σ 0) c9 f w9) n ∧ cc9 σ u) := by
  refine v_starti (own := RX4) (cc := cX4_sumOfFilmsInWeek) (nL := 5) rfl (by decide) rfl (Nat.le_of_ble_eq_true rfl) ?_
  intro p e s m args below meth c A Q C K hend
  refine v_lv (lv' := [(0, .ref (ad 0)), (1, .int (nI w9)), (2, .int (nI c9))]) [0, 1, 2] rfl ?_
  refine v_iconst (v := 0) C dX4_sumOfFilmsInWeek_0 rfl ic_0 ?_
  refine v_istore_n (lv' := [(3, _), (0, _), (1, _), (2, _)]) C dX4_sumOfFilmsInWeek_1 rfl 3 rfl (by decide) rfl ?_
  refine v_iconst (v := 0) C dX4_sumOfFilmsInWeek_2 rfl ic_0 ?_
  refine v_istore (lv' := [(4, _), (3, _), (0, _), (1, _), (2, _)]) C dX4_sumOfFilmsInWeek_3 rfl (by decide) rfl ?_
  have LP5 : ∀ f, f ≤ n → ∀ u : S9, cc9 σ u → VV p l e ({ frames := 4, cells := 0, slots := 0, locals := 99 } : Room) s m args below meth c 0 0 Q (cW ad cI cC cZ cQ) D A s.heap 5 u 5 [(0, .ref (ad 0)), (1, .int (nI w9)), (2, .int (nI c9)), (3, .int (sm9 (fun f => c_X (σ 0) c9 f w9) f)), (4, .int (nI f))] [] := by
    refine lpB9 (fun f => ∀ u : S9, cc9 σ u → VV p l e ({ frames := 4, cells := 0, slots := 0, locals := 99 } : Room) s m args below meth c 0 0 Q (cW ad cI cC cZ cQ) D A s.heap 5 u 5 [(0, .ref (ad 0)), (1, .int (nI w9)), (2, .int (nI c9)), (3, .int (sm9 (fun f => c_X (σ 0) c9 f w9) f)), (4, .int (nI f))] []) n (fun f hf ih => ?_) ?_
    · intro u hs
      refine v_iload C dX4_sumOfFilmsInWeek_5 rfl 4 rfl ?_
      refine v_aload_n C dX4_sumOfFilmsInWeek_7 rfl 0 0 rfl rfl ?_
      refine v_get C K in_X4_sumOfFilmsInWeek_X4 0 rfl rfl 0 (by decide) fl_X4_sumOfFilmsInWeek_X4_0 rfl dX4_sumOfFilmsInWeek_8 rfl ?_
      refine v_callVid C K (c_X1_films l D ad cI cC cZ cQ _) gX4_sumOfFilmsInWeek_X1_films rfl hd_X1_films ⟨rfl, rfl⟩ ⟨Nat.le_of_ble_eq_true rfl, Nat.le_of_ble_eq_true rfl⟩ 1 rfl rfl rfl rfl rfl (Nat.le_of_ble_eq_true rfl) ⟨Nat.le_refl _, Nat.le_refl _⟩ dX4_sumOfFilmsInWeek_11 rfl ?_
      refine v_top (nI n) (by rw [cc9_0 hs]; exact hw.1.1) ?_
      refine v_icmp_ge C 48 dX4_sumOfFilmsInWeek_14 (by decide) rfl (fun h9 => absurd h9 (nI_ge hf (by have := hw.1.2.1; omega))) (fun _ => ?_)
      refine v_aload_n C dX4_sumOfFilmsInWeek_17 rfl 0 0 rfl rfl ?_
      refine v_get C K in_X4_sumOfFilmsInWeek_X4 0 rfl rfl 1 (by decide) fl_X4_sumOfFilmsInWeek_X4_1 rfl dX4_sumOfFilmsInWeek_18 rfl ?_
      refine v_aload_n C dX4_sumOfFilmsInWeek_21 rfl 0 0 rfl rfl ?_
      refine v_get C K in_X4_sumOfFilmsInWeek_X4 0 rfl rfl 0 (by decide) fl_X4_sumOfFilmsInWeek_X4_0 rfl dX4_sumOfFilmsInWeek_22 rfl ?_
      refine v_iload C dX4_sumOfFilmsInWeek_25 rfl 4 rfl ?_
      refine v_callVv C K (c_X0_follow l D ad cI cC cZ cQ _ n (by rw [cc9_0 hs]; exact hw) f hf) gX4_sumOfFilmsInWeek_X0_follow rfl hd_X0_follow ⟨rfl, rfl⟩ ⟨Nat.le_of_ble_eq_true rfl, Nat.le_of_ble_eq_true rfl⟩ 3 rfl rfl rfl rfl rfl (Nat.le_of_ble_eq_true rfl) ⟨Nat.le_refl _, Nat.le_refl _⟩ dX4_sumOfFilmsInWeek_27 rfl (fun u27 hc27 => ?_)
      have hE := hc27
      rw [cc9_0 hs] at hE
      replace hs : cc9 σ u27 := cc9_tr hs hE.1
      clear hc27
      refine v_iload_n C dX4_sumOfFilmsInWeek_30 rfl 3 3 rfl rfl ?_
      refine v_aload_n C dX4_sumOfFilmsInWeek_31 rfl 0 0 rfl rfl ?_
      refine v_get C K in_X4_sumOfFilmsInWeek_X4 0 rfl rfl 1 (by decide) fl_X4_sumOfFilmsInWeek_X4_1 rfl dX4_sumOfFilmsInWeek_32 rfl ?_
      refine v_iload_n C dX4_sumOfFilmsInWeek_35 rfl 1 1 rfl rfl ?_
      refine v_iload_n C dX4_sumOfFilmsInWeek_36 rfl 2 2 rfl rfl ?_
      refine v_callVid C K (c_X0_sumOfWeek l D ad cI cC cZ cQ _ w9 c9 hw9 hc) gX4_sumOfFilmsInWeek_X0_sumOfWeek rfl hd_X0_sumOfWeek ⟨rfl, rfl⟩ ⟨Nat.le_of_ble_eq_true rfl, Nat.le_of_ble_eq_true rfl⟩ 3 rfl rfl rfl rfl rfl (Nat.le_of_ble_eq_true rfl) ⟨Nat.le_refl _, Nat.le_refl _⟩ dX4_sumOfFilmsInWeek_37 rfl ?_
      refine v_top (c_X (σ 0) c9 f w9) (FS_c (hE.2.2.1 w9 hw9) hc) ?_
      refine v_iadd C dX4_sumOfFilmsInWeek_40 rfl ?_
      refine v_top (sm9 (fun f => c_X (σ 0) c9 f w9) (f + 1)) (rfl) ?_
      refine v_istore_n (lv' := [(3, _), (0, _), (1, _), (2, _), (4, _)]) C dX4_sumOfFilmsInWeek_41 rfl 3 rfl (by decide) rfl ?_
      refine v_iinc (lv' := [(4, _), (3, _), (0, _), (1, _), (2, _)]) C dX4_sumOfFilmsInWeek_42 rfl 4 rfl (inc9 _) (by decide) rfl ?_
      refine v_goto C 5 dX4_sumOfFilmsInWeek_45 (by decide) ?_
      refine v_lv (lv' := [(0, _), (1, _), (2, _), (3, _), (4, _)]) [2, 3, 4, 1, 0] rfl ?_
      exact ih _ hs
    · intro u hs
      refine v_iload C dX4_sumOfFilmsInWeek_5 rfl 4 rfl ?_
      refine v_aload_n C dX4_sumOfFilmsInWeek_7 rfl 0 0 rfl rfl ?_
      refine v_get C K in_X4_sumOfFilmsInWeek_X4 0 rfl rfl 0 (by decide) fl_X4_sumOfFilmsInWeek_X4_0 rfl dX4_sumOfFilmsInWeek_8 rfl ?_
      refine v_callVid C K (c_X1_films l D ad cI cC cZ cQ _) gX4_sumOfFilmsInWeek_X1_films rfl hd_X1_films ⟨rfl, rfl⟩ ⟨Nat.le_of_ble_eq_true rfl, Nat.le_of_ble_eq_true rfl⟩ 1 rfl rfl rfl rfl rfl (Nat.le_of_ble_eq_true rfl) ⟨Nat.le_refl _, Nat.le_refl _⟩ dX4_sumOfFilmsInWeek_11 rfl ?_
      refine v_top (nI n) (by rw [cc9_0 hs]; exact hw.1.1) ?_
      refine v_icmp_ge C 48 dX4_sumOfFilmsInWeek_14 (by decide) rfl (fun _ => ?_) (fun h9 => absurd (nI_le (Nat.le_refl _) (by have := hw.1.2.1; omega)) h9)
      refine v_iload_n C dX4_sumOfFilmsInWeek_48 rfl 3 3 rfl rfl ?_
      exact hend (⟨rfl, hs⟩) (rfl) dX4_sumOfFilmsInWeek_49
  refine v_lv (lv' := [(0, _), (1, _), (2, _), (3, _), (4, _)]) [2, 3, 4, 1, 0] rfl ?_
  exact LP5 0 (Nat.zero_le _) σ (cc9_rf σ)
set_option maxHeartbeats 4000000 in
set_option maxRecDepth 100000 in
theorem c_X4_fullShows (l : Launch) (D : va_G) (ad : Nat → Nat) (cI cC cZ cQ : ClassId) (σ : S9) (n : Nat) (hw : wfH (σ 0) n) : CMi l (cW ad cI cC cZ cQ) D (cTy cI cC cZ cQ) yX4_fullShows wsX4_fullShows ({ frames := 4, cells := 0, slots := 0, locals := 99 } : Room) [.ref (ad 0)] σ (fun r u => r = sm9 (fun f => sm9 (q_ff (σ 0) f) 70) n ∧ cc9 σ u) := by
  refine v_starti (own := RX4) (cc := cX4_fullShows) (nL := 3) rfl (by decide) rfl (Nat.le_of_ble_eq_true rfl) ?_
  intro p e s m args below meth c A Q C K hend
  refine v_lv (lv' := [(0, .ref (ad 0))]) [0] rfl ?_
  refine v_iconst (v := 0) C dX4_fullShows_0 rfl ic_0 ?_
  refine v_istore_n (lv' := [(1, _), (0, _)]) C dX4_fullShows_1 rfl 1 rfl (by decide) rfl ?_
  refine v_iconst (v := 0) C dX4_fullShows_2 rfl ic_0 ?_
  refine v_istore_n (lv' := [(2, _), (1, _), (0, _)]) C dX4_fullShows_3 rfl 2 rfl (by decide) rfl ?_
  have LP4 : ∀ f, f ≤ n → ∀ u : S9, cc9 σ u → VV p l e ({ frames := 4, cells := 0, slots := 0, locals := 99 } : Room) s m args below meth c 0 0 Q (cW ad cI cC cZ cQ) D A s.heap 3 u 4 [(0, .ref (ad 0)), (1, .int (sm9 (fun f => sm9 (q_ff (σ 0) f) 70) f)), (2, .int (nI f))] [] := by
    refine lpB9 (fun f => ∀ u : S9, cc9 σ u → VV p l e ({ frames := 4, cells := 0, slots := 0, locals := 99 } : Room) s m args below meth c 0 0 Q (cW ad cI cC cZ cQ) D A s.heap 3 u 4 [(0, .ref (ad 0)), (1, .int (sm9 (fun f => sm9 (q_ff (σ 0) f) 70) f)), (2, .int (nI f))] []) n (fun f hf ih => ?_) ?_
    · intro u hs
      refine v_iload_n C dX4_fullShows_4 rfl 2 2 rfl rfl ?_
      refine v_aload_n C dX4_fullShows_5 rfl 0 0 rfl rfl ?_
      refine v_get C K in_X4_fullShows_X4 0 rfl rfl 0 (by decide) fl_X4_fullShows_X4_0 rfl dX4_fullShows_6 rfl ?_
      refine v_callVid C K (c_X1_films l D ad cI cC cZ cQ _) gX4_fullShows_X1_films rfl hd_X1_films ⟨rfl, rfl⟩ ⟨Nat.le_of_ble_eq_true rfl, Nat.le_of_ble_eq_true rfl⟩ 1 rfl rfl rfl rfl rfl (Nat.le_of_ble_eq_true rfl) ⟨Nat.le_refl _, Nat.le_refl _⟩ dX4_fullShows_9 rfl ?_
      refine v_top (nI n) (by rw [cc9_0 hs]; exact hw.1.1) ?_
      refine v_icmp_ge C 43 dX4_fullShows_12 (by decide) rfl (fun h9 => absurd h9 (nI_ge hf (by have := hw.1.2.1; omega))) (fun _ => ?_)
      refine v_aload_n C dX4_fullShows_15 rfl 0 0 rfl rfl ?_
      refine v_get C K in_X4_fullShows_X4 0 rfl rfl 1 (by decide) fl_X4_fullShows_X4_1 rfl dX4_fullShows_16 rfl ?_
      refine v_aload_n C dX4_fullShows_19 rfl 0 0 rfl rfl ?_
      refine v_get C K in_X4_fullShows_X4 0 rfl rfl 0 (by decide) fl_X4_fullShows_X4_0 rfl dX4_fullShows_20 rfl ?_
      refine v_iload_n C dX4_fullShows_23 rfl 2 2 rfl rfl ?_
      refine v_callVv C K (c_X0_follow l D ad cI cC cZ cQ _ n (by rw [cc9_0 hs]; exact hw) f hf) gX4_fullShows_X0_follow rfl hd_X0_follow ⟨rfl, rfl⟩ ⟨Nat.le_of_ble_eq_true rfl, Nat.le_of_ble_eq_true rfl⟩ 3 rfl rfl rfl rfl rfl (Nat.le_of_ble_eq_true rfl) ⟨Nat.le_refl _, Nat.le_refl _⟩ dX4_fullShows_24 rfl (fun u24 hc24 => ?_)
      have hE := hc24
      rw [cc9_0 hs] at hE
      replace hs : cc9 σ u24 := cc9_tr hs hE.1
      clear hc24
      refine v_iload_n C dX4_fullShows_27 rfl 1 1 rfl rfl ?_
      refine v_aload_n C dX4_fullShows_28 rfl 0 0 rfl rfl ?_
      refine v_get C K in_X4_fullShows_X4 0 rfl rfl 1 (by decide) fl_X4_fullShows_X4_1 rfl dX4_fullShows_29 rfl ?_
      refine v_callVid C K (c_X0_fullShows l D ad cI cC cZ cQ _) gX4_fullShows_X0_fullShows rfl hd_X0_fullShows ⟨rfl, rfl⟩ ⟨Nat.le_of_ble_eq_true rfl, Nat.le_of_ble_eq_true rfl⟩ 3 rfl rfl rfl rfl rfl (Nat.le_of_ble_eq_true rfl) ⟨Nat.le_refl _, Nat.le_refl _⟩ dX4_fullShows_32 rfl ?_
      refine v_top (sm9 (q_ff (σ 0) f) 70) (hE.2.2.2.1) ?_
      refine v_iadd C dX4_fullShows_35 rfl ?_
      refine v_top (sm9 (fun f => sm9 (q_ff (σ 0) f) 70) (f + 1)) (rfl) ?_
      refine v_istore_n (lv' := [(1, _), (0, _), (2, _)]) C dX4_fullShows_36 rfl 1 rfl (by decide) rfl ?_
      refine v_iinc (lv' := [(2, _), (1, _), (0, _)]) C dX4_fullShows_37 rfl 2 rfl (inc9 _) (by decide) rfl ?_
      refine v_goto C 4 dX4_fullShows_40 (by decide) ?_
      refine v_lv (lv' := [(0, _), (1, _), (2, _)]) [2, 1, 0] rfl ?_
      exact ih _ hs
    · intro u hs
      refine v_iload_n C dX4_fullShows_4 rfl 2 2 rfl rfl ?_
      refine v_aload_n C dX4_fullShows_5 rfl 0 0 rfl rfl ?_
      refine v_get C K in_X4_fullShows_X4 0 rfl rfl 0 (by decide) fl_X4_fullShows_X4_0 rfl dX4_fullShows_6 rfl ?_
      refine v_callVid C K (c_X1_films l D ad cI cC cZ cQ _) gX4_fullShows_X1_films rfl hd_X1_films ⟨rfl, rfl⟩ ⟨Nat.le_of_ble_eq_true rfl, Nat.le_of_ble_eq_true rfl⟩ 1 rfl rfl rfl rfl rfl (Nat.le_of_ble_eq_true rfl) ⟨Nat.le_refl _, Nat.le_refl _⟩ dX4_fullShows_9 rfl ?_
      refine v_top (nI n) (by rw [cc9_0 hs]; exact hw.1.1) ?_
      refine v_icmp_ge C 43 dX4_fullShows_12 (by decide) rfl (fun _ => ?_) (fun h9 => absurd (nI_le (Nat.le_refl _) (by have := hw.1.2.1; omega)) h9)
      refine v_iload_n C dX4_fullShows_43 rfl 1 1 rfl rfl ?_
      exact hend (⟨rfl, hs⟩) (rfl) dX4_fullShows_44
  refine v_lv (lv' := [(0, _), (1, _), (2, _)]) [2, 1, 0] rfl ?_
  exact LP4 0 (Nat.zero_le _) σ (cc9_rf σ)
set_option maxHeartbeats 4000000 in
set_option maxRecDepth 100000 in
theorem c_X4_leftOfFilm (l : Launch) (D : va_G) (ad : Nat → Nat) (cI cC cZ cQ : ClassId) (σ : S9) (n : Nat) (hw : wfH (σ 0) n) (x : Int32) : CMi l (cW ad cI cC cZ cQ) D (cTy cI cC cZ cQ) yX4_leftOfFilm wsX4_leftOfFilm ({ frames := 4, cells := 0, slots := 0, locals := 99 } : Room) [.ref (ad 0), .int x] σ (fun r u => r = c_lf (σ 0) x ∧ cc9 σ u) := by
  refine v_starti (own := RX4) (cc := cX4_leftOfFilm) (nL := 2) rfl (by decide) rfl (Nat.le_of_ble_eq_true rfl) ?_
  intro p e s m args below meth c A Q C K hend
  refine v_lv (lv' := [(0, .ref (ad 0)), (1, .int x)]) [0, 1] rfl ?_
  refine v_aload_n C dX4_leftOfFilm_0 rfl 0 0 rfl rfl ?_
  refine v_get C K in_X4_leftOfFilm_X4 0 rfl rfl 0 (by decide) fl_X4_leftOfFilm_X4_0 rfl dX4_leftOfFilm_1 rfl ?_
  refine v_iload_n C dX4_leftOfFilm_4 rfl 1 1 rfl rfl ?_
  refine v_callVid C K (c_X1_hasFilm l D ad cI cC cZ cQ _ _) gX4_leftOfFilm_X1_hasFilm rfl hd_X1_hasFilm ⟨rfl, rfl⟩ ⟨Nat.le_of_ble_eq_true rfl, Nat.le_of_ble_eq_true rfl⟩ 1 rfl rfl rfl rfl rfl (Nat.le_of_ble_eq_true rfl) ⟨Nat.le_refl _, Nat.le_refl _⟩ dX4_leftOfFilm_5 rfl ?_
  refine v_if_ne C 13 dX4_leftOfFilm_8 (by decide) rfl (fun h8 => ?_) (fun h8 => ?_)
  · skip
    obtain ⟨f, hf, rfl⟩ := c_has_ne hw.1.1 hw.1.2.1 h8
    refine v_aload_n C dX4_leftOfFilm_13 rfl 0 0 rfl rfl ?_
    refine v_get C K in_X4_leftOfFilm_X4 0 rfl rfl 1 (by decide) fl_X4_leftOfFilm_X4_1 rfl dX4_leftOfFilm_14 rfl ?_
    refine v_aload_n C dX4_leftOfFilm_17 rfl 0 0 rfl rfl ?_
    refine v_get C K in_X4_leftOfFilm_X4 0 rfl rfl 0 (by decide) fl_X4_leftOfFilm_X4_0 rfl dX4_leftOfFilm_18 rfl ?_
    refine v_iload_n C dX4_leftOfFilm_21 rfl 1 1 rfl rfl ?_
    refine v_callVv C K (c_X0_follow l D ad cI cC cZ cQ _ n hw f hf) gX4_leftOfFilm_X0_follow rfl hd_X0_follow ⟨rfl, rfl⟩ ⟨Nat.le_of_ble_eq_true rfl, Nat.le_of_ble_eq_true rfl⟩ 3 rfl rfl rfl rfl rfl (Nat.le_of_ble_eq_true rfl) ⟨Nat.le_refl _, Nat.le_refl _⟩ dX4_leftOfFilm_22 rfl (fun u22 hc22 => ?_)
    have hE := hc22
    have hs : cc9 σ u22 := hE.1
    clear hc22
    refine v_aload_n C dX4_leftOfFilm_25 rfl 0 0 rfl rfl ?_
    refine v_get C K in_X4_leftOfFilm_X4 0 rfl rfl 1 (by decide) fl_X4_leftOfFilm_X4_1 rfl dX4_leftOfFilm_26 rfl ?_
    refine v_iconst (v := 4) C dX4_leftOfFilm_29 rfl ic_4 ?_
    refine v_callVid C K (c_X0_sum l D ad cI cC cZ cQ _ 4 (by decide)) gX4_leftOfFilm_X0_sum rfl hd_X0_sum ⟨rfl, rfl⟩ ⟨Nat.le_of_ble_eq_true rfl, Nat.le_of_ble_eq_true rfl⟩ 3 rfl rfl rfl rfl rfl (Nat.le_of_ble_eq_true rfl) ⟨Nat.le_refl _, Nat.le_refl _⟩ dX4_leftOfFilm_30 rfl ?_
    exact hend (⟨by rw [c_lf_nI hw.1.1 hw.1.2.1 hf]; exact sum_J hE (by decide), hs⟩) (rfl) dX4_leftOfFilm_33
  · skip
    refine v_iconst (v := 0) C dX4_leftOfFilm_11 rfl ic_0 ?_
    exact hend (⟨by simp [c_lf, h8], cc9_rf σ⟩) (rfl) dX4_leftOfFilm_12
theorem wfH_upd {r : Nat → Int32} {n k : Nat} {x : Int32} (hw : wfH r n) (hk : k < 70) (hx : x = -6 ∨ ∃ f : Nat, f < n ∧ x = nI f) : wfH (upd r (46 + k) x) n := by
  have hn := hw.1.2.1
  refine ⟨wfS_upd hw.1 hk hx, fun f hf => ?_, fun d hd => ?_⟩
  · rw [upd_n _ _ (by omega)]
    exact hw.2.1 f hf
  · rw [upd_n _ _ (by omega)]
    exact hw.2.2 d hd
set_option maxHeartbeats 4000000 in
set_option maxRecDepth 100000 in
theorem c_X4_gainWith (l : Launch) (D : va_G) (ad : Nat → Nat) (cI cC cZ cQ : ClassId) (σ : S9) (n : Nat) (hw : wfH (σ 0) n) (k : Nat) (hk : k < 70) (x : Int32) (hx : x = -6 ∨ ∃ f : Nat, f < n ∧ x = nI f) : CMi l (cW ad cI cC cZ cQ) D (cTy cI cC cZ cQ) yX4_gainWith wsX4_gainWith ({ frames := 5, cells := 0, slots := 0, locals := 120 } : Room) [.ref (ad 0), .int (nI k), .int x] σ (fun r u => r = q_more (σ 0) k x ∧ cc9 σ u) := by
  refine v_starti (own := RX4) (cc := cX4_gainWith) (nL := 6) rfl (by decide) rfl (Nat.le_of_ble_eq_true rfl) ?_
  intro p e s m args below meth c A Q C K hend
  refine v_lv (lv' := [(0, .ref (ad 0)), (1, .int (nI k)), (2, .int x)]) [0, 1, 2] rfl ?_
  refine v_aload_n C dX4_gainWith_0 rfl 0 0 rfl rfl ?_
  refine v_get C K in_X4_gainWith_X4 0 rfl rfl 0 (by decide) fl_X4_gainWith_X4_0 rfl dX4_gainWith_1 rfl ?_
  refine v_iload_n C dX4_gainWith_4 rfl 1 1 rfl rfl ?_
  refine v_callVid C K (c_X1_showAt l D ad cI cC cZ cQ _ k hk) gX4_gainWith_X1_showAt rfl hd_X1_showAt ⟨rfl, rfl⟩ ⟨Nat.le_of_ble_eq_true rfl, Nat.le_of_ble_eq_true rfl⟩ 1 rfl rfl rfl rfl rfl (Nat.le_of_ble_eq_true rfl) ⟨Nat.le_refl _, Nat.le_refl _⟩ dX4_gainWith_5 rfl ?_
  refine v_istore_n (lv' := [(3, _), (0, _), (1, _), (2, _)]) C dX4_gainWith_8 rfl 3 rfl (by decide) rfl ?_
  refine v_aload_n C dX4_gainWith_9 rfl 0 1 rfl rfl ?_
  refine v_iload_n C dX4_gainWith_10 rfl 3 0 rfl rfl ?_
  refine v_callVi C K (c_X4_leftOfFilm l D ad cI cC cZ cQ _ n (hw) _) gX4_gainWith_X4_leftOfFilm rfl hd_X4_leftOfFilm ⟨rfl, rfl⟩ ⟨Nat.le_of_ble_eq_true rfl, Nat.le_of_ble_eq_true rfl⟩ 0 rfl rfl rfl rfl rfl (Nat.le_of_ble_eq_true rfl) ⟨Nat.le_refl _, Nat.le_refl _⟩ dX4_gainWith_11 rfl (fun r11 u11 hc11 => ?_)
  obtain ⟨rfl, hs11⟩ := hc11
  refine v_aload_n C dX4_gainWith_14 rfl 0 1 rfl rfl ?_
  refine v_iload_n C dX4_gainWith_15 rfl 2 3 rfl rfl ?_
  refine v_callVi C K (c_X4_leftOfFilm l D ad cI cC cZ cQ _ n (by rw [cc9_0 hs11]; exact hw) _) gX4_gainWith_X4_leftOfFilm rfl hd_X4_leftOfFilm ⟨rfl, rfl⟩ ⟨Nat.le_of_ble_eq_true rfl, Nat.le_of_ble_eq_true rfl⟩ 0 rfl rfl rfl rfl rfl (Nat.le_of_ble_eq_true rfl) ⟨Nat.le_refl _, Nat.le_refl _⟩ dX4_gainWith_16 rfl (fun r16 u16 hc16 => ?_)
  obtain ⟨rfl, hs16⟩ := hc16
  rw [cc9_0 hs11]
  replace hs16 := cc9_tr hs11 hs16
  refine v_iadd C dX4_gainWith_19 rfl ?_
  refine v_istore (lv' := [(4, _), (3, _), (0, _), (1, _), (2, _)]) C dX4_gainWith_20 rfl (by decide) rfl ?_
  refine v_aload_n C dX4_gainWith_22 rfl 0 2 rfl rfl ?_
  refine v_get C K in_X4_gainWith_X4 0 rfl rfl 0 (by decide) fl_X4_gainWith_X4_0 rfl dX4_gainWith_23 rfl ?_
  refine v_iload_n C dX4_gainWith_26 rfl 1 3 rfl rfl ?_
  refine v_iload_n C dX4_gainWith_27 rfl 2 4 rfl rfl ?_
  refine v_callVid C K (c_X1_replaceShow l D ad cI cC cZ cQ _ k hk _) gX4_gainWith_X1_replaceShow rfl hd_X1_replaceShow ⟨rfl, rfl⟩ ⟨Nat.le_of_ble_eq_true rfl, Nat.le_of_ble_eq_true rfl⟩ 1 rfl rfl rfl rfl rfl (Nat.le_of_ble_eq_true rfl) ⟨Nat.le_refl _, Nat.le_refl _⟩ dX4_gainWith_28 rfl ?_
  refine v_pop C dX4_gainWith_31 rfl rfl ?_
  refine v_aload_n C dX4_gainWith_32 rfl 0 2 rfl rfl ?_
  refine v_iload_n C dX4_gainWith_33 rfl 3 1 rfl rfl ?_
  refine v_callVi C K (c_X4_leftOfFilm l D ad cI cC cZ cQ _ n (by rw [st9_s, cc9_0 hs16]; exact wfH_upd hw hk hx) _) gX4_gainWith_X4_leftOfFilm rfl hd_X4_leftOfFilm ⟨rfl, rfl⟩ ⟨Nat.le_of_ble_eq_true rfl, Nat.le_of_ble_eq_true rfl⟩ 0 rfl rfl rfl rfl rfl (Nat.le_of_ble_eq_true rfl) ⟨Nat.le_refl _, Nat.le_refl _⟩ dX4_gainWith_34 rfl (fun r34 u34 hc34 => ?_)
  obtain ⟨rfl, hs34⟩ := hc34
  rw [st9_s, cc9_0 hs16]
  have h34 : u34 0 = upd (σ 0) (46 + k) x := by rw [cc9_0 hs34, st9_s, cc9_0 hs16]
  refine v_aload_n C dX4_gainWith_37 rfl 0 2 rfl rfl ?_
  refine v_iload_n C dX4_gainWith_38 rfl 2 4 rfl rfl ?_
  refine v_callVi C K (c_X4_leftOfFilm l D ad cI cC cZ cQ _ n (by rw [h34]; exact wfH_upd hw hk hx) _) gX4_gainWith_X4_leftOfFilm rfl hd_X4_leftOfFilm ⟨rfl, rfl⟩ ⟨Nat.le_of_ble_eq_true rfl, Nat.le_of_ble_eq_true rfl⟩ 0 rfl rfl rfl rfl rfl (Nat.le_of_ble_eq_true rfl) ⟨Nat.le_refl _, Nat.le_refl _⟩ dX4_gainWith_39 rfl (fun r39 u39 hc39 => ?_)
  obtain ⟨rfl, hs39⟩ := hc39
  rw [h34]
  refine v_iadd C dX4_gainWith_42 rfl ?_
  refine v_istore (lv' := [(5, _), (4, _), (3, _), (0, _), (1, _), (2, _)]) C dX4_gainWith_43 rfl (by decide) rfl ?_
  refine v_aload_n C dX4_gainWith_45 rfl 0 3 rfl rfl ?_
  refine v_get C K in_X4_gainWith_X4 0 rfl rfl 0 (by decide) fl_X4_gainWith_X4_0 rfl dX4_gainWith_46 rfl ?_
  refine v_iload_n C dX4_gainWith_49 rfl 1 4 rfl rfl ?_
  refine v_iload_n C dX4_gainWith_50 rfl 3 2 rfl rfl ?_
  refine v_callVid C K (c_X1_replaceShow l D ad cI cC cZ cQ _ k hk _) gX4_gainWith_X1_replaceShow rfl hd_X1_replaceShow ⟨rfl, rfl⟩ ⟨Nat.le_of_ble_eq_true rfl, Nat.le_of_ble_eq_true rfl⟩ 1 rfl rfl rfl rfl rfl (Nat.le_of_ble_eq_true rfl) ⟨Nat.le_refl _, Nat.le_refl _⟩ dX4_gainWith_51 rfl ?_
  refine v_pop C dX4_gainWith_54 rfl rfl ?_
  refine v_iload C dX4_gainWith_55 rfl 0 rfl ?_
  refine v_iload C dX4_gainWith_57 rfl 1 rfl ?_
  refine v_isub C dX4_gainWith_59 rfl ?_
  exact hend (⟨c_gain_J hw.1 hk hx, fun i hi => by
      by_cases e : i = 0
      · subst e
        rw [st9_s, cc9_0 hs39, h34, upd_tw, upd_id]
      · rw [st9_n _ _ e, hs39 i hi, hs34 i hi, st9_n _ _ e, hs16 i hi]⟩) (rfl) dX4_gainWith_60

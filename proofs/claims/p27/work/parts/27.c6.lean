set_option maxHeartbeats 4000000 in
set_option maxRecDepth 100000 in
theorem c_X3_length (l : Launch) (D : va_G) (ad : Nat → Nat) (cI cC cZ cQ : ClassId) (σ : S9)  : CMi l (cW ad cI cC cZ cQ) D (cTy cI cC cZ cQ) yX3_length wsX3_length ({ frames := 0, cells := 0, slots := 0, locals := 0 } : Room) [.ref (ad 8)] σ (fun r u => r = σ 7 0 ∧ u = σ) := by
  refine v_starti (own := RX3) (cc := cX3_length) (nL := 1) rfl (by decide) rfl (Nat.le_of_ble_eq_true rfl) ?_
  intro p e s m args below meth c A Q C K hend
  refine v_lv (lv' := [(0, .ref (ad 8))]) [0] rfl ?_
  refine v_aload_n C dX3_length_0 rfl 0 0 rfl rfl ?_
  refine v_get C K in_X3_length_X3 8 rfl rfl 1 (by decide) fl_X3_length_X3_1 rfl dX3_length_1 rfl ?_
  exact hend (⟨rfl, rfl⟩) (rfl) dX3_length_4
theorem what3 {x : Int32} (h : ¬ p_in x 0 3 = 0) (h0 : ¬ x = 0) (h1 : ¬ x = 1) (h2 : ¬ x = 2) : x = 3 := by
  obtain ⟨j, hj, rfl⟩ := p_in_nI (n := 3) (by decide) h
  rcases (show j = 0 ∨ j = 1 ∨ j = 2 ∨ j = 3 by omega) with rfl | rfl | rfl | rfl
  · exact absurd rfl h0
  · exact absurd rfl h1
  · exact absurd rfl h2
  · rfl
theorem p_in_no {x : Int32} {n : Nat} (hn : n < 2 ^ 31) (h : p_in x 0 (nI n) = 0) (j : Nat) (hj : j ≤ n) : ¬ x = nI j := by
  rintro rfl
  unfold p_in at h
  rw [if_neg (nI_pos (by omega)), if_neg (nI_nlt hj hn)] at h
  exact absurd h (by decide)
theorem q_at_bad {r : Nat → Int32} {k : Nat} {x : Int32} (h : p_in x 0 3 = 0) : q_at r k x = -2 := by
  have h' := p_in_no (n := 3) (by decide) h
  unfold q_at
  rw [if_neg (show ¬ x = 0 from h' 0 (by decide)), if_neg (show ¬ x = 1 from h' 1 (by decide)), if_neg (show ¬ x = 2 from h' 2 (by decide)), if_neg (show ¬ x = 3 from h' 3 (by decide))]
set_option maxHeartbeats 4000000 in
set_option maxRecDepth 100000 in
theorem c_X4_at (l : Launch) (D : va_G) (ad : Nat → Nat) (cI cC cZ cQ : ClassId) (σ : S9) (n : Nat) (hw : wfH (σ 0) n) (d q what : Int32) : CMi l (cW ad cI cC cZ cQ) D (cTy cI cC cZ cQ) yX4_at wsX4_at ({ frames := 4, cells := 0, slots := 0, locals := 99 } : Room) [.ref (ad 0), .int d, .int q, .int what] σ (fun r u => r = (if p_part d q = 0 then -2 else q_at (σ 0) (q_k d q) what) ∧ cc9 σ u) := by
  refine v_starti (own := RX4) (cc := cX4_at) (nL := 6) rfl (by decide) rfl (Nat.le_of_ble_eq_true rfl) ?_
  intro p e s m args below meth c A Q C K hend
  refine v_lv (lv' := [(0, .ref (ad 0)), (1, .int d), (2, .int q), (3, .int what)]) [0, 1, 2, 3] rfl ?_
  refine v_iload_n C dX4_at_0 rfl 1 1 rfl rfl ?_
  refine v_iload_n C dX4_at_1 rfl 2 2 rfl rfl ?_
  refine v_callSpd C (c_X4_isPlace l _ _) gX4_at_X4_isPlace rfl hd_X4_isPlace.2 ⟨rfl, rfl⟩ ⟨Nat.le_of_ble_eq_true rfl, Nat.le_of_ble_eq_true rfl⟩ rfl rfl (Nat.le_of_ble_eq_true rfl) ⟨Nat.le_refl _, Nat.le_refl _⟩ dX4_at_2 rfl ?_
  refine v_if_eq C 17 dX4_at_5 (by decide) rfl (fun h5t => ?_) (fun h5 => ?_)
  · skip
    refine v_bipush (v := -2) C dX4_at_17 rfl bp_m2 ?_
    exact hend (⟨by rw [if_pos h5t], cc9_rf σ⟩) (rfl) dX4_at_19
  · skip
    refine v_iload_n C dX4_at_8 rfl 3 3 rfl rfl ?_
    refine v_iconst (v := 0) C dX4_at_9 rfl ic_0 ?_
    refine v_iconst (v := 3) C dX4_at_10 rfl ic_3 ?_
    refine v_callSpd C (c_X4_isWithin l _ _ _) gX4_at_X4_isWithin rfl hd_X4_isWithin.2 ⟨rfl, rfl⟩ ⟨Nat.le_of_ble_eq_true rfl, Nat.le_of_ble_eq_true rfl⟩ rfl rfl (Nat.le_of_ble_eq_true rfl) ⟨Nat.le_refl _, Nat.le_refl _⟩ dX4_at_11 rfl ?_
    refine v_if_ne C 20 dX4_at_14 (by decide) rfl (fun h14 => ?_) (fun h14t => ?_)
    · skip
      obtain ⟨d, q, hd, hq, rfl, rfl⟩ := p_part_ne h5
      have ecd : (nI d).toNatClampNeg = d := nI_cl (by omega)
      have ecq : (nI q).toNatClampNeg = q := nI_cl (by omega)
      have ek : q_k (nI d) (nI q) = 2 * d + q := by rw [q_k, ecd, ecq]
      refine v_iload_n C dX4_at_20 rfl 1 1 rfl rfl ?_
      refine v_iload_n C dX4_at_21 rfl 2 2 rfl rfl ?_
      refine v_callSpd C (c_X4_placeOf l _ _) gX4_at_X4_placeOf rfl hd_X4_placeOf.2 ⟨rfl, rfl⟩ ⟨Nat.le_of_ble_eq_true rfl, Nat.le_of_ble_eq_true rfl⟩ rfl rfl (Nat.le_of_ble_eq_true rfl) ⟨Nat.le_refl _, Nat.le_refl _⟩ dX4_at_22 rfl ?_
      refine v_istore (lv' := [(4, _), (0, _), (1, _), (2, _), (3, _)]) C dX4_at_25 rfl (by decide) rfl ?_
      refine v_aload_n C dX4_at_27 rfl 0 1 rfl rfl ?_
      refine v_get C K in_X4_at_X4 0 rfl rfl 0 (by decide) fl_X4_at_X4_0 rfl dX4_at_28 rfl ?_
      refine v_iload C dX4_at_31 rfl 0 rfl ?_
      refine v_callVid C K (c_X1_showAt l D ad cI cC cZ cQ _ (2 * d + q) (by omega)) gX4_at_X1_showAt rfl hd_X1_showAt ⟨rfl, rfl⟩ ⟨Nat.le_of_ble_eq_true rfl, Nat.le_of_ble_eq_true rfl⟩ 1 rfl rfl rfl rfl rfl (Nat.le_of_ble_eq_true rfl) ⟨Nat.le_refl _, Nat.le_refl _⟩ dX4_at_33 rfl ?_
      refine v_istore (lv' := [(5, _), (4, _), (0, _), (1, _), (2, _), (3, _)]) C dX4_at_36 rfl (by decide) rfl ?_
      refine v_aload_n C dX4_at_38 rfl 0 2 rfl rfl ?_
      refine v_get C K in_X4_at_X4 0 rfl rfl 0 (by decide) fl_X4_at_X4_0 rfl dX4_at_39 rfl ?_
      refine v_iload C dX4_at_42 rfl 0 rfl ?_
      refine v_callVid C K (c_X1_hasFilm l D ad cI cC cZ cQ _ _) gX4_at_X1_hasFilm rfl hd_X1_hasFilm ⟨rfl, rfl⟩ ⟨Nat.le_of_ble_eq_true rfl, Nat.le_of_ble_eq_true rfl⟩ 1 rfl rfl rfl rfl rfl (Nat.le_of_ble_eq_true rfl) ⟨Nat.le_refl _, Nat.le_refl _⟩ dX4_at_44 rfl ?_
      refine v_if_ne C 67 dX4_at_47 (by decide) rfl (fun h47 => ?_) (fun h47t => ?_)
      · skip
        obtain ⟨f, hf, ef⟩ := c_has_ne hw.1.1 hw.1.2.1 h47
        have hf8 : f < 8 := Nat.lt_of_lt_of_le hf hw.1.2.1
        have ecf : (nI f).toNatClampNeg = f := nI_cl (by omega)
        have hnf : ¬ nI f = -6 := nI_ne6 (by omega)
        refine v_aload_n C dX4_at_67 rfl 0 2 rfl rfl ?_
        refine v_get C K in_X4_at_X4 0 rfl rfl 1 (by decide) fl_X4_at_X4_1 rfl dX4_at_68 rfl ?_
        refine v_aload_n C dX4_at_71 rfl 0 2 rfl rfl ?_
        refine v_get C K in_X4_at_X4 0 rfl rfl 0 (by decide) fl_X4_at_X4_0 rfl dX4_at_72 rfl ?_
        refine v_iload C dX4_at_75 rfl 0 rfl ?_
        refine v_top (nI f) (ef) ?_
        refine v_callVv C K (c_X0_follow l D ad cI cC cZ cQ _ n hw f hf) gX4_at_X0_follow rfl hd_X0_follow ⟨rfl, rfl⟩ ⟨Nat.le_of_ble_eq_true rfl, Nat.le_of_ble_eq_true rfl⟩ 3 rfl rfl rfl rfl rfl (Nat.le_of_ble_eq_true rfl) ⟨Nat.le_refl _, Nat.le_refl _⟩ dX4_at_77 rfl (fun u77 hc77 => ?_)
        have hE := hc77
        have hs : cc9 σ u77 := hE.1
        clear hc77
        refine v_iload_n C dX4_at_80 rfl 3 5 rfl rfl ?_
        by_cases h81_0 : what = 0
        · refine v_tableIn C 108 dX4_at_81 (by rw [h81_0]; decide) (by rw [h81_0]; decide) (off := 27) (by rw [h81_0]; rfl) (by decide) ?_
          refine v_iload C dX4_at_108 rfl 0 rfl ?_
          exact hend (⟨by rw [if_neg h5, ek]; simp [q_at, h81_0], hs⟩) (rfl) dX4_at_110
        by_cases h81_1 : what = 1
        · refine v_tableIn C 111 dX4_at_81 (by rw [h81_1]; decide) (by rw [h81_1]; decide) (off := 30) (by rw [h81_1]; rfl) (by decide) ?_
          obtain ⟨ep, el⟩ := hE.2.1 (2 * d + q) (by omega) ef
          refine v_aload_n C dX4_at_111 rfl 0 2 rfl rfl ?_
          refine v_get C K in_X4_at_X4 0 rfl rfl 1 (by decide) fl_X4_at_X4_1 rfl dX4_at_112 rfl ?_
          refine v_iload C dX4_at_115 rfl 1 rfl ?_
          refine v_callVid C K (c_X0_peopleAt l D ad cI cC cZ cQ _ (2 * d + q) (by omega)) gX4_at_X0_peopleAt rfl hd_X0_peopleAt ⟨rfl, rfl⟩ ⟨Nat.le_of_ble_eq_true rfl, Nat.le_of_ble_eq_true rfl⟩ 3 rfl rfl rfl rfl rfl (Nat.le_of_ble_eq_true rfl) ⟨Nat.le_refl _, Nat.le_refl _⟩ dX4_at_117 rfl ?_
          exact hend (⟨by rw [if_neg h5, ek, ep]; simp [q_at, h81_1, q_ppa_nI (show f < 100000 by omega) ef], hs⟩) (rfl) dX4_at_120
        by_cases h81_2 : what = 2
        · refine v_tableIn C 121 dX4_at_81 (by rw [h81_2]; decide) (by rw [h81_2]; decide) (off := 40) (by rw [h81_2]; rfl) (by decide) ?_
          obtain ⟨ep, el⟩ := hE.2.1 (2 * d + q) (by omega) ef
          refine v_aload_n C dX4_at_121 rfl 0 2 rfl rfl ?_
          refine v_get C K in_X4_at_X4 0 rfl rfl 1 (by decide) fl_X4_at_X4_1 rfl dX4_at_122 rfl ?_
          refine v_iload C dX4_at_125 rfl 1 rfl ?_
          refine v_callVid C K (c_X0_peopleAt l D ad cI cC cZ cQ _ (2 * d + q) (by omega)) gX4_at_X0_peopleAt rfl hd_X0_peopleAt ⟨rfl, rfl⟩ ⟨Nat.le_of_ble_eq_true rfl, Nat.le_of_ble_eq_true rfl⟩ 3 rfl rfl rfl rfl rfl (Nat.le_of_ble_eq_true rfl) ⟨Nat.le_refl _, Nat.le_refl _⟩ dX4_at_127 rfl ?_
          refine v_aload_n C dX4_at_130 rfl 0 2 rfl rfl ?_
          refine v_get C K in_X4_at_X4 0 rfl rfl 0 (by decide) fl_X4_at_X4_0 rfl dX4_at_131 rfl ?_
          refine v_iconst (v := 1) C dX4_at_134 rfl ic_1 ?_
          refine v_callVid C K (c_X1_setting l D ad cI cC cZ cQ _ 1 (by decide)) gX4_at_X1_setting rfl hd_X1_setting ⟨rfl, rfl⟩ ⟨Nat.le_of_ble_eq_true rfl, Nat.le_of_ble_eq_true rfl⟩ 1 rfl rfl rfl rfl rfl (Nat.le_of_ble_eq_true rfl) ⟨Nat.le_refl _, Nat.le_refl _⟩ dX4_at_135 rfl ?_
          refine v_imul C dX4_at_138 rfl ?_
          exact hend (⟨by rw [if_neg h5, ek, ep, cc9_0 hs]; simp [q_at, h81_2, q_ppa_nI (show f < 100000 by omega) ef], hs⟩) (rfl) dX4_at_139
        refine v_tableOut C 140 dX4_at_81 (sw9 (x := what) (n := 2) (by decide) (fun j hj => by rcases (show j = 0 ∨ j = 1 ∨ j = 2 by omega) with rfl | rfl | rfl <;> first | exact h81_0 | exact h81_1 | exact h81_2)) (by decide) ?_
        have e3 := what3 h14 h81_0 h81_1 h81_2
        obtain ⟨ep, el⟩ := hE.2.1 (2 * d + q) (by omega) ef
        refine v_aload_n C dX4_at_140 rfl 0 2 rfl rfl ?_
        refine v_get C K in_X4_at_X4 0 rfl rfl 1 (by decide) fl_X4_at_X4_1 rfl dX4_at_141 rfl ?_
        refine v_iload C dX4_at_144 rfl 1 rfl ?_
        refine v_callVid C K (c_X0_leftBehind l D ad cI cC cZ cQ _ (2 * d + q) (by omega)) gX4_at_X0_leftBehind rfl hd_X0_leftBehind ⟨rfl, rfl⟩ ⟨Nat.le_of_ble_eq_true rfl, Nat.le_of_ble_eq_true rfl⟩ 3 rfl rfl rfl rfl rfl (Nat.le_of_ble_eq_true rfl) ⟨Nat.le_refl _, Nat.le_refl _⟩ dX4_at_146 rfl ?_
        exact hend (⟨by rw [if_neg h5, ek, el, e3]; simp [q_at, q_bhd, ef, hnf, ecf], hs⟩) (rfl) dX4_at_149
      · skip
        have e6 : σ 0 (46 + (2 * d + q)) = -6 := by
          rcases hw.1.2.2 (2 * d + q) (by omega) with z | ⟨g, hg, z⟩
          · exact z
          · rw [z, c_has_nI hw.1.1 hw.1.2.1 hg] at h47t
            exact absurd h47t (by decide)
        refine v_iload_n C dX4_at_50 rfl 3 5 rfl rfl ?_
        refine v_iconst (v := 1) C dX4_at_51 rfl ic_1 ?_
        refine v_icmp_eq C 60 dX4_at_52 (by decide) rfl (fun h52t => ?_) (fun h52 => ?_)
        · skip
          refine v_iconst (v := 0) C dX4_at_60 rfl ic_0 ?_
          refine v_goto C 66 dX4_at_61 (by decide) ?_
          exact hend (⟨by rw [if_neg h5, ek, q_at, q_ppa, q_bhd, e6]; simp [h52t], cc9_rf σ⟩) (rfl) dX4_at_66
        · skip
          refine v_iload_n C dX4_at_55 rfl 3 5 rfl rfl ?_
          refine v_iconst (v := 2) C dX4_at_56 rfl ic_2 ?_
          refine v_icmp_ne C 64 dX4_at_57 (by decide) rfl (fun h57t => ?_) (fun h57 => ?_)
          · skip
            refine v_bipush (v := -6) C dX4_at_64 rfl bp_m6 ?_
            exact hend (⟨by
      rw [if_neg h5, ek, q_at, q_ppa, q_bhd, e6]
      by_cases z0 : what = 0
      · rw [if_pos z0]
      · rw [if_neg z0, if_neg h52, if_neg h57t, if_pos (what3 h14 z0 h52 h57t), if_pos rfl], cc9_rf σ⟩) (rfl) dX4_at_66
          · skip
            refine v_iconst (v := 0) C dX4_at_60 rfl ic_0 ?_
            refine v_goto C 66 dX4_at_61 (by decide) ?_
            exact hend (⟨by rw [if_neg h5, ek, q_at, q_ppa, q_bhd, e6]; simp [h52, h57], cc9_rf σ⟩) (rfl) dX4_at_66
    · skip
      refine v_bipush (v := -2) C dX4_at_17 rfl bp_m2 ?_
      exact hend (⟨by rw [if_neg h5, q_at_bad h14t], cc9_rf σ⟩) (rfl) dX4_at_19
theorem q_of_bad {r : Nat → Int32} {f : Nat} {x : Int32} (h : p_in x 0 10 = 0) : q_of r f x = -2 := by
  have h' := p_in_no (n := 10) (by decide) h
  unfold q_of
  rw [if_neg (show ¬ x = 0 from h' 0 (by decide)), if_neg (show ¬ x = 1 from h' 1 (by decide)), if_neg (show ¬ x = 2 from h' 2 (by decide)), if_neg (show ¬ x = 3 from h' 3 (by decide)), if_neg (show ¬ x = 4 from h' 4 (by decide)), if_neg (show ¬ x = 5 from h' 5 (by decide)), if_neg (show ¬ x = 6 from h' 6 (by decide)), if_neg (show ¬ x = 7 from h' 7 (by decide)), if_neg (show ¬ x = 8 from h' 8 (by decide)), if_neg (show ¬ x = 9 from h' 9 (by decide)), if_neg (show ¬ x = 10 from h' 10 (by decide))]
theorem q_of_fact (r : Nat → Int32) (f : Nat) {j : Nat} (h : j < 5) : q_of r f (nI j) = r (6 + 5 * f + j) := by
  rcases (show j = 0 ∨ j = 1 ∨ j = 2 ∨ j = 3 ∨ j = 4 by omega) with rfl | rfl | rfl | rfl | rfl <;> rfl
theorem q_of_sum (r : Nat → Int32) {f j : Nat} (hf : f < 8) (h5 : 5 ≤ j) (h9 : j ≤ 8) : q_of r f (nI j) = c_sum r (j - 5) f := by
  rcases (show j = 5 ∨ j = 6 ∨ j = 7 ∨ j = 8 by omega) with rfl | rfl | rfl | rfl
  · exact sm9_congr (fun w _ => rfl)
  · exact (q_po_ps r hf).trans (sm9_congr (fun w _ => rfl))
  · exact sm9_congr (fun w _ => rfl)
  · exact sm9_congr (fun w _ => rfl)
set_option maxHeartbeats 4000000 in
set_option maxRecDepth 100000 in
theorem c_X4_of (l : Launch) (D : va_G) (ad : Nat → Nat) (cI cC cZ cQ : ClassId) (σ : S9) (n : Nat) (hw : wfH (σ 0) n) (x what : Int32) : CMi l (cW ad cI cC cZ cQ) D (cTy cI cC cZ cQ) yX4_of wsX4_of ({ frames := 4, cells := 0, slots := 0, locals := 99 } : Room) [.ref (ad 0), .int x, .int what] σ (fun r u => r = (if p_in x 0 (σ 0 5 - 1) = 0 then -1 else q_of (σ 0) x.toNatClampNeg what) ∧ cc9 σ u) := by
  refine v_starti (own := RX4) (cc := cX4_of) (nL := 3) rfl (by decide) rfl (Nat.le_of_ble_eq_true rfl) ?_
  intro p e s m args below meth c A Q C K hend
  refine v_lv (lv' := [(0, .ref (ad 0)), (1, .int x), (2, .int what)]) [0, 1, 2] rfl ?_
  refine v_aload_n C dX4_of_0 rfl 0 0 rfl rfl ?_
  refine v_get C K in_X4_of_X4 0 rfl rfl 0 (by decide) fl_X4_of_X4_0 rfl dX4_of_1 rfl ?_
  refine v_iload_n C dX4_of_4 rfl 1 1 rfl rfl ?_
  refine v_callVid C K (c_X1_hasFilm l D ad cI cC cZ cQ _ _) gX4_of_X1_hasFilm rfl hd_X1_hasFilm ⟨rfl, rfl⟩ ⟨Nat.le_of_ble_eq_true rfl, Nat.le_of_ble_eq_true rfl⟩ 1 rfl rfl rfl rfl rfl (Nat.le_of_ble_eq_true rfl) ⟨Nat.le_refl _, Nat.le_refl _⟩ dX4_of_5 rfl ?_
  refine v_top (p_in x 0 (σ 0 5 - 1)) (has_in hw.1 x) ?_
  refine v_if_ne C 13 dX4_of_8 (by decide) rfl (fun h8 => ?_) (fun h8t => ?_)
  · skip
    obtain ⟨f, hf, rfl⟩ := p_film_ne hw.1.1 hw.1.2.1 h8
    have hf8 : f < 8 := Nat.lt_of_lt_of_le hf hw.1.2.1
    have ecf : (nI f).toNatClampNeg = f := nI_cl (by omega)
    refine v_iload_n C dX4_of_13 rfl 2 2 rfl rfl ?_
    refine v_iconst (v := 0) C dX4_of_14 rfl ic_0 ?_
    refine v_bipush (v := 10) C dX4_of_15 rfl bp_10 ?_
    refine v_callSpd C (c_X4_isWithin l _ _ _) gX4_of_X4_isWithin rfl hd_X4_isWithin.2 ⟨rfl, rfl⟩ ⟨Nat.le_of_ble_eq_true rfl, Nat.le_of_ble_eq_true rfl⟩ rfl rfl (Nat.le_of_ble_eq_true rfl) ⟨Nat.le_refl _, Nat.le_refl _⟩ dX4_of_17 rfl ?_
    refine v_if_ne C 26 dX4_of_20 (by decide) rfl (fun h20 => ?_) (fun h20t => ?_)
    · skip
      obtain ⟨j, hj, rfl⟩ := p_in_nI (n := 10) (by decide) h20
      refine v_iload_n C dX4_of_26 rfl 2 2 rfl rfl ?_
      refine v_iconst (v := 5) C dX4_of_27 rfl ic_5 ?_
      refine v_icmp_ge C 41 dX4_of_28 (by decide) rfl (fun h28t => ?_) (fun h28 => ?_)
      · skip
        have hj5 : 5 ≤ j := (nI_leI (a := 5) (by decide) (by omega)).mp h28t
        refine v_iload_n C dX4_of_41 rfl 2 2 rfl rfl ?_
        refine v_bipush (v := 10) C dX4_of_42 rfl bp_10 ?_
        refine v_icmp_ne C 56 dX4_of_44 (by decide) rfl (fun h44t => ?_) (fun h44 => ?_)
        · skip
          have hj10 : ¬ j = 10 := fun e => h44t (by rw [e]; rfl)
          refine v_aload_n C dX4_of_56 rfl 0 0 rfl rfl ?_
          refine v_get C K in_X4_of_X4 0 rfl rfl 1 (by decide) fl_X4_of_X4_1 rfl dX4_of_57 rfl ?_
          refine v_aload_n C dX4_of_60 rfl 0 0 rfl rfl ?_
          refine v_get C K in_X4_of_X4 0 rfl rfl 0 (by decide) fl_X4_of_X4_0 rfl dX4_of_61 rfl ?_
          refine v_iload_n C dX4_of_64 rfl 1 1 rfl rfl ?_
          refine v_callVv C K (c_X0_follow l D ad cI cC cZ cQ _ n hw f hf) gX4_of_X0_follow rfl hd_X0_follow ⟨rfl, rfl⟩ ⟨Nat.le_of_ble_eq_true rfl, Nat.le_of_ble_eq_true rfl⟩ 3 rfl rfl rfl rfl rfl (Nat.le_of_ble_eq_true rfl) ⟨Nat.le_refl _, Nat.le_refl _⟩ dX4_of_65 rfl (fun u65 hc65 => ?_)
          have hE := hc65
          have hs : cc9 σ u65 := hE.1
          clear hc65
          refine v_iload_n C dX4_of_68 rfl 2 2 rfl rfl ?_
          refine v_bipush (v := 9) C dX4_of_69 rfl bp_9 ?_
          refine v_icmp_ne C 84 dX4_of_71 (by decide) rfl (fun h71t => ?_) (fun h71 => ?_)
          · skip
            have hj9 : ¬ j = 9 := fun e => h71t (by rw [e]; rfl)
            refine v_aload_n C dX4_of_84 rfl 0 0 rfl rfl ?_
            refine v_get C K in_X4_of_X4 0 rfl rfl 1 (by decide) fl_X4_of_X4_1 rfl dX4_of_85 rfl ?_
            refine v_iload_n C dX4_of_88 rfl 2 2 rfl rfl ?_
            refine v_iconst (v := 5) C dX4_of_89 rfl ic_5 ?_
            refine v_isub C dX4_of_90 rfl ?_
            refine v_top (nI (j - 5)) (pk_sub (a := j) (b := 5) hj5) ?_
            refine v_callVid C K (c_X0_sum l D ad cI cC cZ cQ _ (j - 5) (by omega)) gX4_of_X0_sum rfl hd_X0_sum ⟨rfl, rfl⟩ ⟨Nat.le_of_ble_eq_true rfl, Nat.le_of_ble_eq_true rfl⟩ 3 rfl rfl rfl rfl rfl (Nat.le_of_ble_eq_true rfl) ⟨Nat.le_refl _, Nat.le_refl _⟩ dX4_of_91 rfl ?_
            exact hend (⟨by rw [if_neg h8, ecf, q_of_sum _ hf8 hj5 (by omega)]; exact sum_J hE (by omega), hs⟩) (rfl) dX4_of_94
          · skip
            have hj9 : j = 9 := nI_inj (b := 9) (by omega) (by decide) h71
            subst hj9
            refine v_aload_n C dX4_of_74 rfl 0 0 rfl rfl ?_
            refine v_get C K in_X4_of_X4 0 rfl rfl 1 (by decide) fl_X4_of_X4_1 rfl dX4_of_75 rfl ?_
            refine v_callVid C K (c_X0_leftAtEnd l D ad cI cC cZ cQ _) gX4_of_X0_leftAtEnd rfl hd_X0_leftAtEnd ⟨rfl, rfl⟩ ⟨Nat.le_of_ble_eq_true rfl, Nat.le_of_ble_eq_true rfl⟩ 3 rfl rfl rfl rfl rfl (Nat.le_of_ble_eq_true rfl) ⟨Nat.le_refl _, Nat.le_refl _⟩ dX4_of_78 rfl ?_
            refine v_goto C 94 dX4_of_81 (by decide) ?_
            exact hend (⟨by rw [if_neg h8, ecf, hE.2.2.2.2]; rfl, hs⟩) (rfl) dX4_of_94
        · skip
          have hj10 : j = 10 := nI_inj (b := 10) (by omega) (by decide) h44
          subst hj10
          refine v_aload_n C dX4_of_47 rfl 0 0 rfl rfl ?_
          refine v_get C K in_X4_of_X4 0 rfl rfl 0 (by decide) fl_X4_of_X4_0 rfl dX4_of_48 rfl ?_
          refine v_iload_n C dX4_of_51 rfl 1 1 rfl rfl ?_
          refine v_callVid C K (c_X1_firstDayShown l D ad cI cC cZ cQ _ _) gX4_of_X1_firstDayShown rfl hd_X1_firstDayShown ⟨rfl, rfl⟩ ⟨Nat.le_of_ble_eq_true rfl, Nat.le_of_ble_eq_true rfl⟩ 1 rfl rfl rfl rfl rfl (Nat.le_of_ble_eq_true rfl) ⟨Nat.le_refl _, Nat.le_refl _⟩ dX4_of_52 rfl ?_
          exact hend (⟨by rw [if_neg h8, ecf]; rfl, cc9_rf σ⟩) (rfl) dX4_of_55
      · skip
        have hj5 : j < 5 := by
          rcases Nat.lt_or_ge j 5 with q | q
          · exact q
          · exact absurd (nI_le (a := 5) q (by omega)) h28
        refine v_aload_n C dX4_of_31 rfl 0 0 rfl rfl ?_
        refine v_get C K in_X4_of_X4 0 rfl rfl 0 (by decide) fl_X4_of_X4_0 rfl dX4_of_32 rfl ?_
        refine v_iload_n C dX4_of_35 rfl 1 1 rfl rfl ?_
        refine v_iload_n C dX4_of_36 rfl 2 2 rfl rfl ?_
        refine v_callVid C K (c_X1_fact l D ad cI cC cZ cQ _ f j hf8 hj5) gX4_of_X1_fact rfl hd_X1_fact ⟨rfl, rfl⟩ ⟨Nat.le_of_ble_eq_true rfl, Nat.le_of_ble_eq_true rfl⟩ 1 rfl rfl rfl rfl rfl (Nat.le_of_ble_eq_true rfl) ⟨Nat.le_refl _, Nat.le_refl _⟩ dX4_of_37 rfl ?_
        exact hend (⟨by rw [if_neg h8, ecf, q_of_fact _ _ hj5], cc9_rf σ⟩) (rfl) dX4_of_40
    · skip
      refine v_bipush (v := -2) C dX4_of_23 rfl bp_m2 ?_
      exact hend (⟨by rw [if_neg h8, q_of_bad h20t], cc9_rf σ⟩) (rfl) dX4_of_25
  · skip
    refine v_iconst (v := -1) C dX4_of_11 rfl ic_m1 ?_
    exact hend (⟨by rw [if_pos h8t], cc9_rf σ⟩) (rfl) dX4_of_12
theorem q_iw_bad {r : Nat → Int32} {f w : Nat} {x : Int32} (h : p_in x 0 3 = 0) : q_iw r f w x = -2 := by
  have h' := p_in_no (n := 3) (by decide) h
  unfold q_iw
  rw [if_neg (show ¬ x = 0 from h' 0 (by decide)), if_neg (show ¬ x = 1 from h' 1 (by decide)), if_neg (show ¬ x = 2 from h' 2 (by decide)), if_neg (show ¬ x = 3 from h' 3 (by decide))]
set_option maxHeartbeats 4000000 in
set_option maxRecDepth 100000 in
theorem c_X4_inWeek (l : Launch) (D : va_G) (ad : Nat → Nat) (cI cC cZ cQ : ClassId) (σ : S9) (n : Nat) (hw : wfH (σ 0) n) (x wk what : Int32) : CMi l (cW ad cI cC cZ cQ) D (cTy cI cC cZ cQ) yX4_inWeek wsX4_inWeek ({ frames := 4, cells := 0, slots := 0, locals := 99 } : Room) [.ref (ad 0), .int x, .int wk, .int what] σ (fun r u => r = (if p_in x 0 (σ 0 5 - 1) = 0 then -1 else if p_in wk 0 4 = 0 then -2 else q_iw (σ 0) x.toNatClampNeg wk.toNatClampNeg what) ∧ cc9 σ u) := by
  refine v_starti (own := RX4) (cc := cX4_inWeek) (nL := 4) rfl (by decide) rfl (Nat.le_of_ble_eq_true rfl) ?_
  intro p e s m args below meth c A Q C K hend
  refine v_lv (lv' := [(0, .ref (ad 0)), (1, .int x), (2, .int wk), (3, .int what)]) [0, 1, 2, 3] rfl ?_
  refine v_aload_n C dX4_inWeek_0 rfl 0 0 rfl rfl ?_
  refine v_get C K in_X4_inWeek_X4 0 rfl rfl 0 (by decide) fl_X4_inWeek_X4_0 rfl dX4_inWeek_1 rfl ?_
  refine v_iload_n C dX4_inWeek_4 rfl 1 1 rfl rfl ?_
  refine v_callVid C K (c_X1_hasFilm l D ad cI cC cZ cQ _ _) gX4_inWeek_X1_hasFilm rfl hd_X1_hasFilm ⟨rfl, rfl⟩ ⟨Nat.le_of_ble_eq_true rfl, Nat.le_of_ble_eq_true rfl⟩ 1 rfl rfl rfl rfl rfl (Nat.le_of_ble_eq_true rfl) ⟨Nat.le_refl _, Nat.le_refl _⟩ dX4_inWeek_5 rfl ?_
  refine v_top (p_in x 0 (σ 0 5 - 1)) (has_in hw.1 x) ?_
  refine v_if_ne C 13 dX4_inWeek_8 (by decide) rfl (fun h8 => ?_) (fun h8t => ?_)
  · skip
    obtain ⟨f, hf, rfl⟩ := p_film_ne hw.1.1 hw.1.2.1 h8
    have hf8 : f < 8 := Nat.lt_of_lt_of_le hf hw.1.2.1
    have ecf : (nI f).toNatClampNeg = f := nI_cl (by omega)
    refine v_iload_n C dX4_inWeek_13 rfl 2 2 rfl rfl ?_
    refine v_callSpd C (c_X4_isWeek l _) gX4_inWeek_X4_isWeek rfl hd_X4_isWeek.2 ⟨rfl, rfl⟩ ⟨Nat.le_of_ble_eq_true rfl, Nat.le_of_ble_eq_true rfl⟩ rfl rfl (Nat.le_of_ble_eq_true rfl) ⟨Nat.le_refl _, Nat.le_refl _⟩ dX4_inWeek_14 rfl ?_
    refine v_if_eq C 29 dX4_inWeek_17 (by decide) rfl (fun h17t => ?_) (fun h17 => ?_)
    · skip
      refine v_bipush (v := -2) C dX4_inWeek_29 rfl bp_m2 ?_
      exact hend (⟨by rw [if_neg h8, if_pos h17t], cc9_rf σ⟩) (rfl) dX4_inWeek_31
    · skip
      refine v_iload_n C dX4_inWeek_20 rfl 3 3 rfl rfl ?_
      refine v_iconst (v := 0) C dX4_inWeek_21 rfl ic_0 ?_
      refine v_iconst (v := 3) C dX4_inWeek_22 rfl ic_3 ?_
      refine v_callSpd C (c_X4_isWithin l _ _ _) gX4_inWeek_X4_isWithin rfl hd_X4_isWithin.2 ⟨rfl, rfl⟩ ⟨Nat.le_of_ble_eq_true rfl, Nat.le_of_ble_eq_true rfl⟩ rfl rfl (Nat.le_of_ble_eq_true rfl) ⟨Nat.le_refl _, Nat.le_refl _⟩ dX4_inWeek_23 rfl ?_
      refine v_if_ne C 32 dX4_inWeek_26 (by decide) rfl (fun h26 => ?_) (fun h26t => ?_)
      · skip
        obtain ⟨w9, hw5, rfl⟩ := w5 h17
        have ecw : (nI w9).toNatClampNeg = w9 := nI_cl (by omega)
        refine v_aload_n C dX4_inWeek_32 rfl 0 0 rfl rfl ?_
        refine v_get C K in_X4_inWeek_X4 0 rfl rfl 1 (by decide) fl_X4_inWeek_X4_1 rfl dX4_inWeek_33 rfl ?_
        refine v_aload_n C dX4_inWeek_36 rfl 0 0 rfl rfl ?_
        refine v_get C K in_X4_inWeek_X4 0 rfl rfl 0 (by decide) fl_X4_inWeek_X4_0 rfl dX4_inWeek_37 rfl ?_
        refine v_iload_n C dX4_inWeek_40 rfl 1 1 rfl rfl ?_
        refine v_callVv C K (c_X0_follow l D ad cI cC cZ cQ _ n hw f hf) gX4_inWeek_X0_follow rfl hd_X0_follow ⟨rfl, rfl⟩ ⟨Nat.le_of_ble_eq_true rfl, Nat.le_of_ble_eq_true rfl⟩ 3 rfl rfl rfl rfl rfl (Nat.le_of_ble_eq_true rfl) ⟨Nat.le_refl _, Nat.le_refl _⟩ dX4_inWeek_41 rfl (fun u41 hc41 => ?_)
        have hE := hc41
        have hs : cc9 σ u41 := hE.1
        clear hc41
        refine v_iload_n C dX4_inWeek_44 rfl 3 3 rfl rfl ?_
        by_cases h45_0 : what = 0
        · refine v_tableIn C 72 dX4_inWeek_45 (by rw [h45_0]; decide) (by rw [h45_0]; decide) (off := 27) (by rw [h45_0]; rfl) (by decide) ?_
          obtain ⟨f0, f1, f2, f3, f4, f5⟩ := hE.2.2.1 w9 hw5
          refine v_aload_n C dX4_inWeek_72 rfl 0 0 rfl rfl ?_
          refine v_get C K in_X4_inWeek_X4 0 rfl rfl 1 (by decide) fl_X4_inWeek_X4_1 rfl dX4_inWeek_73 rfl ?_
          refine v_iload_n C dX4_inWeek_76 rfl 2 2 rfl rfl ?_
          refine v_iconst (v := 2) C dX4_inWeek_77 rfl ic_2 ?_
          refine v_callVid C K (c_X0_sumOfWeek l D ad cI cC cZ cQ _ w9 2 hw5 (by decide)) gX4_inWeek_X0_sumOfWeek rfl hd_X0_sumOfWeek ⟨rfl, rfl⟩ ⟨Nat.le_of_ble_eq_true rfl, Nat.le_of_ble_eq_true rfl⟩ 3 rfl rfl rfl rfl rfl (Nat.le_of_ble_eq_true rfl) ⟨Nat.le_refl _, Nat.le_refl _⟩ dX4_inWeek_78 rfl ?_
          exact hend (⟨by rw [if_neg h8, if_neg h17, ecf, ecw, f2]; simp [q_iw, h45_0], hs⟩) (rfl) dX4_inWeek_81
        by_cases h45_1 : what = 1
        · refine v_tableIn C 82 dX4_inWeek_45 (by rw [h45_1]; decide) (by rw [h45_1]; decide) (off := 37) (by rw [h45_1]; rfl) (by decide) ?_
          obtain ⟨f0, f1, f2, f3, f4, f5⟩ := hE.2.2.1 w9 hw5
          refine v_aload_n C dX4_inWeek_82 rfl 0 0 rfl rfl ?_
          refine v_get C K in_X4_inWeek_X4 0 rfl rfl 1 (by decide) fl_X4_inWeek_X4_1 rfl dX4_inWeek_83 rfl ?_
          refine v_iload_n C dX4_inWeek_86 rfl 2 2 rfl rfl ?_
          refine v_callVid C K (c_X0_shareIn l D ad cI cC cZ cQ _ w9 hw5) gX4_inWeek_X0_shareIn rfl hd_X0_shareIn ⟨rfl, rfl⟩ ⟨Nat.le_of_ble_eq_true rfl, Nat.le_of_ble_eq_true rfl⟩ 3 rfl rfl rfl rfl rfl (Nat.le_of_ble_eq_true rfl) ⟨Nat.le_refl _, Nat.le_refl _⟩ dX4_inWeek_87 rfl ?_
          exact hend (⟨by rw [if_neg h8, if_neg h17, ecf, ecw, f5]; simp [q_iw, h45_1], hs⟩) (rfl) dX4_inWeek_90
        by_cases h45_2 : what = 2
        · refine v_tableIn C 91 dX4_inWeek_45 (by rw [h45_2]; decide) (by rw [h45_2]; decide) (off := 46) (by rw [h45_2]; rfl) (by decide) ?_
          obtain ⟨f0, f1, f2, f3, f4, f5⟩ := hE.2.2.1 w9 hw5
          refine v_aload_n C dX4_inWeek_91 rfl 0 0 rfl rfl ?_
          refine v_get C K in_X4_inWeek_X4 0 rfl rfl 1 (by decide) fl_X4_inWeek_X4_1 rfl dX4_inWeek_92 rfl ?_
          refine v_iload_n C dX4_inWeek_95 rfl 2 2 rfl rfl ?_
          refine v_iconst (v := 3) C dX4_inWeek_96 rfl ic_3 ?_
          refine v_callVid C K (c_X0_sumOfWeek l D ad cI cC cZ cQ _ w9 3 hw5 (by decide)) gX4_inWeek_X0_sumOfWeek rfl hd_X0_sumOfWeek ⟨rfl, rfl⟩ ⟨Nat.le_of_ble_eq_true rfl, Nat.le_of_ble_eq_true rfl⟩ 3 rfl rfl rfl rfl rfl (Nat.le_of_ble_eq_true rfl) ⟨Nat.le_refl _, Nat.le_refl _⟩ dX4_inWeek_97 rfl ?_
          exact hend (⟨by rw [if_neg h8, if_neg h17, ecf, ecw, f3]; simp [q_iw, h45_2], hs⟩) (rfl) dX4_inWeek_100
        refine v_tableOut C 101 dX4_inWeek_45 (sw9 (x := what) (n := 2) (by decide) (fun j hj => by rcases (show j = 0 ∨ j = 1 ∨ j = 2 by omega) with rfl | rfl | rfl <;> first | exact h45_0 | exact h45_1 | exact h45_2)) (by decide) ?_
        obtain ⟨f0, f1, f2, f3, f4, f5⟩ := hE.2.2.1 w9 hw5
        have e3 := what3 h26 h45_0 h45_1 h45_2
        refine v_aload_n C dX4_inWeek_101 rfl 0 0 rfl rfl ?_
        refine v_get C K in_X4_inWeek_X4 0 rfl rfl 1 (by decide) fl_X4_inWeek_X4_1 rfl dX4_inWeek_102 rfl ?_
        refine v_iload_n C dX4_inWeek_105 rfl 2 2 rfl rfl ?_
        refine v_callVid C K (c_X0_dueAboveShare l D ad cI cC cZ cQ _ w9 hw5) gX4_inWeek_X0_dueAboveShare rfl hd_X0_dueAboveShare ⟨rfl, rfl⟩ ⟨Nat.le_of_ble_eq_true rfl, Nat.le_of_ble_eq_true rfl⟩ 3 rfl rfl rfl rfl rfl (Nat.le_of_ble_eq_true rfl) ⟨Nat.le_refl _, Nat.le_refl _⟩ dX4_inWeek_106 rfl ?_
        exact hend (⟨by rw [if_neg h8, if_neg h17, ecf, ecw, f3, c_sot, f5, f2, e3]; simp [q_iw, q_so], hs⟩) (rfl) dX4_inWeek_109
      · skip
        refine v_bipush (v := -2) C dX4_inWeek_29 rfl bp_m2 ?_
        exact hend (⟨by rw [if_neg h8, if_neg h17, q_iw_bad h26t], cc9_rf σ⟩) (rfl) dX4_inWeek_31
  · skip
    refine v_iconst (v := -1) C dX4_inWeek_11 rfl ic_m1 ?_
    exact hend (⟨by rw [if_pos h8t], cc9_rf σ⟩) (rfl) dX4_inWeek_12
theorem q_wk_bad {r : Nat → Int32} {wk x : Int32} (h : p_in x 0 4 = 0) : q_wk r wk x = -2 := by
  have h' := p_in_no (n := 4) (by decide) h
  unfold q_wk
  rw [if_neg (show ¬ x = 0 from h' 0 (by decide)), if_neg (show ¬ x = 1 from h' 1 (by decide)), if_neg (show ¬ x = 2 from h' 2 (by decide)), if_neg (show ¬ x = 3 from h' 3 (by decide)), if_neg (show ¬ x = 4 from h' 4 (by decide))]
theorem q_wk_sum {r : Nat → Int32} {n w j : Nat} (hw : wfS r n) (hw5 : w < 5) (hj : j < 4) : q_wk r (nI w) (nI j) = sm9 (fun f => c_X r j f w) n := by
  rcases (show j = 0 ∨ j = 1 ∨ j = 2 ∨ j = 3 by omega) with rfl | rfl | rfl | rfl
  · exact (q_W_week hw.2.1 hw5 (fun f a b w => q_S_0 hw a b w)).trans (sm9_congr (fun f _ => rfl))
  · exact (ppl_week hw hw5).trans (sm9_congr (fun f _ => rfl))
  · exact (q_W_week hw.2.1 hw5 (fun f a b w => q_T_0 hw a b w)).trans (sm9_congr (fun f _ => rfl))
  · exact (q_W_week hw.2.1 hw5 (fun f a b w => q_D_0 hw a b w)).trans (sm9_congr (fun f _ => rfl))
set_option maxHeartbeats 4000000 in
set_option maxRecDepth 100000 in
theorem c_X4_week (l : Launch) (D : va_G) (ad : Nat → Nat) (cI cC cZ cQ : ClassId) (σ : S9) (n : Nat) (hw : wfH (σ 0) n) (wk what : Int32) : CMi l (cW ad cI cC cZ cQ) D (cTy cI cC cZ cQ) yX4_week wsX4_week ({ frames := 5, cells := 0, slots := 0, locals := 123 } : Room) [.ref (ad 0), .int wk, .int what] σ (fun r u => r = (if p_in wk 0 4 = 0 then -2 else q_wk (σ 0) wk what) ∧ cc9 σ u) := by
  refine v_starti (own := RX4) (cc := cX4_week) (nL := 5) rfl (by decide) rfl (Nat.le_of_ble_eq_true rfl) ?_
  intro p e s m args below meth c A Q C K hend
  refine v_lv (lv' := [(0, .ref (ad 0)), (1, .int wk), (2, .int what)]) [0, 1, 2] rfl ?_
  refine v_iload_n C dX4_week_0 rfl 1 1 rfl rfl ?_
  refine v_callSpd C (c_X4_isWeek l _) gX4_week_X4_isWeek rfl hd_X4_isWeek.2 ⟨rfl, rfl⟩ ⟨Nat.le_of_ble_eq_true rfl, Nat.le_of_ble_eq_true rfl⟩ rfl rfl (Nat.le_of_ble_eq_true rfl) ⟨Nat.le_refl _, Nat.le_refl _⟩ dX4_week_1 rfl ?_
  refine v_if_eq C 16 dX4_week_4 (by decide) rfl (fun h4t => ?_) (fun h4 => ?_)
  · skip
    refine v_bipush (v := -2) C dX4_week_16 rfl bp_m2 ?_
    exact hend (⟨by rw [if_pos h4t], cc9_rf σ⟩) (rfl) dX4_week_18
  · skip
    refine v_iload_n C dX4_week_7 rfl 2 2 rfl rfl ?_
    refine v_iconst (v := 0) C dX4_week_8 rfl ic_0 ?_
    refine v_iconst (v := 4) C dX4_week_9 rfl ic_4 ?_
    refine v_callSpd C (c_X4_isWithin l _ _ _) gX4_week_X4_isWithin rfl hd_X4_isWithin.2 ⟨rfl, rfl⟩ ⟨Nat.le_of_ble_eq_true rfl, Nat.le_of_ble_eq_true rfl⟩ rfl rfl (Nat.le_of_ble_eq_true rfl) ⟨Nat.le_refl _, Nat.le_refl _⟩ dX4_week_10 rfl ?_
    refine v_if_ne C 19 dX4_week_13 (by decide) rfl (fun h13 => ?_) (fun h13t => ?_)
    · skip
      obtain ⟨w9, hw5, rfl⟩ := w5 h4
      obtain ⟨j, hj, rfl⟩ := w5 h13
      refine v_aload_n C dX4_week_19 rfl 0 0 rfl rfl ?_
      refine v_iload_n C dX4_week_20 rfl 1 1 rfl rfl ?_
      refine v_iload_n C dX4_week_21 rfl 2 2 rfl rfl ?_
      refine v_callVi C K (c_X4_sumOfFilmsInWeek l D ad cI cC cZ cQ _ n hw w9 hw5 j hj) gX4_week_X4_sumOfFilmsInWeek rfl hd_X4_sumOfFilmsInWeek ⟨rfl, rfl⟩ ⟨Nat.le_of_ble_eq_true rfl, Nat.le_of_ble_eq_true rfl⟩ 0 rfl rfl rfl rfl rfl (Nat.le_of_ble_eq_true rfl) ⟨Nat.le_refl _, Nat.le_refl _⟩ dX4_week_22 rfl (fun r22 u22 hc22 => ?_)
      obtain ⟨rfl, hs⟩ := hc22
      refine v_istore_n (lv' := [(3, _), (0, _), (1, _), (2, _)]) C dX4_week_25 rfl 3 rfl (by decide) rfl ?_
      refine v_iload_n C dX4_week_26 rfl 2 3 rfl rfl ?_
      refine v_iconst (v := 4) C dX4_week_27 rfl ic_4 ?_
      refine v_icmp_eq C 33 dX4_week_28 (by decide) rfl (fun h28 => ?_) (fun h28f => ?_)
      · skip
        have e4 : j = 4 := nI_inj (b := 4) (by omega) (by decide) h28
        subst e4
        refine v_iload_n C dX4_week_33 rfl 1 2 rfl rfl ?_
        refine v_bipush (v := 7) C dX4_week_34 rfl bp_7 ?_
        refine v_imul C dX4_week_36 rfl ?_
        refine v_top (nI (7 * w9)) (by simp only [lit9, pk_mul, nI_add]; congr 1; omega) ?_
        refine v_istore (lv' := [(4, _), (3, _), (0, _), (1, _), (2, _)]) C dX4_week_37 rfl (by decide) rfl ?_
        refine v_iload_n C dX4_week_39 rfl 3 1 rfl rfl ?_
        refine v_aload_n C dX4_week_40 rfl 0 2 rfl rfl ?_
        refine v_get C K in_X4_week_X4 0 rfl rfl 0 (by decide) fl_X4_week_X4_0 rfl dX4_week_41 rfl ?_
        refine v_iload C dX4_week_44 rfl 0 rfl ?_
        refine v_iload C dX4_week_46 rfl 0 rfl ?_
        refine v_bipush (v := 7) C dX4_week_48 rfl bp_7 ?_
        refine v_iadd C dX4_week_50 rfl ?_
        refine v_top (nI (7 * w9 + 7)) (by simp only [lit9, pk_mul, nI_add]) ?_
        refine v_callVid C K (c_X1_rentsOf l D ad cI cC cZ cQ _ (7 * w9) (7 * w9 + 7) (by omega) (by omega)) gX4_week_X1_rentsOf rfl hd_X1_rentsOf ⟨rfl, rfl⟩ ⟨Nat.le_of_ble_eq_true rfl, Nat.le_of_ble_eq_true rfl⟩ 1 rfl rfl rfl rfl rfl (Nat.le_of_ble_eq_true rfl) ⟨Nat.le_refl _, Nat.le_refl _⟩ dX4_week_51 rfl ?_
        refine v_iadd C dX4_week_54 rfl ?_
        refine v_ldc C dX4_week_55 rfl ct_X4_week_101 ?_
        refine v_iadd C dX4_week_57 rfl ?_
        exact hend (⟨by rw [if_neg h4, cc9_0 hs]; exact (congrArg (fun z => z + 1000000) (q_left_week hw.1 hw5)).symm, hs⟩) (rfl) dX4_week_58
      · skip
        have e4 : ¬ j = 4 := fun e => h28f (by rw [e]; rfl)
        refine v_iload_n C dX4_week_31 rfl 3 0 rfl rfl ?_
        exact hend (⟨by rw [if_neg h4, q_wk_sum hw.1 hw5 (by omega)], hs⟩) (rfl) dX4_week_32
    · skip
      refine v_bipush (v := -2) C dX4_week_16 rfl bp_m2 ?_
      exact hend (⟨by rw [if_neg h4, q_wk_bad h13t], cc9_rf σ⟩) (rfl) dX4_week_18
set_option maxHeartbeats 4000000 in
set_option maxRecDepth 100000 in
theorem c_X4_rent (l : Launch) (D : va_G) (ad : Nat → Nat) (cI cC cZ cQ : ClassId) (σ : S9) (d : Int32) : CMi l (cW ad cI cC cZ cQ) D (cTy cI cC cZ cQ) yX4_rent wsX4_rent ({ frames := 2, cells := 0, slots := 0, locals := 42 } : Room) [.ref (ad 0), .int d] σ (fun r u => r = (if p_in d 0 34 = 0 then -2 else σ 0 (116 + d.toNatClampNeg)) ∧ u = σ) := by
  refine v_starti (own := RX4) (cc := cX4_rent) (nL := 2) rfl (by decide) rfl (Nat.le_of_ble_eq_true rfl) ?_
  intro p e s m args below meth c A Q C K hend
  refine v_lv (lv' := [(0, .ref (ad 0)), (1, .int d)]) [0, 1] rfl ?_
  refine v_iload_n C dX4_rent_0 rfl 1 1 rfl rfl ?_
  refine v_callSpd C (c_X4_isDay l _) gX4_rent_X4_isDay rfl hd_X4_isDay.2 ⟨rfl, rfl⟩ ⟨Nat.le_of_ble_eq_true rfl, Nat.le_of_ble_eq_true rfl⟩ rfl rfl (Nat.le_of_ble_eq_true rfl) ⟨Nat.le_refl _, Nat.le_refl _⟩ dX4_rent_1 rfl ?_
  refine v_if_eq C 18 dX4_rent_4 (by decide) rfl (fun h4t => ?_) (fun h4 => ?_)
  · skip
    refine v_bipush (v := -2) C dX4_rent_18 rfl bp_m2 ?_
    exact hend (⟨by simp [h4t], rfl⟩) (rfl) dX4_rent_20
  · skip
    obtain ⟨d, hd, rfl⟩ := p_in_nI (n := 34) (by decide) h4
    have ecd : (nI d).toNatClampNeg = d := nI_cl (by omega)
    refine v_aload_n C dX4_rent_7 rfl 0 0 rfl rfl ?_
    refine v_get C K in_X4_rent_X4 0 rfl rfl 0 (by decide) fl_X4_rent_X4_0 rfl dX4_rent_8 rfl ?_
    refine v_iload_n C dX4_rent_11 rfl 1 1 rfl rfl ?_
    refine v_callVid C K (c_X1_rentOf l D ad cI cC cZ cQ _ d (by omega)) gX4_rent_X1_rentOf rfl hd_X1_rentOf ⟨rfl, rfl⟩ ⟨Nat.le_of_ble_eq_true rfl, Nat.le_of_ble_eq_true rfl⟩ 1 rfl rfl rfl rfl rfl (Nat.le_of_ble_eq_true rfl) ⟨Nat.le_refl _, Nat.le_refl _⟩ dX4_rent_12 rfl ?_
    refine v_goto C 20 dX4_rent_15 (by decide) ?_
    exact hend (⟨by simp [h4, ecd], rfl⟩) (rfl) dX4_rent_20
theorem q_cnt_bad {r : Nat → Int32} {a b x : Int32} (h : p_in x 0 14 = 0) : q_cnt r a b x = -2 := by
  have h' := p_in_no (n := 14) (by decide) h
  unfold q_cnt
  rw [if_neg (show ¬ x = 0 from h' 0 (by decide)), if_neg (show ¬ x = 1 from h' 1 (by decide)), if_neg (show ¬ x = 2 from h' 2 (by decide)), if_neg (show ¬ x = 3 from h' 3 (by decide)), if_neg (show ¬ x = 4 from h' 4 (by decide)), if_neg (show ¬ x = 5 from h' 5 (by decide)), if_neg (show ¬ x = 6 from h' 6 (by decide)), if_neg (show ¬ x = 7 from h' 7 (by decide)), if_neg (show ¬ x = 8 from h' 8 (by decide)), if_neg (show ¬ x = 9 from h' 9 (by decide)), if_neg (show ¬ x = 10 from h' 10 (by decide)), if_neg (show ¬ x = 11 from h' 11 (by decide)), if_neg (show ¬ x = 12 from h' 12 (by decide)), if_neg (show ¬ x = 13 from h' 13 (by decide)), if_neg (show ¬ x = 14 from h' 14 (by decide))]
theorem q_cnt_set (r : Nat → Int32) (a b : Int32) {j : Nat} (h8 : 8 ≤ j) (h12 : j ≤ 12) : q_cnt r a b (nI j) = r (j - 8) := by
  rcases (show j = 8 ∨ j = 9 ∨ j = 10 ∨ j = 11 ∨ j = 12 by omega) with rfl | rfl | rfl | rfl | rfl <;> rfl
theorem q_cnt_sum {r : Nat → Int32} {n j : Nat} (hw : wfS r n) (a b : Int32) (h1 : 1 ≤ j) (h4 : j ≤ 4) : q_cnt r a b (nI j) = sm9 (c_sum r (j - 1)) n := by
  rcases (show j = 1 ∨ j = 2 ∨ j = 3 ∨ j = 4 by omega) with rfl | rfl | rfl | rfl
  · exact (q_W_all hw.2.1 (fun f a b w => q_S_0 hw a b w)).trans (sm9_congr (fun f _ => sm9_congr (fun w _ => rfl)))
  · exact (ppl_all hw).trans (sm9_congr (fun f _ => sm9_congr (fun w _ => rfl)))
  · exact (q_W_all hw.2.1 (fun f a b w => q_T_0 hw a b w)).trans (sm9_congr (fun f _ => sm9_congr (fun w _ => rfl)))
  · exact (q_W_all hw.2.1 (fun f a b w => q_D_0 hw a b w)).trans (sm9_congr (fun f _ => sm9_congr (fun w _ => rfl)))
theorem rnT_all (r : Nat → Int32) : sm9 (fun j => r (116 + (0 + j))) (35 - 0) = sm9 (rnT r (-1)) 35 := sm9_congr (fun j _ => by rw [Nat.zero_add]; exact (if_pos (Or.inl (by decide))).symm)
theorem p_in_nI2 {x : Int32} {a b : Nat} (hb : b < 2 ^ 31) (h : ¬ p_in x (nI a) (nI b) = 0) (j : Nat) (hj : j < 2 ^ 31) (e : x = nI j) (ha : a < 2 ^ 31) : a ≤ j ∧ j ≤ b := by
  obtain ⟨h1, h2⟩ := p_in_ne h
  rw [e] at h1 h2
  exact ⟨(nI_leI ha hj).mp h1, (nI_leI hj hb).mp h2⟩
set_option maxHeartbeats 4000000 in
set_option maxRecDepth 100000 in
theorem c_X4_count (l : Launch) (D : va_G) (ad : Nat → Nat) (cI cC cZ cQ : ClassId) (σ : S9) (n : Nat) (hw : wfH (σ 0) n) (what : Int32) : CMi l (cW ad cI cC cZ cQ) D (cTy cI cC cZ cQ) yX4_count wsX4_count ({ frames := 6, cells := 0, slots := 0, locals := 144 } : Room) [.ref (ad 0), .int what] σ (fun r u => r = q_cnt (σ 0) (σ 7 0) (σ 8 1) what ∧ cc9 σ u) := by
  refine v_starti (own := RX4) (cc := cX4_count) (nL := 2) rfl (by decide) rfl (Nat.le_of_ble_eq_true rfl) ?_
  intro p e s m args below meth c A Q C K hend
  refine v_lv (lv' := [(0, .ref (ad 0)), (1, .int what)]) [0, 1] rfl ?_
  refine v_iload_n C dX4_count_0 rfl 1 1 rfl rfl ?_
  refine v_iconst (v := 0) C dX4_count_1 rfl ic_0 ?_
  refine v_bipush (v := 14) C dX4_count_2 rfl bp_14 ?_
  refine v_callSpd C (c_X4_isWithin l _ _ _) gX4_count_X4_isWithin rfl hd_X4_isWithin.2 ⟨rfl, rfl⟩ ⟨Nat.le_of_ble_eq_true rfl, Nat.le_of_ble_eq_true rfl⟩ rfl rfl (Nat.le_of_ble_eq_true rfl) ⟨Nat.le_refl _, Nat.le_refl _⟩ dX4_count_4 rfl ?_
  refine v_if_ne C 13 dX4_count_7 (by decide) rfl (fun h7 => ?_) (fun h7t => ?_)
  · skip
    obtain ⟨j, hj, rfl⟩ := p_in_nI (n := 14) (by decide) h7
    refine v_iload_n C dX4_count_13 rfl 1 1 rfl rfl ?_
    refine v_bipush (v := 8) C dX4_count_14 rfl bp_8 ?_
    refine v_bipush (v := 12) C dX4_count_16 rfl bp_12 ?_
    refine v_callSpd C (c_X4_isWithin l _ _ _) gX4_count_X4_isWithin rfl hd_X4_isWithin.2 ⟨rfl, rfl⟩ ⟨Nat.le_of_ble_eq_true rfl, Nat.le_of_ble_eq_true rfl⟩ rfl rfl (Nat.le_of_ble_eq_true rfl) ⟨Nat.le_refl _, Nat.le_refl _⟩ dX4_count_18 rfl ?_
    refine v_if_eq C 36 dX4_count_21 (by decide) rfl (fun h21t => ?_) (fun h21 => ?_)
    · skip
      refine v_iload_n C dX4_count_36 rfl 1 1 rfl rfl ?_
      by_cases h37_0 : nI j = 0
      · refine v_tableIn C 112 dX4_count_37 (by rw [h37_0]; decide) (by rw [h37_0]; decide) (off := 75) (by rw [h37_0]; rfl) (by decide) ?_
        refine v_aload_n C dX4_count_112 rfl 0 0 rfl rfl ?_
        refine v_get C K in_X4_count_X4 0 rfl rfl 0 (by decide) fl_X4_count_X4_0 rfl dX4_count_113 rfl ?_
        refine v_callVid C K (c_X1_films l D ad cI cC cZ cQ _) gX4_count_X1_films rfl hd_X1_films ⟨rfl, rfl⟩ ⟨Nat.le_of_ble_eq_true rfl, Nat.le_of_ble_eq_true rfl⟩ 1 rfl rfl rfl rfl rfl (Nat.le_of_ble_eq_true rfl) ⟨Nat.le_refl _, Nat.le_refl _⟩ dX4_count_116 rfl ?_
        exact hend (⟨by rw [h37_0]; rfl, cc9_rf σ⟩) (rfl) dX4_count_119
      by_cases h37_1 : nI j = 1
      · refine v_tableIn C 172 dX4_count_37 (by rw [h37_1]; decide) (by rw [h37_1]; decide) (off := 135) (by rw [h37_1]; rfl) (by decide) ?_
        have ej : j = 1 := nI_inj (b := 1) (by omega) (by decide) h37_1
        have hj4 : 1 ≤ j ∧ j ≤ 4 := by omega
        refine v_aload_n C dX4_count_172 rfl 0 0 rfl rfl ?_
        refine v_iload_n C dX4_count_173 rfl 1 1 rfl rfl ?_
        refine v_iconst (v := 1) C dX4_count_174 rfl ic_1 ?_
        refine v_isub C dX4_count_175 rfl ?_
        refine v_top (nI (j - 1)) (pk_sub (a := j) (b := 1) hj4.1) ?_
        refine v_callVi C K (c_X4_sumOfFilms l D ad cI cC cZ cQ _ n hw (j - 1) (by omega)) gX4_count_X4_sumOfFilms rfl hd_X4_sumOfFilms ⟨rfl, rfl⟩ ⟨Nat.le_of_ble_eq_true rfl, Nat.le_of_ble_eq_true rfl⟩ 0 rfl rfl rfl rfl rfl (Nat.le_of_ble_eq_true rfl) ⟨Nat.le_refl _, Nat.le_refl _⟩ dX4_count_176 rfl (fun r176 u176 hc176 => ?_)
        obtain ⟨rfl, hs⟩ := hc176
        exact hend (⟨by rw [q_cnt_sum hw.1 _ _ hj4.1 hj4.2], hs⟩) (rfl) dX4_count_179
      by_cases h37_2 : nI j = 2
      · refine v_tableIn C 172 dX4_count_37 (by rw [h37_2]; decide) (by rw [h37_2]; decide) (off := 135) (by rw [h37_2]; rfl) (by decide) ?_
        have ej : j = 2 := nI_inj (b := 2) (by omega) (by decide) h37_2
        have hj4 : 1 ≤ j ∧ j ≤ 4 := by omega
        refine v_aload_n C dX4_count_172 rfl 0 0 rfl rfl ?_
        refine v_iload_n C dX4_count_173 rfl 1 1 rfl rfl ?_
        refine v_iconst (v := 1) C dX4_count_174 rfl ic_1 ?_
        refine v_isub C dX4_count_175 rfl ?_
        refine v_top (nI (j - 1)) (pk_sub (a := j) (b := 1) hj4.1) ?_
        refine v_callVi C K (c_X4_sumOfFilms l D ad cI cC cZ cQ _ n hw (j - 1) (by omega)) gX4_count_X4_sumOfFilms rfl hd_X4_sumOfFilms ⟨rfl, rfl⟩ ⟨Nat.le_of_ble_eq_true rfl, Nat.le_of_ble_eq_true rfl⟩ 0 rfl rfl rfl rfl rfl (Nat.le_of_ble_eq_true rfl) ⟨Nat.le_refl _, Nat.le_refl _⟩ dX4_count_176 rfl (fun r176 u176 hc176 => ?_)
        obtain ⟨rfl, hs⟩ := hc176
        exact hend (⟨by rw [q_cnt_sum hw.1 _ _ hj4.1 hj4.2], hs⟩) (rfl) dX4_count_179
      by_cases h37_3 : nI j = 3
      · refine v_tableIn C 172 dX4_count_37 (by rw [h37_3]; decide) (by rw [h37_3]; decide) (off := 135) (by rw [h37_3]; rfl) (by decide) ?_
        have ej : j = 3 := nI_inj (b := 3) (by omega) (by decide) h37_3
        have hj4 : 1 ≤ j ∧ j ≤ 4 := by omega
        refine v_aload_n C dX4_count_172 rfl 0 0 rfl rfl ?_
        refine v_iload_n C dX4_count_173 rfl 1 1 rfl rfl ?_
        refine v_iconst (v := 1) C dX4_count_174 rfl ic_1 ?_
        refine v_isub C dX4_count_175 rfl ?_
        refine v_top (nI (j - 1)) (pk_sub (a := j) (b := 1) hj4.1) ?_
        refine v_callVi C K (c_X4_sumOfFilms l D ad cI cC cZ cQ _ n hw (j - 1) (by omega)) gX4_count_X4_sumOfFilms rfl hd_X4_sumOfFilms ⟨rfl, rfl⟩ ⟨Nat.le_of_ble_eq_true rfl, Nat.le_of_ble_eq_true rfl⟩ 0 rfl rfl rfl rfl rfl (Nat.le_of_ble_eq_true rfl) ⟨Nat.le_refl _, Nat.le_refl _⟩ dX4_count_176 rfl (fun r176 u176 hc176 => ?_)
        obtain ⟨rfl, hs⟩ := hc176
        exact hend (⟨by rw [q_cnt_sum hw.1 _ _ hj4.1 hj4.2], hs⟩) (rfl) dX4_count_179
      by_cases h37_4 : nI j = 4
      · refine v_tableIn C 172 dX4_count_37 (by rw [h37_4]; decide) (by rw [h37_4]; decide) (off := 135) (by rw [h37_4]; rfl) (by decide) ?_
        have ej : j = 4 := nI_inj (b := 4) (by omega) (by decide) h37_4
        have hj4 : 1 ≤ j ∧ j ≤ 4 := by omega
        refine v_aload_n C dX4_count_172 rfl 0 0 rfl rfl ?_
        refine v_iload_n C dX4_count_173 rfl 1 1 rfl rfl ?_
        refine v_iconst (v := 1) C dX4_count_174 rfl ic_1 ?_
        refine v_isub C dX4_count_175 rfl ?_
        refine v_top (nI (j - 1)) (pk_sub (a := j) (b := 1) hj4.1) ?_
        refine v_callVi C K (c_X4_sumOfFilms l D ad cI cC cZ cQ _ n hw (j - 1) (by omega)) gX4_count_X4_sumOfFilms rfl hd_X4_sumOfFilms ⟨rfl, rfl⟩ ⟨Nat.le_of_ble_eq_true rfl, Nat.le_of_ble_eq_true rfl⟩ 0 rfl rfl rfl rfl rfl (Nat.le_of_ble_eq_true rfl) ⟨Nat.le_refl _, Nat.le_refl _⟩ dX4_count_176 rfl (fun r176 u176 hc176 => ?_)
        obtain ⟨rfl, hs⟩ := hc176
        exact hend (⟨by rw [q_cnt_sum hw.1 _ _ hj4.1 hj4.2], hs⟩) (rfl) dX4_count_179
      by_cases h37_5 : nI j = 5
      · refine v_tableIn C 120 dX4_count_37 (by rw [h37_5]; decide) (by rw [h37_5]; decide) (off := 83) (by rw [h37_5]; rfl) (by decide) ?_
        refine v_aload_n C dX4_count_120 rfl 0 0 rfl rfl ?_
        refine v_iconst (v := 4) C dX4_count_121 rfl ic_4 ?_
        refine v_callVi C K (c_X4_sumOfFilms l D ad cI cC cZ cQ _ n hw 4 (by decide)) gX4_count_X4_sumOfFilms rfl hd_X4_sumOfFilms ⟨rfl, rfl⟩ ⟨Nat.le_of_ble_eq_true rfl, Nat.le_of_ble_eq_true rfl⟩ 0 rfl rfl rfl rfl rfl (Nat.le_of_ble_eq_true rfl) ⟨Nat.le_refl _, Nat.le_refl _⟩ dX4_count_122 rfl (fun r122 u122 hc122 => ?_)
        obtain ⟨rfl, hs⟩ := hc122
        refine v_aload_n C dX4_count_125 rfl 0 0 rfl rfl ?_
        refine v_get C K in_X4_count_X4 0 rfl rfl 0 (by decide) fl_X4_count_X4_0 rfl dX4_count_126 rfl ?_
        refine v_iconst (v := 0) C dX4_count_129 rfl ic_0 ?_
        refine v_bipush (v := 35) C dX4_count_130 rfl bp_35 ?_
        refine v_callVid C K (c_X1_rentsOf l D ad cI cC cZ cQ _ 0 35 (by decide) (by decide)) gX4_count_X1_rentsOf rfl hd_X1_rentsOf ⟨rfl, rfl⟩ ⟨Nat.le_of_ble_eq_true rfl, Nat.le_of_ble_eq_true rfl⟩ 1 rfl rfl rfl rfl rfl (Nat.le_of_ble_eq_true rfl) ⟨Nat.le_refl _, Nat.le_refl _⟩ dX4_count_132 rfl ?_
        refine v_iadd C dX4_count_135 rfl ?_
        refine v_ldc C dX4_count_136 rfl ct_X4_count_101 ?_
        refine v_iadd C dX4_count_138 rfl ?_
        exact hend (⟨by rw [h37_5, cc9_0 hs]; exact (congrArg (fun z => z + 1000000) (q_left_all hw.1)).symm, hs⟩) (rfl) dX4_count_139
      by_cases h37_6 : nI j = 6
      · refine v_tableIn C 140 dX4_count_37 (by rw [h37_6]; decide) (by rw [h37_6]; decide) (off := 103) (by rw [h37_6]; rfl) (by decide) ?_
        refine v_aload_n C dX4_count_140 rfl 0 0 rfl rfl ?_
        refine v_get C K in_X4_count_X4 0 rfl rfl 0 (by decide) fl_X4_count_X4_0 rfl dX4_count_141 rfl ?_
        refine v_iconst (v := 0) C dX4_count_144 rfl ic_0 ?_
        refine v_bipush (v := 35) C dX4_count_145 rfl bp_35 ?_
        refine v_callVid C K (c_X1_rentsOf l D ad cI cC cZ cQ _ 0 35 (by decide) (by decide)) gX4_count_X1_rentsOf rfl hd_X1_rentsOf ⟨rfl, rfl⟩ ⟨Nat.le_of_ble_eq_true rfl, Nat.le_of_ble_eq_true rfl⟩ 1 rfl rfl rfl rfl rfl (Nat.le_of_ble_eq_true rfl) ⟨Nat.le_refl _, Nat.le_refl _⟩ dX4_count_147 rfl ?_
        exact hend (⟨by rw [h37_6]; exact rnT_all _, cc9_rf σ⟩) (rfl) dX4_count_150
      by_cases h37_7 : nI j = 7
      · refine v_tableIn C 151 dX4_count_37 (by rw [h37_7]; decide) (by rw [h37_7]; decide) (off := 114) (by rw [h37_7]; rfl) (by decide) ?_
        refine v_aload_n C dX4_count_151 rfl 0 0 rfl rfl ?_
        refine v_callVi C K (c_X4_fullShows l D ad cI cC cZ cQ _ n hw) gX4_count_X4_fullShows rfl hd_X4_fullShows ⟨rfl, rfl⟩ ⟨Nat.le_of_ble_eq_true rfl, Nat.le_of_ble_eq_true rfl⟩ 0 rfl rfl rfl rfl rfl (Nat.le_of_ble_eq_true rfl) ⟨Nat.le_refl _, Nat.le_refl _⟩ dX4_count_152 rfl (fun r152 u152 hc152 => ?_)
        obtain ⟨rfl, hs⟩ := hc152
        exact hend (⟨by rw [h37_7]; exact (full_all hw.1).symm, hs⟩) (rfl) dX4_count_155
      by_cases h37_8 : nI j = 8
      · refine v_tableIn C 172 dX4_count_37 (by rw [h37_8]; decide) (by rw [h37_8]; decide) (off := 135) (by rw [h37_8]; rfl) (by decide) ?_
        have ej : j = 8 := nI_inj (b := 8) (by omega) (by decide) h37_8
        subst ej
        exact absurd h21t (by decide)
      by_cases h37_9 : nI j = 9
      · refine v_tableIn C 172 dX4_count_37 (by rw [h37_9]; decide) (by rw [h37_9]; decide) (off := 135) (by rw [h37_9]; rfl) (by decide) ?_
        have ej : j = 9 := nI_inj (b := 9) (by omega) (by decide) h37_9
        subst ej
        exact absurd h21t (by decide)
      by_cases h37_10 : nI j = 10
      · refine v_tableIn C 172 dX4_count_37 (by rw [h37_10]; decide) (by rw [h37_10]; decide) (off := 135) (by rw [h37_10]; rfl) (by decide) ?_
        have ej : j = 10 := nI_inj (b := 10) (by omega) (by decide) h37_10
        subst ej
        exact absurd h21t (by decide)
      by_cases h37_11 : nI j = 11
      · refine v_tableIn C 172 dX4_count_37 (by rw [h37_11]; decide) (by rw [h37_11]; decide) (off := 135) (by rw [h37_11]; rfl) (by decide) ?_
        have ej : j = 11 := nI_inj (b := 11) (by omega) (by decide) h37_11
        subst ej
        exact absurd h21t (by decide)
      by_cases h37_12 : nI j = 12
      · refine v_tableIn C 172 dX4_count_37 (by rw [h37_12]; decide) (by rw [h37_12]; decide) (off := 135) (by rw [h37_12]; rfl) (by decide) ?_
        have ej : j = 12 := nI_inj (b := 12) (by omega) (by decide) h37_12
        subst ej
        exact absurd h21t (by decide)
      by_cases h37_13 : nI j = 13
      · refine v_tableIn C 156 dX4_count_37 (by rw [h37_13]; decide) (by rw [h37_13]; decide) (off := 119) (by rw [h37_13]; rfl) (by decide) ?_
        refine v_aload_n C dX4_count_156 rfl 0 0 rfl rfl ?_
        refine v_get C K in_X4_count_X4 0 rfl rfl 2 (by decide) fl_X4_count_X4_2 rfl dX4_count_157 rfl ?_
        refine v_callVid C K (c_X3_length l D ad cI cC cZ cQ _) gX4_count_X3_length rfl hd_X3_length ⟨rfl, rfl⟩ ⟨Nat.le_of_ble_eq_true rfl, Nat.le_of_ble_eq_true rfl⟩ 8 rfl rfl rfl rfl rfl (Nat.le_of_ble_eq_true rfl) ⟨Nat.le_refl _, Nat.le_refl _⟩ dX4_count_160 rfl ?_
        exact hend (⟨by rw [h37_13]; rfl, cc9_rf σ⟩) (rfl) dX4_count_163
      by_cases h37_14 : nI j = 14
      · refine v_tableIn C 164 dX4_count_37 (by rw [h37_14]; decide) (by rw [h37_14]; decide) (off := 127) (by rw [h37_14]; rfl) (by decide) ?_
        refine v_aload_n C dX4_count_164 rfl 0 0 rfl rfl ?_
        refine v_get C K in_X4_count_X4 0 rfl rfl 3 (by decide) fl_X4_count_X4_3 rfl dX4_count_165 rfl ?_
        refine v_callVid C K (c_X2_size l D ad cI cC cZ cQ _) gX4_count_X2_size rfl hd_X2_size ⟨rfl, rfl⟩ ⟨Nat.le_of_ble_eq_true rfl, Nat.le_of_ble_eq_true rfl⟩ 10 rfl rfl rfl rfl rfl (Nat.le_of_ble_eq_true rfl) ⟨Nat.le_refl _, Nat.le_refl _⟩ dX4_count_168 rfl ?_
        exact hend (⟨by rw [h37_14]; rfl, cc9_rf σ⟩) (rfl) dX4_count_171
      refine v_tableOut C 172 dX4_count_37 (sw9 (x := nI j) (n := 14) (by decide) (fun j hj => by rcases (show j = 0 ∨ j = 1 ∨ j = 2 ∨ j = 3 ∨ j = 4 ∨ j = 5 ∨ j = 6 ∨ j = 7 ∨ j = 8 ∨ j = 9 ∨ j = 10 ∨ j = 11 ∨ j = 12 ∨ j = 13 ∨ j = 14 by omega) with rfl | rfl | rfl | rfl | rfl | rfl | rfl | rfl | rfl | rfl | rfl | rfl | rfl | rfl | rfl <;> first | exact h37_0 | exact h37_1 | exact h37_2 | exact h37_3 | exact h37_4 | exact h37_5 | exact h37_6 | exact h37_7 | exact h37_8 | exact h37_9 | exact h37_10 | exact h37_11 | exact h37_12 | exact h37_13 | exact h37_14)) (by decide) ?_
      exfalso
      rcases (show j = 0 ∨ j = 1 ∨ j = 2 ∨ j = 3 ∨ j = 4 ∨ j = 5 ∨ j = 6 ∨ j = 7 ∨ j = 8 ∨ j = 9 ∨ j = 10 ∨ j = 11 ∨ j = 12 ∨ j = 13 ∨ j = 14 by omega) with rfl | rfl | rfl | rfl | rfl | rfl | rfl | rfl | rfl | rfl | rfl | rfl | rfl | rfl | rfl
      · exact h37_0 rfl
      · exact h37_1 rfl
      · exact h37_2 rfl
      · exact h37_3 rfl
      · exact h37_4 rfl
      · exact h37_5 rfl
      · exact h37_6 rfl
      · exact h37_7 rfl
      · exact h37_8 rfl
      · exact h37_9 rfl
      · exact h37_10 rfl
      · exact h37_11 rfl
      · exact h37_12 rfl
      · exact h37_13 rfl
      · exact h37_14 rfl
    · skip
      obtain ⟨hj8, hj12⟩ := p_in_nI2 (a := 8) (b := 12) (by decide) h21 j (by omega) rfl (by decide)
      refine v_aload_n C dX4_count_24 rfl 0 0 rfl rfl ?_
      refine v_get C K in_X4_count_X4 0 rfl rfl 0 (by decide) fl_X4_count_X4_0 rfl dX4_count_25 rfl ?_
      refine v_iload_n C dX4_count_28 rfl 1 1 rfl rfl ?_
      refine v_bipush (v := 8) C dX4_count_29 rfl bp_8 ?_
      refine v_isub C dX4_count_31 rfl ?_
      refine v_top (nI (j - 8)) (pk_sub (a := j) (b := 8) hj8) ?_
      refine v_callVid C K (c_X1_setting l D ad cI cC cZ cQ _ (j - 8) (by omega)) gX4_count_X1_setting rfl hd_X1_setting ⟨rfl, rfl⟩ ⟨Nat.le_of_ble_eq_true rfl, Nat.le_of_ble_eq_true rfl⟩ 1 rfl rfl rfl rfl rfl (Nat.le_of_ble_eq_true rfl) ⟨Nat.le_refl _, Nat.le_refl _⟩ dX4_count_32 rfl ?_
      exact hend (⟨by rw [q_cnt_set _ _ _ hj8 hj12], cc9_rf σ⟩) (rfl) dX4_count_35
  · skip
    refine v_bipush (v := -2) C dX4_count_10 rfl bp_m2 ?_
    exact hend (⟨by rw [q_cnt_bad h7t], cc9_rf σ⟩) (rfl) dX4_count_12

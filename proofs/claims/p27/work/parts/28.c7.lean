theorem hsM_i (σ : S9) (o h i : Nat) (h8 : i ≠ 8) (hi : i < 10) : hsM σ o h i = σ i := by rw [hsM, st9_n _ _ h8, st9_n _ _ (by omega)]
theorem hsM_0 (σ : S9) (o h : Nat) : hsM σ o h 0 = σ 0 := hsM_i σ o h 0 (by decide) (by decide)
theorem p_why_or {r : Nat → Int32} {f d q : Int32} (h : ¬ p_why r f d q = 0) : ¬ 0 ≤ p_why r f d q := by
  unfold p_why at h ⊢
  by_cases h1 : p_in f 0 (r 5 - 1) = 0
  · rw [if_pos h1]
    decide
  · rw [if_neg h1] at h ⊢
    by_cases h2 : p_part d q = 0
    · rw [if_pos h2]
      decide
    · rw [if_neg h2] at h ⊢
      by_cases h3 : p_canShow r f.toNatClampNeg d.toNatClampNeg = 0
      · rw [if_pos h3]
        decide
      · rw [if_neg h3] at h
        exact absurd rfl h
set_option maxHeartbeats 4000000 in
set_option maxRecDepth 100000 in
theorem c_X4_ifShown (l : Launch) (D : va_G) (ad : Nat → Nat) (cI cC cZ cQ : ClassId) (σ : S9) (n : Nat) (hw : wfH (σ 0) n) (f d q : Int32) : CMi l (cW ad cI cC cZ cQ) D (cTy cI cC cZ cQ) yX4_ifShown wsX4_ifShown ({ frames := 6, cells := 0, slots := 0, locals := 145 } : Room) [.ref (ad 0), .int f, .int d, .int q] σ (fun r u => r = (if 0 ≤ p_why (σ 0) f d q then q_more (σ 0) (q_k d q) f + 1000000 else p_why (σ 0) f d q) ∧ cc9 σ u) := by
  refine v_starti (own := RX4) (cc := cX4_ifShown) (nL := 5) rfl (by decide) rfl (Nat.le_of_ble_eq_true rfl) ?_
  intro p e s m args below meth c A Q C K hend
  refine v_lv (lv' := [(0, .ref (ad 0)), (1, .int f), (2, .int d), (3, .int q)]) [0, 1, 2, 3] rfl ?_
  refine v_aload_n C dX4_ifShown_0 rfl 0 0 rfl rfl ?_
  refine v_iload_n C dX4_ifShown_1 rfl 1 1 rfl rfl ?_
  refine v_iload_n C dX4_ifShown_2 rfl 2 2 rfl rfl ?_
  refine v_iload_n C dX4_ifShown_3 rfl 3 3 rfl rfl ?_
  refine v_callVid C K (c_X4_errorOfShow l D ad cI cC cZ cQ _ n hw _ _ _) gX4_ifShown_X4_errorOfShow rfl hd_X4_errorOfShow ⟨rfl, rfl⟩ ⟨Nat.le_of_ble_eq_true rfl, Nat.le_of_ble_eq_true rfl⟩ 0 rfl rfl rfl rfl rfl (Nat.le_of_ble_eq_true rfl) ⟨Nat.le_refl _, Nat.le_refl _⟩ dX4_ifShown_4 rfl ?_
  refine v_istore (lv' := [(4, _), (0, _), (1, _), (2, _), (3, _)]) C dX4_ifShown_7 rfl (by decide) rfl ?_
  refine v_iload C dX4_ifShown_9 rfl 0 rfl ?_
  refine v_if_eq C 17 dX4_ifShown_11 (by decide) rfl (fun h11 => ?_) (fun h11n => ?_)
  · skip
    have hge : 0 ≤ p_why (σ 0) f d q := by rw [h11]; decide
    obtain ⟨hz, f, d, q, hf, hd, hq, rfl, rfl, rfl, hcs⟩ := p_why_ge hw.1.1 hw.1.2.1 hge
    have ecd : (nI d).toNatClampNeg = d := nI_cl (by omega)
    have ecq : (nI q).toNatClampNeg = q := nI_cl (by omega)
    have ek : q_k (nI d) (nI q) = 2 * d + q := by rw [q_k, ecd, ecq]
    refine v_aload_n C dX4_ifShown_17 rfl 0 1 rfl rfl ?_
    refine v_iload_n C dX4_ifShown_18 rfl 2 3 rfl rfl ?_
    refine v_iload_n C dX4_ifShown_19 rfl 3 4 rfl rfl ?_
    refine v_callSpd C (c_X4_placeOf l _ _) gX4_ifShown_X4_placeOf rfl hd_X4_placeOf.2 ⟨rfl, rfl⟩ ⟨Nat.le_of_ble_eq_true rfl, Nat.le_of_ble_eq_true rfl⟩ rfl rfl (Nat.le_of_ble_eq_true rfl) ⟨Nat.le_refl _, Nat.le_refl _⟩ dX4_ifShown_20 rfl ?_
    refine v_iload_n C dX4_ifShown_23 rfl 1 2 rfl rfl ?_
    refine v_callVi C K (c_X4_gainWith l D ad cI cC cZ cQ _ n hw (2 * d + q) (by omega) _ (Or.inr ⟨f, hf, rfl⟩)) gX4_ifShown_X4_gainWith rfl hd_X4_gainWith ⟨rfl, rfl⟩ ⟨Nat.le_of_ble_eq_true rfl, Nat.le_of_ble_eq_true rfl⟩ 0 rfl rfl rfl rfl rfl (Nat.le_of_ble_eq_true rfl) ⟨Nat.le_refl _, Nat.le_refl _⟩ dX4_ifShown_24 rfl (fun r24 u24 hc24 => ?_)
    obtain ⟨rfl, hs⟩ := hc24
    refine v_ldc C dX4_ifShown_27 rfl ct_X4_ifShown_101 ?_
    refine v_iadd C dX4_ifShown_29 rfl ?_
    exact hend (⟨by rw [if_pos hge, ek], hs⟩) (rfl) dX4_ifShown_30
  · skip
    refine v_iload C dX4_ifShown_14 rfl 0 rfl ?_
    exact hend (⟨by rw [if_neg (p_why_or h11n)], cc9_rf σ⟩) (rfl) dX4_ifShown_16
set_option maxHeartbeats 4000000 in
set_option maxRecDepth 100000 in
theorem c_X4_film (l : Launch) (D : va_G) (ad : Nat → Nat) (cI cC cZ cQ : ClassId) (σ : S9) (n : Nat) (hw : wfH (σ 0) n) (o : Nat) (ho : σ 8 0 = nI o) (ho6 : o < 6) (h : Nat) (hh : σ 8 1 = nI h) (hle : h ≤ 6) (xd xc xm xs xf : Int32) : CMi l (cW ad cI cC cZ cQ) D (cTy cI cC cZ cQ) yX4_film wsX4_film ({ frames := 3, cells := 0, slots := 0, locals := 68 } : Room) [.ref (ad 0), .int xd, .int xc, .int xm, .int xs, .int xf] σ (fun r u => (q_filmE (σ 0) xd xc xm xs xf = 0 → n < 8 ∧ r = nI n ∧ u = st9 (hsM σ o h) 0 (film9 (σ 0) n xd xc xm xs xf)) ∧ (¬ q_filmE (σ 0) xd xc xm xs xf = 0 → r = q_filmE (σ 0) xd xc xm xs xf ∧ u = σ)) := by
  refine v_starti (own := RX4) (cc := cX4_film) (nL := 6) rfl (by decide) rfl (Nat.le_of_ble_eq_true rfl) ?_
  intro p e s m args below meth c A Q C K hend
  refine v_lv (lv' := [(0, .ref (ad 0)), (1, .int xd), (2, .int xc), (3, .int xm), (4, .int xs), (5, .int xf)]) [0, 1, 2, 3, 4, 5] rfl ?_
  refine v_iload_n C dX4_film_0 rfl 1 1 rfl rfl ?_
  refine v_iconst (v := 0) C dX4_film_1 rfl ic_0 ?_
  refine v_iconst (v := 3) C dX4_film_2 rfl ic_3 ?_
  refine v_callSpd C (c_X4_isWithin l _ _ _) gX4_film_X4_isWithin rfl hd_X4_isWithin.2 ⟨rfl, rfl⟩ ⟨Nat.le_of_ble_eq_true rfl, Nat.le_of_ble_eq_true rfl⟩ rfl rfl (Nat.le_of_ble_eq_true rfl) ⟨Nat.le_refl _, Nat.le_refl _⟩ dX4_film_3 rfl ?_
  refine v_if_eq C 20 dX4_film_6 (by decide) rfl (fun h6 => ?_) (fun h6 => ?_)
  · skip
    refine v_bipush (v := -2) C dX4_film_20 rfl bp_m2 ?_
    exact hend (⟨fun q => absurd q (by simp [q_filmE, h6]), fun _ => ⟨by simp [q_filmE, h6], rfl⟩⟩) (rfl) dX4_film_22
  · skip
    refine v_iload_n C dX4_film_9 rfl 2 2 rfl rfl ?_
    refine v_iconst (v := 1) C dX4_film_10 rfl ic_1 ?_
    refine v_sipush (v := 999) C dX4_film_11 rfl sp_999 ?_
    refine v_callSpd C (c_X4_isWithin l _ _ _) gX4_film_X4_isWithin rfl hd_X4_isWithin.2 ⟨rfl, rfl⟩ ⟨Nat.le_of_ble_eq_true rfl, Nat.le_of_ble_eq_true rfl⟩ rfl rfl (Nat.le_of_ble_eq_true rfl) ⟨Nat.le_refl _, Nat.le_refl _⟩ dX4_film_14 rfl ?_
    refine v_if_ne C 23 dX4_film_17 (by decide) rfl (fun h17 => ?_) (fun h17 => ?_)
    · skip
      refine v_iload_n C dX4_film_23 rfl 3 3 rfl rfl ?_
      refine v_iconst (v := 0) C dX4_film_24 rfl ic_0 ?_
      refine v_sipush (v := 500) C dX4_film_25 rfl sp_500 ?_
      refine v_callSpd C (c_X4_isWithin l _ _ _) gX4_film_X4_isWithin rfl hd_X4_isWithin.2 ⟨rfl, rfl⟩ ⟨Nat.le_of_ble_eq_true rfl, Nat.le_of_ble_eq_true rfl⟩ rfl rfl (Nat.le_of_ble_eq_true rfl) ⟨Nat.le_refl _, Nat.le_refl _⟩ dX4_film_28 rfl ?_
      refine v_if_eq C 54 dX4_film_31 (by decide) rfl (fun h31 => ?_) (fun h31 => ?_)
      · skip
        refine v_bipush (v := -2) C dX4_film_54 rfl bp_m2 ?_
        exact hend (⟨fun q => absurd q (by simp [q_filmE, h6, h17, h31]), fun _ => ⟨by simp [q_filmE, h6, h17, h31], rfl⟩⟩) (rfl) dX4_film_56
      · skip
        refine v_iload C dX4_film_34 rfl 4 rfl ?_
        refine v_bipush (v := 20) C dX4_film_36 rfl bp_20 ?_
        refine v_bipush (v := 90) C dX4_film_38 rfl bp_90 ?_
        refine v_callSpd C (c_X4_isWithin l _ _ _) gX4_film_X4_isWithin rfl hd_X4_isWithin.2 ⟨rfl, rfl⟩ ⟨Nat.le_of_ble_eq_true rfl, Nat.le_of_ble_eq_true rfl⟩ rfl rfl (Nat.le_of_ble_eq_true rfl) ⟨Nat.le_refl _, Nat.le_refl _⟩ dX4_film_40 rfl ?_
        refine v_if_eq C 54 dX4_film_43 (by decide) rfl (fun h43 => ?_) (fun h43 => ?_)
        · skip
          refine v_bipush (v := -2) C dX4_film_54 rfl bp_m2 ?_
          exact hend (⟨fun q => absurd q (by simp [q_filmE, h6, h17, h31, h43]), fun _ => ⟨by simp [q_filmE, h6, h17, h31, h43], rfl⟩⟩) (rfl) dX4_film_56
        · skip
          refine v_iload C dX4_film_46 rfl 5 rfl ?_
          refine v_callSpd C (c_X4_isDay l _) gX4_film_X4_isDay rfl hd_X4_isDay.2 ⟨rfl, rfl⟩ ⟨Nat.le_of_ble_eq_true rfl, Nat.le_of_ble_eq_true rfl⟩ rfl rfl (Nat.le_of_ble_eq_true rfl) ⟨Nat.le_refl _, Nat.le_refl _⟩ dX4_film_48 rfl ?_
          refine v_if_ne C 57 dX4_film_51 (by decide) rfl (fun h51 => ?_) (fun h51 => ?_)
          · skip
            refine v_aload_n C dX4_film_57 rfl 0 0 rfl rfl ?_
            refine v_get C K in_X4_film_X4 0 rfl rfl 0 (by decide) fl_X4_film_X4_0 rfl dX4_film_58 rfl ?_
            refine v_callVid C K (c_X1_films l D ad cI cC cZ cQ _) gX4_film_X1_films rfl hd_X1_films ⟨rfl, rfl⟩ ⟨Nat.le_of_ble_eq_true rfl, Nat.le_of_ble_eq_true rfl⟩ 1 rfl rfl rfl rfl rfl (Nat.le_of_ble_eq_true rfl) ⟨Nat.le_refl _, Nat.le_refl _⟩ dX4_film_61 rfl ?_
            refine v_bipush (v := 8) C dX4_film_64 rfl bp_8 ?_
            refine v_icmp_lt C 72 dX4_film_66 (by decide) rfl (fun h66 => ?_) (fun h66t => ?_)
            · skip
              have hn8 : n < 8 := by
                rw [hw.1.1] at h66
                exact (nI_ltI (b := 8) (by have := hw.1.2.1; omega) (by decide)).mp h66
              have hne : ¬ σ 0 5 = 8 := by
                rw [hw.1.1]
                exact fun e => absurd (nI_inj (b := 8) (by omega) (by decide) e) (by omega)
              refine v_aload_n C dX4_film_72 rfl 0 0 rfl rfl ?_
              refine v_get C K in_X4_film_X4 0 rfl rfl 3 (by decide) fl_X4_film_X4_3 rfl dX4_film_73 rfl ?_
              refine v_aload_n C dX4_film_76 rfl 0 0 rfl rfl ?_
              refine v_get C K in_X4_film_X4 0 rfl rfl 0 (by decide) fl_X4_film_X4_0 rfl dX4_film_77 rfl ?_
              refine v_callVvd C K (c_X2_record l D ad cI cC cZ cQ _ o ho ho6 h hh hle) gX4_film_X2_record rfl hd_X2_record ⟨rfl, rfl⟩ ⟨Nat.le_of_ble_eq_true rfl, Nat.le_of_ble_eq_true rfl⟩ 10 rfl rfl rfl rfl rfl (Nat.le_of_ble_eq_true rfl) ⟨Nat.le_refl _, Nat.le_refl _⟩ dX4_film_80 rfl ?_
              refine v_aload_n C dX4_film_83 rfl 0 0 rfl rfl ?_
              refine v_get C K in_X4_film_X4 0 rfl rfl 0 (by decide) fl_X4_film_X4_0 rfl dX4_film_84 rfl ?_
              refine v_iload_n C dX4_film_87 rfl 1 1 rfl rfl ?_
              refine v_iload_n C dX4_film_88 rfl 2 2 rfl rfl ?_
              refine v_iload_n C dX4_film_89 rfl 3 3 rfl rfl ?_
              refine v_iload C dX4_film_90 rfl 4 rfl ?_
              refine v_iload C dX4_film_92 rfl 5 rfl ?_
              refine v_callVid C K (c_X1_addFilm l D ad cI cC cZ cQ _ n (by rw [hsM_0]; exact hw.1.1) hn8 _ _ _ _ _) gX4_film_X1_addFilm rfl hd_X1_addFilm ⟨rfl, rfl⟩ ⟨Nat.le_of_ble_eq_true rfl, Nat.le_of_ble_eq_true rfl⟩ 1 rfl rfl rfl rfl rfl (Nat.le_of_ble_eq_true rfl) ⟨Nat.le_refl _, Nat.le_refl _⟩ dX4_film_94 rfl ?_
              exact hend (⟨fun _ => ⟨hn8, rfl, by rw [hsM_0]⟩, fun q => absurd (by simp [q_filmE, h6, h17, h31, h43, h51, hne]) q⟩) (rfl) dX4_film_97
            · skip
              have he : σ 0 5 = 8 := by
                have hn8 := hw.1.2.1
                rw [hw.1.1] at h66t ⊢
                rcases Nat.lt_or_ge n 8 with q | q
                · exact absurd (nI_lt (b := 8) q (by decide)) h66t
                · rw [show n = 8 by omega]; rfl
              refine v_bipush (v := -4) C dX4_film_69 rfl bp_m4 ?_
              exact hend (⟨fun q => absurd q (by simp [q_filmE, h6, h17, h31, h43, h51, he]), fun _ => ⟨by simp [q_filmE, h6, h17, h31, h43, h51, he], rfl⟩⟩) (rfl) dX4_film_71
          · skip
            refine v_bipush (v := -2) C dX4_film_54 rfl bp_m2 ?_
            exact hend (⟨fun q => absurd q (by simp [q_filmE, h6, h17, h31, h43, h51]), fun _ => ⟨by simp [q_filmE, h6, h17, h31, h43, h51], rfl⟩⟩) (rfl) dX4_film_56
    · skip
      refine v_bipush (v := -2) C dX4_film_20 rfl bp_m2 ?_
      exact hend (⟨fun q => absurd q (by simp [q_filmE, h6, h17]), fun _ => ⟨by simp [q_filmE, h6, h17], rfl⟩⟩) (rfl) dX4_film_22
set_option maxHeartbeats 4000000 in
set_option maxRecDepth 100000 in
theorem c_X4_show (l : Launch) (D : va_G) (ad : Nat → Nat) (cI cC cZ cQ : ClassId) (σ : S9) (n : Nat) (hw : wfH (σ 0) n) (o : Nat) (ho : σ 8 0 = nI o) (ho6 : o < 6) (h : Nat) (hh : σ 8 1 = nI h) (hle : h ≤ 6) (f d q : Int32) : CMi l (cW ad cI cC cZ cQ) D (cTy cI cC cZ cQ) yX4_show wsX4_show ({ frames := 4, cells := 0, slots := 0, locals := 86 } : Room) [.ref (ad 0), .int f, .int d, .int q] σ (fun r u => (p_why (σ 0) f d q = 0 → r = σ 0 (46 + q_k d q) ∧ u = st9 (hsM σ o h) 0 (upd (σ 0) (46 + q_k d q) f)) ∧ (¬ p_why (σ 0) f d q = 0 → r = p_why (σ 0) f d q ∧ u = σ)) := by
  refine v_starti (own := RX4) (cc := cX4_show) (nL := 5) rfl (by decide) rfl (Nat.le_of_ble_eq_true rfl) ?_
  intro p e s m args below meth c A Q C K hend
  refine v_lv (lv' := [(0, .ref (ad 0)), (1, .int f), (2, .int d), (3, .int q)]) [0, 1, 2, 3] rfl ?_
  refine v_aload_n C dX4_show_0 rfl 0 0 rfl rfl ?_
  refine v_iload_n C dX4_show_1 rfl 1 1 rfl rfl ?_
  refine v_iload_n C dX4_show_2 rfl 2 2 rfl rfl ?_
  refine v_iload_n C dX4_show_3 rfl 3 3 rfl rfl ?_
  refine v_callVid C K (c_X4_errorOfShow l D ad cI cC cZ cQ _ n hw _ _ _) gX4_show_X4_errorOfShow rfl hd_X4_errorOfShow ⟨rfl, rfl⟩ ⟨Nat.le_of_ble_eq_true rfl, Nat.le_of_ble_eq_true rfl⟩ 0 rfl rfl rfl rfl rfl (Nat.le_of_ble_eq_true rfl) ⟨Nat.le_refl _, Nat.le_refl _⟩ dX4_show_4 rfl ?_
  refine v_istore (lv' := [(4, _), (0, _), (1, _), (2, _), (3, _)]) C dX4_show_7 rfl (by decide) rfl ?_
  refine v_iload C dX4_show_9 rfl 0 rfl ?_
  refine v_if_eq C 17 dX4_show_11 (by decide) rfl (fun h11 => ?_) (fun h11n => ?_)
  · skip
    have hge : 0 ≤ p_why (σ 0) f d q := by rw [h11]; decide
    obtain ⟨hz, f, d, q, hf, hd, hq, rfl, rfl, rfl, hcs⟩ := p_why_ge hw.1.1 hw.1.2.1 hge
    have ecd : (nI d).toNatClampNeg = d := nI_cl (by omega)
    have ecq : (nI q).toNatClampNeg = q := nI_cl (by omega)
    have ek : q_k (nI d) (nI q) = 2 * d + q := by rw [q_k, ecd, ecq]
    refine v_aload_n C dX4_show_17 rfl 0 1 rfl rfl ?_
    refine v_get C K in_X4_show_X4 0 rfl rfl 3 (by decide) fl_X4_show_X4_3 rfl dX4_show_18 rfl ?_
    refine v_aload_n C dX4_show_21 rfl 0 1 rfl rfl ?_
    refine v_get C K in_X4_show_X4 0 rfl rfl 0 (by decide) fl_X4_show_X4_0 rfl dX4_show_22 rfl ?_
    refine v_callVvd C K (c_X2_record l D ad cI cC cZ cQ _ o ho ho6 h hh hle) gX4_show_X2_record rfl hd_X2_record ⟨rfl, rfl⟩ ⟨Nat.le_of_ble_eq_true rfl, Nat.le_of_ble_eq_true rfl⟩ 10 rfl rfl rfl rfl rfl (Nat.le_of_ble_eq_true rfl) ⟨Nat.le_refl _, Nat.le_refl _⟩ dX4_show_25 rfl ?_
    refine v_aload_n C dX4_show_28 rfl 0 1 rfl rfl ?_
    refine v_get C K in_X4_show_X4 0 rfl rfl 0 (by decide) fl_X4_show_X4_0 rfl dX4_show_29 rfl ?_
    refine v_iload_n C dX4_show_32 rfl 2 3 rfl rfl ?_
    refine v_iload_n C dX4_show_33 rfl 3 4 rfl rfl ?_
    refine v_callSpd C (c_X4_placeOf l _ _) gX4_show_X4_placeOf rfl hd_X4_placeOf.2 ⟨rfl, rfl⟩ ⟨Nat.le_of_ble_eq_true rfl, Nat.le_of_ble_eq_true rfl⟩ rfl rfl (Nat.le_of_ble_eq_true rfl) ⟨Nat.le_refl _, Nat.le_refl _⟩ dX4_show_34 rfl ?_
    refine v_iload_n C dX4_show_37 rfl 1 2 rfl rfl ?_
    refine v_callVid C K (c_X1_replaceShow l D ad cI cC cZ cQ _ (2 * d + q) (by omega) _) gX4_show_X1_replaceShow rfl hd_X1_replaceShow ⟨rfl, rfl⟩ ⟨Nat.le_of_ble_eq_true rfl, Nat.le_of_ble_eq_true rfl⟩ 1 rfl rfl rfl rfl rfl (Nat.le_of_ble_eq_true rfl) ⟨Nat.le_refl _, Nat.le_refl _⟩ dX4_show_38 rfl ?_
    exact hend (⟨fun _ => ⟨by rw [ek, hsM_0], by rw [ek, hsM_0]⟩, fun q => absurd hz q⟩) (rfl) dX4_show_41
  · skip
    refine v_iload C dX4_show_14 rfl 0 rfl ?_
    exact hend (⟨fun q => absurd q h11n, fun _ => ⟨rfl, rfl⟩⟩) (rfl) dX4_show_16
set_option maxHeartbeats 4000000 in
set_option maxRecDepth 100000 in
theorem c_X4_drop (l : Launch) (D : va_G) (ad : Nat → Nat) (cI cC cZ cQ : ClassId) (σ : S9) (o : Nat) (ho : σ 8 0 = nI o) (ho6 : o < 6) (h : Nat) (hh : σ 8 1 = nI h) (hle : h ≤ 6) (d q : Int32) : CMi l (cW ad cI cC cZ cQ) D (cTy cI cC cZ cQ) yX4_drop wsX4_drop ({ frames := 3, cells := 0, slots := 0, locals := 68 } : Room) [.ref (ad 0), .int d, .int q] σ (fun r u => (q_dropE (σ 0) d q = 0 → r = σ 0 (46 + q_k d q) ∧ ¬ p_part d q = 0 ∧ u = st9 (hsM σ o h) 0 (upd (σ 0) (46 + q_k d q) (-6))) ∧ (¬ q_dropE (σ 0) d q = 0 → r = q_dropE (σ 0) d q ∧ u = σ)) := by
  refine v_starti (own := RX4) (cc := cX4_drop) (nL := 4) rfl (by decide) rfl (Nat.le_of_ble_eq_true rfl) ?_
  intro p e s m args below meth c A Q C K hend
  refine v_lv (lv' := [(0, .ref (ad 0)), (1, .int d), (2, .int q)]) [0, 1, 2] rfl ?_
  refine v_iload_n C dX4_drop_0 rfl 1 1 rfl rfl ?_
  refine v_iload_n C dX4_drop_1 rfl 2 2 rfl rfl ?_
  refine v_callSpd C (c_X4_isPlace l _ _) gX4_drop_X4_isPlace rfl hd_X4_isPlace.2 ⟨rfl, rfl⟩ ⟨Nat.le_of_ble_eq_true rfl, Nat.le_of_ble_eq_true rfl⟩ rfl rfl (Nat.le_of_ble_eq_true rfl) ⟨Nat.le_refl _, Nat.le_refl _⟩ dX4_drop_2 rfl ?_
  refine v_if_ne C 11 dX4_drop_5 (by decide) rfl (fun h5 => ?_) (fun h5 => ?_)
  · skip
    obtain ⟨d, q, hd, hq, rfl, rfl⟩ := p_part_ne h5
    have ecd : (nI d).toNatClampNeg = d := nI_cl (by omega)
    have ecq : (nI q).toNatClampNeg = q := nI_cl (by omega)
    have ek : q_k (nI d) (nI q) = 2 * d + q := by rw [q_k, ecd, ecq]
    refine v_iload_n C dX4_drop_11 rfl 1 1 rfl rfl ?_
    refine v_iload_n C dX4_drop_12 rfl 2 2 rfl rfl ?_
    refine v_callSpd C (c_X4_placeOf l _ _) gX4_drop_X4_placeOf rfl hd_X4_placeOf.2 ⟨rfl, rfl⟩ ⟨Nat.le_of_ble_eq_true rfl, Nat.le_of_ble_eq_true rfl⟩ rfl rfl (Nat.le_of_ble_eq_true rfl) ⟨Nat.le_refl _, Nat.le_refl _⟩ dX4_drop_13 rfl ?_
    refine v_istore_n (lv' := [(3, _), (0, _), (1, _), (2, _)]) C dX4_drop_16 rfl 3 rfl (by decide) rfl ?_
    refine v_aload_n C dX4_drop_17 rfl 0 1 rfl rfl ?_
    refine v_get C K in_X4_drop_X4 0 rfl rfl 0 (by decide) fl_X4_drop_X4_0 rfl dX4_drop_18 rfl ?_
    refine v_iload_n C dX4_drop_21 rfl 3 0 rfl rfl ?_
    refine v_callVid C K (c_X1_showAt l D ad cI cC cZ cQ _ (2 * d + q) (by omega)) gX4_drop_X1_showAt rfl hd_X1_showAt ⟨rfl, rfl⟩ ⟨Nat.le_of_ble_eq_true rfl, Nat.le_of_ble_eq_true rfl⟩ 1 rfl rfl rfl rfl rfl (Nat.le_of_ble_eq_true rfl) ⟨Nat.le_refl _, Nat.le_refl _⟩ dX4_drop_22 rfl ?_
    refine v_bipush (v := -6) C dX4_drop_25 rfl bp_m6 ?_
    refine v_icmp_ne C 33 dX4_drop_27 (by decide) rfl (fun h27 => ?_) (fun h27 => ?_)
    · skip
      refine v_aload_n C dX4_drop_33 rfl 0 1 rfl rfl ?_
      refine v_get C K in_X4_drop_X4 0 rfl rfl 3 (by decide) fl_X4_drop_X4_3 rfl dX4_drop_34 rfl ?_
      refine v_aload_n C dX4_drop_37 rfl 0 1 rfl rfl ?_
      refine v_get C K in_X4_drop_X4 0 rfl rfl 0 (by decide) fl_X4_drop_X4_0 rfl dX4_drop_38 rfl ?_
      refine v_callVvd C K (c_X2_record l D ad cI cC cZ cQ _ o ho ho6 h hh hle) gX4_drop_X2_record rfl hd_X2_record ⟨rfl, rfl⟩ ⟨Nat.le_of_ble_eq_true rfl, Nat.le_of_ble_eq_true rfl⟩ 10 rfl rfl rfl rfl rfl (Nat.le_of_ble_eq_true rfl) ⟨Nat.le_refl _, Nat.le_refl _⟩ dX4_drop_41 rfl ?_
      refine v_aload_n C dX4_drop_44 rfl 0 1 rfl rfl ?_
      refine v_get C K in_X4_drop_X4 0 rfl rfl 0 (by decide) fl_X4_drop_X4_0 rfl dX4_drop_45 rfl ?_
      refine v_iload_n C dX4_drop_48 rfl 3 0 rfl rfl ?_
      refine v_bipush (v := -6) C dX4_drop_49 rfl bp_m6 ?_
      refine v_callVid C K (c_X1_replaceShow l D ad cI cC cZ cQ _ (2 * d + q) (by omega) _) gX4_drop_X1_replaceShow rfl hd_X1_replaceShow ⟨rfl, rfl⟩ ⟨Nat.le_of_ble_eq_true rfl, Nat.le_of_ble_eq_true rfl⟩ 1 rfl rfl rfl rfl rfl (Nat.le_of_ble_eq_true rfl) ⟨Nat.le_refl _, Nat.le_refl _⟩ dX4_drop_51 rfl ?_
      exact hend (⟨fun _ => ⟨by rw [ek, hsM_0], h5, by rw [ek, hsM_0]⟩, fun q => absurd (by simp [q_dropE, h5, ek, h27]) q⟩) (rfl) dX4_drop_54
    · skip
      refine v_bipush (v := -5) C dX4_drop_30 rfl bp_m5 ?_
      exact hend (⟨fun q => absurd q (by simp [q_dropE, h5, ek, h27]), fun _ => ⟨by simp [q_dropE, h5, ek, h27], rfl⟩⟩) (rfl) dX4_drop_32
  · skip
    refine v_bipush (v := -2) C dX4_drop_8 rfl bp_m2 ?_
    exact hend (⟨fun q => absurd q (by simp [q_dropE, h5]), fun _ => ⟨by simp [q_dropE, h5], rfl⟩⟩) (rfl) dX4_drop_10
theorem wfH_ex {r : Nat → Int32} {n k k2 : Nat} (hw : wfH r n) (hk : k < 70) (hk2 : k2 < 70) : wfH (q_exR r k k2) n := wfH_upd (wfH_upd hw hk (hw.1.2.2 k2 hk2)) hk2 (hw.1.2.2 k hk)
theorem ex_rents (r : Nat → Int32) (k k2 : Nat) (hk : k < 70) (hk2 : k2 < 70) : sm9 (fun j => q_exR r k k2 (116 + (0 + j))) (35 - 0) = sm9 (fun j => r (116 + (0 + j))) (35 - 0) := sm9_congr (fun j _ => by rw [q_exR, upd_n _ _ (by omega), upd_n _ _ (by omega)])
theorem ex_gain {r : Nat → Int32} {n k k2 : Nat} (hw : wfH r n) (hk : k < 70) (hk2 : k2 < 70) : sm9 (c_sum (q_exR r k k2) 4) n - sm9 (c_sum r 4) n + 1000000 = q_left (q_exR r k k2) (-1) - q_left r (-1) + 1000000 := by
  rw [q_left_all hw.1, q_left_all (wfH_ex hw hk hk2).1, ex_rents r k k2 hk hk2]
  show sm9 (LF (q_exR r k k2)) n - sm9 (LF r) n + 1000000 = _
  grind
theorem hsM_cc {σ u : S9} (hs : cc9 σ u) (o h : Nat) : cc9 (hsM σ o h) (hsM u o h) := fun i hi => by
  rw [hsM, hsM, hs 8 (Or.inr (by decide)), hs 0 (Or.inl rfl), hs (10 + (o + h) % 6) (Or.inr (by omega))]
  by_cases e8 : i = 8
  · subst e8
    rw [st9_s, st9_s]
  · rw [st9_n _ _ e8, st9_n _ _ e8]
    by_cases e : i = 10 + (o + h) % 6
    · subst e
      rw [st9_s, st9_s]
    · rw [st9_n _ _ e, st9_n _ _ e]
      exact hs i hi
set_option maxHeartbeats 4000000 in
set_option maxRecDepth 100000 in
theorem c_X4_exchange (l : Launch) (D : va_G) (ad : Nat → Nat) (cI cC cZ cQ : ClassId) (σ : S9) (n : Nat) (hw : wfH (σ 0) n) (o : Nat) (ho : σ 8 0 = nI o) (ho6 : o < 6) (h : Nat) (hh : σ 8 1 = nI h) (hle : h ≤ 6) (d q d2 q2 : Int32) : CMi l (cW ad cI cC cZ cQ) D (cTy cI cC cZ cQ) yX4_exchange wsX4_exchange ({ frames := 6, cells := 0, slots := 0, locals := 144 } : Room) [.ref (ad 0), .int d, .int q, .int d2, .int q2] σ (fun r u => (q_exE (σ 0) d q d2 q2 = 0 → ¬ p_part d q = 0 ∧ ¬ p_part d2 q2 = 0 ∧ r = q_left (q_exR (σ 0) (q_k d q) (q_k d2 q2)) (-1) - q_left (σ 0) (-1) + 1000000 ∧ cc9 (st9 (hsM σ o h) 0 (q_exR (σ 0) (q_k d q) (q_k d2 q2))) u) ∧ (¬ q_exE (σ 0) d q d2 q2 = 0 → r = q_exE (σ 0) d q d2 q2 ∧ u = σ)) := by
  refine v_starti (own := RX4) (cc := cX4_exchange) (nL := 9) rfl (by decide) rfl (Nat.le_of_ble_eq_true rfl) ?_
  intro p e s m args below meth c A Q C K hend
  refine v_lv (lv' := [(0, .ref (ad 0)), (1, .int d), (2, .int q), (3, .int d2), (4, .int q2)]) [0, 1, 2, 3, 4] rfl ?_
  refine v_iload_n C dX4_exchange_0 rfl 1 1 rfl rfl ?_
  refine v_iload_n C dX4_exchange_1 rfl 2 2 rfl rfl ?_
  refine v_callSpd C (c_X4_isPlace l _ _) gX4_exchange_X4_isPlace rfl hd_X4_isPlace.2 ⟨rfl, rfl⟩ ⟨Nat.le_of_ble_eq_true rfl, Nat.le_of_ble_eq_true rfl⟩ rfl rfl (Nat.le_of_ble_eq_true rfl) ⟨Nat.le_refl _, Nat.le_refl _⟩ dX4_exchange_2 rfl ?_
  refine v_if_eq C 17 dX4_exchange_5 (by decide) rfl (fun h5 => ?_) (fun h5 => ?_)
  · skip
    refine v_bipush (v := -2) C dX4_exchange_17 rfl bp_m2 ?_
    exact hend (⟨fun q => absurd q (by simp [q_exE, h5]), fun _ => ⟨by simp [q_exE, h5], rfl⟩⟩) (rfl) dX4_exchange_19
  · skip
    refine v_iload_n C dX4_exchange_8 rfl 3 3 rfl rfl ?_
    refine v_iload C dX4_exchange_9 rfl 4 rfl ?_
    refine v_callSpd C (c_X4_isPlace l _ _) gX4_exchange_X4_isPlace rfl hd_X4_isPlace.2 ⟨rfl, rfl⟩ ⟨Nat.le_of_ble_eq_true rfl, Nat.le_of_ble_eq_true rfl⟩ rfl rfl (Nat.le_of_ble_eq_true rfl) ⟨Nat.le_refl _, Nat.le_refl _⟩ dX4_exchange_11 rfl ?_
    refine v_if_ne C 20 dX4_exchange_14 (by decide) rfl (fun h14 => ?_) (fun h14 => ?_)
    · skip
      obtain ⟨d, q, hd, hq, rfl, rfl⟩ := p_part_ne h5
      have ecd : (nI d).toNatClampNeg = d := nI_cl (by omega)
      have ecq : (nI q).toNatClampNeg = q := nI_cl (by omega)
      have ek : q_k (nI d) (nI q) = 2 * d + q := by rw [q_k, ecd, ecq]
      obtain ⟨d2, q2, hd2, hq2, rfl, rfl⟩ := p_part_ne h14
      have ecd2 : (nI d2).toNatClampNeg = d2 := nI_cl (by omega)
      have ecq2 : (nI q2).toNatClampNeg = q2 := nI_cl (by omega)
      have ek3 : q_k (nI d2) (nI q2) = 2 * d2 + q2 := by rw [q_k, ecd2, ecq2]
      refine v_iload_n C dX4_exchange_20 rfl 1 1 rfl rfl ?_
      refine v_iload_n C dX4_exchange_21 rfl 2 2 rfl rfl ?_
      refine v_callSpd C (c_X4_placeOf l _ _) gX4_exchange_X4_placeOf rfl hd_X4_placeOf.2 ⟨rfl, rfl⟩ ⟨Nat.le_of_ble_eq_true rfl, Nat.le_of_ble_eq_true rfl⟩ rfl rfl (Nat.le_of_ble_eq_true rfl) ⟨Nat.le_refl _, Nat.le_refl _⟩ dX4_exchange_22 rfl ?_
      refine v_istore (lv' := [(5, _), (0, _), (1, _), (2, _), (3, _), (4, _)]) C dX4_exchange_25 rfl (by decide) rfl ?_
      refine v_iload_n C dX4_exchange_27 rfl 3 4 rfl rfl ?_
      refine v_iload C dX4_exchange_28 rfl 5 rfl ?_
      refine v_callSpd C (c_X4_placeOf l _ _) gX4_exchange_X4_placeOf rfl hd_X4_placeOf.2 ⟨rfl, rfl⟩ ⟨Nat.le_of_ble_eq_true rfl, Nat.le_of_ble_eq_true rfl⟩ rfl rfl (Nat.le_of_ble_eq_true rfl) ⟨Nat.le_refl _, Nat.le_refl _⟩ dX4_exchange_30 rfl ?_
      refine v_istore (lv' := [(6, _), (5, _), (0, _), (1, _), (2, _), (3, _), (4, _)]) C dX4_exchange_33 rfl (by decide) rfl ?_
      refine v_aload_n C dX4_exchange_35 rfl 0 2 rfl rfl ?_
      refine v_get C K in_X4_exchange_X4 0 rfl rfl 0 (by decide) fl_X4_exchange_X4_0 rfl dX4_exchange_36 rfl ?_
      refine v_iload_n C dX4_exchange_39 rfl 3 5 rfl rfl ?_
      refine v_aload_n C dX4_exchange_40 rfl 0 2 rfl rfl ?_
      refine v_get C K in_X4_exchange_X4 0 rfl rfl 0 (by decide) fl_X4_exchange_X4_0 rfl dX4_exchange_41 rfl ?_
      refine v_iload C dX4_exchange_44 rfl 1 rfl ?_
      refine v_callVid C K (c_X1_showAt l D ad cI cC cZ cQ _ (2 * d + q) (by omega)) gX4_exchange_X1_showAt rfl hd_X1_showAt ⟨rfl, rfl⟩ ⟨Nat.le_of_ble_eq_true rfl, Nat.le_of_ble_eq_true rfl⟩ 1 rfl rfl rfl rfl rfl (Nat.le_of_ble_eq_true rfl) ⟨Nat.le_refl _, Nat.le_refl _⟩ dX4_exchange_46 rfl ?_
      refine v_callVid C K (c_X1_canHold l D ad cI cC cZ cQ _ n hw.1 d2 hd2 _) gX4_exchange_X1_canHold rfl hd_X1_canHold ⟨rfl, rfl⟩ ⟨Nat.le_of_ble_eq_true rfl, Nat.le_of_ble_eq_true rfl⟩ 1 rfl rfl rfl rfl rfl (Nat.le_of_ble_eq_true rfl) ⟨Nat.le_refl _, Nat.le_refl _⟩ dX4_exchange_49 rfl ?_
      refine v_top (p_canBe (σ 0) (σ 0 (46 + (2 * d + q))) d2) (can_be hw hd2 (hw.1.2.2 _ (by omega))) ?_
      refine v_if_eq C 75 dX4_exchange_52 (by decide) rfl (fun h52 => ?_) (fun h52 => ?_)
      · skip
        refine v_bipush (v := -5) C dX4_exchange_75 rfl bp_m5 ?_
        exact hend (⟨fun q => absurd q (by simp [q_exE, ek, ek3, ecd, ecd2, h5, h14, h52]), fun _ => ⟨by simp [q_exE, ek, ek3, ecd, ecd2, h5, h14, h52], rfl⟩⟩) (rfl) dX4_exchange_77
      · skip
        refine v_aload_n C dX4_exchange_55 rfl 0 2 rfl rfl ?_
        refine v_get C K in_X4_exchange_X4 0 rfl rfl 0 (by decide) fl_X4_exchange_X4_0 rfl dX4_exchange_56 rfl ?_
        refine v_iload_n C dX4_exchange_59 rfl 1 3 rfl rfl ?_
        refine v_aload_n C dX4_exchange_60 rfl 0 2 rfl rfl ?_
        refine v_get C K in_X4_exchange_X4 0 rfl rfl 0 (by decide) fl_X4_exchange_X4_0 rfl dX4_exchange_61 rfl ?_
        refine v_iload C dX4_exchange_64 rfl 0 rfl ?_
        refine v_callVid C K (c_X1_showAt l D ad cI cC cZ cQ _ (2 * d2 + q2) (by omega)) gX4_exchange_X1_showAt rfl hd_X1_showAt ⟨rfl, rfl⟩ ⟨Nat.le_of_ble_eq_true rfl, Nat.le_of_ble_eq_true rfl⟩ 1 rfl rfl rfl rfl rfl (Nat.le_of_ble_eq_true rfl) ⟨Nat.le_refl _, Nat.le_refl _⟩ dX4_exchange_66 rfl ?_
        refine v_callVid C K (c_X1_canHold l D ad cI cC cZ cQ _ n hw.1 d hd _) gX4_exchange_X1_canHold rfl hd_X1_canHold ⟨rfl, rfl⟩ ⟨Nat.le_of_ble_eq_true rfl, Nat.le_of_ble_eq_true rfl⟩ 1 rfl rfl rfl rfl rfl (Nat.le_of_ble_eq_true rfl) ⟨Nat.le_refl _, Nat.le_refl _⟩ dX4_exchange_69 rfl ?_
        refine v_top (p_canBe (σ 0) (σ 0 (46 + (2 * d2 + q2))) d) (can_be hw hd (hw.1.2.2 _ (by omega))) ?_
        refine v_if_ne C 78 dX4_exchange_72 (by decide) rfl (fun h72 => ?_) (fun h72 => ?_)
        · skip
          refine v_aload_n C dX4_exchange_78 rfl 0 2 rfl rfl ?_
          refine v_iconst (v := 4) C dX4_exchange_79 rfl ic_4 ?_
          refine v_callVi C K (c_X4_sumOfFilms l D ad cI cC cZ cQ _ n hw 4 (by decide)) gX4_exchange_X4_sumOfFilms rfl hd_X4_sumOfFilms ⟨rfl, rfl⟩ ⟨Nat.le_of_ble_eq_true rfl, Nat.le_of_ble_eq_true rfl⟩ 0 rfl rfl rfl rfl rfl (Nat.le_of_ble_eq_true rfl) ⟨Nat.le_refl _, Nat.le_refl _⟩ dX4_exchange_80 rfl (fun r80 u80 hc80 => ?_)
          obtain ⟨rfl, hs⟩ := hc80
          refine v_istore (lv' := [(7, _), (6, _), (5, _), (0, _), (1, _), (2, _), (3, _), (4, _)]) C dX4_exchange_83 rfl (by decide) rfl ?_
          refine v_aload_n C dX4_exchange_85 rfl 0 3 rfl rfl ?_
          refine v_get C K in_X4_exchange_X4 0 rfl rfl 3 (by decide) fl_X4_exchange_X4_3 rfl dX4_exchange_86 rfl ?_
          refine v_aload_n C dX4_exchange_89 rfl 0 3 rfl rfl ?_
          refine v_get C K in_X4_exchange_X4 0 rfl rfl 0 (by decide) fl_X4_exchange_X4_0 rfl dX4_exchange_90 rfl ?_
          refine v_callVvd C K (c_X2_record l D ad cI cC cZ cQ _ o (by rw [hs 8 (Or.inr (by decide))]; exact ho) ho6 h (by rw [hs 8 (Or.inr (by decide))]; exact hh) hle) gX4_exchange_X2_record rfl hd_X2_record ⟨rfl, rfl⟩ ⟨Nat.le_of_ble_eq_true rfl, Nat.le_of_ble_eq_true rfl⟩ 10 rfl rfl rfl rfl rfl (Nat.le_of_ble_eq_true rfl) ⟨Nat.le_refl _, Nat.le_refl _⟩ dX4_exchange_93 rfl ?_
          refine v_aload_n C dX4_exchange_96 rfl 0 3 rfl rfl ?_
          refine v_get C K in_X4_exchange_X4 0 rfl rfl 0 (by decide) fl_X4_exchange_X4_0 rfl dX4_exchange_97 rfl ?_
          refine v_iload C dX4_exchange_100 rfl 2 rfl ?_
          refine v_aload_n C dX4_exchange_102 rfl 0 3 rfl rfl ?_
          refine v_get C K in_X4_exchange_X4 0 rfl rfl 0 (by decide) fl_X4_exchange_X4_0 rfl dX4_exchange_103 rfl ?_
          refine v_iload C dX4_exchange_106 rfl 1 rfl ?_
          refine v_callVid C K (c_X1_showAt l D ad cI cC cZ cQ _ (2 * d2 + q2) (by omega)) gX4_exchange_X1_showAt rfl hd_X1_showAt ⟨rfl, rfl⟩ ⟨Nat.le_of_ble_eq_true rfl, Nat.le_of_ble_eq_true rfl⟩ 1 rfl rfl rfl rfl rfl (Nat.le_of_ble_eq_true rfl) ⟨Nat.le_refl _, Nat.le_refl _⟩ dX4_exchange_108 rfl ?_
          refine v_callVid C K (c_X1_replaceShow l D ad cI cC cZ cQ _ (2 * d + q) (by omega) _) gX4_exchange_X1_replaceShow rfl hd_X1_replaceShow ⟨rfl, rfl⟩ ⟨Nat.le_of_ble_eq_true rfl, Nat.le_of_ble_eq_true rfl⟩ 1 rfl rfl rfl rfl rfl (Nat.le_of_ble_eq_true rfl) ⟨Nat.le_refl _, Nat.le_refl _⟩ dX4_exchange_111 rfl ?_
          refine v_istore (lv' := [(8, _), (7, _), (6, _), (5, _), (0, _), (1, _), (2, _), (3, _), (4, _)]) C dX4_exchange_114 rfl (by decide) rfl ?_
          refine v_aload_n C dX4_exchange_116 rfl 0 4 rfl rfl ?_
          refine v_get C K in_X4_exchange_X4 0 rfl rfl 0 (by decide) fl_X4_exchange_X4_0 rfl dX4_exchange_117 rfl ?_
          refine v_iload C dX4_exchange_120 rfl 2 rfl ?_
          refine v_iload C dX4_exchange_122 rfl 0 rfl ?_
          refine v_callVid C K (c_X1_replaceShow l D ad cI cC cZ cQ _ (2 * d2 + q2) (by omega) _) gX4_exchange_X1_replaceShow rfl hd_X1_replaceShow ⟨rfl, rfl⟩ ⟨Nat.le_of_ble_eq_true rfl, Nat.le_of_ble_eq_true rfl⟩ 1 rfl rfl rfl rfl rfl (Nat.le_of_ble_eq_true rfl) ⟨Nat.le_refl _, Nat.le_refl _⟩ dX4_exchange_124 rfl ?_
          have hX : st9 (st9 (hsM u80 o h) 0 (upd (hsM u80 o h 0) (46 + (2 * d + q)) (hsM u80 o h 0 (46 + (2 * d2 + q2))))) 0 (upd (st9 (hsM u80 o h) 0 (upd (hsM u80 o h 0) (46 + (2 * d + q)) (hsM u80 o h 0 (46 + (2 * d2 + q2)))) 0) (46 + (2 * d2 + q2)) (hsM u80 o h 0 (46 + (2 * d + q)))) 0 = q_exR (σ 0) (2 * d + q) (2 * d2 + q2) := by
            rw [st9_s, st9_s, hsM_0, cc9_0 hs]
            rfl
          refine v_pop C dX4_exchange_127 rfl rfl ?_
          refine v_aload_n C dX4_exchange_128 rfl 0 4 rfl rfl ?_
          refine v_iconst (v := 4) C dX4_exchange_129 rfl ic_4 ?_
          refine v_callVi C K (c_X4_sumOfFilms l D ad cI cC cZ cQ _ n (by rw [hX]; exact wfH_ex hw (by omega) (by omega)) 4 (by decide)) gX4_exchange_X4_sumOfFilms rfl hd_X4_sumOfFilms ⟨rfl, rfl⟩ ⟨Nat.le_of_ble_eq_true rfl, Nat.le_of_ble_eq_true rfl⟩ 0 rfl rfl rfl rfl rfl (Nat.le_of_ble_eq_true rfl) ⟨Nat.le_refl _, Nat.le_refl _⟩ dX4_exchange_130 rfl (fun r130 u130 hc130 => ?_)
          obtain ⟨rfl, hs2⟩ := hc130
          rw [hX]
          refine v_iload C dX4_exchange_133 rfl 1 rfl ?_
          refine v_isub C dX4_exchange_135 rfl ?_
          refine v_ldc C dX4_exchange_136 rfl ct_X4_exchange_101 ?_
          refine v_iadd C dX4_exchange_138 rfl ?_
          exact hend (⟨fun _ => ⟨h5, h14, by rw [ek, ek3]; exact ex_gain hw (by omega) (by omega), by
      rw [ek, ek3]
      intro i hi
      rw [hs2 i hi]
      by_cases e : i = 0
      · subst e
        rw [hX, st9_s]
      · rw [st9_n _ _ e, st9_n _ _ e, st9_n _ _ e]
        exact hsM_cc hs o h i hi⟩, fun q => absurd (by simp [q_exE, ek, ek3, ecd, ecd2, h5, h14, h52, h72]) q⟩) (rfl) dX4_exchange_139
        · skip
          refine v_bipush (v := -5) C dX4_exchange_75 rfl bp_m5 ?_
          exact hend (⟨fun q => absurd q (by simp [q_exE, ek, ek3, ecd, ecd2, h5, h14, h52, h72]), fun _ => ⟨by simp [q_exE, ek, ek3, ecd, ecd2, h5, h14, h52, h72], rfl⟩⟩) (rfl) dX4_exchange_77
    · skip
      refine v_bipush (v := -2) C dX4_exchange_17 rfl bp_m2 ?_
      exact hend (⟨fun q => absurd q (by simp [q_exE, h5, h14]), fun _ => ⟨by simp [q_exE, h5, h14], rfl⟩⟩) (rfl) dX4_exchange_19
set_option maxHeartbeats 4000000 in
set_option maxRecDepth 100000 in
theorem c_X4_dropShowsOfDay (l : Launch) (D : va_G) (ad : Nat → Nat) (cI cC cZ cQ : ClassId) (σ : S9) (d : Nat) (hd : d < 35) : CMi l (cW ad cI cC cZ cQ) D (cTy cI cC cZ cQ) yX4_dropShowsOfDay wsX4_dropShowsOfDay ({ frames := 1, cells := 0, slots := 0, locals := 23 } : Room) [.ref (ad 0), .int (nI d)] σ (fun r u => r = sm9 (q_lt (σ 0) d) 2 ∧ u = st9 σ 0 (ltF (σ 0) d 2)) := by
  refine v_starti (own := RX4) (cc := cX4_dropShowsOfDay) (nL := 4) rfl (by decide) rfl (Nat.le_of_ble_eq_true rfl) ?_
  intro p e s m args below meth c A Q C K hend
  refine v_lv (lv' := [(0, .ref (ad 0)), (1, .int (nI d))]) [0, 1] rfl ?_
  refine v_iconst (v := 0) C dX4_dropShowsOfDay_0 rfl ic_0 ?_
  refine v_istore_n (lv' := [(2, _), (0, _), (1, _)]) C dX4_dropShowsOfDay_1 rfl 2 rfl (by decide) rfl ?_
  refine v_iconst (v := 0) C dX4_dropShowsOfDay_2 rfl ic_0 ?_
  refine v_istore_n (lv' := [(3, _), (2, _), (0, _), (1, _)]) C dX4_dropShowsOfDay_3 rfl 3 rfl (by decide) rfl ?_
  have LP4 : ∀ j, j ≤ 2 → VV p l e ({ frames := 1, cells := 0, slots := 0, locals := 23 } : Room) s m args below meth c 0 0 Q (cW ad cI cC cZ cQ) D A s.heap 4 (st9 σ 0 (ltF (σ 0) d j)) 4 [(0, .ref (ad 0)), (1, .int (nI d)), (2, .int (sm9 (q_lt (σ 0) d) j)), (3, .int (nI j))] [] := by
    refine lpB9 (fun j => VV p l e ({ frames := 1, cells := 0, slots := 0, locals := 23 } : Room) s m args below meth c 0 0 Q (cW ad cI cC cZ cQ) D A s.heap 4 (st9 σ 0 (ltF (σ 0) d j)) 4 [(0, .ref (ad 0)), (1, .int (nI d)), (2, .int (sm9 (q_lt (σ 0) d) j)), (3, .int (nI j))] []) 2 (fun j hj ih => ?_) ?_
    · skip
      refine v_iload_n C dX4_dropShowsOfDay_4 rfl 3 3 rfl rfl ?_
      refine v_iconst (v := 2) C dX4_dropShowsOfDay_5 rfl ic_2 ?_
      refine v_icmp_ge C 37 dX4_dropShowsOfDay_6 (by decide) rfl (fun h9 => absurd h9 (nI_ge hj (by decide))) (fun _ => ?_)
      refine v_aload_n C dX4_dropShowsOfDay_9 rfl 0 0 rfl rfl ?_
      refine v_get C K in_X4_dropShowsOfDay_X4 0 rfl rfl 0 (by decide) fl_X4_dropShowsOfDay_X4_0 rfl dX4_dropShowsOfDay_10 rfl ?_
      refine v_iload_n C dX4_dropShowsOfDay_13 rfl 1 1 rfl rfl ?_
      refine v_iload_n C dX4_dropShowsOfDay_14 rfl 3 3 rfl rfl ?_
      refine v_callSpd C (c_X4_placeOf l _ _) gX4_dropShowsOfDay_X4_placeOf rfl hd_X4_placeOf.2 ⟨rfl, rfl⟩ ⟨Nat.le_of_ble_eq_true rfl, Nat.le_of_ble_eq_true rfl⟩ rfl rfl (Nat.le_of_ble_eq_true rfl) ⟨Nat.le_refl _, Nat.le_refl _⟩ dX4_dropShowsOfDay_15 rfl ?_
      refine v_bipush (v := -6) C dX4_dropShowsOfDay_18 rfl bp_m6 ?_
      refine v_callVid C K (c_X1_replaceShow l D ad cI cC cZ cQ _ (2 * d + j) (by omega) _) gX4_dropShowsOfDay_X1_replaceShow rfl hd_X1_replaceShow ⟨rfl, rfl⟩ ⟨Nat.le_of_ble_eq_true rfl, Nat.le_of_ble_eq_true rfl⟩ 1 rfl rfl rfl rfl rfl (Nat.le_of_ble_eq_true rfl) ⟨Nat.le_refl _, Nat.le_refl _⟩ dX4_dropShowsOfDay_20 rfl ?_
      refine v_top (σ 0 (46 + 2 * d + j)) (by rw [st9_s, ← Nat.add_assoc, ltF_n _ _ _ _ (Nat.le_refl _)]) ?_
      refine v_bipush (v := -6) C dX4_dropShowsOfDay_23 rfl bp_m6 ?_
      refine v_icmp_eq C 31 dX4_dropShowsOfDay_25 (by decide) rfl (fun h25 => ?_) (fun h25 => ?_)
      · skip
        refine v_iinc (lv' := [(3, _), (0, _), (1, _), (2, _)]) C dX4_dropShowsOfDay_31 rfl 3 rfl (inc9 _) (by decide) rfl ?_
        refine v_goto C 4 dX4_dropShowsOfDay_34 (by decide) ?_
        refine v_lv (lv' := [(0, _), (1, _), (2, _), (3, _)]) [1, 2, 3, 0] rfl ?_
        exact v9cast ih (by rw [st9_tw, st9_s, ltF, Nat.add_assoc]) (by simp [sm9, q_lt, h25]) rfl
      · skip
        refine v_iinc (lv' := [(2, _), (0, _), (1, _), (3, _)]) C dX4_dropShowsOfDay_28 rfl 2 rfl (show _ = sm9 (q_lt (σ 0) d) j + 1 from rfl) (by decide) rfl ?_
        refine v_iinc (lv' := [(3, _), (2, _), (0, _), (1, _)]) C dX4_dropShowsOfDay_31 rfl 3 rfl (inc9 _) (by decide) rfl ?_
        refine v_goto C 4 dX4_dropShowsOfDay_34 (by decide) ?_
        refine v_lv (lv' := [(0, _), (1, _), (2, _), (3, _)]) [2, 3, 1, 0] rfl ?_
        exact v9cast ih (by rw [st9_tw, st9_s, ltF, Nat.add_assoc]) (by simp [sm9, q_lt, h25]) rfl
    · skip
      refine v_iload_n C dX4_dropShowsOfDay_4 rfl 3 3 rfl rfl ?_
      refine v_iconst (v := 2) C dX4_dropShowsOfDay_5 rfl ic_2 ?_
      refine v_icmp_ge C 37 dX4_dropShowsOfDay_6 (by decide) rfl (fun _ => ?_) (fun h9 => absurd (nI_le (Nat.le_refl _) (by decide)) h9)
      refine v_iload_n C dX4_dropShowsOfDay_37 rfl 2 2 rfl rfl ?_
      exact hend (⟨rfl, rfl⟩) (rfl) dX4_dropShowsOfDay_38
  refine v_lv (lv' := [(0, _), (1, _), (2, _), (3, _)]) [2, 3, 1, 0] rfl ?_
  exact v9cast (LP4 0 (by omega)) (st9_id σ 0).symm rfl rfl
theorem let_comm (r : Nat → Int32) {d : Nat} (hd : d < 35) (v : Int32) : ltF (upd r (116 + d) v) d 2 = upd (ltF r d 2) (116 + d) v := by
  funext i
  show upd (upd (upd r (116 + d) v) (46 + 2 * d + 0) (-6)) (46 + 2 * d + 1) (-6) i = upd (upd (upd r (46 + 2 * d + 0) (-6)) (46 + 2 * d + 1) (-6)) (116 + d) v i
  by_cases e3 : i = 116 + d
  · subst e3
    rw [upd_s, upd_n _ _ (by omega), upd_n _ _ (by omega), upd_s]
  · rw [upd_n _ _ e3]
    by_cases e1 : i = 46 + 2 * d + 1
    · subst e1
      rw [upd_s, upd_s]
    · rw [upd_n _ _ e1, upd_n _ _ e1]
      by_cases e2 : i = 46 + 2 * d + 0
      · subst e2
        rw [upd_s, upd_s]
      · rw [upd_n _ _ e2, upd_n _ _ e2, upd_n _ _ e3]
theorem lt_same (r : Nat → Int32) {d : Nat} (hd : d < 35) (v : Int32) : sm9 (q_lt (upd r (116 + d) v) d) 2 = sm9 (q_lt r d) 2 := sm9_congr (fun j hj => by
  unfold q_lt
  rw [upd_n _ _ (by omega)])
set_option maxHeartbeats 4000000 in
set_option maxRecDepth 100000 in
theorem c_X4_let (l : Launch) (D : va_G) (ad : Nat → Nat) (cI cC cZ cQ : ClassId) (σ : S9) (o : Nat) (ho : σ 8 0 = nI o) (ho6 : o < 6) (h : Nat) (hh : σ 8 1 = nI h) (hle : h ≤ 6) (d v : Int32) : CMi l (cW ad cI cC cZ cQ) D (cTy cI cC cZ cQ) yX4_let wsX4_let ({ frames := 3, cells := 0, slots := 0, locals := 68 } : Room) [.ref (ad 0), .int d, .int v] σ (fun r u => (q_letE d v = 0 → ¬ p_in d 0 34 = 0 ∧ ¬ p_in v 0 999 = 0 ∧ r = (if v ≤ 0 then 0 else sm9 (q_lt (σ 0) d.toNatClampNeg) 2) ∧ u = st9 (hsM σ o h) 0 (q_letR (σ 0) d.toNatClampNeg v)) ∧ (¬ q_letE d v = 0 → r = q_letE d v ∧ u = σ)) := by
  refine v_starti (own := RX4) (cc := cX4_let) (nL := 3) rfl (by decide) rfl (Nat.le_of_ble_eq_true rfl) ?_
  intro p e s m args below meth c A Q C K hend
  refine v_lv (lv' := [(0, .ref (ad 0)), (1, .int d), (2, .int v)]) [0, 1, 2] rfl ?_
  refine v_iload_n C dX4_let_0 rfl 1 1 rfl rfl ?_
  refine v_callSpd C (c_X4_isDay l _) gX4_let_X4_isDay rfl hd_X4_isDay.2 ⟨rfl, rfl⟩ ⟨Nat.le_of_ble_eq_true rfl, Nat.le_of_ble_eq_true rfl⟩ rfl rfl (Nat.le_of_ble_eq_true rfl) ⟨Nat.le_refl _, Nat.le_refl _⟩ dX4_let_1 rfl ?_
  refine v_if_eq C 18 dX4_let_4 (by decide) rfl (fun h4 => ?_) (fun h4 => ?_)
  · skip
    refine v_bipush (v := -2) C dX4_let_18 rfl bp_m2 ?_
    exact hend (⟨fun q => absurd q (by simp [q_letE, h4]), fun _ => ⟨by simp [q_letE, h4], rfl⟩⟩) (rfl) dX4_let_20
  · skip
    refine v_iload_n C dX4_let_7 rfl 2 2 rfl rfl ?_
    refine v_iconst (v := 0) C dX4_let_8 rfl ic_0 ?_
    refine v_sipush (v := 999) C dX4_let_9 rfl sp_999 ?_
    refine v_callSpd C (c_X4_isWithin l _ _ _) gX4_let_X4_isWithin rfl hd_X4_isWithin.2 ⟨rfl, rfl⟩ ⟨Nat.le_of_ble_eq_true rfl, Nat.le_of_ble_eq_true rfl⟩ rfl rfl (Nat.le_of_ble_eq_true rfl) ⟨Nat.le_refl _, Nat.le_refl _⟩ dX4_let_12 rfl ?_
    refine v_if_ne C 21 dX4_let_15 (by decide) rfl (fun h15 => ?_) (fun h15 => ?_)
    · skip
      obtain ⟨d, hd, rfl⟩ := p_in_nI (n := 34) (by decide) h4
      replace hd : d < 35 := by omega
      have ecd : (nI d).toNatClampNeg = d := nI_cl (by omega)
      refine v_aload_n C dX4_let_21 rfl 0 0 rfl rfl ?_
      refine v_get C K in_X4_let_X4 0 rfl rfl 3 (by decide) fl_X4_let_X4_3 rfl dX4_let_22 rfl ?_
      refine v_aload_n C dX4_let_25 rfl 0 0 rfl rfl ?_
      refine v_get C K in_X4_let_X4 0 rfl rfl 0 (by decide) fl_X4_let_X4_0 rfl dX4_let_26 rfl ?_
      refine v_callVvd C K (c_X2_record l D ad cI cC cZ cQ _ o ho ho6 h hh hle) gX4_let_X2_record rfl hd_X2_record ⟨rfl, rfl⟩ ⟨Nat.le_of_ble_eq_true rfl, Nat.le_of_ble_eq_true rfl⟩ 10 rfl rfl rfl rfl rfl (Nat.le_of_ble_eq_true rfl) ⟨Nat.le_refl _, Nat.le_refl _⟩ dX4_let_29 rfl ?_
      refine v_aload_n C dX4_let_32 rfl 0 0 rfl rfl ?_
      refine v_get C K in_X4_let_X4 0 rfl rfl 0 (by decide) fl_X4_let_X4_0 rfl dX4_let_33 rfl ?_
      refine v_iload_n C dX4_let_36 rfl 1 1 rfl rfl ?_
      refine v_iload_n C dX4_let_37 rfl 2 2 rfl rfl ?_
      refine v_callVvd C K (c_X1_changeRent l D ad cI cC cZ cQ _ d hd _) gX4_let_X1_changeRent rfl hd_X1_changeRent ⟨rfl, rfl⟩ ⟨Nat.le_of_ble_eq_true rfl, Nat.le_of_ble_eq_true rfl⟩ 1 rfl rfl rfl rfl rfl (Nat.le_of_ble_eq_true rfl) ⟨Nat.le_refl _, Nat.le_refl _⟩ dX4_let_38 rfl ?_
      refine v_iload_n C dX4_let_41 rfl 2 2 rfl rfl ?_
      refine v_if_ne C 49 dX4_let_42 (by decide) rfl (fun h42t => ?_) (fun h42 => ?_)
      · skip
        have hv : ¬ v ≤ 0 := fun e => h42t (Int32.le_antisymm e (p_in_ne h15).1)
        refine v_aload_n C dX4_let_49 rfl 0 0 rfl rfl ?_
        refine v_iload_n C dX4_let_50 rfl 1 1 rfl rfl ?_
        refine v_callVid C K (c_X4_dropShowsOfDay l D ad cI cC cZ cQ _ d hd) gX4_let_X4_dropShowsOfDay rfl hd_X4_dropShowsOfDay ⟨rfl, rfl⟩ ⟨Nat.le_of_ble_eq_true rfl, Nat.le_of_ble_eq_true rfl⟩ 0 rfl rfl rfl rfl rfl (Nat.le_of_ble_eq_true rfl) ⟨Nat.le_refl _, Nat.le_refl _⟩ dX4_let_51 rfl ?_
        exact hend (⟨fun _ => ⟨h4, h15, by rw [if_neg hv, ecd, st9_s, hsM_0, lt_same _ hd], by rw [ecd, q_letR, if_neg hv, st9_tw, st9_s, hsM_0, let_comm _ hd]⟩, fun q => absurd (by simp [q_letE, h4, h15]) q⟩) (rfl) dX4_let_54
      · skip
        have hv : v ≤ 0 := by rw [h42]; decide
        refine v_iconst (v := 0) C dX4_let_45 rfl ic_0 ?_
        refine v_goto C 54 dX4_let_46 (by decide) ?_
        exact hend (⟨fun _ => ⟨h4, h15, by rw [if_pos hv], by rw [ecd, q_letR, if_pos hv, hsM_0]⟩, fun q => absurd (by simp [q_letE, h4, h15]) q⟩) (rfl) dX4_let_54
    · skip
      refine v_bipush (v := -2) C dX4_let_18 rfl bp_m2 ?_
      exact hend (⟨fun q => absurd q (by simp [q_letE, h4, h15]), fun _ => ⟨by simp [q_letE, h4, h15], rfl⟩⟩) (rfl) dX4_let_20
def c_savS (σ : S9) (s : Nat) : S9 := st9 (st9 σ (10 + (6 + s)) (va_cpy (σ 0) (σ (10 + (6 + s))) 0 0 151)) 9 (upd (σ 9) s 1)
def c_resE (σ : S9) (s : Int32) : Int32 := if p_in s 0 1 = 0 then -2 else if σ 9 s.toNatClampNeg = 0 then -5 else 0

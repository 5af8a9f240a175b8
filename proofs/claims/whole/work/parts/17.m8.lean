theorem rcM_i (σ : S9) (h i : Nat) (h1 : i ≠ 1) (h12 : i ≠ 12) : rcM σ h i = σ i := by rw [rcM, st9_n _ _ h12, st9_n _ _ h1]
theorem rcM_0 (σ : S9) (h : Nat) : rcM σ h 0 = σ 0 := rcM_i σ h 0 (by decide) (by decide)
theorem p_val_ne {x v : Int32} (h : ¬ p_val x v = 0) : ∃ i : Nat, i < 5 ∧ x = nI i := by
  unfold p_val at h
  by_cases h0 : x = 0
  · exact ⟨0, by decide, h0⟩
  · by_cases h1 : x = 1
    · exact ⟨1, by decide, h1⟩
    · by_cases h2 : x = 2
      · exact ⟨2, by decide, h2⟩
      · by_cases h3 : x = 3
        · exact ⟨3, by decide, h3⟩
        · by_cases h4 : x = 4
          · exact ⟨4, by decide, h4⟩
          · simp [h0, h1, h2, h3, h4] at h
def q_setE (x v : Int32) : Int32 := if p_val x v = 0 then -2 else 0
set_option maxHeartbeats 4000000 in
set_option maxRecDepth 100000 in
theorem c_X5_set (l : Launch) (D : va_G) (ad : Nat → Nat) (cI : ClassId) (σ : S9) (h : Nat) (hh : σ 12 0 = nI h) (hle : h ≤ 6) (x v : Int32) : CMi l (mW ad cI) D [(cI, .int)] yX5_set wsX5_set ({ frames := 2, cells := 0, slots := 0, locals := 45 } : Room) [.ref (ad 0), .int x, .int v] σ (fun r u => (q_setE x v = 0 → r = σ 0 x.toNatClampNeg ∧ u = st9 (rcM σ h) 0 (upd (σ 0) x.toNatClampNeg v)) ∧ (¬ q_setE x v = 0 → r = q_setE x v ∧ u = σ)) := by
  refine v_starti (own := RX5) (cc := cX5_set) (nL := 4) rfl (by decide) rfl (Nat.le_of_ble_eq_true rfl) ?_
  intro p e s m args below meth c A Q C K hend
  refine v_lv (lv' := [(0, .ref (ad 0)), (1, .int x), (2, .int v)]) [0, 1, 2] rfl ?_
  refine v_iload_n C dX5_set_0 rfl 1 1 rfl rfl ?_
  refine v_iload_n C dX5_set_1 rfl 2 2 rfl rfl ?_
  refine v_callSpd C (c_X5_isValue l _ _) gX5_set_X5_isValue rfl hd_X5_isValue.2 ⟨rfl, rfl⟩ ⟨Nat.le_of_ble_eq_true rfl, Nat.le_of_ble_eq_true rfl⟩ rfl rfl (Nat.le_of_ble_eq_true rfl) ⟨Nat.le_refl _, Nat.le_refl _⟩ dX5_set_2 rfl ?_
  refine v_if_ne C 11 dX5_set_5 (by decide) rfl (fun h5 => ?_) (fun h5 => ?_)
  · skip
    obtain ⟨i, hi, rfl⟩ := p_val_ne h5
    have eci : (nI i).toNatClampNeg = i := nI_cl (by omega)
    refine v_aload_n C dX5_set_11 rfl 0 0 rfl rfl ?_
    refine v_callVvd C K (c_X5_record l D ad cI _ h hh hle) gX5_set_X5_record rfl hd_X5_record ⟨rfl, rfl⟩ ⟨Nat.le_of_ble_eq_true rfl, Nat.le_of_ble_eq_true rfl⟩ 0 rfl rfl rfl rfl rfl (Nat.le_of_ble_eq_true rfl) ⟨Nat.le_refl _, Nat.le_refl _⟩ dX5_set_12 rfl ?_
    refine v_aload_n C dX5_set_15 rfl 0 0 rfl rfl ?_
    refine v_get C K in_X5_set_X5 0 rfl rfl 0 (by decide) fl_X5_set_X5_0 rfl dX5_set_16 rfl ?_
    refine v_iload_n C dX5_set_19 rfl 1 1 rfl rfl ?_
    refine v_iald C K 1 0 rfl rfl (i) (rfl) (by omega) (by decide) dX5_set_20 rfl ?_
    refine v_top (σ 0 i) (by rw [rcM_0]) ?_
    refine v_istore_n (lv' := [(3, _), (0, _), (1, _), (2, _)]) C dX5_set_21 rfl 3 rfl (by decide) rfl ?_
    refine v_aload_n C dX5_set_22 rfl 0 1 rfl rfl ?_
    refine v_get C K in_X5_set_X5 0 rfl rfl 0 (by decide) fl_X5_set_X5_0 rfl dX5_set_23 rfl ?_
    refine v_iload_n C dX5_set_26 rfl 1 2 rfl rfl ?_
    refine v_iload_n C dX5_set_27 rfl 2 3 rfl rfl ?_
    refine v_iast C K _ 1 0 rfl rfl (i) (rfl) (by omega) (by decide) (mW_a0 ad cI _ _) dX5_set_28 rfl ?_
    refine v_iload_n C dX5_set_29 rfl 3 0 rfl rfl ?_
    exact hend (⟨fun _ => ⟨by rw [eci], by rw [eci, rcM_0]⟩, fun q => absurd (by simp [q_setE, h5]) q⟩) (rfl) dX5_set_30
  · skip
    refine v_bipush (v := -2) C dX5_set_8 rfl bp_m2 ?_
    exact hend (⟨fun q => absurd q (by simp [q_setE, h5]), fun _ => ⟨by simp [q_setE, h5], rfl⟩⟩) (rfl) dX5_set_10
def q_filmE (r : Nat → Int32) (d c m s f : Int32) : Int32 := if p_in d 0 3 = 0 then -2 else if p_in c 1 999 = 0 then -2 else if p_in m 0 500 = 0 then -2 else if p_in s 20 90 = 0 then -2 else if p_in f 0 34 = 0 then -2 else if r 5 = 8 then -4 else 0
def film9 (r : Nat → Int32) (n : Nat) (d c m s f : Int32) : Nat → Int32 := upd (upd (upd (upd (upd (upd r (6 + 5 * n + 0) d) (6 + 5 * n + 1) c) (6 + 5 * n + 2) m) (6 + 5 * n + 3) s) (6 + 5 * n + 4) f) 5 (nI (n + 1))
set_option maxHeartbeats 4000000 in
set_option maxRecDepth 100000 in
theorem c_X5_film (l : Launch) (D : va_G) (ad : Nat → Nat) (cI : ClassId) (σ : S9) (n : Nat) (hw : wfS (σ 0) n) (h : Nat) (hh : σ 12 0 = nI h) (hle : h ≤ 6) (xd xc xm xs xf : Int32) : CMi l (mW ad cI) D [(cI, .int)] yX5_film wsX5_film ({ frames := 2, cells := 0, slots := 0, locals := 45 } : Room) [.ref (ad 0), .int xd, .int xc, .int xm, .int xs, .int xf] σ (fun r u => (q_filmE (σ 0) xd xc xm xs xf = 0 → n < 8 ∧ r = nI n ∧ u = st9 (rcM σ h) 0 (film9 (σ 0) n xd xc xm xs xf)) ∧ (¬ q_filmE (σ 0) xd xc xm xs xf = 0 → r = q_filmE (σ 0) xd xc xm xs xf ∧ u = σ)) := by
  refine v_starti (own := RX5) (cc := cX5_film) (nL := 7) rfl (by decide) rfl (Nat.le_of_ble_eq_true rfl) ?_
  intro p e s m args below meth c A Q C K hend
  refine v_lv (lv' := [(0, .ref (ad 0)), (1, .int xd), (2, .int xc), (3, .int xm), (4, .int xs), (5, .int xf)]) [0, 1, 2, 3, 4, 5] rfl ?_
  refine v_iload_n C dX5_film_0 rfl 1 1 rfl rfl ?_
  refine v_iconst (v := 0) C dX5_film_1 rfl ic_0 ?_
  refine v_iconst (v := 3) C dX5_film_2 rfl ic_3 ?_
  refine v_callSpd C (c_X5_within l _ _ _) gX5_film_X5_within rfl hd_X5_within.2 ⟨rfl, rfl⟩ ⟨Nat.le_of_ble_eq_true rfl, Nat.le_of_ble_eq_true rfl⟩ rfl rfl (Nat.le_of_ble_eq_true rfl) ⟨Nat.le_refl _, Nat.le_refl _⟩ dX5_film_3 rfl ?_
  refine v_if_eq C 54 dX5_film_6 (by decide) rfl (fun h6 => ?_) (fun h6 => ?_)
  · skip
    refine v_bipush (v := -2) C dX5_film_54 rfl bp_m2 ?_
    exact hend (⟨fun q => absurd q (by simp [q_filmE, h6]), fun _ => ⟨by simp [q_filmE, h6], rfl⟩⟩) (rfl) dX5_film_56
  · skip
    refine v_iload_n C dX5_film_9 rfl 2 2 rfl rfl ?_
    refine v_iconst (v := 1) C dX5_film_10 rfl ic_1 ?_
    refine v_sipush (v := 999) C dX5_film_11 rfl sp_999 ?_
    refine v_callSpd C (c_X5_within l _ _ _) gX5_film_X5_within rfl hd_X5_within.2 ⟨rfl, rfl⟩ ⟨Nat.le_of_ble_eq_true rfl, Nat.le_of_ble_eq_true rfl⟩ rfl rfl (Nat.le_of_ble_eq_true rfl) ⟨Nat.le_refl _, Nat.le_refl _⟩ dX5_film_14 rfl ?_
    refine v_if_eq C 54 dX5_film_17 (by decide) rfl (fun h17 => ?_) (fun h17 => ?_)
    · skip
      refine v_bipush (v := -2) C dX5_film_54 rfl bp_m2 ?_
      exact hend (⟨fun q => absurd q (by simp [q_filmE, h6, h17]), fun _ => ⟨by simp [q_filmE, h6, h17], rfl⟩⟩) (rfl) dX5_film_56
    · skip
      refine v_iload_n C dX5_film_20 rfl 3 3 rfl rfl ?_
      refine v_iconst (v := 0) C dX5_film_21 rfl ic_0 ?_
      refine v_sipush (v := 500) C dX5_film_22 rfl sp_500 ?_
      refine v_callSpd C (c_X5_within l _ _ _) gX5_film_X5_within rfl hd_X5_within.2 ⟨rfl, rfl⟩ ⟨Nat.le_of_ble_eq_true rfl, Nat.le_of_ble_eq_true rfl⟩ rfl rfl (Nat.le_of_ble_eq_true rfl) ⟨Nat.le_refl _, Nat.le_refl _⟩ dX5_film_25 rfl ?_
      refine v_if_eq C 54 dX5_film_28 (by decide) rfl (fun h28 => ?_) (fun h28 => ?_)
      · skip
        refine v_bipush (v := -2) C dX5_film_54 rfl bp_m2 ?_
        exact hend (⟨fun q => absurd q (by simp [q_filmE, h6, h17, h28]), fun _ => ⟨by simp [q_filmE, h6, h17, h28], rfl⟩⟩) (rfl) dX5_film_56
      · skip
        refine v_iload C dX5_film_31 rfl 4 rfl ?_
        refine v_bipush (v := 20) C dX5_film_33 rfl bp_20 ?_
        refine v_bipush (v := 90) C dX5_film_35 rfl bp_90 ?_
        refine v_callSpd C (c_X5_within l _ _ _) gX5_film_X5_within rfl hd_X5_within.2 ⟨rfl, rfl⟩ ⟨Nat.le_of_ble_eq_true rfl, Nat.le_of_ble_eq_true rfl⟩ rfl rfl (Nat.le_of_ble_eq_true rfl) ⟨Nat.le_refl _, Nat.le_refl _⟩ dX5_film_37 rfl ?_
        refine v_if_eq C 54 dX5_film_40 (by decide) rfl (fun h40 => ?_) (fun h40 => ?_)
        · skip
          refine v_bipush (v := -2) C dX5_film_54 rfl bp_m2 ?_
          exact hend (⟨fun q => absurd q (by simp [q_filmE, h6, h17, h28, h40]), fun _ => ⟨by simp [q_filmE, h6, h17, h28, h40], rfl⟩⟩) (rfl) dX5_film_56
        · skip
          refine v_iload C dX5_film_43 rfl 5 rfl ?_
          refine v_iconst (v := 0) C dX5_film_45 rfl ic_0 ?_
          refine v_bipush (v := 34) C dX5_film_46 rfl bp_34 ?_
          refine v_callSpd C (c_X5_within l _ _ _) gX5_film_X5_within rfl hd_X5_within.2 ⟨rfl, rfl⟩ ⟨Nat.le_of_ble_eq_true rfl, Nat.le_of_ble_eq_true rfl⟩ rfl rfl (Nat.le_of_ble_eq_true rfl) ⟨Nat.le_refl _, Nat.le_refl _⟩ dX5_film_48 rfl ?_
          refine v_if_ne C 57 dX5_film_51 (by decide) rfl (fun h51 => ?_) (fun h51 => ?_)
          · skip
            refine v_aload_n C dX5_film_57 rfl 0 0 rfl rfl ?_
            refine v_get C K in_X5_film_X5 0 rfl rfl 0 (by decide) fl_X5_film_X5_0 rfl dX5_film_58 rfl ?_
            refine v_iconst (v := 5) C dX5_film_61 rfl ic_5 ?_
            refine v_iald C K 1 0 rfl rfl (5) (rfl) (by omega) (by decide) dX5_film_62 rfl ?_
            refine v_bipush (v := 8) C dX5_film_63 rfl bp_8 ?_
            refine v_icmp_ne C 71 dX5_film_65 (by decide) rfl (fun h65 => ?_) (fun h65 => ?_)
            · skip
              have hn8 : n < 8 := by
                have h8 := hw.2.1
                rcases Nat.lt_or_ge n 8 with q | q
                · exact q
                · exact absurd (by rw [hw.1, show n = 8 by omega]; rfl) h65
              refine v_aload_n C dX5_film_71 rfl 0 0 rfl rfl ?_
              refine v_callVvd C K (c_X5_record l D ad cI _ h hh hle) gX5_film_X5_record rfl hd_X5_record ⟨rfl, rfl⟩ ⟨Nat.le_of_ble_eq_true rfl, Nat.le_of_ble_eq_true rfl⟩ 0 rfl rfl rfl rfl rfl (Nat.le_of_ble_eq_true rfl) ⟨Nat.le_refl _, Nat.le_refl _⟩ dX5_film_72 rfl ?_
              refine v_bipush (v := 6) C dX5_film_75 rfl bp_6 ?_
              refine v_iconst (v := 5) C dX5_film_77 rfl ic_5 ?_
              refine v_aload_n C dX5_film_78 rfl 0 0 rfl rfl ?_
              refine v_get C K in_X5_film_X5 0 rfl rfl 0 (by decide) fl_X5_film_X5_0 rfl dX5_film_79 rfl ?_
              refine v_iconst (v := 5) C dX5_film_82 rfl ic_5 ?_
              refine v_iald C K 1 0 rfl rfl (5) (rfl) (by omega) (by decide) dX5_film_83 rfl ?_
              refine v_imul C dX5_film_84 rfl ?_
              refine v_iadd C dX5_film_85 rfl ?_
              refine v_top (nI (6 + 5 * n)) (by rw [rcM_0, hw.1]; simp only [lit9, pk_mul, nI_add]) ?_
              refine v_istore (lv' := [(6, _), (0, _), (1, _), (2, _), (3, _), (4, _), (5, _)]) C dX5_film_86 rfl (by decide) rfl ?_
              refine v_aload_n C dX5_film_88 rfl 0 1 rfl rfl ?_
              refine v_get C K in_X5_film_X5 0 rfl rfl 0 (by decide) fl_X5_film_X5_0 rfl dX5_film_89 rfl ?_
              refine v_iload C dX5_film_92 rfl 0 rfl ?_
              refine v_iconst (v := 0) C dX5_film_94 rfl ic_0 ?_
              refine v_iadd C dX5_film_95 rfl ?_
              refine v_iload_n C dX5_film_96 rfl 1 2 rfl rfl ?_
              refine v_iast C K _ 1 0 rfl rfl (6 + 5 * n + 0) (by simp only [lit9, pk_mul, nI_add]) (by omega) (by decide) (mW_a0 ad cI _ _) dX5_film_97 rfl ?_
              refine v_aload_n C dX5_film_98 rfl 0 1 rfl rfl ?_
              refine v_get C K in_X5_film_X5 0 rfl rfl 0 (by decide) fl_X5_film_X5_0 rfl dX5_film_99 rfl ?_
              refine v_iload C dX5_film_102 rfl 0 rfl ?_
              refine v_iconst (v := 1) C dX5_film_104 rfl ic_1 ?_
              refine v_iadd C dX5_film_105 rfl ?_
              refine v_iload_n C dX5_film_106 rfl 2 3 rfl rfl ?_
              refine v_iast C K _ 1 0 rfl rfl (6 + 5 * n + 1) (by simp only [lit9, pk_mul, nI_add]) (by omega) (by decide) (mW_a0 ad cI _ _) dX5_film_107 rfl ?_
              refine v_aload_n C dX5_film_108 rfl 0 1 rfl rfl ?_
              refine v_get C K in_X5_film_X5 0 rfl rfl 0 (by decide) fl_X5_film_X5_0 rfl dX5_film_109 rfl ?_
              refine v_iload C dX5_film_112 rfl 0 rfl ?_
              refine v_iconst (v := 2) C dX5_film_114 rfl ic_2 ?_
              refine v_iadd C dX5_film_115 rfl ?_
              refine v_iload_n C dX5_film_116 rfl 3 4 rfl rfl ?_
              refine v_iast C K _ 1 0 rfl rfl (6 + 5 * n + 2) (by simp only [lit9, pk_mul, nI_add]) (by omega) (by decide) (mW_a0 ad cI _ _) dX5_film_117 rfl ?_
              refine v_aload_n C dX5_film_118 rfl 0 1 rfl rfl ?_
              refine v_get C K in_X5_film_X5 0 rfl rfl 0 (by decide) fl_X5_film_X5_0 rfl dX5_film_119 rfl ?_
              refine v_iload C dX5_film_122 rfl 0 rfl ?_
              refine v_iconst (v := 3) C dX5_film_124 rfl ic_3 ?_
              refine v_iadd C dX5_film_125 rfl ?_
              refine v_iload C dX5_film_126 rfl 5 rfl ?_
              refine v_iast C K _ 1 0 rfl rfl (6 + 5 * n + 3) (by simp only [lit9, pk_mul, nI_add]) (by omega) (by decide) (mW_a0 ad cI _ _) dX5_film_128 rfl ?_
              refine v_aload_n C dX5_film_129 rfl 0 1 rfl rfl ?_
              refine v_get C K in_X5_film_X5 0 rfl rfl 0 (by decide) fl_X5_film_X5_0 rfl dX5_film_130 rfl ?_
              refine v_iload C dX5_film_133 rfl 0 rfl ?_
              refine v_iconst (v := 4) C dX5_film_135 rfl ic_4 ?_
              refine v_iadd C dX5_film_136 rfl ?_
              refine v_iload C dX5_film_137 rfl 6 rfl ?_
              refine v_iast C K _ 1 0 rfl rfl (6 + 5 * n + 4) (by simp only [lit9, pk_mul, nI_add]) (by omega) (by decide) (mW_a0 ad cI _ _) dX5_film_139 rfl ?_
              refine v_aload_n C dX5_film_140 rfl 0 1 rfl rfl ?_
              refine v_get C K in_X5_film_X5 0 rfl rfl 0 (by decide) fl_X5_film_X5_0 rfl dX5_film_141 rfl ?_
              refine v_iconst (v := 5) C dX5_film_144 rfl ic_5 ?_
              refine v_dup2 C dX5_film_145 rfl rfl rfl ?_
              refine v_iald C K 1 0 rfl rfl (5) (rfl) (by omega) (by decide) dX5_film_146 rfl ?_
              refine v_iconst (v := 1) C dX5_film_147 rfl ic_1 ?_
              refine v_iadd C dX5_film_148 rfl ?_
              refine v_top (nI (n + 1)) (by rw [st9_s, upd_n _ _ (by omega), st9_s, upd_n _ _ (by omega), st9_s, upd_n _ _ (by omega), st9_s, upd_n _ _ (by omega), st9_s, upd_n _ _ (by omega), rcM_0, hw.1]; exact nI_1 n) ?_
              refine v_iast C K _ 1 0 rfl rfl (5) (rfl) (by omega) (by decide) (mW_a0 ad cI _ _) dX5_film_149 rfl ?_
              refine v_aload_n C dX5_film_150 rfl 0 1 rfl rfl ?_
              refine v_get C K in_X5_film_X5 0 rfl rfl 0 (by decide) fl_X5_film_X5_0 rfl dX5_film_151 rfl ?_
              refine v_iconst (v := 5) C dX5_film_154 rfl ic_5 ?_
              refine v_iald C K 1 0 rfl rfl (5) (rfl) (by omega) (by decide) dX5_film_155 rfl ?_
              refine v_top (nI (n + 1)) (by rw [st9_s, upd_s]) ?_
              refine v_iconst (v := 1) C dX5_film_156 rfl ic_1 ?_
              refine v_isub C dX5_film_157 rfl ?_
              refine v_top (nI n) (nI_pred n) ?_
              exact hend (⟨fun _ => ⟨hn8, rfl, by simp only [st9_tw, st9_s, rcM_0]; rfl⟩, fun q => absurd (by simp [q_filmE, h6, h17, h28, h40, h51, h65]) q⟩) (rfl) dX5_film_158
            · skip
              refine v_bipush (v := -4) C dX5_film_68 rfl bp_m4 ?_
              exact hend (⟨fun q => absurd q (by simp [q_filmE, h6, h17, h28, h40, h51, h65]), fun _ => ⟨by simp [q_filmE, h6, h17, h28, h40, h51, h65], rfl⟩⟩) (rfl) dX5_film_70
          · skip
            refine v_bipush (v := -2) C dX5_film_54 rfl bp_m2 ?_
            exact hend (⟨fun q => absurd q (by simp [q_filmE, h6, h17, h28, h40, h51]), fun _ => ⟨by simp [q_filmE, h6, h17, h28, h40, h51], rfl⟩⟩) (rfl) dX5_film_56
set_option maxHeartbeats 4000000 in
set_option maxRecDepth 100000 in
theorem c_X5_show (l : Launch) (D : va_G) (ad : Nat → Nat) (cI : ClassId) (σ : S9) (n : Nat) (hw : wfS (σ 0) n) (h : Nat) (hh : σ 12 0 = nI h) (hle : h ≤ 6) (f d q : Int32) : CMi l (mW ad cI) D [(cI, .int)] yX5_show wsX5_show ({ frames := 3, cells := 0, slots := 0, locals := 67 } : Room) [.ref (ad 0), .int f, .int d, .int q] σ (fun r u => (p_why (σ 0) f d q = 0 → r = σ 0 (46 + q_k d q) ∧ u = st9 (rcM σ h) 0 (upd (σ 0) (46 + q_k d q) f)) ∧ (¬ p_why (σ 0) f d q = 0 → r = p_why (σ 0) f d q ∧ u = σ)) := by
  refine v_starti (own := RX5) (cc := cX5_show) (nL := 6) rfl (by decide) rfl (Nat.le_of_ble_eq_true rfl) ?_
  intro p e s m args below meth c A Q C K hend
  refine v_lv (lv' := [(0, .ref (ad 0)), (1, .int f), (2, .int d), (3, .int q)]) [0, 1, 2, 3] rfl ?_
  refine v_aload_n C dX5_show_0 rfl 0 0 rfl rfl ?_
  refine v_iload_n C dX5_show_1 rfl 1 1 rfl rfl ?_
  refine v_iload_n C dX5_show_2 rfl 2 2 rfl rfl ?_
  refine v_iload_n C dX5_show_3 rfl 3 3 rfl rfl ?_
  refine v_callVid C K (c_X5_whyNotShown l D ad cI _ n hw.1 hw.2.1 _ _ _) gX5_show_X5_whyNotShown rfl hd_X5_whyNotShown ⟨rfl, rfl⟩ ⟨Nat.le_of_ble_eq_true rfl, Nat.le_of_ble_eq_true rfl⟩ 0 rfl rfl rfl rfl rfl (Nat.le_of_ble_eq_true rfl) ⟨Nat.le_refl _, Nat.le_refl _⟩ dX5_show_4 rfl ?_
  refine v_istore (lv' := [(4, _), (0, _), (1, _), (2, _), (3, _)]) C dX5_show_7 rfl (by decide) rfl ?_
  refine v_iload C dX5_show_9 rfl 0 rfl ?_
  refine v_if_ge C 17 dX5_show_11 (by decide) rfl (fun h11 => ?_) (fun h11n => ?_)
  · skip
    obtain ⟨hz, f, d, q, hf, hd, hq, rfl, rfl, rfl, hcs⟩ := p_why_ge hw.1 hw.2.1 h11
    have ecd : (nI d).toNatClampNeg = d := nI_cl (by omega)
    have ecq : (nI q).toNatClampNeg = q := nI_cl (by omega)
    have ek : q_k (nI d) (nI q) = 2 * d + q := by rw [q_k, ecd, ecq]
    have ek2 : 46 + 2 * d + q = 46 + (2 * d + q) := by omega
    refine v_aload_n C dX5_show_17 rfl 0 1 rfl rfl ?_
    refine v_callVvd C K (c_X5_record l D ad cI _ h hh hle) gX5_show_X5_record rfl hd_X5_record ⟨rfl, rfl⟩ ⟨Nat.le_of_ble_eq_true rfl, Nat.le_of_ble_eq_true rfl⟩ 0 rfl rfl rfl rfl rfl (Nat.le_of_ble_eq_true rfl) ⟨Nat.le_refl _, Nat.le_refl _⟩ dX5_show_18 rfl ?_
    refine v_aload_n C dX5_show_21 rfl 0 1 rfl rfl ?_
    refine v_iload_n C dX5_show_22 rfl 2 3 rfl rfl ?_
    refine v_iload_n C dX5_show_23 rfl 3 4 rfl rfl ?_
    refine v_callVid C K (c_X5_showAt l D ad cI _ d q hd hq) gX5_show_X5_showAt rfl hd_X5_showAt ⟨rfl, rfl⟩ ⟨Nat.le_of_ble_eq_true rfl, Nat.le_of_ble_eq_true rfl⟩ 0 rfl rfl rfl rfl rfl (Nat.le_of_ble_eq_true rfl) ⟨Nat.le_refl _, Nat.le_refl _⟩ dX5_show_24 rfl ?_
    refine v_top (σ 0 (46 + 2 * d + q)) (by rw [rcM_0]) ?_
    refine v_istore (lv' := [(5, _), (4, _), (0, _), (1, _), (2, _), (3, _)]) C dX5_show_27 rfl (by decide) rfl ?_
    refine v_aload_n C dX5_show_29 rfl 0 2 rfl rfl ?_
    refine v_get C K in_X5_show_X5 0 rfl rfl 0 (by decide) fl_X5_show_X5_0 rfl dX5_show_30 rfl ?_
    refine v_bipush (v := 46) C dX5_show_33 rfl bp_46 ?_
    refine v_iconst (v := 2) C dX5_show_35 rfl ic_2 ?_
    refine v_iload_n C dX5_show_36 rfl 2 4 rfl rfl ?_
    refine v_imul C dX5_show_37 rfl ?_
    refine v_iadd C dX5_show_38 rfl ?_
    refine v_iload_n C dX5_show_39 rfl 3 5 rfl rfl ?_
    refine v_iadd C dX5_show_40 rfl ?_
    refine v_iload_n C dX5_show_41 rfl 1 3 rfl rfl ?_
    refine v_iast C K _ 1 0 rfl rfl (46 + 2 * d + q) (by simp only [lit9, pk_mul, nI_add]) (by omega) (by decide) (mW_a0 ad cI _ _) dX5_show_42 rfl ?_
    refine v_iload C dX5_show_43 rfl 0 rfl ?_
    exact hend (⟨fun _ => ⟨by rw [ek, ek2], by rw [ek, ek2, rcM_0]⟩, fun q => absurd hz q⟩) (rfl) dX5_show_45
  · skip
    refine v_iload C dX5_show_14 rfl 0 rfl ?_
    exact hend (⟨fun q => absurd (by rw [q]; decide) h11n, fun _ => ⟨rfl, rfl⟩⟩) (rfl) dX5_show_16
def q_dropE (r : Nat → Int32) (d q : Int32) : Int32 := if p_part d q = 0 then -2 else if r (46 + q_k d q) = -6 then -5 else 0
set_option maxHeartbeats 4000000 in
set_option maxRecDepth 100000 in
theorem c_X5_drop (l : Launch) (D : va_G) (ad : Nat → Nat) (cI : ClassId) (σ : S9) (h : Nat) (hh : σ 12 0 = nI h) (hle : h ≤ 6) (d q : Int32) : CMi l (mW ad cI) D [(cI, .int)] yX5_drop wsX5_drop ({ frames := 2, cells := 0, slots := 0, locals := 45 } : Room) [.ref (ad 0), .int d, .int q] σ (fun r u => (q_dropE (σ 0) d q = 0 → r = σ 0 (46 + q_k d q) ∧ ¬ p_part d q = 0 ∧ u = st9 (rcM σ h) 0 (upd (σ 0) (46 + q_k d q) (-6))) ∧ (¬ q_dropE (σ 0) d q = 0 → r = q_dropE (σ 0) d q ∧ u = σ)) := by
  refine v_starti (own := RX5) (cc := cX5_drop) (nL := 4) rfl (by decide) rfl (Nat.le_of_ble_eq_true rfl) ?_
  intro p e s m args below meth c A Q C K hend
  refine v_lv (lv' := [(0, .ref (ad 0)), (1, .int d), (2, .int q)]) [0, 1, 2] rfl ?_
  refine v_iload_n C dX5_drop_0 rfl 1 1 rfl rfl ?_
  refine v_iload_n C dX5_drop_1 rfl 2 2 rfl rfl ?_
  refine v_callSpd C (c_X5_isPart l _ _) gX5_drop_X5_isPart rfl hd_X5_isPart.2 ⟨rfl, rfl⟩ ⟨Nat.le_of_ble_eq_true rfl, Nat.le_of_ble_eq_true rfl⟩ rfl rfl (Nat.le_of_ble_eq_true rfl) ⟨Nat.le_refl _, Nat.le_refl _⟩ dX5_drop_2 rfl ?_
  refine v_if_ne C 11 dX5_drop_5 (by decide) rfl (fun h5 => ?_) (fun h5 => ?_)
  · skip
    obtain ⟨d, q, hd, hq, rfl, rfl⟩ := p_part_ne h5
    have ecd : (nI d).toNatClampNeg = d := nI_cl (by omega)
    have ecq : (nI q).toNatClampNeg = q := nI_cl (by omega)
    have ek : q_k (nI d) (nI q) = 2 * d + q := by rw [q_k, ecd, ecq]
    have ek2 : 46 + 2 * d + q = 46 + (2 * d + q) := by omega
    refine v_aload_n C dX5_drop_11 rfl 0 0 rfl rfl ?_
    refine v_iload_n C dX5_drop_12 rfl 1 1 rfl rfl ?_
    refine v_iload_n C dX5_drop_13 rfl 2 2 rfl rfl ?_
    refine v_callVid C K (c_X5_showAt l D ad cI _ d q hd hq) gX5_drop_X5_showAt rfl hd_X5_showAt ⟨rfl, rfl⟩ ⟨Nat.le_of_ble_eq_true rfl, Nat.le_of_ble_eq_true rfl⟩ 0 rfl rfl rfl rfl rfl (Nat.le_of_ble_eq_true rfl) ⟨Nat.le_refl _, Nat.le_refl _⟩ dX5_drop_14 rfl ?_
    refine v_istore_n (lv' := [(3, _), (0, _), (1, _), (2, _)]) C dX5_drop_17 rfl 3 rfl (by decide) rfl ?_
    refine v_iload_n C dX5_drop_18 rfl 3 0 rfl rfl ?_
    refine v_bipush (v := -6) C dX5_drop_19 rfl bp_m6 ?_
    refine v_icmp_ne C 27 dX5_drop_21 (by decide) rfl (fun h21 => ?_) (fun h21 => ?_)
    · skip
      refine v_aload_n C dX5_drop_27 rfl 0 1 rfl rfl ?_
      refine v_callVvd C K (c_X5_record l D ad cI _ h hh hle) gX5_drop_X5_record rfl hd_X5_record ⟨rfl, rfl⟩ ⟨Nat.le_of_ble_eq_true rfl, Nat.le_of_ble_eq_true rfl⟩ 0 rfl rfl rfl rfl rfl (Nat.le_of_ble_eq_true rfl) ⟨Nat.le_refl _, Nat.le_refl _⟩ dX5_drop_28 rfl ?_
      refine v_aload_n C dX5_drop_31 rfl 0 1 rfl rfl ?_
      refine v_get C K in_X5_drop_X5 0 rfl rfl 0 (by decide) fl_X5_drop_X5_0 rfl dX5_drop_32 rfl ?_
      refine v_bipush (v := 46) C dX5_drop_35 rfl bp_46 ?_
      refine v_iconst (v := 2) C dX5_drop_37 rfl ic_2 ?_
      refine v_iload_n C dX5_drop_38 rfl 1 2 rfl rfl ?_
      refine v_imul C dX5_drop_39 rfl ?_
      refine v_iadd C dX5_drop_40 rfl ?_
      refine v_iload_n C dX5_drop_41 rfl 2 3 rfl rfl ?_
      refine v_iadd C dX5_drop_42 rfl ?_
      refine v_bipush (v := -6) C dX5_drop_43 rfl bp_m6 ?_
      refine v_iast C K _ 1 0 rfl rfl (46 + 2 * d + q) (by simp only [lit9, pk_mul, nI_add]) (by omega) (by decide) (mW_a0 ad cI _ _) dX5_drop_45 rfl ?_
      refine v_iload_n C dX5_drop_46 rfl 3 0 rfl rfl ?_
      exact hend (by rw [ek2] at h21; exact ⟨fun _ => ⟨by rw [ek, ek2], h5, by rw [ek, ek2, rcM_0]⟩, fun q => absurd (by simp [q_dropE, h5, ek, h21]) q⟩) (rfl) dX5_drop_47
    · skip
      refine v_bipush (v := -5) C dX5_drop_24 rfl bp_m5 ?_
      exact hend (by rw [ek2] at h21; exact ⟨fun q => absurd q (by simp [q_dropE, h5, ek, h21]), fun _ => ⟨by simp [q_dropE, h5, ek, h21], rfl⟩⟩) (rfl) dX5_drop_26
  · skip
    refine v_bipush (v := -2) C dX5_drop_8 rfl bp_m2 ?_
    exact hend (⟨fun q => absurd q (by simp [q_dropE, h5]), fun _ => ⟨by simp [q_dropE, h5], rfl⟩⟩) (rfl) dX5_drop_10
def q_exE (r : Nat → Int32) (d q d2 q2 : Int32) : Int32 := if p_part d q = 0 then -2 else if p_part d2 q2 = 0 then -2 else if p_canBe r (r (46 + q_k d2 q2)) d.toNatClampNeg = 0 then -5 else if p_canBe r (r (46 + q_k d q)) d2.toNatClampNeg = 0 then -5 else 0
def q_exR (r : Nat → Int32) (k k2 : Nat) : Nat → Int32 := upd (upd r (46 + k) (r (46 + k2))) (46 + k2) (r (46 + k))
theorem wfS_x {r : Nat → Int32} {n k : Nat} (hw : wfS r n) (hk : k < 70) : r (46 + k) = -6 ∨ ∃ f : Nat, f < 8 ∧ r (46 + k) = nI f := by
  rcases hw.2.2 k hk with h | ⟨f, hf, h⟩
  · exact Or.inl h
  · exact Or.inr ⟨f, Nat.lt_of_lt_of_le hf hw.2.1, h⟩
theorem wfS_ex {r : Nat → Int32} {n k k2 : Nat} (hw : wfS r n) (hk : k < 70) (hk2 : k2 < 70) : wfS (q_exR r k k2) n := wfS_upd (wfS_upd hw hk (hw.2.2 k2 hk2)) hk2 (hw.2.2 k hk)
set_option maxHeartbeats 4000000 in
set_option maxRecDepth 100000 in
theorem c_X5_exchange (l : Launch) (D : va_G) (ad : Nat → Nat) (cI : ClassId) (σ : S9) (n : Nat) (hw : wfS (σ 0) n) (h : Nat) (hh : σ 12 0 = nI h) (hle : h ≤ 6) (d q d2 q2 : Int32) : CMi l (mW ad cI) D [(cI, .int)] yX5_exchange wsX5_exchange ({ frames := 5, cells := 0, slots := 0, locals := 110 } : Room) [.ref (ad 0), .int d, .int q, .int d2, .int q2] σ (fun r u => (q_exE (σ 0) d q d2 q2 = 0 → ¬ p_part d q = 0 ∧ ¬ p_part d2 q2 = 0 ∧ r = q_left (q_exR (σ 0) (q_k d q) (q_k d2 q2)) (-1) - q_left (σ 0) (-1) + 1000000 ∧ sc9 (st9 (rcM σ h) 0 (q_exR (σ 0) (q_k d q) (q_k d2 q2))) u) ∧ (¬ q_exE (σ 0) d q d2 q2 = 0 → r = q_exE (σ 0) d q d2 q2 ∧ u = σ)) := by
  refine v_starti (own := RX5) (cc := cX5_exchange) (nL := 8) rfl (by decide) rfl (Nat.le_of_ble_eq_true rfl) ?_
  intro p e s m args below meth c A Q C K hend
  refine v_lv (lv' := [(0, .ref (ad 0)), (1, .int d), (2, .int q), (3, .int d2), (4, .int q2)]) [0, 1, 2, 3, 4] rfl ?_
  refine v_iload_n C dX5_exchange_0 rfl 1 1 rfl rfl ?_
  refine v_iload_n C dX5_exchange_1 rfl 2 2 rfl rfl ?_
  refine v_callSpd C (c_X5_isPart l _ _) gX5_exchange_X5_isPart rfl hd_X5_isPart.2 ⟨rfl, rfl⟩ ⟨Nat.le_of_ble_eq_true rfl, Nat.le_of_ble_eq_true rfl⟩ rfl rfl (Nat.le_of_ble_eq_true rfl) ⟨Nat.le_refl _, Nat.le_refl _⟩ dX5_exchange_2 rfl ?_
  refine v_if_eq C 17 dX5_exchange_5 (by decide) rfl (fun h5 => ?_) (fun h5 => ?_)
  · skip
    refine v_bipush (v := -2) C dX5_exchange_17 rfl bp_m2 ?_
    exact hend (⟨fun q => absurd q (by simp [q_exE, h5]), fun _ => ⟨by simp [q_exE, h5], rfl⟩⟩) (rfl) dX5_exchange_19
  · skip
    refine v_iload_n C dX5_exchange_8 rfl 3 3 rfl rfl ?_
    refine v_iload C dX5_exchange_9 rfl 4 rfl ?_
    refine v_callSpd C (c_X5_isPart l _ _) gX5_exchange_X5_isPart rfl hd_X5_isPart.2 ⟨rfl, rfl⟩ ⟨Nat.le_of_ble_eq_true rfl, Nat.le_of_ble_eq_true rfl⟩ rfl rfl (Nat.le_of_ble_eq_true rfl) ⟨Nat.le_refl _, Nat.le_refl _⟩ dX5_exchange_11 rfl ?_
    refine v_if_ne C 20 dX5_exchange_14 (by decide) rfl (fun h14 => ?_) (fun h14 => ?_)
    · skip
      obtain ⟨d, q, hd, hq, rfl, rfl⟩ := p_part_ne h5
      have ecd : (nI d).toNatClampNeg = d := nI_cl (by omega)
      have ecq : (nI q).toNatClampNeg = q := nI_cl (by omega)
      have ek : q_k (nI d) (nI q) = 2 * d + q := by rw [q_k, ecd, ecq]
      have ek2 : 46 + 2 * d + q = 46 + (2 * d + q) := by omega
      obtain ⟨d2, q2, hd2, hq2, rfl, rfl⟩ := p_part_ne h14
      have ecd2 : (nI d2).toNatClampNeg = d2 := nI_cl (by omega)
      have ecq2 : (nI q2).toNatClampNeg = q2 := nI_cl (by omega)
      have ek3 : q_k (nI d2) (nI q2) = 2 * d2 + q2 := by rw [q_k, ecd2, ecq2]
      have ek4 : 46 + 2 * d2 + q2 = 46 + (2 * d2 + q2) := by omega
      refine v_aload_n C dX5_exchange_20 rfl 0 0 rfl rfl ?_
      refine v_iload_n C dX5_exchange_21 rfl 1 1 rfl rfl ?_
      refine v_iload_n C dX5_exchange_22 rfl 2 2 rfl rfl ?_
      refine v_callVid C K (c_X5_showAt l D ad cI _ d q hd hq) gX5_exchange_X5_showAt rfl hd_X5_showAt ⟨rfl, rfl⟩ ⟨Nat.le_of_ble_eq_true rfl, Nat.le_of_ble_eq_true rfl⟩ 0 rfl rfl rfl rfl rfl (Nat.le_of_ble_eq_true rfl) ⟨Nat.le_refl _, Nat.le_refl _⟩ dX5_exchange_23 rfl ?_
      refine v_top (σ 0 (46 + (2 * d + q))) (by rw [ek2]) ?_
      refine v_istore (lv' := [(5, _), (0, _), (1, _), (2, _), (3, _), (4, _)]) C dX5_exchange_26 rfl (by decide) rfl ?_
      refine v_aload_n C dX5_exchange_28 rfl 0 1 rfl rfl ?_
      refine v_iload_n C dX5_exchange_29 rfl 3 4 rfl rfl ?_
      refine v_iload C dX5_exchange_30 rfl 5 rfl ?_
      refine v_callVid C K (c_X5_showAt l D ad cI _ d2 q2 hd2 hq2) gX5_exchange_X5_showAt rfl hd_X5_showAt ⟨rfl, rfl⟩ ⟨Nat.le_of_ble_eq_true rfl, Nat.le_of_ble_eq_true rfl⟩ 0 rfl rfl rfl rfl rfl (Nat.le_of_ble_eq_true rfl) ⟨Nat.le_refl _, Nat.le_refl _⟩ dX5_exchange_32 rfl ?_
      refine v_top (σ 0 (46 + (2 * d2 + q2))) (by rw [ek4]) ?_
      refine v_istore (lv' := [(6, _), (5, _), (0, _), (1, _), (2, _), (3, _), (4, _)]) C dX5_exchange_35 rfl (by decide) rfl ?_
      refine v_aload_n C dX5_exchange_37 rfl 0 2 rfl rfl ?_
      refine v_iload C dX5_exchange_38 rfl 0 rfl ?_
      refine v_iload_n C dX5_exchange_40 rfl 1 3 rfl rfl ?_
      refine v_callVid C K (c_X5_canBe l D ad cI _ _ (wfS_x hw (by omega)) _ hd) gX5_exchange_X5_canBe rfl hd_X5_canBe ⟨rfl, rfl⟩ ⟨Nat.le_of_ble_eq_true rfl, Nat.le_of_ble_eq_true rfl⟩ 0 rfl rfl rfl rfl rfl (Nat.le_of_ble_eq_true rfl) ⟨Nat.le_refl _, Nat.le_refl _⟩ dX5_exchange_41 rfl ?_
      refine v_if_eq C 57 dX5_exchange_44 (by decide) rfl (fun h44 => ?_) (fun h44 => ?_)
      · skip
        refine v_bipush (v := -5) C dX5_exchange_57 rfl bp_m5 ?_
        exact hend (⟨fun q => absurd q (by simp [q_exE, ek, ek3, ecd, ecd2, h5, h14, h44]), fun _ => ⟨by simp [q_exE, ek, ek3, ecd, ecd2, h5, h14, h44], rfl⟩⟩) (rfl) dX5_exchange_59
      · skip
        refine v_aload_n C dX5_exchange_47 rfl 0 2 rfl rfl ?_
        refine v_iload C dX5_exchange_48 rfl 1 rfl ?_
        refine v_iload_n C dX5_exchange_50 rfl 3 5 rfl rfl ?_
        refine v_callVid C K (c_X5_canBe l D ad cI _ _ (wfS_x hw (by omega)) _ hd2) gX5_exchange_X5_canBe rfl hd_X5_canBe ⟨rfl, rfl⟩ ⟨Nat.le_of_ble_eq_true rfl, Nat.le_of_ble_eq_true rfl⟩ 0 rfl rfl rfl rfl rfl (Nat.le_of_ble_eq_true rfl) ⟨Nat.le_refl _, Nat.le_refl _⟩ dX5_exchange_51 rfl ?_
        refine v_if_ne C 60 dX5_exchange_54 (by decide) rfl (fun h54 => ?_) (fun h54 => ?_)
        · skip
          refine v_aload_n C dX5_exchange_60 rfl 0 2 rfl rfl ?_
          refine v_callVvd C K (c_X5_record l D ad cI _ h hh hle) gX5_exchange_X5_record rfl hd_X5_record ⟨rfl, rfl⟩ ⟨Nat.le_of_ble_eq_true rfl, Nat.le_of_ble_eq_true rfl⟩ 0 rfl rfl rfl rfl rfl (Nat.le_of_ble_eq_true rfl) ⟨Nat.le_refl _, Nat.le_refl _⟩ dX5_exchange_61 rfl ?_
          refine v_aload_n C dX5_exchange_64 rfl 0 2 rfl rfl ?_
          refine v_callVi C K (c_X5_leftNow l D ad cI _ n (by rw [rcM_0]; exact hw)) gX5_exchange_X5_leftNow rfl hd_X5_leftNow ⟨rfl, rfl⟩ ⟨Nat.le_of_ble_eq_true rfl, Nat.le_of_ble_eq_true rfl⟩ 0 rfl rfl rfl rfl rfl (Nat.le_of_ble_eq_true rfl) ⟨Nat.le_refl _, Nat.le_refl _⟩ dX5_exchange_65 rfl (fun r65 u65 hc65 => ?_)
          obtain ⟨e65, hs65⟩ := hc65
          replace e65 := e65.trans (p_left_J (by rw [rcM_0]; exact hw) _)
          rw [rcM_0] at e65
          replace hs65 := sc9_of hs65
          refine v_istore (lv' := [(7, _), (6, _), (5, _), (0, _), (1, _), (2, _), (3, _), (4, _)]) C dX5_exchange_68 rfl (by decide) rfl ?_
          refine v_aload_n C dX5_exchange_70 rfl 0 3 rfl rfl ?_
          refine v_get C K in_X5_exchange_X5 0 rfl rfl 0 (by decide) fl_X5_exchange_X5_0 rfl dX5_exchange_71 rfl ?_
          refine v_bipush (v := 46) C dX5_exchange_74 rfl bp_46 ?_
          refine v_iconst (v := 2) C dX5_exchange_76 rfl ic_2 ?_
          refine v_iload_n C dX5_exchange_77 rfl 1 4 rfl rfl ?_
          refine v_imul C dX5_exchange_78 rfl ?_
          refine v_iadd C dX5_exchange_79 rfl ?_
          refine v_iload_n C dX5_exchange_80 rfl 2 5 rfl rfl ?_
          refine v_iadd C dX5_exchange_81 rfl ?_
          refine v_iload C dX5_exchange_82 rfl 1 rfl ?_
          refine v_iast C K _ 1 0 rfl rfl (46 + (2 * d + q)) (by rw [← ek2]; simp only [lit9, pk_mul, nI_add]) (by omega) (by decide) (mW_a0 ad cI _ _) dX5_exchange_84 rfl ?_
          refine v_aload_n C dX5_exchange_85 rfl 0 3 rfl rfl ?_
          refine v_get C K in_X5_exchange_X5 0 rfl rfl 0 (by decide) fl_X5_exchange_X5_0 rfl dX5_exchange_86 rfl ?_
          refine v_bipush (v := 46) C dX5_exchange_89 rfl bp_46 ?_
          refine v_iconst (v := 2) C dX5_exchange_91 rfl ic_2 ?_
          refine v_iload_n C dX5_exchange_92 rfl 3 6 rfl rfl ?_
          refine v_imul C dX5_exchange_93 rfl ?_
          refine v_iadd C dX5_exchange_94 rfl ?_
          refine v_iload C dX5_exchange_95 rfl 7 rfl ?_
          refine v_iadd C dX5_exchange_97 rfl ?_
          refine v_iload C dX5_exchange_98 rfl 2 rfl ?_
          refine v_iast C K _ 1 0 rfl rfl (46 + (2 * d2 + q2)) (by rw [← ek4]; simp only [lit9, pk_mul, nI_add]) (by omega) (by decide) (mW_a0 ad cI _ _) dX5_exchange_100 rfl ?_
          refine v_aload_n C dX5_exchange_101 rfl 0 3 rfl rfl ?_
          refine v_callVi C K (c_X5_leftNow l D ad cI _ n (by rw [st9_s, st9_s, sc9_0 hs65, rcM_0]; exact wfS_ex hw (by omega) (by omega))) gX5_exchange_X5_leftNow rfl hd_X5_leftNow ⟨rfl, rfl⟩ ⟨Nat.le_of_ble_eq_true rfl, Nat.le_of_ble_eq_true rfl⟩ 0 rfl rfl rfl rfl rfl (Nat.le_of_ble_eq_true rfl) ⟨Nat.le_refl _, Nat.le_refl _⟩ dX5_exchange_102 rfl (fun r102 u102 hc102 => ?_)
          obtain ⟨e102, hs102⟩ := hc102
          replace e102 := e102.trans (p_left_J (by rw [st9_s, st9_s, sc9_0 hs65, rcM_0]; exact wfS_ex hw (by omega) (by omega)) _)
          rw [st9_s, st9_s, sc9_0 hs65, rcM_0] at e102
          replace hs102 := sc9_of hs102
          refine v_iload C dX5_exchange_105 rfl 0 rfl ?_
          refine v_isub C dX5_exchange_107 rfl ?_
          refine v_ldc C dX5_exchange_108 rfl ct_X5_exchange_129 ?_
          refine v_iadd C dX5_exchange_110 rfl ?_
          exact hend (⟨fun _ => ⟨h5, h14, by rw [ek, ek3, e102, e65]; rfl, by
      rw [ek, ek3]
      intro i hi
      rw [hs102 i hi]
      by_cases e : i = 0
      · subst e
        rw [st9_s, st9_s, st9_s, sc9_0 hs65, rcM_0]
        rfl
      · rw [st9_n _ _ e, st9_n _ _ e, st9_n _ _ e, hs65 i hi]⟩, fun q => absurd (by simp [q_exE, ek, ek3, ecd, ecd2, h5, h14, h44, h54]) q⟩) (rfl) dX5_exchange_111
        · skip
          refine v_bipush (v := -5) C dX5_exchange_57 rfl bp_m5 ?_
          exact hend (⟨fun q => absurd q (by simp [q_exE, ek, ek3, ecd, ecd2, h5, h14, h44, h54]), fun _ => ⟨by simp [q_exE, ek, ek3, ecd, ecd2, h5, h14, h44, h54], rfl⟩⟩) (rfl) dX5_exchange_59
    · skip
      refine v_bipush (v := -2) C dX5_exchange_17 rfl bp_m2 ?_
      exact hend (⟨fun q => absurd q (by simp [q_exE, h5, h14]), fun _ => ⟨by simp [q_exE, h5, h14], rfl⟩⟩) (rfl) dX5_exchange_19
def q_letE (d v : Int32) : Int32 := if p_in d 0 34 = 0 then -2 else if p_in v 0 999 = 0 then -2 else 0
def ltF (r : Nat → Int32) (d : Nat) : Nat → (Nat → Int32)
  | 0 => r
  | j + 1 => upd (ltF r d j) (46 + 2 * d + j) (-6)
theorem ltF_n (r : Nat → Int32) (d i : Nat) : ∀ j, 46 + 2 * d + j ≤ i → ltF r d j i = r i
  | 0, _ => rfl
  | j + 1, h => by rw [ltF, upd_n _ _ (by omega)]; exact ltF_n r d i j (by omega)
def q_lt (r : Nat → Int32) (d j : Nat) : Int32 := if r (46 + 2 * d + j) = -6 then 0 else 1
def q_letR (r : Nat → Int32) (d : Nat) (v : Int32) : Nat → Int32 := upd (if v ≤ 0 then r else ltF r d 2) (116 + d) v
set_option maxHeartbeats 4000000 in
set_option maxRecDepth 100000 in
theorem c_X5_let (l : Launch) (D : va_G) (ad : Nat → Nat) (cI : ClassId) (σ : S9) (h : Nat) (hh : σ 12 0 = nI h) (hle : h ≤ 6) (d v : Int32) : CMi l (mW ad cI) D [(cI, .int)] yX5_let wsX5_let ({ frames := 2, cells := 0, slots := 0, locals := 45 } : Room) [.ref (ad 0), .int d, .int v] σ (fun r u => (q_letE d v = 0 → ¬ p_in d 0 34 = 0 ∧ ¬ p_in v 0 999 = 0 ∧ r = (if v ≤ 0 then 0 else sm9 (q_lt (σ 0) d.toNatClampNeg) 2) ∧ u = st9 (rcM σ h) 0 (q_letR (σ 0) d.toNatClampNeg v)) ∧ (¬ q_letE d v = 0 → r = q_letE d v ∧ u = σ)) := by
  refine v_starti (own := RX5) (cc := cX5_let) (nL := 5) rfl (by decide) rfl (Nat.le_of_ble_eq_true rfl) ?_
  intro p e s m args below meth c A Q C K hend
  refine v_lv (lv' := [(0, .ref (ad 0)), (1, .int d), (2, .int v)]) [0, 1, 2] rfl ?_
  refine v_iload_n C dX5_let_0 rfl 1 1 rfl rfl ?_
  refine v_iconst (v := 0) C dX5_let_1 rfl ic_0 ?_
  refine v_bipush (v := 34) C dX5_let_2 rfl bp_34 ?_
  refine v_callSpd C (c_X5_within l _ _ _) gX5_let_X5_within rfl hd_X5_within.2 ⟨rfl, rfl⟩ ⟨Nat.le_of_ble_eq_true rfl, Nat.le_of_ble_eq_true rfl⟩ rfl rfl (Nat.le_of_ble_eq_true rfl) ⟨Nat.le_refl _, Nat.le_refl _⟩ dX5_let_4 rfl ?_
  refine v_if_eq C 21 dX5_let_7 (by decide) rfl (fun h7 => ?_) (fun h7 => ?_)
  · skip
    refine v_bipush (v := -2) C dX5_let_21 rfl bp_m2 ?_
    exact hend (⟨fun q => absurd q (by simp [q_letE, h7]), fun _ => ⟨by simp [q_letE, h7], rfl⟩⟩) (rfl) dX5_let_23
  · skip
    refine v_iload_n C dX5_let_10 rfl 2 2 rfl rfl ?_
    refine v_iconst (v := 0) C dX5_let_11 rfl ic_0 ?_
    refine v_sipush (v := 999) C dX5_let_12 rfl sp_999 ?_
    refine v_callSpd C (c_X5_within l _ _ _) gX5_let_X5_within rfl hd_X5_within.2 ⟨rfl, rfl⟩ ⟨Nat.le_of_ble_eq_true rfl, Nat.le_of_ble_eq_true rfl⟩ rfl rfl (Nat.le_of_ble_eq_true rfl) ⟨Nat.le_refl _, Nat.le_refl _⟩ dX5_let_15 rfl ?_
    refine v_if_ne C 24 dX5_let_18 (by decide) rfl (fun h18 => ?_) (fun h18 => ?_)
    · skip
      obtain ⟨d, hd, rfl⟩ := p_in_nI (n := 34) (by decide) h7
      replace hd : d < 35 := by omega
      have ecd : (nI d).toNatClampNeg = d := nI_cl (by omega)
      refine v_aload_n C dX5_let_24 rfl 0 0 rfl rfl ?_
      refine v_callVvd C K (c_X5_record l D ad cI _ h hh hle) gX5_let_X5_record rfl hd_X5_record ⟨rfl, rfl⟩ ⟨Nat.le_of_ble_eq_true rfl, Nat.le_of_ble_eq_true rfl⟩ 0 rfl rfl rfl rfl rfl (Nat.le_of_ble_eq_true rfl) ⟨Nat.le_refl _, Nat.le_refl _⟩ dX5_let_25 rfl ?_
      refine v_iconst (v := 0) C dX5_let_28 rfl ic_0 ?_
      refine v_istore_n (lv' := [(3, _), (0, _), (1, _), (2, _)]) C dX5_let_29 rfl 3 rfl (by decide) rfl ?_
      refine v_iconst (v := 0) C dX5_let_30 rfl ic_0 ?_
      refine v_istore (lv' := [(4, _), (3, _), (0, _), (1, _), (2, _)]) C dX5_let_31 rfl (by decide) rfl ?_
      have LP33 : ∀ j, j ≤ 2 → (j = 0 ∨ ¬ v ≤ 0) → VV p l e ({ frames := 2, cells := 0, slots := 0, locals := 45 } : Room) s m args below meth c 0 0 Q (mW ad cI) D A s.heap 5 (st9 (rcM σ h) 0 (ltF (σ 0) d j)) 33 [(0, .ref (ad 0)), (1, .int (nI d)), (2, .int v), (3, .int (sm9 (q_lt (σ 0) d) j)), (4, .int (nI j))] [] := by
        refine lpB9 (fun j => (j = 0 ∨ ¬ v ≤ 0) → VV p l e ({ frames := 2, cells := 0, slots := 0, locals := 45 } : Room) s m args below meth c 0 0 Q (mW ad cI) D A s.heap 5 (st9 (rcM σ h) 0 (ltF (σ 0) d j)) 33 [(0, .ref (ad 0)), (1, .int (nI d)), (2, .int v), (3, .int (sm9 (q_lt (σ 0) d) j)), (4, .int (nI j))] []) 2 (fun j hj ih => ?_) ?_
        · intro hq
          refine v_iload C dX5_let_33 rfl 4 rfl ?_
          refine v_iconst (v := 2) C dX5_let_35 rfl ic_2 ?_
          refine v_icmp_ge C 85 dX5_let_36 (by decide) rfl (fun h9 => absurd h9 (nI_ge hj (by decide))) (fun _ => ?_)
          refine v_iload_n C dX5_let_39 rfl 2 2 rfl rfl ?_
          refine v_if_le C 85 dX5_let_40 (by decide) rfl (fun h40t => ?_) (fun h40 => ?_)
          · skip
            refine v_aload_n C dX5_let_85 rfl 0 0 rfl rfl ?_
            refine v_get C K in_X5_let_X5 0 rfl rfl 0 (by decide) fl_X5_let_X5_0 rfl dX5_let_86 rfl ?_
            refine v_bipush (v := 116) C dX5_let_89 rfl bp_116 ?_
            refine v_iload_n C dX5_let_91 rfl 1 1 rfl rfl ?_
            refine v_iadd C dX5_let_92 rfl ?_
            refine v_iload_n C dX5_let_93 rfl 2 2 rfl rfl ?_
            refine v_iast C K _ 1 0 rfl rfl (116 + d) (by simp only [lit9, pk_mul, nI_add]) (by omega) (by decide) (mW_a0 ad cI _ _) dX5_let_94 rfl ?_
            refine v_iload_n C dX5_let_95 rfl 3 3 rfl rfl ?_
            exact hend (by
      obtain rfl := hq.resolve_right (fun q => q h40t)
      exact ⟨fun _ => ⟨h7, h18, by rw [if_pos h40t]; rfl, by rw [ecd, q_letR, if_pos h40t, st9_tw, st9_s]; rfl⟩, fun q => absurd (by simp [q_letE, h7, h18]) q⟩) (rfl) dX5_let_96
          · skip
            refine v_iload_n C dX5_let_43 rfl 3 3 rfl rfl ?_
            refine v_aload_n C dX5_let_44 rfl 0 0 rfl rfl ?_
            refine v_iload_n C dX5_let_45 rfl 1 1 rfl rfl ?_
            refine v_iload C dX5_let_46 rfl 4 rfl ?_
            refine v_callVid C K (c_X5_showAt l D ad cI _ d j hd (by omega)) gX5_let_X5_showAt rfl hd_X5_showAt ⟨rfl, rfl⟩ ⟨Nat.le_of_ble_eq_true rfl, Nat.le_of_ble_eq_true rfl⟩ 0 rfl rfl rfl rfl rfl (Nat.le_of_ble_eq_true rfl) ⟨Nat.le_refl _, Nat.le_refl _⟩ dX5_let_48 rfl ?_
            refine v_top (σ 0 (46 + 2 * d + j)) (by rw [st9_s, ltF_n _ _ _ _ (Nat.le_refl _)]) ?_
            refine v_bipush (v := -6) C dX5_let_51 rfl bp_m6 ?_
            refine v_icmp_ne C 60 dX5_let_53 (by decide) rfl (fun h53 => ?_) (fun h53 => ?_)
            · skip
              refine v_iconst (v := 1) C dX5_let_60 rfl ic_1 ?_
              refine v_iadd C dX5_let_61 rfl ?_
              refine v_top (sm9 (q_lt (σ 0) d) (j + 1)) (by simp [sm9, q_lt, h53]) ?_
              refine v_istore_n (lv' := [(3, _), (0, _), (1, _), (2, _), (4, _)]) C dX5_let_62 rfl 3 rfl (by decide) rfl ?_
              refine v_aload_n C dX5_let_63 rfl 0 1 rfl rfl ?_
              refine v_get C K in_X5_let_X5 0 rfl rfl 0 (by decide) fl_X5_let_X5_0 rfl dX5_let_64 rfl ?_
              refine v_bipush (v := 46) C dX5_let_67 rfl bp_46 ?_
              refine v_iconst (v := 2) C dX5_let_69 rfl ic_2 ?_
              refine v_iload_n C dX5_let_70 rfl 1 2 rfl rfl ?_
              refine v_imul C dX5_let_71 rfl ?_
              refine v_iadd C dX5_let_72 rfl ?_
              refine v_iload C dX5_let_73 rfl 4 rfl ?_
              refine v_iadd C dX5_let_75 rfl ?_
              refine v_bipush (v := -6) C dX5_let_76 rfl bp_m6 ?_
              refine v_iast C K _ 1 0 rfl rfl (46 + 2 * d + j) (by simp only [lit9, pk_mul, nI_add]) (by omega) (by decide) (mW_a0 ad cI _ _) dX5_let_78 rfl ?_
              refine v_iinc (lv' := [(4, _), (3, _), (0, _), (1, _), (2, _)]) C dX5_let_79 rfl 4 rfl (inc9 _) (by decide) rfl ?_
              refine v_goto C 33 dX5_let_82 (by decide) ?_
              refine v_lv (lv' := [(0, _), (1, _), (2, _), (3, _), (4, _)]) [2, 3, 4, 1, 0] rfl ?_
              exact v9cast (ih (Or.inr h40)) (by rw [st9_tw, st9_s]; rfl) rfl rfl
            · skip
              refine v_iconst (v := 0) C dX5_let_56 rfl ic_0 ?_
              refine v_goto C 61 dX5_let_57 (by decide) ?_
              refine v_iadd C dX5_let_61 rfl ?_
              refine v_top (sm9 (q_lt (σ 0) d) (j + 1)) (by simp [sm9, q_lt, h53]) ?_
              refine v_istore_n (lv' := [(3, _), (0, _), (1, _), (2, _), (4, _)]) C dX5_let_62 rfl 3 rfl (by decide) rfl ?_
              refine v_aload_n C dX5_let_63 rfl 0 1 rfl rfl ?_
              refine v_get C K in_X5_let_X5 0 rfl rfl 0 (by decide) fl_X5_let_X5_0 rfl dX5_let_64 rfl ?_
              refine v_bipush (v := 46) C dX5_let_67 rfl bp_46 ?_
              refine v_iconst (v := 2) C dX5_let_69 rfl ic_2 ?_
              refine v_iload_n C dX5_let_70 rfl 1 2 rfl rfl ?_
              refine v_imul C dX5_let_71 rfl ?_
              refine v_iadd C dX5_let_72 rfl ?_
              refine v_iload C dX5_let_73 rfl 4 rfl ?_
              refine v_iadd C dX5_let_75 rfl ?_
              refine v_bipush (v := -6) C dX5_let_76 rfl bp_m6 ?_
              refine v_iast C K _ 1 0 rfl rfl (46 + 2 * d + j) (by simp only [lit9, pk_mul, nI_add]) (by omega) (by decide) (mW_a0 ad cI _ _) dX5_let_78 rfl ?_
              refine v_iinc (lv' := [(4, _), (3, _), (0, _), (1, _), (2, _)]) C dX5_let_79 rfl 4 rfl (inc9 _) (by decide) rfl ?_
              refine v_goto C 33 dX5_let_82 (by decide) ?_
              refine v_lv (lv' := [(0, _), (1, _), (2, _), (3, _), (4, _)]) [2, 3, 4, 1, 0] rfl ?_
              exact v9cast (ih (Or.inr h40)) (by rw [st9_tw, st9_s]; rfl) rfl rfl
        · intro hq
          refine v_iload C dX5_let_33 rfl 4 rfl ?_
          refine v_iconst (v := 2) C dX5_let_35 rfl ic_2 ?_
          refine v_icmp_ge C 85 dX5_let_36 (by decide) rfl (fun _ => ?_) (fun h9 => absurd (nI_le (Nat.le_refl _) (by decide)) h9)
          refine v_aload_n C dX5_let_85 rfl 0 0 rfl rfl ?_
          refine v_get C K in_X5_let_X5 0 rfl rfl 0 (by decide) fl_X5_let_X5_0 rfl dX5_let_86 rfl ?_
          refine v_bipush (v := 116) C dX5_let_89 rfl bp_116 ?_
          refine v_iload_n C dX5_let_91 rfl 1 1 rfl rfl ?_
          refine v_iadd C dX5_let_92 rfl ?_
          refine v_iload_n C dX5_let_93 rfl 2 2 rfl rfl ?_
          refine v_iast C K _ 1 0 rfl rfl (116 + d) (by simp only [lit9, pk_mul, nI_add]) (by omega) (by decide) (mW_a0 ad cI _ _) dX5_let_94 rfl ?_
          refine v_iload_n C dX5_let_95 rfl 3 3 rfl rfl ?_
          exact hend (by
      have hv : ¬ v ≤ 0 := hq.resolve_left (by decide)
      exact ⟨fun _ => ⟨h7, h18, by rw [if_neg hv, ecd], by rw [ecd, q_letR, if_neg hv, st9_tw, st9_s]⟩, fun q => absurd (by simp [q_letE, h7, h18]) q⟩) (rfl) dX5_let_96
      refine v_lv (lv' := [(0, _), (1, _), (2, _), (3, _), (4, _)]) [2, 3, 4, 1, 0] rfl ?_
      exact v9cast (LP33 0 (by omega) (Or.inl rfl)) (by rw [ltF, ← rcM_0 σ h, st9_id]) rfl rfl
    · skip
      refine v_bipush (v := -2) C dX5_let_21 rfl bp_m2 ?_
      exact hend (⟨fun q => absurd q (by simp [q_letE, h7, h18]), fun _ => ⟨by simp [q_letE, h7, h18], rfl⟩⟩) (rfl) dX5_let_23
set_option maxHeartbeats 4000000 in
set_option maxRecDepth 100000 in
theorem c_X5_wipe (l : Launch) (D : va_G) (ad : Nat → Nat) (cI : ClassId) (σ : S9)  : CMi l (mW ad cI) D [(cI, .int)] yX5_wipe wsX5_wipe ({ frames := 0, cells := 0, slots := 0, locals := 0 } : Room) [.ref (ad 0)] σ (fun r u => r = σ 12 1 ∧ u = st9 σ 12 (upd (σ 12) 1 0)) := by
  refine v_starti (own := RX5) (cc := cX5_wipe) (nL := 2) rfl (by decide) rfl (Nat.le_of_ble_eq_true rfl) ?_
  intro p e s m args below meth c A Q C K hend
  refine v_lv (lv' := [(0, .ref (ad 0))]) [0] rfl ?_
  refine v_aload_n C dX5_wipe_0 rfl 0 0 rfl rfl ?_
  refine v_get C K in_X5_wipe_X5 0 rfl rfl 6 (by decide) fl_X5_wipe_X5_6 rfl dX5_wipe_1 rfl ?_
  refine v_istore_n (lv' := [(1, _), (0, _)]) C dX5_wipe_4 rfl 1 rfl (by decide) rfl ?_
  refine v_aload_n C dX5_wipe_5 rfl 0 1 rfl rfl ?_
  refine v_iconst (v := 0) C dX5_wipe_6 rfl ic_0 ?_
  refine v_put (ty := .int) C K _ in_X5_wipe_X5 tyX5_ok nmX5 0 rfl rfl 6 (by decide) fl_X5_wipe_X5_6 rfl (by decide +kernel) rfl rfl (Nat.le_of_ble_eq_true rfl) (mW_f1 ad cI _ _) dX5_wipe_7 rfl ?_
  refine v_iload_n C dX5_wipe_10 rfl 1 0 rfl rfl ?_
  exact hend (⟨rfl, rfl⟩) (rfl) dX5_wipe_11
def un9 (σ : S9) (h : Nat) : S9 := st9 (st9 σ 12 (upd (σ 12) 0 (nI (h - 1)))) 0 (mvF (σ 1) (σ 0) ((h - 1) * 151) 0 151)
set_option maxHeartbeats 4000000 in
set_option maxRecDepth 100000 in
theorem c_X5_undo (l : Launch) (D : va_G) (ad : Nat → Nat) (cI : ClassId) (σ : S9) (h : Nat) (hh : σ 12 0 = nI h) (hle : h ≤ 6) : CMi l (mW ad cI) D [(cI, .int)] yX5_undo wsX5_undo ({ frames := 1, cells := 0, slots := 0, locals := 24 } : Room) [.ref (ad 0)] σ (fun r u => (h = 0 → r = -5 ∧ u = σ) ∧ (¬ h = 0 → r = nI (h - 1) ∧ u = un9 σ h)) := by
  refine v_starti (own := RX5) (cc := cX5_undo) (nL := 1) rfl (by decide) rfl (Nat.le_of_ble_eq_true rfl) ?_
  intro p e s m args below meth c A Q C K hend
  refine v_lv (lv' := [(0, .ref (ad 0))]) [0] rfl ?_
  refine v_aload_n C dX5_undo_0 rfl 0 0 rfl rfl ?_
  refine v_get C K in_X5_undo_X5 0 rfl rfl 2 (by decide) fl_X5_undo_X5_2 rfl dX5_undo_1 rfl ?_
  refine v_if_ne C 10 dX5_undo_4 (by decide) rfl (fun h4 => ?_) (fun h4f => ?_)
  · skip
    have h0 : ¬ h = 0 := by
      rintro rfl
      exact h4 hh
    obtain ⟨g, rfl⟩ : ∃ g, h = g + 1 := ⟨h - 1, by omega⟩
    refine v_aload_n C dX5_undo_10 rfl 0 0 rfl rfl ?_
    refine v_dup C dX5_undo_11 rfl rfl ?_
    refine v_get C K in_X5_undo_X5 0 rfl rfl 2 (by decide) fl_X5_undo_X5_2 rfl dX5_undo_12 rfl ?_
    refine v_iconst (v := 1) C dX5_undo_15 rfl ic_1 ?_
    refine v_isub C dX5_undo_16 rfl ?_
    refine v_top (nI g) (by rw [hh]; exact nI_pred g) ?_
    refine v_put (ty := .int) C K _ in_X5_undo_X5 tyX5_ok nmX5 0 rfl rfl 2 (by decide) fl_X5_undo_X5_2 rfl (by decide +kernel) rfl rfl (Nat.le_of_ble_eq_true rfl) (mW_f0 ad cI _ _) dX5_undo_17 rfl ?_
    refine v_aload_n C dX5_undo_20 rfl 0 0 rfl rfl ?_
    refine v_get C K in_X5_undo_X5 0 rfl rfl 1 (by decide) fl_X5_undo_X5_1 rfl dX5_undo_21 rfl ?_
    refine v_aload_n C dX5_undo_24 rfl 0 0 rfl rfl ?_
    refine v_get C K in_X5_undo_X5 0 rfl rfl 2 (by decide) fl_X5_undo_X5_2 rfl dX5_undo_25 rfl ?_
    refine v_sipush (v := 151) C dX5_undo_28 rfl sp_151 ?_
    refine v_imul C dX5_undo_31 rfl ?_
    refine v_top (nI (g * 151)) (by rw [st9_s, upd_s]; simp only [lit9, pk_mul]) ?_
    refine v_aload_n C dX5_undo_32 rfl 0 0 rfl rfl ?_
    refine v_get C K in_X5_undo_X5 0 rfl rfl 0 (by decide) fl_X5_undo_X5_0 rfl dX5_undo_33 rfl ?_
    refine v_iconst (v := 0) C dX5_undo_36 rfl ic_0 ?_
    refine v_callSvd C K (c_X5_moves l D ad cI _ 1 0 (g * 151) 0 (by decide) (by decide) (by decide) (by show g * 151 + 151 ≤ 906; omega) (by decide) (by decide)) gX5_undo_X5_moves rfl hd_X5_moves.2 ⟨rfl, rfl⟩ ⟨Nat.le_of_ble_eq_true rfl, Nat.le_of_ble_eq_true rfl⟩ rfl rfl (Nat.le_of_ble_eq_true rfl) ⟨Nat.le_refl _, Nat.le_refl _⟩ dX5_undo_37 rfl ?_
    refine v_aload_n C dX5_undo_40 rfl 0 0 rfl rfl ?_
    refine v_get C K in_X5_undo_X5 0 rfl rfl 2 (by decide) fl_X5_undo_X5_2 rfl dX5_undo_41 rfl ?_
    exact hend (⟨fun q => absurd q h0, fun _ => ⟨rfl, rfl⟩⟩) (rfl) dX5_undo_44
  · skip
    refine v_bipush (v := -5) C dX5_undo_7 rfl bp_m5 ?_
    exact hend (⟨fun _ => ⟨rfl, rfl⟩, fun q => absurd ((nI_eq (by omega) (by decide)).mp (hh.symm.trans h4f)) q⟩) (rfl) dX5_undo_9
theorem s1 {s : Int32} (h : ¬ p_in s 0 1 = 0) : ∃ j : Nat, j < 2 ∧ s = nI j := by
  obtain ⟨j, hj, e⟩ := p_in_nI (n := 1) (by decide) h
  exact ⟨j, by omega, e⟩
def q_savS (σ : S9) (s : Nat) : S9 := st9 (st9 σ 2 (mvF (σ 0) (σ 2) 0 (151 * s) 151)) 3 (upd (σ 3) s 1)
def q_resE (σ : S9) (s : Int32) : Int32 := if p_in s 0 1 = 0 then -2 else if σ 3 s.toNatClampNeg = 0 then -5 else 0
set_option maxHeartbeats 4000000 in
set_option maxRecDepth 100000 in
theorem c_X5_save (l : Launch) (D : va_G) (ad : Nat → Nat) (cI : ClassId) (σ : S9) (t : Int32) : CMi l (mW ad cI) D [(cI, .int)] yX5_save wsX5_save ({ frames := 1, cells := 0, slots := 0, locals := 24 } : Room) [.ref (ad 0), .int t] σ (fun r u => (¬ p_in t 0 1 = 0 → r = sm9 (shT (σ 0)) 70 ∧ u = q_savS σ t.toNatClampNeg) ∧ (p_in t 0 1 = 0 → r = -2 ∧ u = σ)) := by
  refine v_starti (own := RX5) (cc := cX5_save) (nL := 2) rfl (by decide) rfl (Nat.le_of_ble_eq_true rfl) ?_
  intro p e s m args below meth c A Q C K hend
  refine v_lv (lv' := [(0, .ref (ad 0)), (1, .int t)]) [0, 1] rfl ?_
  refine v_iload_n C dX5_save_0 rfl 1 1 rfl rfl ?_
  refine v_iconst (v := 0) C dX5_save_1 rfl ic_0 ?_
  refine v_iconst (v := 1) C dX5_save_2 rfl ic_1 ?_
  refine v_callSpd C (c_X5_within l _ _ _) gX5_save_X5_within rfl hd_X5_within.2 ⟨rfl, rfl⟩ ⟨Nat.le_of_ble_eq_true rfl, Nat.le_of_ble_eq_true rfl⟩ rfl rfl (Nat.le_of_ble_eq_true rfl) ⟨Nat.le_refl _, Nat.le_refl _⟩ dX5_save_3 rfl ?_
  refine v_if_ne C 12 dX5_save_6 (by decide) rfl (fun h6 => ?_) (fun h6 => ?_)
  · skip
    obtain ⟨s1, hs, rfl⟩ := s1 h6
    have ecs : (nI s1).toNatClampNeg = s1 := nI_cl (by omega)
    refine v_aload_n C dX5_save_12 rfl 0 0 rfl rfl ?_
    refine v_get C K in_X5_save_X5 0 rfl rfl 0 (by decide) fl_X5_save_X5_0 rfl dX5_save_13 rfl ?_
    refine v_iconst (v := 0) C dX5_save_16 rfl ic_0 ?_
    refine v_aload_n C dX5_save_17 rfl 0 0 rfl rfl ?_
    refine v_get C K in_X5_save_X5 0 rfl rfl 3 (by decide) fl_X5_save_X5_3 rfl dX5_save_18 rfl ?_
    refine v_sipush (v := 151) C dX5_save_21 rfl sp_151 ?_
    refine v_iload_n C dX5_save_24 rfl 1 1 rfl rfl ?_
    refine v_imul C dX5_save_25 rfl ?_
    refine v_top (nI (151 * s1)) (by simp only [lit9, pk_mul, nI_add]) ?_
    refine v_callSvd C K (c_X5_moves l D ad cI _ 0 2 0 (151 * s1) (by decide) (by decide) (by decide) (by decide) (by show 151 * s1 + 151 ≤ 302; omega) (by decide)) gX5_save_X5_moves rfl hd_X5_moves.2 ⟨rfl, rfl⟩ ⟨Nat.le_of_ble_eq_true rfl, Nat.le_of_ble_eq_true rfl⟩ rfl rfl (Nat.le_of_ble_eq_true rfl) ⟨Nat.le_refl _, Nat.le_refl _⟩ dX5_save_26 rfl ?_
    refine v_aload_n C dX5_save_29 rfl 0 0 rfl rfl ?_
    refine v_get C K in_X5_save_X5 0 rfl rfl 4 (by decide) fl_X5_save_X5_4 rfl dX5_save_30 rfl ?_
    refine v_iload_n C dX5_save_33 rfl 1 1 rfl rfl ?_
    refine v_iconst (v := 1) C dX5_save_34 rfl ic_1 ?_
    refine v_iast C K _ 4 0 rfl rfl (s1) (rfl) (by omega) (by decide) (mW_a3 ad cI _ _) dX5_save_35 rfl ?_
    refine v_aload_n C dX5_save_36 rfl 0 0 rfl rfl ?_
    refine v_callVid C K (c_X5_showsMany l D ad cI _) gX5_save_X5_showsMany rfl hd_X5_showsMany ⟨rfl, rfl⟩ ⟨Nat.le_of_ble_eq_true rfl, Nat.le_of_ble_eq_true rfl⟩ 0 rfl rfl rfl rfl rfl (Nat.le_of_ble_eq_true rfl) ⟨Nat.le_refl _, Nat.le_refl _⟩ dX5_save_37 rfl ?_
    exact hend (⟨fun _ => ⟨rfl, by rw [ecs]; rfl⟩, fun q => absurd q h6⟩) (rfl) dX5_save_40
  · skip
    refine v_bipush (v := -2) C dX5_save_9 rfl bp_m2 ?_
    exact hend (⟨fun q => absurd h6 q, fun _ => ⟨rfl, rfl⟩⟩) (rfl) dX5_save_11
set_option maxHeartbeats 4000000 in
set_option maxRecDepth 100000 in
theorem c_X5_restore (l : Launch) (D : va_G) (ad : Nat → Nat) (cI : ClassId) (σ : S9) (h : Nat) (hh : σ 12 0 = nI h) (hle : h ≤ 6) (t : Int32) : CMi l (mW ad cI) D [(cI, .int)] yX5_restore wsX5_restore ({ frames := 2, cells := 0, slots := 0, locals := 45 } : Room) [.ref (ad 0), .int t] σ (fun r u => (q_resE σ t = 0 → ¬ p_in t 0 1 = 0 ∧ r = sm9 (shT (mvF (σ 2) (σ 0) (151 * t.toNatClampNeg) 0 151)) 70 ∧ u = st9 (rcM σ h) 0 (mvF (σ 2) (σ 0) (151 * t.toNatClampNeg) 0 151)) ∧ (¬ q_resE σ t = 0 → r = q_resE σ t ∧ u = σ)) := by
  refine v_starti (own := RX5) (cc := cX5_restore) (nL := 2) rfl (by decide) rfl (Nat.le_of_ble_eq_true rfl) ?_
  intro p e s m args below meth c A Q C K hend
  refine v_lv (lv' := [(0, .ref (ad 0)), (1, .int t)]) [0, 1] rfl ?_
  refine v_iload_n C dX5_restore_0 rfl 1 1 rfl rfl ?_
  refine v_iconst (v := 0) C dX5_restore_1 rfl ic_0 ?_
  refine v_iconst (v := 1) C dX5_restore_2 rfl ic_1 ?_
  refine v_callSpd C (c_X5_within l _ _ _) gX5_restore_X5_within rfl hd_X5_within.2 ⟨rfl, rfl⟩ ⟨Nat.le_of_ble_eq_true rfl, Nat.le_of_ble_eq_true rfl⟩ rfl rfl (Nat.le_of_ble_eq_true rfl) ⟨Nat.le_refl _, Nat.le_refl _⟩ dX5_restore_3 rfl ?_
  refine v_if_ne C 12 dX5_restore_6 (by decide) rfl (fun h6 => ?_) (fun h6 => ?_)
  · skip
    obtain ⟨s1, hs, rfl⟩ := s1 h6
    have ecs : (nI s1).toNatClampNeg = s1 := nI_cl (by omega)
    refine v_aload_n C dX5_restore_12 rfl 0 0 rfl rfl ?_
    refine v_get C K in_X5_restore_X5 0 rfl rfl 4 (by decide) fl_X5_restore_X5_4 rfl dX5_restore_13 rfl ?_
    refine v_iload_n C dX5_restore_16 rfl 1 1 rfl rfl ?_
    refine v_iald C K 4 0 rfl rfl (s1) (rfl) (by omega) (by decide) dX5_restore_17 rfl ?_
    refine v_if_ne C 24 dX5_restore_18 (by decide) rfl (fun h18 => ?_) (fun h18 => ?_)
    · skip
      refine v_aload_n C dX5_restore_24 rfl 0 0 rfl rfl ?_
      refine v_callVvd C K (c_X5_record l D ad cI _ h hh hle) gX5_restore_X5_record rfl hd_X5_record ⟨rfl, rfl⟩ ⟨Nat.le_of_ble_eq_true rfl, Nat.le_of_ble_eq_true rfl⟩ 0 rfl rfl rfl rfl rfl (Nat.le_of_ble_eq_true rfl) ⟨Nat.le_refl _, Nat.le_refl _⟩ dX5_restore_25 rfl ?_
      refine v_aload_n C dX5_restore_28 rfl 0 0 rfl rfl ?_
      refine v_get C K in_X5_restore_X5 0 rfl rfl 3 (by decide) fl_X5_restore_X5_3 rfl dX5_restore_29 rfl ?_
      refine v_sipush (v := 151) C dX5_restore_32 rfl sp_151 ?_
      refine v_iload_n C dX5_restore_35 rfl 1 1 rfl rfl ?_
      refine v_imul C dX5_restore_36 rfl ?_
      refine v_top (nI (151 * s1)) (by simp only [lit9, pk_mul, nI_add]) ?_
      refine v_aload_n C dX5_restore_37 rfl 0 0 rfl rfl ?_
      refine v_get C K in_X5_restore_X5 0 rfl rfl 0 (by decide) fl_X5_restore_X5_0 rfl dX5_restore_38 rfl ?_
      refine v_iconst (v := 0) C dX5_restore_41 rfl ic_0 ?_
      refine v_callSvd C K (c_X5_moves l D ad cI _ 2 0 (151 * s1) 0 (by decide) (by decide) (by decide) (by show 151 * s1 + 151 ≤ 302; omega) (by decide) (by decide)) gX5_restore_X5_moves rfl hd_X5_moves.2 ⟨rfl, rfl⟩ ⟨Nat.le_of_ble_eq_true rfl, Nat.le_of_ble_eq_true rfl⟩ rfl rfl (Nat.le_of_ble_eq_true rfl) ⟨Nat.le_refl _, Nat.le_refl _⟩ dX5_restore_42 rfl ?_
      refine v_aload_n C dX5_restore_45 rfl 0 0 rfl rfl ?_
      refine v_callVid C K (c_X5_showsMany l D ad cI _) gX5_restore_X5_showsMany rfl hd_X5_showsMany ⟨rfl, rfl⟩ ⟨Nat.le_of_ble_eq_true rfl, Nat.le_of_ble_eq_true rfl⟩ 0 rfl rfl rfl rfl rfl (Nat.le_of_ble_eq_true rfl) ⟨Nat.le_refl _, Nat.le_refl _⟩ dX5_restore_46 rfl ?_
      exact hend (⟨fun _ => ⟨h6, by rw [ecs, st9_s, rcM_0, rcM_i σ h 2 (by decide) (by decide)], by rw [ecs, rcM_0, rcM_i σ h 2 (by decide) (by decide)]⟩, fun q => absurd (by simp [q_resE, ecs, h6, h18]) q⟩) (rfl) dX5_restore_49
    · skip
      refine v_bipush (v := -5) C dX5_restore_21 rfl bp_m5 ?_
      exact hend (⟨fun q => absurd q (by simp [q_resE, ecs, h6, h18]), fun _ => ⟨by simp [q_resE, ecs, h6, h18], rfl⟩⟩) (rfl) dX5_restore_23
  · skip
    refine v_bipush (v := -2) C dX5_restore_9 rfl bp_m2 ?_
    exact hend (⟨fun q => absurd q (by simp [q_resE, h6]), fun _ => ⟨by simp [q_resE, h6], rfl⟩⟩) (rfl) dX5_restore_11

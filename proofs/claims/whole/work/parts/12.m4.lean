def ft0 (k : Nat) (u : S9) : S9 := st9 (st9 u 8 (upd (u 8) k 0)) 9 (upd (u 9) k 0)
theorem ft0_i (k i : Nat) (h8 : i ≠ 8) (h9 : i ≠ 9) (u : S9) : ft0 k u i = u i := by rw [ft0, st9_n _ _ h9, st9_n _ _ h8]
theorem ft0_m (i : Nat) (h8 : i ≠ 8) (h9 : i ≠ 9) (u : S9) : ∀ n, it9 ft0 n u i = u i
  | 0 => rfl
  | n + 1 => by rw [it9, ft0_i n i h8 h9, ft0_m i h8 h9 u n]
def ftI (u : S9) (k : Nat) : Nat := 5 * (u 0 (46 + k)).toNatClampNeg + k / 14
def ftS (k : Nat) (u : S9) : S9 := if u 0 (46 + k) = -6 then u else st9 (st9 u 8 (upd (u 8) (ftI u k) (u 8 (ftI u k) + 1))) 9 (upd (u 9) (ftI u k) (u 9 (ftI u k) + u 5 k * u 0 1))
theorem ftS_i (k i : Nat) (h8 : i ≠ 8) (h9 : i ≠ 9) (u : S9) : ftS k u i = u i := by
  unfold ftS
  split
  · rfl
  · rw [st9_n _ _ h9, st9_n _ _ h8]
theorem ftS_m (i : Nat) (h8 : i ≠ 8) (h9 : i ≠ 9) (u : S9) : ∀ n, it9 ftS n u i = u i
  | 0 => rfl
  | n + 1 => by rw [it9, ftS_i n i h8 h9, ftS_m i h8 h9 u n]
def ftM (σ : S9) : S9 := it9 ftS 70 (it9 ft0 40 σ)
theorem ftM_i (i : Nat) (h8 : i ≠ 8) (h9 : i ≠ 9) (σ : S9) : ftM σ i = σ i := (ftS_m i h8 h9 _ 70).trans (ft0_m i h8 h9 σ 40)
set_option maxHeartbeats 4000000 in
set_option maxRecDepth 100000 in
theorem c_X5_findTakings (l : Launch) (D : va_G) (ad : Nat → Nat) (cI : ClassId) (σ : S9) (n : Nat) (hw : wfS (σ 0) n) : CMv l (mW ad cI) D [(cI, .int)] yX5_findTakings wsX5_findTakings ({ frames := 0, cells := 0, slots := 0, locals := 0 } : Room) [.ref (ad 0)] σ (fun u => u = ftM σ) := by
  refine v_startv (own := RX5) (cc := cX5_findTakings) (nL := 3) rfl (by decide) rfl (Nat.le_of_ble_eq_true rfl) ?_
  intro p e s m args below meth c A Q C K hend
  refine v_lv (lv' := [(0, .ref (ad 0))]) [0] rfl ?_
  refine v_iconst (v := 0) C dX5_findTakings_0 rfl ic_0 ?_
  refine v_istore_n (lv' := [(1, _), (0, _)]) C dX5_findTakings_1 rfl 1 rfl (by decide) rfl ?_
  have LP2 : ∀ d, d ≤ 40 → VV p l e ({ frames := 0, cells := 0, slots := 0, locals := 0 } : Room) s m args below meth c 0 0 Q (mW ad cI) D A s.heap 3 (it9 ft0 d σ) 2 [(0, .ref (ad 0)), (1, .int (nI d))] [] := by
    refine lpB9 (fun d => VV p l e ({ frames := 0, cells := 0, slots := 0, locals := 0 } : Room) s m args below meth c 0 0 Q (mW ad cI) D A s.heap 3 (it9 ft0 d σ) 2 [(0, .ref (ad 0)), (1, .int (nI d))] []) 40 (fun d hd ih => ?_) ?_
    · skip
      refine v_iload_n C dX5_findTakings_2 rfl 1 1 rfl rfl ?_
      refine v_bipush (v := 40) C dX5_findTakings_3 rfl bp_40 ?_
      refine v_icmp_ge C 28 dX5_findTakings_5 (by decide) rfl (fun h9 => absurd h9 (nI_ge hd (by decide))) (fun _ => ?_)
      refine v_aload_n C dX5_findTakings_8 rfl 0 0 rfl rfl ?_
      refine v_get C K in_X5_findTakings_X5 0 rfl rfl 10 (by decide) fl_X5_findTakings_X5_10 rfl dX5_findTakings_9 rfl ?_
      refine v_iload_n C dX5_findTakings_12 rfl 1 1 rfl rfl ?_
      refine v_iconst (v := 0) C dX5_findTakings_13 rfl ic_0 ?_
      refine v_iast C K _ 9 0 rfl rfl (d) (rfl) (by omega) (by decide) (mW_a8 ad cI _ _) dX5_findTakings_14 rfl ?_
      refine v_aload_n C dX5_findTakings_15 rfl 0 0 rfl rfl ?_
      refine v_get C K in_X5_findTakings_X5 0 rfl rfl 11 (by decide) fl_X5_findTakings_X5_11 rfl dX5_findTakings_16 rfl ?_
      refine v_iload_n C dX5_findTakings_19 rfl 1 1 rfl rfl ?_
      refine v_iconst (v := 0) C dX5_findTakings_20 rfl ic_0 ?_
      refine v_iast C K _ 10 0 rfl rfl (d) (rfl) (by omega) (by decide) (mW_a9 ad cI _ _) dX5_findTakings_21 rfl ?_
      refine v_iinc (lv' := [(1, _), (0, _)]) C dX5_findTakings_22 rfl 1 rfl (inc9 _) (by decide) rfl ?_
      refine v_goto C 2 dX5_findTakings_25 (by decide) ?_
      refine v_lv (lv' := [(0, _), (1, _)]) [1, 0] rfl ?_
      exact v9cast ih (by rw [it9, ft0]; rfl) rfl rfl
    · skip
      refine v_iload_n C dX5_findTakings_2 rfl 1 1 rfl rfl ?_
      refine v_bipush (v := 40) C dX5_findTakings_3 rfl bp_40 ?_
      refine v_icmp_ge C 28 dX5_findTakings_5 (by decide) rfl (fun _ => ?_) (fun h9 => absurd (nI_le (Nat.le_refl _) (by decide)) h9)
      refine v_iconst (v := 0) C dX5_findTakings_28 rfl ic_0 ?_
      refine v_istore_n (lv' := [(1, _), (0, _)]) C dX5_findTakings_29 rfl 1 rfl (by decide) rfl ?_
      have LP30 : ∀ d, d ≤ 70 → VV p l e ({ frames := 0, cells := 0, slots := 0, locals := 0 } : Room) s m args below meth c 0 0 Q (mW ad cI) D A s.heap 3 (it9 ftS d (it9 ft0 40 σ)) 30 [(0, .ref (ad 0)), (1, .int (nI d))] [] := by
        refine lpB9 (fun d => VV p l e ({ frames := 0, cells := 0, slots := 0, locals := 0 } : Room) s m args below meth c 0 0 Q (mW ad cI) D A s.heap 3 (it9 ftS d (it9 ft0 40 σ)) 30 [(0, .ref (ad 0)), (1, .int (nI d))] []) 70 (fun d hd ih => ?_) ?_
        · skip
          obtain ⟨u9, hu9⟩ : ∃ u, u = it9 ftS d (it9 ft0 40 σ) := ⟨_, rfl⟩
          rw [show it9 ftS (d + 1) (it9 ft0 40 σ) = ftS d (it9 ftS d (it9 ft0 40 σ)) from rfl, ← hu9] at ih
          have e0 : it9 ftS d (it9 ft0 40 σ) 0 = σ 0 := (ftS_m 0 (by decide) (by decide) _ d).trans (ft0_m 0 (by decide) (by decide) σ 40)
          rw [← hu9] at e0 ⊢
          replace e0 : ∀ j, u9 0 j = σ 0 j := fun j => by rw [e0]
          refine v_iload_n C dX5_findTakings_30 rfl 1 1 rfl rfl ?_
          refine v_bipush (v := 70) C dX5_findTakings_31 rfl bp_70 ?_
          refine v_icmp_ge C 104 dX5_findTakings_33 (by decide) rfl (fun h9 => absurd h9 (nI_ge hd (by decide))) (fun _ => ?_)
          refine v_aload_n C dX5_findTakings_36 rfl 0 0 rfl rfl ?_
          refine v_get C K in_X5_findTakings_X5 0 rfl rfl 0 (by decide) fl_X5_findTakings_X5_0 rfl dX5_findTakings_37 rfl ?_
          refine v_bipush (v := 46) C dX5_findTakings_40 rfl bp_46 ?_
          refine v_iload_n C dX5_findTakings_42 rfl 1 1 rfl rfl ?_
          refine v_iadd C dX5_findTakings_43 rfl ?_
          refine v_iald C K 1 0 rfl rfl (46 + d) (by simp only [lit9, pk_mul, nI_add]) (by omega) (by decide) dX5_findTakings_44 rfl ?_
          refine v_top (σ 0 (46 + d)) (e0 _) ?_
          refine v_istore_n (lv' := [(2, _), (0, _), (1, _)]) C dX5_findTakings_45 rfl 2 rfl (by decide) rfl ?_
          refine v_iload_n C dX5_findTakings_46 rfl 2 0 rfl rfl ?_
          refine v_bipush (v := -6) C dX5_findTakings_47 rfl bp_m6 ?_
          refine v_icmp_eq C 98 dX5_findTakings_49 (by decide) rfl (fun h49t => ?_) (fun h49 => ?_)
          · skip
            refine v_iinc (lv' := [(1, _), (2, _), (0, _)]) C dX5_findTakings_98 rfl 2 rfl (inc9 _) (by decide) rfl ?_
            refine v_goto C 30 dX5_findTakings_101 (by decide) ?_
            refine v_lv (lv' := [(0, _), (1, _)]) [2, 0] rfl ?_
            exact v9cast ih (by simp [ftS, e0, h49t]) rfl rfl
          · skip
            obtain ⟨f, hf, ef⟩ := (hw.2.2 d (by omega)).resolve_left h49
            have hf8 : f < 8 := Nat.lt_of_lt_of_le hf hw.2.1
            have hnf : ¬ nI f = -6 := by
              rw [← ef]
              exact h49
            refine v_aload_n C dX5_findTakings_52 rfl 0 1 rfl rfl ?_
            refine v_get C K in_X5_findTakings_X5 0 rfl rfl 10 (by decide) fl_X5_findTakings_X5_10 rfl dX5_findTakings_53 rfl ?_
            refine v_iconst (v := 5) C dX5_findTakings_56 rfl ic_5 ?_
            refine v_iload_n C dX5_findTakings_57 rfl 2 0 rfl rfl ?_
            refine v_imul C dX5_findTakings_58 rfl ?_
            refine v_iload_n C dX5_findTakings_59 rfl 1 2 rfl rfl ?_
            refine v_bipush (v := 14) C dX5_findTakings_60 rfl bp_14 ?_
            refine v_idiv C dX5_findTakings_62 rfl (by decide) ?_
            refine v_iadd C dX5_findTakings_63 rfl ?_
            refine v_top (nI (5 * f + d / 14)) (by rw [ef, show nI d / 14 = nI (d / 14) from pk_div (by omega) (by decide) (by decide)]; simp only [lit9, pk_mul, nI_add]) ?_
            refine v_dup2 C dX5_findTakings_64 rfl rfl rfl ?_
            refine v_iald C K 9 0 rfl rfl (5 * f + d / 14) (rfl) (by omega) (by decide) dX5_findTakings_65 rfl ?_
            refine v_iconst (v := 1) C dX5_findTakings_66 rfl ic_1 ?_
            refine v_iadd C dX5_findTakings_67 rfl ?_
            refine v_iast C K _ 9 0 rfl rfl (5 * f + d / 14) (rfl) (by omega) (by decide) (mW_a8 ad cI _ _) dX5_findTakings_68 rfl ?_
            refine v_aload_n C dX5_findTakings_69 rfl 0 1 rfl rfl ?_
            refine v_get C K in_X5_findTakings_X5 0 rfl rfl 11 (by decide) fl_X5_findTakings_X5_11 rfl dX5_findTakings_70 rfl ?_
            refine v_iconst (v := 5) C dX5_findTakings_73 rfl ic_5 ?_
            refine v_iload_n C dX5_findTakings_74 rfl 2 0 rfl rfl ?_
            refine v_imul C dX5_findTakings_75 rfl ?_
            refine v_iload_n C dX5_findTakings_76 rfl 1 2 rfl rfl ?_
            refine v_bipush (v := 14) C dX5_findTakings_77 rfl bp_14 ?_
            refine v_idiv C dX5_findTakings_79 rfl (by decide) ?_
            refine v_iadd C dX5_findTakings_80 rfl ?_
            refine v_top (nI (5 * f + d / 14)) (by rw [ef, show nI d / 14 = nI (d / 14) from pk_div (by omega) (by decide) (by decide)]; simp only [lit9, pk_mul, nI_add]) ?_
            refine v_dup2 C dX5_findTakings_81 rfl rfl rfl ?_
            refine v_iald C K 10 0 rfl rfl (5 * f + d / 14) (rfl) (by omega) (by decide) dX5_findTakings_82 rfl ?_
            refine v_aload_n C dX5_findTakings_83 rfl 0 1 rfl rfl ?_
            refine v_get C K in_X5_findTakings_X5 0 rfl rfl 7 (by decide) fl_X5_findTakings_X5_7 rfl dX5_findTakings_84 rfl ?_
            refine v_iload_n C dX5_findTakings_87 rfl 1 2 rfl rfl ?_
            refine v_iald C K 6 0 rfl rfl (d) (rfl) (by omega) (by decide) dX5_findTakings_88 rfl ?_
            refine v_aload_n C dX5_findTakings_89 rfl 0 1 rfl rfl ?_
            refine v_get C K in_X5_findTakings_X5 0 rfl rfl 0 (by decide) fl_X5_findTakings_X5_0 rfl dX5_findTakings_90 rfl ?_
            refine v_iconst (v := 1) C dX5_findTakings_93 rfl ic_1 ?_
            refine v_iald C K 1 0 rfl rfl (1) (rfl) (by omega) (by decide) dX5_findTakings_94 rfl ?_
            refine v_imul C dX5_findTakings_95 rfl ?_
            refine v_iadd C dX5_findTakings_96 rfl ?_
            refine v_iast C K _ 10 0 rfl rfl (5 * f + d / 14) (rfl) (by omega) (by decide) (mW_a9 ad cI _ _) dX5_findTakings_97 rfl ?_
            refine v_iinc (lv' := [(1, _), (2, _), (0, _)]) C dX5_findTakings_98 rfl 2 rfl (inc9 _) (by decide) rfl ?_
            refine v_goto C 30 dX5_findTakings_101 (by decide) ?_
            refine v_lv (lv' := [(0, _), (1, _)]) [2, 0] rfl ?_
            exact v9cast ih (by simp [ftS, ftI, e0, ef, hnf, nI_cl (show f < 100000 by omega), st9_n, st9_s, upd_s]) rfl rfl
        · skip
          refine v_iload_n C dX5_findTakings_30 rfl 1 1 rfl rfl ?_
          refine v_bipush (v := 70) C dX5_findTakings_31 rfl bp_70 ?_
          refine v_icmp_ge C 104 dX5_findTakings_33 (by decide) rfl (fun _ => ?_) (fun h9 => absurd (nI_le (Nat.le_refl _) (by decide)) h9)
          exact hend (rfl) dX5_findTakings_104
      refine v_lv [1, 0] rfl ?_
      exact LP30 0 (by omega)
  refine v_lv [1, 0] rfl ?_
  exact LP2 0 (by omega)
def p_share (r : Nat → Int32) (f : Nat) (x : Int32) : Int32 := if r (6 + 5 * f + 3) - 10 * x ≤ 20 then 20 else r (6 + 5 * f + 3) - 10 * x
set_option maxHeartbeats 4000000 in
set_option maxRecDepth 100000 in
theorem c_X5_shareOf (l : Launch) (D : va_G) (ad : Nat → Nat) (cI : ClassId) (σ : S9) (f : Nat) (hf : f < 8) (x : Int32) : CMi l (mW ad cI) D [(cI, .int)] yX5_shareOf wsX5_shareOf ({ frames := 1, cells := 0, slots := 0, locals := 22 } : Room) [.ref (ad 0), .int (nI f), .int x] σ (fun r u => r = p_share (σ 0) f x ∧ u = σ) := by
  refine v_starti (own := RX5) (cc := cX5_shareOf) (nL := 4) rfl (by decide) rfl (Nat.le_of_ble_eq_true rfl) ?_
  intro p e s m args below meth c A Q C K hend
  refine v_lv (lv' := [(0, .ref (ad 0)), (1, .int (nI f)), (2, .int x)]) [0, 1, 2] rfl ?_
  refine v_aload_n C dX5_shareOf_0 rfl 0 0 rfl rfl ?_
  refine v_iload_n C dX5_shareOf_1 rfl 1 1 rfl rfl ?_
  refine v_iconst (v := 3) C dX5_shareOf_2 rfl ic_3 ?_
  refine v_callVid C K (c_X5_filmPart l D ad cI _ f 3 hf (by decide)) gX5_shareOf_X5_filmPart rfl hd_X5_filmPart ⟨rfl, rfl⟩ ⟨Nat.le_of_ble_eq_true rfl, Nat.le_of_ble_eq_true rfl⟩ 0 rfl rfl rfl rfl rfl (Nat.le_of_ble_eq_true rfl) ⟨Nat.le_refl _, Nat.le_refl _⟩ dX5_shareOf_3 rfl ?_
  refine v_bipush (v := 10) C dX5_shareOf_6 rfl bp_10 ?_
  refine v_iload_n C dX5_shareOf_8 rfl 2 2 rfl rfl ?_
  refine v_imul C dX5_shareOf_9 rfl ?_
  refine v_isub C dX5_shareOf_10 rfl ?_
  refine v_istore_n (lv' := [(3, _), (0, _), (1, _), (2, _)]) C dX5_shareOf_11 rfl 3 rfl (by decide) rfl ?_
  refine v_iload_n C dX5_shareOf_12 rfl 3 0 rfl rfl ?_
  refine v_bipush (v := 20) C dX5_shareOf_13 rfl bp_20 ?_
  refine v_icmp_le C 22 dX5_shareOf_15 (by decide) rfl (fun h15 => ?_) (fun h15 => ?_)
  · skip
    refine v_bipush (v := 20) C dX5_shareOf_22 rfl bp_20 ?_
    exact hend (⟨by simp [p_share, h15], rfl⟩) (rfl) dX5_shareOf_24
  · skip
    refine v_iload_n C dX5_shareOf_18 rfl 3 0 rfl rfl ?_
    refine v_goto C 24 dX5_shareOf_19 (by decide) ?_
    exact hend (⟨by simp [p_share, h15], rfl⟩) (rfl) dX5_shareOf_24
def p_sot (u : S9) (k : Nat) : Int32 := if u 10 k = -6 then 0 else u 9 k * u 10 k / 100
set_option maxHeartbeats 4000000 in
set_option maxRecDepth 100000 in
theorem c_X5_shareOfTakings (l : Launch) (D : va_G) (ad : Nat → Nat) (cI : ClassId) (σ : S9) (k : Nat) (hk : k < 40) : CMi l (mW ad cI) D [(cI, .int)] yX5_shareOfTakings wsX5_shareOfTakings ({ frames := 0, cells := 0, slots := 0, locals := 0 } : Room) [.ref (ad 0), .int (nI k)] σ (fun r u => r = p_sot σ k ∧ u = σ) := by
  refine v_starti (own := RX5) (cc := cX5_shareOfTakings) (nL := 2) rfl (by decide) rfl (Nat.le_of_ble_eq_true rfl) ?_
  intro p e s m args below meth c A Q C K hend
  refine v_lv (lv' := [(0, .ref (ad 0)), (1, .int (nI k))]) [0, 1] rfl ?_
  refine v_aload_n C dX5_shareOfTakings_0 rfl 0 0 rfl rfl ?_
  refine v_get C K in_X5_shareOfTakings_X5 0 rfl rfl 12 (by decide) fl_X5_shareOfTakings_X5_12 rfl dX5_shareOfTakings_1 rfl ?_
  refine v_iload_n C dX5_shareOfTakings_4 rfl 1 1 rfl rfl ?_
  refine v_iald C K 11 0 rfl rfl (k) (rfl) (by omega) (by decide) dX5_shareOfTakings_5 rfl ?_
  refine v_bipush (v := -6) C dX5_shareOfTakings_6 rfl bp_m6 ?_
  refine v_icmp_ne C 15 dX5_shareOfTakings_8 (by decide) rfl (fun h8 => ?_) (fun h8 => ?_)
  · skip
    refine v_aload_n C dX5_shareOfTakings_15 rfl 0 0 rfl rfl ?_
    refine v_get C K in_X5_shareOfTakings_X5 0 rfl rfl 11 (by decide) fl_X5_shareOfTakings_X5_11 rfl dX5_shareOfTakings_16 rfl ?_
    refine v_iload_n C dX5_shareOfTakings_19 rfl 1 1 rfl rfl ?_
    refine v_iald C K 10 0 rfl rfl (k) (rfl) (by omega) (by decide) dX5_shareOfTakings_20 rfl ?_
    refine v_aload_n C dX5_shareOfTakings_21 rfl 0 0 rfl rfl ?_
    refine v_get C K in_X5_shareOfTakings_X5 0 rfl rfl 12 (by decide) fl_X5_shareOfTakings_X5_12 rfl dX5_shareOfTakings_22 rfl ?_
    refine v_iload_n C dX5_shareOfTakings_25 rfl 1 1 rfl rfl ?_
    refine v_iald C K 11 0 rfl rfl (k) (rfl) (by omega) (by decide) dX5_shareOfTakings_26 rfl ?_
    refine v_imul C dX5_shareOfTakings_27 rfl ?_
    refine v_bipush (v := 100) C dX5_shareOfTakings_28 rfl bp_100 ?_
    refine v_idiv C dX5_shareOfTakings_30 rfl (by decide) ?_
    exact hend (⟨by simp [p_sot, h8], rfl⟩) (rfl) dX5_shareOfTakings_31
  · skip
    refine v_iconst (v := 0) C dX5_shareOfTakings_11 rfl ic_0 ?_
    refine v_goto C 31 dX5_shareOfTakings_12 (by decide) ?_
    exact hend (⟨by simp [p_sot, h8], rfl⟩) (rfl) dX5_shareOfTakings_31
def duF (f w : Nat) (p : Int32 × S9) : Int32 := if p.1 = -6 ∧ ¬ p.2 8 (5 * f + w) ≤ 0 then nI w else p.1
def duH (f w : Nat) (p : Int32 × S9) : Int32 := if duF f w p = -6 then -6 else p_share (p.2 0) f (nI w - duF f w p)
def duV (u : S9) (f k : Nat) : Int32 := if u 8 k = 0 then 0 else if p_sot u k ≤ u 0 (6 + 5 * f + 2) then u 0 (6 + 5 * f + 2) else p_sot u k
def duU (f w : Nat) (p : Int32 × S9) : S9 := st9 p.2 10 (upd (p.2 10) (5 * f + w) (duH f w p))
def duS (f w : Nat) (p : Int32 × S9) : Int32 × S9 := (duF f w p, st9 (duU f w p) 11 (upd ((duU f w p) 11) (5 * f + w) (duV (duU f w p) f (5 * f + w))))
def duI (f : Nat) (u : S9) : Nat → Int32 × S9
  | 0 => (-6, u)
  | w + 1 => duS f w (duI f u w)
def duT (f : Nat) (u : S9) : S9 := (duI f u 5).2
def duM (σ : S9) : S9 := it9 duT 8 σ
theorem duS_i (f w i : Nat) (h10 : i ≠ 10) (h11 : i ≠ 11) (p : Int32 × S9) : (duS f w p).2 i = p.2 i := by
  show st9 _ 11 _ i = _
  rw [st9_n _ _ h11, duU, st9_n _ _ h10]
theorem duI_i (f i : Nat) (h10 : i ≠ 10) (h11 : i ≠ 11) (u : S9) : ∀ n, (duI f u n).2 i = u i
  | 0 => rfl
  | n + 1 => by rw [duI, duS_i f n i h10 h11, duI_i f i h10 h11 u n]
theorem duT_m (i : Nat) (h10 : i ≠ 10) (h11 : i ≠ 11) (u : S9) : ∀ n, it9 duT n u i = u i
  | 0 => rfl
  | n + 1 => by rw [it9, duT, duI_i _ i h10 h11, duT_m i h10 h11 u n]
set_option maxHeartbeats 4000000 in
set_option maxRecDepth 100000 in
theorem c_X5_findDues (l : Launch) (D : va_G) (ad : Nat → Nat) (cI : ClassId) (σ : S9)  : CMv l (mW ad cI) D [(cI, .int)] yX5_findDues wsX5_findDues ({ frames := 2, cells := 0, slots := 0, locals := 45 } : Room) [.ref (ad 0)] σ (fun u => u = duM σ) := by
  refine v_startv (own := RX5) (cc := cX5_findDues) (nL := 6) rfl (by decide) rfl (Nat.le_of_ble_eq_true rfl) ?_
  intro p e s m args below meth c A Q C K hend
  refine v_lv (lv' := [(0, .ref (ad 0))]) [0] rfl ?_
  refine v_iconst (v := 0) C dX5_findDues_0 rfl ic_0 ?_
  refine v_istore_n (lv' := [(1, _), (0, _)]) C dX5_findDues_1 rfl 1 rfl (by decide) rfl ?_
  have LP2 : ∀ d, d ≤ 8 → VV p l e ({ frames := 2, cells := 0, slots := 0, locals := 45 } : Room) s m args below meth c 0 0 Q (mW ad cI) D A s.heap 6 (it9 duT d σ) 2 [(0, .ref (ad 0)), (1, .int (nI d))] [] := by
    refine lpB9 (fun d => VV p l e ({ frames := 2, cells := 0, slots := 0, locals := 45 } : Room) s m args below meth c 0 0 Q (mW ad cI) D A s.heap 6 (it9 duT d σ) 2 [(0, .ref (ad 0)), (1, .int (nI d))] []) 8 (fun d hd ih => ?_) ?_
    · skip
      refine v_iload_n C dX5_findDues_2 rfl 1 1 rfl rfl ?_
      refine v_bipush (v := 8) C dX5_findDues_3 rfl bp_8 ?_
      refine v_icmp_ge C 136 dX5_findDues_5 (by decide) rfl (fun h9 => absurd h9 (nI_ge hd (by decide))) (fun _ => ?_)
      refine v_bipush (v := -6) C dX5_findDues_8 rfl bp_m6 ?_
      refine v_istore_n (lv' := [(2, _), (0, _), (1, _)]) C dX5_findDues_10 rfl 2 rfl (by decide) rfl ?_
      refine v_iconst (v := 0) C dX5_findDues_11 rfl ic_0 ?_
      refine v_istore_n (lv' := [(3, _), (2, _), (0, _), (1, _)]) C dX5_findDues_12 rfl 3 rfl (by decide) rfl ?_
      have LP13 : ∀ w, w ≤ 5 → VV p l e ({ frames := 2, cells := 0, slots := 0, locals := 45 } : Room) s m args below meth c 0 0 Q (mW ad cI) D A s.heap 6 (duI d (it9 duT d σ) w).2 13 [(0, .ref (ad 0)), (1, .int (nI d)), (2, .int (duI d (it9 duT d σ) w).1), (3, .int (nI w))] [] := by
        refine lpB9 (fun w => VV p l e ({ frames := 2, cells := 0, slots := 0, locals := 45 } : Room) s m args below meth c 0 0 Q (mW ad cI) D A s.heap 6 (duI d (it9 duT d σ) w).2 13 [(0, .ref (ad 0)), (1, .int (nI d)), (2, .int (duI d (it9 duT d σ) w).1), (3, .int (nI w))] []) 5 (fun w hw ih => ?_) ?_
        · skip
          obtain ⟨p9, hp9⟩ : ∃ p, p = duI d (it9 duT d σ) w := ⟨_, rfl⟩
          rw [show duI d (it9 duT d σ) (w + 1) = duS d w (duI d (it9 duT d σ) w) from rfl, ← hp9] at ih
          rw [← hp9]
          refine v_iload_n C dX5_findDues_13 rfl 3 3 rfl rfl ?_
          refine v_iconst (v := 5) C dX5_findDues_14 rfl ic_5 ?_
          refine v_icmp_ge C 130 dX5_findDues_15 (by decide) rfl (fun h9 => absurd h9 (nI_ge hw (by decide))) (fun _ => ?_)
          refine v_iconst (v := 5) C dX5_findDues_18 rfl ic_5 ?_
          refine v_iload_n C dX5_findDues_19 rfl 1 1 rfl rfl ?_
          refine v_imul C dX5_findDues_20 rfl ?_
          refine v_iload_n C dX5_findDues_21 rfl 3 3 rfl rfl ?_
          refine v_iadd C dX5_findDues_22 rfl ?_
          refine v_top (nI (5 * d + w)) (by simp only [lit9, pk_mul, nI_add]) ?_
          refine v_istore (lv' := [(4, _), (0, _), (1, _), (2, _), (3, _)]) C dX5_findDues_23 rfl (by decide) rfl ?_
          refine v_iload_n C dX5_findDues_25 rfl 2 3 rfl rfl ?_
          refine v_bipush (v := -6) C dX5_findDues_26 rfl bp_m6 ?_
          have J46 : VV p l e ({ frames := 2, cells := 0, slots := 0, locals := 45 } : Room) s m args below meth c 0 0 Q (mW ad cI) D A s.heap 6 p9.2 46 [(0, .ref (ad 0)), (1, .int (nI d)), (3, .int (nI w)), (4, .int (nI (5 * d + w)))] [.int (duF d w p9)] := by
            refine v_istore_n (lv' := [(2, _), (0, _), (1, _), (3, _), (4, _)]) C dX5_findDues_46 rfl 2 rfl (by decide) rfl ?_
            refine v_aload_n C dX5_findDues_47 rfl 0 1 rfl rfl ?_
            refine v_get C K in_X5_findDues_X5 0 rfl rfl 12 (by decide) fl_X5_findDues_X5_12 rfl dX5_findDues_48 rfl ?_
            refine v_iload C dX5_findDues_51 rfl 4 rfl ?_
            refine v_iload_n C dX5_findDues_53 rfl 2 0 rfl rfl ?_
            refine v_bipush (v := -6) C dX5_findDues_54 rfl bp_m6 ?_
            have J72 : VV p l e ({ frames := 2, cells := 0, slots := 0, locals := 45 } : Room) s m args below meth c 0 0 Q (mW ad cI) D A s.heap 6 p9.2 72 [(0, .ref (ad 0)), (1, .int (nI d)), (3, .int (nI w)), (4, .int (nI (5 * d + w))), (2, .int (duF d w p9))] [.int (duH d w p9), .int (nI (5 * d + w)), .ref (ad 11)] := by
              refine v_iast C K _ 11 0 rfl rfl (5 * d + w) (rfl) (by omega) (by decide) (mW_a10 ad cI _ _) dX5_findDues_72 rfl ?_
              refine v_st (duU d w p9) rfl ?_
              refine v_aload_n C dX5_findDues_73 rfl 0 0 rfl rfl ?_
              refine v_iload C dX5_findDues_74 rfl 3 rfl ?_
              refine v_callVid C K (c_X5_shareOfTakings l D ad cI _ (5 * d + w) (by omega)) gX5_findDues_X5_shareOfTakings rfl hd_X5_shareOfTakings ⟨rfl, rfl⟩ ⟨Nat.le_of_ble_eq_true rfl, Nat.le_of_ble_eq_true rfl⟩ 0 rfl rfl rfl rfl rfl (Nat.le_of_ble_eq_true rfl) ⟨Nat.le_refl _, Nat.le_refl _⟩ dX5_findDues_76 rfl ?_
              refine v_istore (lv' := [(5, _), (0, _), (1, _), (3, _), (4, _), (2, _)]) C dX5_findDues_79 rfl (by decide) rfl ?_
              refine v_aload_n C dX5_findDues_81 rfl 0 1 rfl rfl ?_
              refine v_get C K in_X5_findDues_X5 0 rfl rfl 13 (by decide) fl_X5_findDues_X5_13 rfl dX5_findDues_82 rfl ?_
              refine v_iload C dX5_findDues_85 rfl 4 rfl ?_
              refine v_aload_n C dX5_findDues_87 rfl 0 1 rfl rfl ?_
              refine v_get C K in_X5_findDues_X5 0 rfl rfl 10 (by decide) fl_X5_findDues_X5_10 rfl dX5_findDues_88 rfl ?_
              refine v_iload C dX5_findDues_91 rfl 4 rfl ?_
              refine v_iald C K 9 0 rfl rfl (5 * d + w) (rfl) (by omega) (by decide) dX5_findDues_93 rfl ?_
              refine v_if_ne C 101 dX5_findDues_94 (by decide) rfl (fun h94 => ?_) (fun h94 => ?_)
              · skip
                refine v_iload C dX5_findDues_101 rfl 0 rfl ?_
                refine v_aload_n C dX5_findDues_103 rfl 0 1 rfl rfl ?_
                refine v_iload_n C dX5_findDues_104 rfl 1 2 rfl rfl ?_
                refine v_iconst (v := 2) C dX5_findDues_105 rfl ic_2 ?_
                refine v_callVid C K (c_X5_filmPart l D ad cI _ d 2 (by omega) (by decide)) gX5_findDues_X5_filmPart rfl hd_X5_filmPart ⟨rfl, rfl⟩ ⟨Nat.le_of_ble_eq_true rfl, Nat.le_of_ble_eq_true rfl⟩ 0 rfl rfl rfl rfl rfl (Nat.le_of_ble_eq_true rfl) ⟨Nat.le_refl _, Nat.le_refl _⟩ dX5_findDues_106 rfl ?_
                refine v_icmp_le C 117 dX5_findDues_109 (by decide) rfl (fun h109 => ?_) (fun h109 => ?_)
                · skip
                  refine v_aload_n C dX5_findDues_117 rfl 0 1 rfl rfl ?_
                  refine v_iload_n C dX5_findDues_118 rfl 1 2 rfl rfl ?_
                  refine v_iconst (v := 2) C dX5_findDues_119 rfl ic_2 ?_
                  refine v_callVid C K (c_X5_filmPart l D ad cI _ d 2 (by omega) (by decide)) gX5_findDues_X5_filmPart rfl hd_X5_filmPart ⟨rfl, rfl⟩ ⟨Nat.le_of_ble_eq_true rfl, Nat.le_of_ble_eq_true rfl⟩ 0 rfl rfl rfl rfl rfl (Nat.le_of_ble_eq_true rfl) ⟨Nat.le_refl _, Nat.le_refl _⟩ dX5_findDues_120 rfl ?_
                  refine v_iast C K _ 12 0 rfl rfl (5 * d + w) (rfl) (by omega) (by decide) (mW_a11 ad cI _ _) dX5_findDues_123 rfl ?_
                  refine v_iinc (lv' := [(3, _), (5, _), (0, _), (1, _), (4, _), (2, _)]) C dX5_findDues_124 rfl 3 rfl (inc9 _) (by decide) rfl ?_
                  refine v_goto C 13 dX5_findDues_127 (by decide) ?_
                  refine v_lv (lv' := [(0, _), (1, _), (2, _), (3, _)]) [2, 3, 5, 0] rfl ?_
                  exact v9cast ih (by simp [duS, duV, h94, h109]) rfl rfl
                · skip
                  refine v_iload C dX5_findDues_112 rfl 0 rfl ?_
                  refine v_goto C 123 dX5_findDues_114 (by decide) ?_
                  refine v_iast C K _ 12 0 rfl rfl (5 * d + w) (rfl) (by omega) (by decide) (mW_a11 ad cI _ _) dX5_findDues_123 rfl ?_
                  refine v_iinc (lv' := [(3, _), (5, _), (0, _), (1, _), (4, _), (2, _)]) C dX5_findDues_124 rfl 3 rfl (inc9 _) (by decide) rfl ?_
                  refine v_goto C 13 dX5_findDues_127 (by decide) ?_
                  refine v_lv (lv' := [(0, _), (1, _), (2, _), (3, _)]) [2, 3, 5, 0] rfl ?_
                  exact v9cast ih (by simp [duS, duV, h94, h109]) rfl rfl
              · skip
                refine v_iconst (v := 0) C dX5_findDues_97 rfl ic_0 ?_
                refine v_goto C 123 dX5_findDues_98 (by decide) ?_
                refine v_iast C K _ 12 0 rfl rfl (5 * d + w) (rfl) (by omega) (by decide) (mW_a11 ad cI _ _) dX5_findDues_123 rfl ?_
                refine v_iinc (lv' := [(3, _), (5, _), (0, _), (1, _), (4, _), (2, _)]) C dX5_findDues_124 rfl 3 rfl (inc9 _) (by decide) rfl ?_
                refine v_goto C 13 dX5_findDues_127 (by decide) ?_
                refine v_lv (lv' := [(0, _), (1, _), (2, _), (3, _)]) [2, 3, 5, 0] rfl ?_
                exact v9cast ih (by simp [duS, duV, h94]) rfl rfl
            refine v_icmp_ne C 64 dX5_findDues_56 (by decide) rfl (fun h56 => ?_) (fun h56 => ?_)
            · skip
              refine v_aload_n C dX5_findDues_64 rfl 0 1 rfl rfl ?_
              refine v_iload_n C dX5_findDues_65 rfl 1 2 rfl rfl ?_
              refine v_iload_n C dX5_findDues_66 rfl 3 3 rfl rfl ?_
              refine v_iload_n C dX5_findDues_67 rfl 2 0 rfl rfl ?_
              refine v_isub C dX5_findDues_68 rfl ?_
              refine v_callVid C K (c_X5_shareOf l D ad cI _ d (by omega) _) gX5_findDues_X5_shareOf rfl hd_X5_shareOf ⟨rfl, rfl⟩ ⟨Nat.le_of_ble_eq_true rfl, Nat.le_of_ble_eq_true rfl⟩ 0 rfl rfl rfl rfl rfl (Nat.le_of_ble_eq_true rfl) ⟨Nat.le_refl _, Nat.le_refl _⟩ dX5_findDues_69 rfl ?_
              refine v_lv (lv' := [(0, _), (1, _), (3, _), (4, _), (2, _)]) [1, 2, 3, 4, 0] rfl ?_
              exact v9cast J72 rfl rfl (by simp [duH, h56])
            · skip
              refine v_bipush (v := -6) C dX5_findDues_59 rfl bp_m6 ?_
              refine v_goto C 72 dX5_findDues_61 (by decide) ?_
              refine v_lv (lv' := [(0, _), (1, _), (3, _), (4, _), (2, _)]) [1, 2, 3, 4, 0] rfl ?_
              exact v9cast J72 rfl rfl (by simp [duH, h56])
          refine v_icmp_ne C 45 dX5_findDues_28 (by decide) rfl (fun h28 => ?_) (fun h28 => ?_)
          · skip
            refine v_iload_n C dX5_findDues_45 rfl 2 3 rfl rfl ?_
            refine v_lv (lv' := [(0, _), (1, _), (3, _), (4, _)]) [1, 2, 4, 0] rfl ?_
            exact v9cast J46 rfl rfl (by simp [duF, h28])
          · skip
            refine v_aload_n C dX5_findDues_31 rfl 0 1 rfl rfl ?_
            refine v_get C K in_X5_findDues_X5 0 rfl rfl 10 (by decide) fl_X5_findDues_X5_10 rfl dX5_findDues_32 rfl ?_
            refine v_iload C dX5_findDues_35 rfl 0 rfl ?_
            refine v_iald C K 9 0 rfl rfl (5 * d + w) (rfl) (by omega) (by decide) dX5_findDues_37 rfl ?_
            refine v_if_le C 45 dX5_findDues_38 (by decide) rfl (fun h38 => ?_) (fun h38 => ?_)
            · skip
              refine v_iload_n C dX5_findDues_45 rfl 2 3 rfl rfl ?_
              refine v_lv (lv' := [(0, _), (1, _), (3, _), (4, _)]) [1, 2, 4, 0] rfl ?_
              exact v9cast J46 rfl rfl (by simp [duF, h28, h38])
            · skip
              refine v_iload_n C dX5_findDues_41 rfl 3 4 rfl rfl ?_
              refine v_goto C 46 dX5_findDues_42 (by decide) ?_
              refine v_lv (lv' := [(0, _), (1, _), (3, _), (4, _)]) [1, 2, 4, 0] rfl ?_
              exact v9cast J46 rfl rfl (by simp [duF, h28, h38])
        · skip
          refine v_iload_n C dX5_findDues_13 rfl 3 3 rfl rfl ?_
          refine v_iconst (v := 5) C dX5_findDues_14 rfl ic_5 ?_
          refine v_icmp_ge C 130 dX5_findDues_15 (by decide) rfl (fun _ => ?_) (fun h9 => absurd (nI_le (Nat.le_refl _) (by decide)) h9)
          refine v_iinc (lv' := [(1, _), (0, _), (2, _), (3, _)]) C dX5_findDues_130 rfl 1 rfl (inc9 _) (by decide) rfl ?_
          refine v_goto C 2 dX5_findDues_133 (by decide) ?_
          refine v_lv (lv' := [(0, _), (1, _)]) [1, 0] rfl ?_
          exact v9cast ih rfl rfl rfl
      refine v_lv [2, 3, 1, 0] rfl ?_
      exact LP13 0 (by omega)
    · skip
      refine v_iload_n C dX5_findDues_2 rfl 1 1 rfl rfl ?_
      refine v_bipush (v := 8) C dX5_findDues_3 rfl bp_8 ?_
      refine v_icmp_ge C 136 dX5_findDues_5 (by decide) rfl (fun _ => ?_) (fun h9 => absurd (nI_le (Nat.le_refl _) (by decide)) h9)
      exact hend (rfl) dX5_findDues_136
  refine v_lv [1, 0] rfl ?_
  exact LP2 0 (by omega)

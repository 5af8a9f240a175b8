theorem sw9 {x : Int32} {n : Nat} (hn : n < 100) (h : ∀ j, j ≤ n → ¬ x = nI j) : x.toInt < 0 ∨ (n : Int) < x.toInt := by
  by_cases h0 : x < 0
  · left
    have := Int32.lt_iff_toInt_lt.mp h0
    simpa using this
  · right
    by_cases h1 : x ≤ nI n
    · obtain ⟨j, hj, e⟩ := nI_of2 (M := nI n) (nI_toInt (by omega)) h0 h1
      exact absurd e (h j hj)
    · have h2 := Int32.lt_iff_toInt_lt.mp (Int32.not_le.mp h1)
      rwa [nI_toInt (by omega)] at h2
/-- a row of the hall as it must be: n films, every show a film's or none -/
def wfS (r : Nat → Int32) (n : Nat) : Prop := r 5 = nI n ∧ n ≤ 8 ∧ ∀ k, k < 70 → r (46 + k) = -6 ∨ ∃ f : Nat, f < n ∧ r (46 + k) = nI f
def fdS (wk : Int32) (f : Nat) (u : S9) : S9 := st9 u 7 (upd (u 7) f (u 7 f - (if wk ≤ u 0 (6 + 5 * f + 4) / 7 then 0 else u 7 f / 4)))
theorem fd_i (wk : Int32) (i : Nat) (h : i ≠ 7) (u : S9) : ∀ n, it9 (fdS wk) n u i = u i
  | 0 => rfl
  | n + 1 => by rw [it9, fdS, st9_n _ _ h]; exact fd_i wk i h u n
set_option maxHeartbeats 4000000 in
set_option maxRecDepth 100000 in
theorem c_X5_fade (l : Launch) (D : va_G) (ad : Nat → Nat) (cI : ClassId) (σ : S9) (n : Nat) (hn : σ 0 5 = nI n) (h8 : n ≤ 8) (wk : Int32) : CMv l (mW ad cI) D [(cI, .int)] yX5_fade wsX5_fade ({ frames := 1, cells := 0, slots := 0, locals := 22 } : Room) [.ref (ad 0), .int wk] σ (fun u => u = it9 (fdS wk) n σ) := by
  refine v_startv (own := RX5) (cc := cX5_fade) (nL := 3) rfl (by decide) rfl (Nat.le_of_ble_eq_true rfl) ?_
  intro p e s m args below meth c A Q C K hend
  refine v_lv (lv' := [(0, .ref (ad 0)), (1, .int wk)]) [0, 1] rfl ?_
  refine v_iconst (v := 0) C dX5_fade_0 rfl ic_0 ?_
  refine v_istore_n (lv' := [(2, _), (0, _), (1, _)]) C dX5_fade_1 rfl 2 rfl (by decide) rfl ?_
  have LP2 : ∀ d, d ≤ n → VV p l e ({ frames := 1, cells := 0, slots := 0, locals := 22 } : Room) s m args below meth c 0 0 Q (mW ad cI) D A s.heap 3 (it9 (fdS wk) d σ) 2 [(0, .ref (ad 0)), (1, .int wk), (2, .int (nI d))] [] := by
    refine lpB9 (fun d => VV p l e ({ frames := 1, cells := 0, slots := 0, locals := 22 } : Room) s m args below meth c 0 0 Q (mW ad cI) D A s.heap 3 (it9 (fdS wk) d σ) 2 [(0, .ref (ad 0)), (1, .int wk), (2, .int (nI d))] []) n (fun d hd ih => ?_) ?_
    · skip
      refine v_iload_n C dX5_fade_2 rfl 2 2 rfl rfl ?_
      refine v_aload_n C dX5_fade_3 rfl 0 0 rfl rfl ?_
      refine v_get C K in_X5_fade_X5 0 rfl rfl 0 (by decide) fl_X5_fade_X5_0 rfl dX5_fade_4 rfl ?_
      refine v_iconst (v := 5) C dX5_fade_7 rfl ic_5 ?_
      refine v_iald C K 1 0 rfl rfl (5) (rfl) (by omega) (by decide) dX5_fade_8 rfl ?_
      refine v_top (nI n) (by rw [fd_i _ _ (by decide), hn]) ?_
      refine v_icmp_ge C 52 dX5_fade_9 (by decide) rfl (fun h9 => absurd h9 (nI_ge hd (by omega))) (fun _ => ?_)
      refine v_aload_n C dX5_fade_12 rfl 0 0 rfl rfl ?_
      refine v_get C K in_X5_fade_X5 0 rfl rfl 9 (by decide) fl_X5_fade_X5_9 rfl dX5_fade_13 rfl ?_
      refine v_iload_n C dX5_fade_16 rfl 2 2 rfl rfl ?_
      refine v_dup2 C dX5_fade_17 rfl rfl rfl ?_
      refine v_iald C K 8 0 rfl rfl (d) (rfl) (by omega) (by decide) dX5_fade_18 rfl ?_
      refine v_iload_n C dX5_fade_19 rfl 1 1 rfl rfl ?_
      refine v_aload_n C dX5_fade_20 rfl 0 0 rfl rfl ?_
      refine v_iload_n C dX5_fade_21 rfl 2 2 rfl rfl ?_
      refine v_iconst (v := 4) C dX5_fade_22 rfl ic_4 ?_
      refine v_callVid C K (c_X5_filmPart l D ad cI _ d 4 (by omega) (by decide)) gX5_fade_X5_filmPart rfl hd_X5_filmPart ⟨rfl, rfl⟩ ⟨Nat.le_of_ble_eq_true rfl, Nat.le_of_ble_eq_true rfl⟩ 0 rfl rfl rfl rfl rfl (Nat.le_of_ble_eq_true rfl) ⟨Nat.le_refl _, Nat.le_refl _⟩ dX5_fade_23 rfl ?_
      refine v_bipush (v := 7) C dX5_fade_26 rfl bp_7 ?_
      refine v_idiv C dX5_fade_28 rfl (by decide) ?_
      refine v_icmp_le C 43 dX5_fade_29 (by decide) rfl (fun h29 => ?_) (fun h29 => ?_)
      · skip
        refine v_iconst (v := 0) C dX5_fade_43 rfl ic_0 ?_
        refine v_isub C dX5_fade_44 rfl ?_
        refine v_iast C K _ 8 0 rfl rfl (d) (rfl) (by omega) (by decide) (mW_a7 ad cI _ _) dX5_fade_45 rfl ?_
        refine v_iinc (lv' := [(2, _), (0, _), (1, _)]) C dX5_fade_46 rfl 2 rfl (inc9 _) (by decide) rfl ?_
        refine v_goto C 2 dX5_fade_49 (by decide) ?_
        refine v_lv (lv' := [(0, _), (1, _), (2, _)]) [1, 2, 0] rfl ?_
        exact v9cast ih (by simp [it9, fdS, h29]) rfl rfl
      · skip
        refine v_aload_n C dX5_fade_32 rfl 0 0 rfl rfl ?_
        refine v_get C K in_X5_fade_X5 0 rfl rfl 9 (by decide) fl_X5_fade_X5_9 rfl dX5_fade_33 rfl ?_
        refine v_iload_n C dX5_fade_36 rfl 2 2 rfl rfl ?_
        refine v_iald C K 8 0 rfl rfl (d) (rfl) (by omega) (by decide) dX5_fade_37 rfl ?_
        refine v_iconst (v := 4) C dX5_fade_38 rfl ic_4 ?_
        refine v_idiv C dX5_fade_39 rfl (by decide) ?_
        refine v_goto C 44 dX5_fade_40 (by decide) ?_
        refine v_isub C dX5_fade_44 rfl ?_
        refine v_iast C K _ 8 0 rfl rfl (d) (rfl) (by omega) (by decide) (mW_a7 ad cI _ _) dX5_fade_45 rfl ?_
        refine v_iinc (lv' := [(2, _), (0, _), (1, _)]) C dX5_fade_46 rfl 2 rfl (inc9 _) (by decide) rfl ?_
        refine v_goto C 2 dX5_fade_49 (by decide) ?_
        refine v_lv (lv' := [(0, _), (1, _), (2, _)]) [1, 2, 0] rfl ?_
        exact v9cast ih (by simp [it9, fdS, h29]) rfl rfl
    · skip
      refine v_iload_n C dX5_fade_2 rfl 2 2 rfl rfl ?_
      refine v_aload_n C dX5_fade_3 rfl 0 0 rfl rfl ?_
      refine v_get C K in_X5_fade_X5 0 rfl rfl 0 (by decide) fl_X5_fade_X5_0 rfl dX5_fade_4 rfl ?_
      refine v_iconst (v := 5) C dX5_fade_7 rfl ic_5 ?_
      refine v_iald C K 1 0 rfl rfl (5) (rfl) (by omega) (by decide) dX5_fade_8 rfl ?_
      refine v_top (nI n) (by rw [fd_i _ _ (by decide), hn]) ?_
      refine v_icmp_ge C 52 dX5_fade_9 (by decide) rfl (fun _ => ?_) (fun h9 => absurd (nI_le (Nat.le_refl _) (by omega)) h9)
      exact hend (rfl) dX5_fade_52
  refine v_lv [1, 2, 0] rfl ?_
  exact LP2 0 (by omega)
theorem st9_five (U : S9) (a b c d e : Nat → Int32) : st9 (st9 (st9 (st9 (st9 U 5 a) 6 b) 5 c) 7 d) 6 e = st9 (st9 (st9 U 5 c) 7 d) 6 e := by
  funext i
  by_cases h5 : i = 5
  · subst h5
    simp [st9]
  · by_cases h6 : i = 6
    · subst h6
      simp [st9]
    · simp [st9, h5, h6]
def fp0 (f : Nat) (u : S9) : S9 := st9 u 7 (upd (u 7) f (u 0 (6 + 5 * f + 1)))
def fpS (n k : Nat) (u : S9) : S9 :=
  if u 0 (46 + k) = -6 then st9 (st9 (if k % 14 = 0 then it9 (fdS (nI (k / 14))) n u else u) 5 (upd (u 5) k 0)) 6 (upd (u 6) k (-6))
  else (fun (u1 : S9) (f : Nat) => (fun (c : Int32) => (fun (q : Int32) => st9 (st9 (st9 u1 5 (upd (u 5) k q)) 7 (upd (u1 7) f (u1 7 f - q))) 6 (upd (u 6) k (u1 7 f - q))) (if u 0 0 ≤ c then u 0 0 else c)) (u1 7 f * (if k % 2 = 0 then u 0 4 else u 0 3) / 100)) (if k % 14 = 0 then it9 (fdS (nI (k / 14))) n u else u) (u 0 (46 + k)).toNatClampNeg
theorem fp_i0 (i : Nat) (h : i ≠ 7) (u : S9) : ∀ n, it9 fp0 n u i = u i
  | 0 => rfl
  | n + 1 => by rw [it9, fp0, st9_n _ _ h]; exact fp_i0 i h u n
theorem fpS_i (n k i : Nat) (h5 : i ≠ 5) (h6 : i ≠ 6) (h7 : i ≠ 7) (u : S9) : fpS n k u i = u i := by
  have e : (if k % 14 = 0 then it9 (fdS (nI (k / 14))) n u else u) i = u i := by
    split
    · exact fd_i _ _ h7 _ _
    · rfl
  unfold fpS
  split
  · rw [st9_n _ _ h6, st9_n _ _ h5, e]
  · show st9 _ _ _ i = _
    rw [st9_n _ _ h6, st9_n _ _ h7, st9_n _ _ h5, e]
theorem fp_i (n i : Nat) (h5 : i ≠ 5) (h6 : i ≠ 6) (h7 : i ≠ 7) (u : S9) : ∀ k, it9 (fpS n) k u i = u i
  | 0 => rfl
  | k + 1 => by rw [it9, fpS_i n k i h5 h6 h7, fp_i n i h5 h6 h7 u k]
def fpM (n : Nat) (σ : S9) : S9 := it9 (fpS n) 70 (it9 fp0 8 σ)
theorem fpM_i (n i : Nat) (h5 : i ≠ 5) (h6 : i ≠ 6) (h7 : i ≠ 7) (σ : S9) : fpM n σ i = σ i := (fp_i n i h5 h6 h7 _ 70).trans (fp_i0 i h7 σ 8)
set_option maxHeartbeats 4000000 in
set_option maxRecDepth 100000 in
theorem c_X5_findPeople (l : Launch) (D : va_G) (ad : Nat → Nat) (cI : ClassId) (σ : S9) (n : Nat) (hw : wfS (σ 0) n) : CMv l (mW ad cI) D [(cI, .int)] yX5_findPeople wsX5_findPeople ({ frames := 2, cells := 0, slots := 0, locals := 44 } : Room) [.ref (ad 0)] σ (fun u => u = fpM n σ) := by
  refine v_startv (own := RX5) (cc := cX5_findPeople) (nL := 4) rfl (by decide) rfl (Nat.le_of_ble_eq_true rfl) ?_
  intro p e s m args below meth c A Q C K hend
  refine v_lv (lv' := [(0, .ref (ad 0))]) [0] rfl ?_
  refine v_iconst (v := 0) C dX5_findPeople_0 rfl ic_0 ?_
  refine v_istore_n (lv' := [(1, _), (0, _)]) C dX5_findPeople_1 rfl 1 rfl (by decide) rfl ?_
  have LP2 : ∀ d, d ≤ 8 → VV p l e ({ frames := 2, cells := 0, slots := 0, locals := 44 } : Room) s m args below meth c 0 0 Q (mW ad cI) D A s.heap 4 (it9 fp0 d σ) 2 [(0, .ref (ad 0)), (1, .int (nI d))] [] := by
    refine lpB9 (fun d => VV p l e ({ frames := 2, cells := 0, slots := 0, locals := 44 } : Room) s m args below meth c 0 0 Q (mW ad cI) D A s.heap 4 (it9 fp0 d σ) 2 [(0, .ref (ad 0)), (1, .int (nI d))] []) 8 (fun d hd ih => ?_) ?_
    · skip
      refine v_iload_n C dX5_findPeople_2 rfl 1 1 rfl rfl ?_
      refine v_bipush (v := 8) C dX5_findPeople_3 rfl bp_8 ?_
      refine v_icmp_ge C 26 dX5_findPeople_5 (by decide) rfl (fun h9 => absurd h9 (nI_ge hd (by decide))) (fun _ => ?_)
      refine v_aload_n C dX5_findPeople_8 rfl 0 0 rfl rfl ?_
      refine v_get C K in_X5_findPeople_X5 0 rfl rfl 9 (by decide) fl_X5_findPeople_X5_9 rfl dX5_findPeople_9 rfl ?_
      refine v_iload_n C dX5_findPeople_12 rfl 1 1 rfl rfl ?_
      refine v_aload_n C dX5_findPeople_13 rfl 0 0 rfl rfl ?_
      refine v_iload_n C dX5_findPeople_14 rfl 1 1 rfl rfl ?_
      refine v_iconst (v := 1) C dX5_findPeople_15 rfl ic_1 ?_
      refine v_callVid C K (c_X5_filmPart l D ad cI _ d 1 (by omega) (by decide)) gX5_findPeople_X5_filmPart rfl hd_X5_filmPart ⟨rfl, rfl⟩ ⟨Nat.le_of_ble_eq_true rfl, Nat.le_of_ble_eq_true rfl⟩ 0 rfl rfl rfl rfl rfl (Nat.le_of_ble_eq_true rfl) ⟨Nat.le_refl _, Nat.le_refl _⟩ dX5_findPeople_16 rfl ?_
      refine v_iast C K _ 8 0 rfl rfl (d) (rfl) (by omega) (by decide) (mW_a7 ad cI _ _) dX5_findPeople_19 rfl ?_
      refine v_iinc (lv' := [(1, _), (0, _)]) C dX5_findPeople_20 rfl 1 rfl (inc9 _) (by decide) rfl ?_
      refine v_goto C 2 dX5_findPeople_23 (by decide) ?_
      refine v_lv (lv' := [(0, _), (1, _)]) [1, 0] rfl ?_
      exact v9cast ih rfl rfl rfl
    · skip
      refine v_iload_n C dX5_findPeople_2 rfl 1 1 rfl rfl ?_
      refine v_bipush (v := 8) C dX5_findPeople_3 rfl bp_8 ?_
      refine v_icmp_ge C 26 dX5_findPeople_5 (by decide) rfl (fun _ => ?_) (fun h9 => absurd (nI_le (Nat.le_refl _) (by decide)) h9)
      refine v_iconst (v := 0) C dX5_findPeople_26 rfl ic_0 ?_
      refine v_istore_n (lv' := [(1, _), (0, _)]) C dX5_findPeople_27 rfl 1 rfl (by decide) rfl ?_
      have LP28 : ∀ d, d ≤ 70 → VV p l e ({ frames := 2, cells := 0, slots := 0, locals := 44 } : Room) s m args below meth c 0 0 Q (mW ad cI) D A s.heap 4 (it9 (fpS n) d (it9 fp0 8 σ)) 28 [(0, .ref (ad 0)), (1, .int (nI d))] [] := by
        refine lpB9 (fun d => VV p l e ({ frames := 2, cells := 0, slots := 0, locals := 44 } : Room) s m args below meth c 0 0 Q (mW ad cI) D A s.heap 4 (it9 (fpS n) d (it9 fp0 8 σ)) 28 [(0, .ref (ad 0)), (1, .int (nI d))] []) 70 (fun d hd ih => ?_) ?_
        · skip
          have e0 : it9 (fpS n) d (it9 fp0 8 σ) 0 = σ 0 := (fp_i n 0 (by decide) (by decide) (by decide) _ d).trans (fp_i0 0 (by decide) σ 8)
          obtain ⟨u9, hu9⟩ : ∃ u, u = it9 (fpS n) d (it9 fp0 8 σ) := ⟨_, rfl⟩
          rw [show it9 (fpS n) (d + 1) (it9 fp0 8 σ) = fpS n d (it9 (fpS n) d (it9 fp0 8 σ)) from rfl, ← hu9] at ih
          rw [← hu9] at e0 ⊢
          replace e0 : ∀ j, u9 0 j = σ 0 j := fun j => by rw [e0]
          refine v_iload_n C dX5_findPeople_28 rfl 1 1 rfl rfl ?_
          refine v_bipush (v := 70) C dX5_findPeople_29 rfl bp_70 ?_
          refine v_icmp_ge C 171 dX5_findPeople_31 (by decide) rfl (fun h9 => absurd h9 (nI_ge hd (by decide))) (fun _ => ?_)
          refine v_aload_n C dX5_findPeople_34 rfl 0 0 rfl rfl ?_
          refine v_get C K in_X5_findPeople_X5 0 rfl rfl 0 (by decide) fl_X5_findPeople_X5_0 rfl dX5_findPeople_35 rfl ?_
          refine v_bipush (v := 46) C dX5_findPeople_38 rfl bp_46 ?_
          refine v_iload_n C dX5_findPeople_40 rfl 1 1 rfl rfl ?_
          refine v_iadd C dX5_findPeople_41 rfl ?_
          refine v_iald C K 1 0 rfl rfl (46 + d) (by simp only [lit9, pk_mul, nI_add]) (by omega) (by decide) dX5_findPeople_42 rfl ?_
          refine v_top (σ 0 (46 + d)) (e0 _) ?_
          refine v_istore_n (lv' := [(2, _), (0, _), (1, _)]) C dX5_findPeople_43 rfl 2 rfl (by decide) rfl ?_
          refine v_iload_n C dX5_findPeople_44 rfl 1 2 rfl rfl ?_
          refine v_bipush (v := 14) C dX5_findPeople_45 rfl bp_14 ?_
          refine v_irem C dX5_findPeople_47 rfl (by decide) ?_
          refine v_top (nI (d % 14)) (pk_rem (by omega) (by decide) (by decide)) ?_
          refine v_if_ne C 59 dX5_findPeople_48 (by decide) rfl (fun q48 => ?_) (fun q48 => ?_)
          · skip
            have e48 : ¬ d % 14 = 0 := fun h => q48 (by rw [h]; rfl)
            refine v_aload_n C dX5_findPeople_59 rfl 0 1 rfl rfl ?_
            refine v_get C K in_X5_findPeople_X5 0 rfl rfl 7 (by decide) fl_X5_findPeople_X5_7 rfl dX5_findPeople_60 rfl ?_
            refine v_iload_n C dX5_findPeople_63 rfl 1 2 rfl rfl ?_
            refine v_iconst (v := 0) C dX5_findPeople_64 rfl ic_0 ?_
            refine v_iast C K _ 6 0 rfl rfl (d) (rfl) (by omega) (by decide) (mW_a5 ad cI _ _) dX5_findPeople_65 rfl ?_
            refine v_aload_n C dX5_findPeople_66 rfl 0 1 rfl rfl ?_
            refine v_get C K in_X5_findPeople_X5 0 rfl rfl 8 (by decide) fl_X5_findPeople_X5_8 rfl dX5_findPeople_67 rfl ?_
            refine v_iload_n C dX5_findPeople_70 rfl 1 2 rfl rfl ?_
            refine v_bipush (v := -6) C dX5_findPeople_71 rfl bp_m6 ?_
            refine v_iast C K _ 7 0 rfl rfl (d) (rfl) (by omega) (by decide) (mW_a6 ad cI _ _) dX5_findPeople_73 rfl ?_
            refine v_iload_n C dX5_findPeople_74 rfl 2 0 rfl rfl ?_
            refine v_bipush (v := -6) C dX5_findPeople_75 rfl bp_m6 ?_
            refine v_icmp_eq C 165 dX5_findPeople_77 (by decide) rfl (fun h77 => ?_) (fun h77 => ?_)
            · skip
              refine v_iinc (lv' := [(1, _), (2, _), (0, _)]) C dX5_findPeople_165 rfl 2 rfl (inc9 _) (by decide) rfl ?_
              refine v_goto C 28 dX5_findPeople_168 (by decide) ?_
              refine v_lv (lv' := [(0, _), (1, _)]) [2, 0] rfl ?_
              exact v9cast ih (by unfold fpS; simp [e0, fd_i, e48, h77, st9_n, st9_s, upd_s]) rfl rfl
            · skip
              obtain ⟨f, hf, ef⟩ := (hw.2.2 d (by omega)).resolve_left h77
              have hf8 : f < 8 := Nat.lt_of_lt_of_le hf hw.2.1
              have hnf : ¬ nI f = -6 := by
                rw [← ef]
                exact h77
              refine v_aload_n C dX5_findPeople_80 rfl 0 1 rfl rfl ?_
              refine v_get C K in_X5_findPeople_X5 0 rfl rfl 9 (by decide) fl_X5_findPeople_X5_9 rfl dX5_findPeople_81 rfl ?_
              refine v_iload_n C dX5_findPeople_84 rfl 2 0 rfl rfl ?_
              refine v_iald C K 8 0 rfl rfl (f) (ef) (by omega) (by decide) dX5_findPeople_85 rfl ?_
              refine v_iload_n C dX5_findPeople_86 rfl 1 2 rfl rfl ?_
              refine v_iconst (v := 2) C dX5_findPeople_87 rfl ic_2 ?_
              refine v_irem C dX5_findPeople_88 rfl (by decide) ?_
              refine v_top (nI (d % 2)) (pk_rem (by omega) (by decide) (by decide)) ?_
              refine v_if_ne C 101 dX5_findPeople_89 (by decide) rfl (fun q89 => ?_) (fun q89 => ?_)
              · skip
                have e89 : ¬ d % 2 = 0 := fun h => q89 (by rw [h]; rfl)
                refine v_aload_n C dX5_findPeople_101 rfl 0 1 rfl rfl ?_
                refine v_get C K in_X5_findPeople_X5 0 rfl rfl 0 (by decide) fl_X5_findPeople_X5_0 rfl dX5_findPeople_102 rfl ?_
                refine v_iconst (v := 3) C dX5_findPeople_105 rfl ic_3 ?_
                refine v_iald C K 1 0 rfl rfl (3) (rfl) (by omega) (by decide) dX5_findPeople_106 rfl ?_
                refine v_imul C dX5_findPeople_107 rfl ?_
                refine v_bipush (v := 100) C dX5_findPeople_108 rfl bp_100 ?_
                refine v_idiv C dX5_findPeople_110 rfl (by decide) ?_
                refine v_istore_n (lv' := [(3, _), (2, _), (0, _), (1, _)]) C dX5_findPeople_111 rfl 3 rfl (by decide) rfl ?_
                refine v_aload_n C dX5_findPeople_112 rfl 0 2 rfl rfl ?_
                refine v_get C K in_X5_findPeople_X5 0 rfl rfl 7 (by decide) fl_X5_findPeople_X5_7 rfl dX5_findPeople_113 rfl ?_
                refine v_iload_n C dX5_findPeople_116 rfl 1 3 rfl rfl ?_
                refine v_iload_n C dX5_findPeople_117 rfl 3 0 rfl rfl ?_
                refine v_aload_n C dX5_findPeople_118 rfl 0 2 rfl rfl ?_
                refine v_get C K in_X5_findPeople_X5 0 rfl rfl 0 (by decide) fl_X5_findPeople_X5_0 rfl dX5_findPeople_119 rfl ?_
                refine v_iconst (v := 0) C dX5_findPeople_122 rfl ic_0 ?_
                refine v_iald C K 1 0 rfl rfl (0) (rfl) (by omega) (by decide) dX5_findPeople_123 rfl ?_
                refine v_icmp_ge C 131 dX5_findPeople_124 (by decide) rfl (fun h124 => ?_) (fun h124 => ?_)
                · skip
                  refine v_aload_n C dX5_findPeople_131 rfl 0 2 rfl rfl ?_
                  refine v_get C K in_X5_findPeople_X5 0 rfl rfl 0 (by decide) fl_X5_findPeople_X5_0 rfl dX5_findPeople_132 rfl ?_
                  refine v_iconst (v := 0) C dX5_findPeople_135 rfl ic_0 ?_
                  refine v_iald C K 1 0 rfl rfl (0) (rfl) (by omega) (by decide) dX5_findPeople_136 rfl ?_
                  refine v_iast C K _ 6 0 rfl rfl (d) (rfl) (by omega) (by decide) (mW_a5 ad cI _ _) dX5_findPeople_137 rfl ?_
                  refine v_aload_n C dX5_findPeople_138 rfl 0 2 rfl rfl ?_
                  refine v_get C K in_X5_findPeople_X5 0 rfl rfl 9 (by decide) fl_X5_findPeople_X5_9 rfl dX5_findPeople_139 rfl ?_
                  refine v_iload_n C dX5_findPeople_142 rfl 2 1 rfl rfl ?_
                  refine v_dup2 C dX5_findPeople_143 rfl rfl rfl ?_
                  refine v_iald C K 8 0 rfl rfl (f) (ef) (by omega) (by decide) dX5_findPeople_144 rfl ?_
                  refine v_aload_n C dX5_findPeople_145 rfl 0 2 rfl rfl ?_
                  refine v_get C K in_X5_findPeople_X5 0 rfl rfl 7 (by decide) fl_X5_findPeople_X5_7 rfl dX5_findPeople_146 rfl ?_
                  refine v_iload_n C dX5_findPeople_149 rfl 1 3 rfl rfl ?_
                  refine v_iald C K 6 0 rfl rfl (d) (rfl) (by omega) (by decide) dX5_findPeople_150 rfl ?_
                  refine v_isub C dX5_findPeople_151 rfl ?_
                  refine v_iast C K _ 8 0 rfl rfl (f) (ef) (by omega) (by decide) (mW_a7 ad cI _ _) dX5_findPeople_152 rfl ?_
                  refine v_aload_n C dX5_findPeople_153 rfl 0 2 rfl rfl ?_
                  refine v_get C K in_X5_findPeople_X5 0 rfl rfl 8 (by decide) fl_X5_findPeople_X5_8 rfl dX5_findPeople_154 rfl ?_
                  refine v_iload_n C dX5_findPeople_157 rfl 1 3 rfl rfl ?_
                  refine v_aload_n C dX5_findPeople_158 rfl 0 2 rfl rfl ?_
                  refine v_get C K in_X5_findPeople_X5 0 rfl rfl 9 (by decide) fl_X5_findPeople_X5_9 rfl dX5_findPeople_159 rfl ?_
                  refine v_iload_n C dX5_findPeople_162 rfl 2 1 rfl rfl ?_
                  refine v_iald C K 8 0 rfl rfl (f) (ef) (by omega) (by decide) dX5_findPeople_163 rfl ?_
                  refine v_iast C K _ 7 0 rfl rfl (d) (rfl) (by omega) (by decide) (mW_a6 ad cI _ _) dX5_findPeople_164 rfl ?_
                  refine v_iinc (lv' := [(1, _), (3, _), (2, _), (0, _)]) C dX5_findPeople_165 rfl 3 rfl (inc9 _) (by decide) rfl ?_
                  refine v_goto C 28 dX5_findPeople_168 (by decide) ?_
                  refine v_lv (lv' := [(0, _), (1, _)]) [3, 0] rfl ?_
                  exact v9cast ih (by unfold fpS; simp [e0, fd_i, e48, e89, ef, hnf, nI_cl (show f < 100000 by omega), st9_n, st9_s, st9_tw, st9_five, upd_s, upd_tw] at h124 ⊢; first | (simp [h124]; done) | (have h9 := Int32.not_le.mpr h124; simp [h9])) rfl rfl
                · skip
                  refine v_iload_n C dX5_findPeople_127 rfl 3 0 rfl rfl ?_
                  refine v_goto C 137 dX5_findPeople_128 (by decide) ?_
                  refine v_iast C K _ 6 0 rfl rfl (d) (rfl) (by omega) (by decide) (mW_a5 ad cI _ _) dX5_findPeople_137 rfl ?_
                  refine v_aload_n C dX5_findPeople_138 rfl 0 2 rfl rfl ?_
                  refine v_get C K in_X5_findPeople_X5 0 rfl rfl 9 (by decide) fl_X5_findPeople_X5_9 rfl dX5_findPeople_139 rfl ?_
                  refine v_iload_n C dX5_findPeople_142 rfl 2 1 rfl rfl ?_
                  refine v_dup2 C dX5_findPeople_143 rfl rfl rfl ?_
                  refine v_iald C K 8 0 rfl rfl (f) (ef) (by omega) (by decide) dX5_findPeople_144 rfl ?_
                  refine v_aload_n C dX5_findPeople_145 rfl 0 2 rfl rfl ?_
                  refine v_get C K in_X5_findPeople_X5 0 rfl rfl 7 (by decide) fl_X5_findPeople_X5_7 rfl dX5_findPeople_146 rfl ?_
                  refine v_iload_n C dX5_findPeople_149 rfl 1 3 rfl rfl ?_
                  refine v_iald C K 6 0 rfl rfl (d) (rfl) (by omega) (by decide) dX5_findPeople_150 rfl ?_
                  refine v_isub C dX5_findPeople_151 rfl ?_
                  refine v_iast C K _ 8 0 rfl rfl (f) (ef) (by omega) (by decide) (mW_a7 ad cI _ _) dX5_findPeople_152 rfl ?_
                  refine v_aload_n C dX5_findPeople_153 rfl 0 2 rfl rfl ?_
                  refine v_get C K in_X5_findPeople_X5 0 rfl rfl 8 (by decide) fl_X5_findPeople_X5_8 rfl dX5_findPeople_154 rfl ?_
                  refine v_iload_n C dX5_findPeople_157 rfl 1 3 rfl rfl ?_
                  refine v_aload_n C dX5_findPeople_158 rfl 0 2 rfl rfl ?_
                  refine v_get C K in_X5_findPeople_X5 0 rfl rfl 9 (by decide) fl_X5_findPeople_X5_9 rfl dX5_findPeople_159 rfl ?_
                  refine v_iload_n C dX5_findPeople_162 rfl 2 1 rfl rfl ?_
                  refine v_iald C K 8 0 rfl rfl (f) (ef) (by omega) (by decide) dX5_findPeople_163 rfl ?_
                  refine v_iast C K _ 7 0 rfl rfl (d) (rfl) (by omega) (by decide) (mW_a6 ad cI _ _) dX5_findPeople_164 rfl ?_
                  refine v_iinc (lv' := [(1, _), (3, _), (2, _), (0, _)]) C dX5_findPeople_165 rfl 3 rfl (inc9 _) (by decide) rfl ?_
                  refine v_goto C 28 dX5_findPeople_168 (by decide) ?_
                  refine v_lv (lv' := [(0, _), (1, _)]) [3, 0] rfl ?_
                  exact v9cast ih (by unfold fpS; simp [e0, fd_i, e48, e89, ef, hnf, nI_cl (show f < 100000 by omega), st9_n, st9_s, st9_tw, st9_five, upd_s, upd_tw] at h124 ⊢; first | (simp [h124]; done) | (have h9 := Int32.not_le.mpr h124; simp [h9])) rfl rfl
              · skip
                have e89 : d % 2 = 0 := (nI_eq (by omega) (by decide)).mp q89
                refine v_aload_n C dX5_findPeople_92 rfl 0 1 rfl rfl ?_
                refine v_get C K in_X5_findPeople_X5 0 rfl rfl 0 (by decide) fl_X5_findPeople_X5_0 rfl dX5_findPeople_93 rfl ?_
                refine v_iconst (v := 4) C dX5_findPeople_96 rfl ic_4 ?_
                refine v_iald C K 1 0 rfl rfl (4) (rfl) (by omega) (by decide) dX5_findPeople_97 rfl ?_
                refine v_goto C 107 dX5_findPeople_98 (by decide) ?_
                refine v_imul C dX5_findPeople_107 rfl ?_
                refine v_bipush (v := 100) C dX5_findPeople_108 rfl bp_100 ?_
                refine v_idiv C dX5_findPeople_110 rfl (by decide) ?_
                refine v_istore_n (lv' := [(3, _), (2, _), (0, _), (1, _)]) C dX5_findPeople_111 rfl 3 rfl (by decide) rfl ?_
                refine v_aload_n C dX5_findPeople_112 rfl 0 2 rfl rfl ?_
                refine v_get C K in_X5_findPeople_X5 0 rfl rfl 7 (by decide) fl_X5_findPeople_X5_7 rfl dX5_findPeople_113 rfl ?_
                refine v_iload_n C dX5_findPeople_116 rfl 1 3 rfl rfl ?_
                refine v_iload_n C dX5_findPeople_117 rfl 3 0 rfl rfl ?_
                refine v_aload_n C dX5_findPeople_118 rfl 0 2 rfl rfl ?_
                refine v_get C K in_X5_findPeople_X5 0 rfl rfl 0 (by decide) fl_X5_findPeople_X5_0 rfl dX5_findPeople_119 rfl ?_
                refine v_iconst (v := 0) C dX5_findPeople_122 rfl ic_0 ?_
                refine v_iald C K 1 0 rfl rfl (0) (rfl) (by omega) (by decide) dX5_findPeople_123 rfl ?_
                refine v_icmp_ge C 131 dX5_findPeople_124 (by decide) rfl (fun h124 => ?_) (fun h124 => ?_)
                · skip
                  refine v_aload_n C dX5_findPeople_131 rfl 0 2 rfl rfl ?_
                  refine v_get C K in_X5_findPeople_X5 0 rfl rfl 0 (by decide) fl_X5_findPeople_X5_0 rfl dX5_findPeople_132 rfl ?_
                  refine v_iconst (v := 0) C dX5_findPeople_135 rfl ic_0 ?_
                  refine v_iald C K 1 0 rfl rfl (0) (rfl) (by omega) (by decide) dX5_findPeople_136 rfl ?_
                  refine v_iast C K _ 6 0 rfl rfl (d) (rfl) (by omega) (by decide) (mW_a5 ad cI _ _) dX5_findPeople_137 rfl ?_
                  refine v_aload_n C dX5_findPeople_138 rfl 0 2 rfl rfl ?_
                  refine v_get C K in_X5_findPeople_X5 0 rfl rfl 9 (by decide) fl_X5_findPeople_X5_9 rfl dX5_findPeople_139 rfl ?_
                  refine v_iload_n C dX5_findPeople_142 rfl 2 1 rfl rfl ?_
                  refine v_dup2 C dX5_findPeople_143 rfl rfl rfl ?_
                  refine v_iald C K 8 0 rfl rfl (f) (ef) (by omega) (by decide) dX5_findPeople_144 rfl ?_
                  refine v_aload_n C dX5_findPeople_145 rfl 0 2 rfl rfl ?_
                  refine v_get C K in_X5_findPeople_X5 0 rfl rfl 7 (by decide) fl_X5_findPeople_X5_7 rfl dX5_findPeople_146 rfl ?_
                  refine v_iload_n C dX5_findPeople_149 rfl 1 3 rfl rfl ?_
                  refine v_iald C K 6 0 rfl rfl (d) (rfl) (by omega) (by decide) dX5_findPeople_150 rfl ?_
                  refine v_isub C dX5_findPeople_151 rfl ?_
                  refine v_iast C K _ 8 0 rfl rfl (f) (ef) (by omega) (by decide) (mW_a7 ad cI _ _) dX5_findPeople_152 rfl ?_
                  refine v_aload_n C dX5_findPeople_153 rfl 0 2 rfl rfl ?_
                  refine v_get C K in_X5_findPeople_X5 0 rfl rfl 8 (by decide) fl_X5_findPeople_X5_8 rfl dX5_findPeople_154 rfl ?_
                  refine v_iload_n C dX5_findPeople_157 rfl 1 3 rfl rfl ?_
                  refine v_aload_n C dX5_findPeople_158 rfl 0 2 rfl rfl ?_
                  refine v_get C K in_X5_findPeople_X5 0 rfl rfl 9 (by decide) fl_X5_findPeople_X5_9 rfl dX5_findPeople_159 rfl ?_
                  refine v_iload_n C dX5_findPeople_162 rfl 2 1 rfl rfl ?_
                  refine v_iald C K 8 0 rfl rfl (f) (ef) (by omega) (by decide) dX5_findPeople_163 rfl ?_
                  refine v_iast C K _ 7 0 rfl rfl (d) (rfl) (by omega) (by decide) (mW_a6 ad cI _ _) dX5_findPeople_164 rfl ?_
                  refine v_iinc (lv' := [(1, _), (3, _), (2, _), (0, _)]) C dX5_findPeople_165 rfl 3 rfl (inc9 _) (by decide) rfl ?_
                  refine v_goto C 28 dX5_findPeople_168 (by decide) ?_
                  refine v_lv (lv' := [(0, _), (1, _)]) [3, 0] rfl ?_
                  exact v9cast ih (by unfold fpS; simp [e0, fd_i, e48, e89, ef, hnf, nI_cl (show f < 100000 by omega), st9_n, st9_s, st9_tw, st9_five, upd_s, upd_tw] at h124 ⊢; first | (simp [h124]; done) | (have h9 := Int32.not_le.mpr h124; simp [h9])) rfl rfl
                · skip
                  refine v_iload_n C dX5_findPeople_127 rfl 3 0 rfl rfl ?_
                  refine v_goto C 137 dX5_findPeople_128 (by decide) ?_
                  refine v_iast C K _ 6 0 rfl rfl (d) (rfl) (by omega) (by decide) (mW_a5 ad cI _ _) dX5_findPeople_137 rfl ?_
                  refine v_aload_n C dX5_findPeople_138 rfl 0 2 rfl rfl ?_
                  refine v_get C K in_X5_findPeople_X5 0 rfl rfl 9 (by decide) fl_X5_findPeople_X5_9 rfl dX5_findPeople_139 rfl ?_
                  refine v_iload_n C dX5_findPeople_142 rfl 2 1 rfl rfl ?_
                  refine v_dup2 C dX5_findPeople_143 rfl rfl rfl ?_
                  refine v_iald C K 8 0 rfl rfl (f) (ef) (by omega) (by decide) dX5_findPeople_144 rfl ?_
                  refine v_aload_n C dX5_findPeople_145 rfl 0 2 rfl rfl ?_
                  refine v_get C K in_X5_findPeople_X5 0 rfl rfl 7 (by decide) fl_X5_findPeople_X5_7 rfl dX5_findPeople_146 rfl ?_
                  refine v_iload_n C dX5_findPeople_149 rfl 1 3 rfl rfl ?_
                  refine v_iald C K 6 0 rfl rfl (d) (rfl) (by omega) (by decide) dX5_findPeople_150 rfl ?_
                  refine v_isub C dX5_findPeople_151 rfl ?_
                  refine v_iast C K _ 8 0 rfl rfl (f) (ef) (by omega) (by decide) (mW_a7 ad cI _ _) dX5_findPeople_152 rfl ?_
                  refine v_aload_n C dX5_findPeople_153 rfl 0 2 rfl rfl ?_
                  refine v_get C K in_X5_findPeople_X5 0 rfl rfl 8 (by decide) fl_X5_findPeople_X5_8 rfl dX5_findPeople_154 rfl ?_
                  refine v_iload_n C dX5_findPeople_157 rfl 1 3 rfl rfl ?_
                  refine v_aload_n C dX5_findPeople_158 rfl 0 2 rfl rfl ?_
                  refine v_get C K in_X5_findPeople_X5 0 rfl rfl 9 (by decide) fl_X5_findPeople_X5_9 rfl dX5_findPeople_159 rfl ?_
                  refine v_iload_n C dX5_findPeople_162 rfl 2 1 rfl rfl ?_
                  refine v_iald C K 8 0 rfl rfl (f) (ef) (by omega) (by decide) dX5_findPeople_163 rfl ?_
                  refine v_iast C K _ 7 0 rfl rfl (d) (rfl) (by omega) (by decide) (mW_a6 ad cI _ _) dX5_findPeople_164 rfl ?_
                  refine v_iinc (lv' := [(1, _), (3, _), (2, _), (0, _)]) C dX5_findPeople_165 rfl 3 rfl (inc9 _) (by decide) rfl ?_
                  refine v_goto C 28 dX5_findPeople_168 (by decide) ?_
                  refine v_lv (lv' := [(0, _), (1, _)]) [3, 0] rfl ?_
                  exact v9cast ih (by unfold fpS; simp [e0, fd_i, e48, e89, ef, hnf, nI_cl (show f < 100000 by omega), st9_n, st9_s, st9_tw, st9_five, upd_s, upd_tw] at h124 ⊢; first | (simp [h124]; done) | (have h9 := Int32.not_le.mpr h124; simp [h9])) rfl rfl
          · skip
            have e48 : d % 14 = 0 := (nI_eq (by omega) (by decide)).mp q48
            refine v_aload_n C dX5_findPeople_51 rfl 0 1 rfl rfl ?_
            refine v_iload_n C dX5_findPeople_52 rfl 1 2 rfl rfl ?_
            refine v_bipush (v := 14) C dX5_findPeople_53 rfl bp_14 ?_
            refine v_idiv C dX5_findPeople_55 rfl (by decide) ?_
            refine v_top (nI (d / 14)) (pk_div (by omega) (by decide) (by decide)) ?_
            refine v_callVvd C K (c_X5_fade l D ad cI _ n ((e0 5).trans hw.1) hw.2.1 _) gX5_findPeople_X5_fade rfl hd_X5_fade ⟨rfl, rfl⟩ ⟨Nat.le_of_ble_eq_true rfl, Nat.le_of_ble_eq_true rfl⟩ 0 rfl rfl rfl rfl rfl (Nat.le_of_ble_eq_true rfl) ⟨Nat.le_refl _, Nat.le_refl _⟩ dX5_findPeople_56 rfl ?_
            refine v_aload_n C dX5_findPeople_59 rfl 0 1 rfl rfl ?_
            refine v_get C K in_X5_findPeople_X5 0 rfl rfl 7 (by decide) fl_X5_findPeople_X5_7 rfl dX5_findPeople_60 rfl ?_
            refine v_iload_n C dX5_findPeople_63 rfl 1 2 rfl rfl ?_
            refine v_iconst (v := 0) C dX5_findPeople_64 rfl ic_0 ?_
            refine v_iast C K _ 6 0 rfl rfl (d) (rfl) (by omega) (by decide) (mW_a5 ad cI _ _) dX5_findPeople_65 rfl ?_
            refine v_aload_n C dX5_findPeople_66 rfl 0 1 rfl rfl ?_
            refine v_get C K in_X5_findPeople_X5 0 rfl rfl 8 (by decide) fl_X5_findPeople_X5_8 rfl dX5_findPeople_67 rfl ?_
            refine v_iload_n C dX5_findPeople_70 rfl 1 2 rfl rfl ?_
            refine v_bipush (v := -6) C dX5_findPeople_71 rfl bp_m6 ?_
            refine v_iast C K _ 7 0 rfl rfl (d) (rfl) (by omega) (by decide) (mW_a6 ad cI _ _) dX5_findPeople_73 rfl ?_
            refine v_iload_n C dX5_findPeople_74 rfl 2 0 rfl rfl ?_
            refine v_bipush (v := -6) C dX5_findPeople_75 rfl bp_m6 ?_
            refine v_icmp_eq C 165 dX5_findPeople_77 (by decide) rfl (fun h77 => ?_) (fun h77 => ?_)
            · skip
              refine v_iinc (lv' := [(1, _), (2, _), (0, _)]) C dX5_findPeople_165 rfl 2 rfl (inc9 _) (by decide) rfl ?_
              refine v_goto C 28 dX5_findPeople_168 (by decide) ?_
              refine v_lv (lv' := [(0, _), (1, _)]) [2, 0] rfl ?_
              exact v9cast ih (by unfold fpS; simp [e0, fd_i, e48, h77, st9_n, st9_s, upd_s]) rfl rfl
            · skip
              obtain ⟨f, hf, ef⟩ := (hw.2.2 d (by omega)).resolve_left h77
              have hf8 : f < 8 := Nat.lt_of_lt_of_le hf hw.2.1
              have hnf : ¬ nI f = -6 := by
                rw [← ef]
                exact h77
              refine v_aload_n C dX5_findPeople_80 rfl 0 1 rfl rfl ?_
              refine v_get C K in_X5_findPeople_X5 0 rfl rfl 9 (by decide) fl_X5_findPeople_X5_9 rfl dX5_findPeople_81 rfl ?_
              refine v_iload_n C dX5_findPeople_84 rfl 2 0 rfl rfl ?_
              refine v_iald C K 8 0 rfl rfl (f) (ef) (by omega) (by decide) dX5_findPeople_85 rfl ?_
              refine v_iload_n C dX5_findPeople_86 rfl 1 2 rfl rfl ?_
              refine v_iconst (v := 2) C dX5_findPeople_87 rfl ic_2 ?_
              refine v_irem C dX5_findPeople_88 rfl (by decide) ?_
              refine v_top (nI (d % 2)) (pk_rem (by omega) (by decide) (by decide)) ?_
              refine v_if_ne C 101 dX5_findPeople_89 (by decide) rfl (fun q89 => ?_) (fun q89 => ?_)
              · skip
                have e89 : ¬ d % 2 = 0 := fun h => q89 (by rw [h]; rfl)
                refine v_aload_n C dX5_findPeople_101 rfl 0 1 rfl rfl ?_
                refine v_get C K in_X5_findPeople_X5 0 rfl rfl 0 (by decide) fl_X5_findPeople_X5_0 rfl dX5_findPeople_102 rfl ?_
                refine v_iconst (v := 3) C dX5_findPeople_105 rfl ic_3 ?_
                refine v_iald C K 1 0 rfl rfl (3) (rfl) (by omega) (by decide) dX5_findPeople_106 rfl ?_
                refine v_imul C dX5_findPeople_107 rfl ?_
                refine v_bipush (v := 100) C dX5_findPeople_108 rfl bp_100 ?_
                refine v_idiv C dX5_findPeople_110 rfl (by decide) ?_
                refine v_istore_n (lv' := [(3, _), (2, _), (0, _), (1, _)]) C dX5_findPeople_111 rfl 3 rfl (by decide) rfl ?_
                refine v_aload_n C dX5_findPeople_112 rfl 0 2 rfl rfl ?_
                refine v_get C K in_X5_findPeople_X5 0 rfl rfl 7 (by decide) fl_X5_findPeople_X5_7 rfl dX5_findPeople_113 rfl ?_
                refine v_iload_n C dX5_findPeople_116 rfl 1 3 rfl rfl ?_
                refine v_iload_n C dX5_findPeople_117 rfl 3 0 rfl rfl ?_
                refine v_aload_n C dX5_findPeople_118 rfl 0 2 rfl rfl ?_
                refine v_get C K in_X5_findPeople_X5 0 rfl rfl 0 (by decide) fl_X5_findPeople_X5_0 rfl dX5_findPeople_119 rfl ?_
                refine v_iconst (v := 0) C dX5_findPeople_122 rfl ic_0 ?_
                refine v_iald C K 1 0 rfl rfl (0) (rfl) (by omega) (by decide) dX5_findPeople_123 rfl ?_
                refine v_icmp_ge C 131 dX5_findPeople_124 (by decide) rfl (fun h124 => ?_) (fun h124 => ?_)
                · skip
                  refine v_aload_n C dX5_findPeople_131 rfl 0 2 rfl rfl ?_
                  refine v_get C K in_X5_findPeople_X5 0 rfl rfl 0 (by decide) fl_X5_findPeople_X5_0 rfl dX5_findPeople_132 rfl ?_
                  refine v_iconst (v := 0) C dX5_findPeople_135 rfl ic_0 ?_
                  refine v_iald C K 1 0 rfl rfl (0) (rfl) (by omega) (by decide) dX5_findPeople_136 rfl ?_
                  refine v_iast C K _ 6 0 rfl rfl (d) (rfl) (by omega) (by decide) (mW_a5 ad cI _ _) dX5_findPeople_137 rfl ?_
                  refine v_aload_n C dX5_findPeople_138 rfl 0 2 rfl rfl ?_
                  refine v_get C K in_X5_findPeople_X5 0 rfl rfl 9 (by decide) fl_X5_findPeople_X5_9 rfl dX5_findPeople_139 rfl ?_
                  refine v_iload_n C dX5_findPeople_142 rfl 2 1 rfl rfl ?_
                  refine v_dup2 C dX5_findPeople_143 rfl rfl rfl ?_
                  refine v_iald C K 8 0 rfl rfl (f) (ef) (by omega) (by decide) dX5_findPeople_144 rfl ?_
                  refine v_aload_n C dX5_findPeople_145 rfl 0 2 rfl rfl ?_
                  refine v_get C K in_X5_findPeople_X5 0 rfl rfl 7 (by decide) fl_X5_findPeople_X5_7 rfl dX5_findPeople_146 rfl ?_
                  refine v_iload_n C dX5_findPeople_149 rfl 1 3 rfl rfl ?_
                  refine v_iald C K 6 0 rfl rfl (d) (rfl) (by omega) (by decide) dX5_findPeople_150 rfl ?_
                  refine v_isub C dX5_findPeople_151 rfl ?_
                  refine v_iast C K _ 8 0 rfl rfl (f) (ef) (by omega) (by decide) (mW_a7 ad cI _ _) dX5_findPeople_152 rfl ?_
                  refine v_aload_n C dX5_findPeople_153 rfl 0 2 rfl rfl ?_
                  refine v_get C K in_X5_findPeople_X5 0 rfl rfl 8 (by decide) fl_X5_findPeople_X5_8 rfl dX5_findPeople_154 rfl ?_
                  refine v_iload_n C dX5_findPeople_157 rfl 1 3 rfl rfl ?_
                  refine v_aload_n C dX5_findPeople_158 rfl 0 2 rfl rfl ?_
                  refine v_get C K in_X5_findPeople_X5 0 rfl rfl 9 (by decide) fl_X5_findPeople_X5_9 rfl dX5_findPeople_159 rfl ?_
                  refine v_iload_n C dX5_findPeople_162 rfl 2 1 rfl rfl ?_
                  refine v_iald C K 8 0 rfl rfl (f) (ef) (by omega) (by decide) dX5_findPeople_163 rfl ?_
                  refine v_iast C K _ 7 0 rfl rfl (d) (rfl) (by omega) (by decide) (mW_a6 ad cI _ _) dX5_findPeople_164 rfl ?_
                  refine v_iinc (lv' := [(1, _), (3, _), (2, _), (0, _)]) C dX5_findPeople_165 rfl 3 rfl (inc9 _) (by decide) rfl ?_
                  refine v_goto C 28 dX5_findPeople_168 (by decide) ?_
                  refine v_lv (lv' := [(0, _), (1, _)]) [3, 0] rfl ?_
                  exact v9cast ih (by unfold fpS; simp [e0, fd_i, e48, e89, ef, hnf, nI_cl (show f < 100000 by omega), st9_n, st9_s, st9_tw, st9_five, upd_s, upd_tw] at h124 ⊢; first | (simp [h124]; done) | (have h9 := Int32.not_le.mpr h124; simp [h9])) rfl rfl
                · skip
                  refine v_iload_n C dX5_findPeople_127 rfl 3 0 rfl rfl ?_
                  refine v_goto C 137 dX5_findPeople_128 (by decide) ?_
                  refine v_iast C K _ 6 0 rfl rfl (d) (rfl) (by omega) (by decide) (mW_a5 ad cI _ _) dX5_findPeople_137 rfl ?_
                  refine v_aload_n C dX5_findPeople_138 rfl 0 2 rfl rfl ?_
                  refine v_get C K in_X5_findPeople_X5 0 rfl rfl 9 (by decide) fl_X5_findPeople_X5_9 rfl dX5_findPeople_139 rfl ?_
                  refine v_iload_n C dX5_findPeople_142 rfl 2 1 rfl rfl ?_
                  refine v_dup2 C dX5_findPeople_143 rfl rfl rfl ?_
                  refine v_iald C K 8 0 rfl rfl (f) (ef) (by omega) (by decide) dX5_findPeople_144 rfl ?_
                  refine v_aload_n C dX5_findPeople_145 rfl 0 2 rfl rfl ?_
                  refine v_get C K in_X5_findPeople_X5 0 rfl rfl 7 (by decide) fl_X5_findPeople_X5_7 rfl dX5_findPeople_146 rfl ?_
                  refine v_iload_n C dX5_findPeople_149 rfl 1 3 rfl rfl ?_
                  refine v_iald C K 6 0 rfl rfl (d) (rfl) (by omega) (by decide) dX5_findPeople_150 rfl ?_
                  refine v_isub C dX5_findPeople_151 rfl ?_
                  refine v_iast C K _ 8 0 rfl rfl (f) (ef) (by omega) (by decide) (mW_a7 ad cI _ _) dX5_findPeople_152 rfl ?_
                  refine v_aload_n C dX5_findPeople_153 rfl 0 2 rfl rfl ?_
                  refine v_get C K in_X5_findPeople_X5 0 rfl rfl 8 (by decide) fl_X5_findPeople_X5_8 rfl dX5_findPeople_154 rfl ?_
                  refine v_iload_n C dX5_findPeople_157 rfl 1 3 rfl rfl ?_
                  refine v_aload_n C dX5_findPeople_158 rfl 0 2 rfl rfl ?_
                  refine v_get C K in_X5_findPeople_X5 0 rfl rfl 9 (by decide) fl_X5_findPeople_X5_9 rfl dX5_findPeople_159 rfl ?_
                  refine v_iload_n C dX5_findPeople_162 rfl 2 1 rfl rfl ?_
                  refine v_iald C K 8 0 rfl rfl (f) (ef) (by omega) (by decide) dX5_findPeople_163 rfl ?_
                  refine v_iast C K _ 7 0 rfl rfl (d) (rfl) (by omega) (by decide) (mW_a6 ad cI _ _) dX5_findPeople_164 rfl ?_
                  refine v_iinc (lv' := [(1, _), (3, _), (2, _), (0, _)]) C dX5_findPeople_165 rfl 3 rfl (inc9 _) (by decide) rfl ?_
                  refine v_goto C 28 dX5_findPeople_168 (by decide) ?_
                  refine v_lv (lv' := [(0, _), (1, _)]) [3, 0] rfl ?_
                  exact v9cast ih (by unfold fpS; simp [e0, fd_i, e48, e89, ef, hnf, nI_cl (show f < 100000 by omega), st9_n, st9_s, st9_tw, st9_five, upd_s, upd_tw] at h124 ⊢; first | (simp [h124]; done) | (have h9 := Int32.not_le.mpr h124; simp [h9])) rfl rfl
              · skip
                have e89 : d % 2 = 0 := (nI_eq (by omega) (by decide)).mp q89
                refine v_aload_n C dX5_findPeople_92 rfl 0 1 rfl rfl ?_
                refine v_get C K in_X5_findPeople_X5 0 rfl rfl 0 (by decide) fl_X5_findPeople_X5_0 rfl dX5_findPeople_93 rfl ?_
                refine v_iconst (v := 4) C dX5_findPeople_96 rfl ic_4 ?_
                refine v_iald C K 1 0 rfl rfl (4) (rfl) (by omega) (by decide) dX5_findPeople_97 rfl ?_
                refine v_goto C 107 dX5_findPeople_98 (by decide) ?_
                refine v_imul C dX5_findPeople_107 rfl ?_
                refine v_bipush (v := 100) C dX5_findPeople_108 rfl bp_100 ?_
                refine v_idiv C dX5_findPeople_110 rfl (by decide) ?_
                refine v_istore_n (lv' := [(3, _), (2, _), (0, _), (1, _)]) C dX5_findPeople_111 rfl 3 rfl (by decide) rfl ?_
                refine v_aload_n C dX5_findPeople_112 rfl 0 2 rfl rfl ?_
                refine v_get C K in_X5_findPeople_X5 0 rfl rfl 7 (by decide) fl_X5_findPeople_X5_7 rfl dX5_findPeople_113 rfl ?_
                refine v_iload_n C dX5_findPeople_116 rfl 1 3 rfl rfl ?_
                refine v_iload_n C dX5_findPeople_117 rfl 3 0 rfl rfl ?_
                refine v_aload_n C dX5_findPeople_118 rfl 0 2 rfl rfl ?_
                refine v_get C K in_X5_findPeople_X5 0 rfl rfl 0 (by decide) fl_X5_findPeople_X5_0 rfl dX5_findPeople_119 rfl ?_
                refine v_iconst (v := 0) C dX5_findPeople_122 rfl ic_0 ?_
                refine v_iald C K 1 0 rfl rfl (0) (rfl) (by omega) (by decide) dX5_findPeople_123 rfl ?_
                refine v_icmp_ge C 131 dX5_findPeople_124 (by decide) rfl (fun h124 => ?_) (fun h124 => ?_)
                · skip
                  refine v_aload_n C dX5_findPeople_131 rfl 0 2 rfl rfl ?_
                  refine v_get C K in_X5_findPeople_X5 0 rfl rfl 0 (by decide) fl_X5_findPeople_X5_0 rfl dX5_findPeople_132 rfl ?_
                  refine v_iconst (v := 0) C dX5_findPeople_135 rfl ic_0 ?_
                  refine v_iald C K 1 0 rfl rfl (0) (rfl) (by omega) (by decide) dX5_findPeople_136 rfl ?_
                  refine v_iast C K _ 6 0 rfl rfl (d) (rfl) (by omega) (by decide) (mW_a5 ad cI _ _) dX5_findPeople_137 rfl ?_
                  refine v_aload_n C dX5_findPeople_138 rfl 0 2 rfl rfl ?_
                  refine v_get C K in_X5_findPeople_X5 0 rfl rfl 9 (by decide) fl_X5_findPeople_X5_9 rfl dX5_findPeople_139 rfl ?_
                  refine v_iload_n C dX5_findPeople_142 rfl 2 1 rfl rfl ?_
                  refine v_dup2 C dX5_findPeople_143 rfl rfl rfl ?_
                  refine v_iald C K 8 0 rfl rfl (f) (ef) (by omega) (by decide) dX5_findPeople_144 rfl ?_
                  refine v_aload_n C dX5_findPeople_145 rfl 0 2 rfl rfl ?_
                  refine v_get C K in_X5_findPeople_X5 0 rfl rfl 7 (by decide) fl_X5_findPeople_X5_7 rfl dX5_findPeople_146 rfl ?_
                  refine v_iload_n C dX5_findPeople_149 rfl 1 3 rfl rfl ?_
                  refine v_iald C K 6 0 rfl rfl (d) (rfl) (by omega) (by decide) dX5_findPeople_150 rfl ?_
                  refine v_isub C dX5_findPeople_151 rfl ?_
                  refine v_iast C K _ 8 0 rfl rfl (f) (ef) (by omega) (by decide) (mW_a7 ad cI _ _) dX5_findPeople_152 rfl ?_
                  refine v_aload_n C dX5_findPeople_153 rfl 0 2 rfl rfl ?_
                  refine v_get C K in_X5_findPeople_X5 0 rfl rfl 8 (by decide) fl_X5_findPeople_X5_8 rfl dX5_findPeople_154 rfl ?_
                  refine v_iload_n C dX5_findPeople_157 rfl 1 3 rfl rfl ?_
                  refine v_aload_n C dX5_findPeople_158 rfl 0 2 rfl rfl ?_
                  refine v_get C K in_X5_findPeople_X5 0 rfl rfl 9 (by decide) fl_X5_findPeople_X5_9 rfl dX5_findPeople_159 rfl ?_
                  refine v_iload_n C dX5_findPeople_162 rfl 2 1 rfl rfl ?_
                  refine v_iald C K 8 0 rfl rfl (f) (ef) (by omega) (by decide) dX5_findPeople_163 rfl ?_
                  refine v_iast C K _ 7 0 rfl rfl (d) (rfl) (by omega) (by decide) (mW_a6 ad cI _ _) dX5_findPeople_164 rfl ?_
                  refine v_iinc (lv' := [(1, _), (3, _), (2, _), (0, _)]) C dX5_findPeople_165 rfl 3 rfl (inc9 _) (by decide) rfl ?_
                  refine v_goto C 28 dX5_findPeople_168 (by decide) ?_
                  refine v_lv (lv' := [(0, _), (1, _)]) [3, 0] rfl ?_
                  exact v9cast ih (by unfold fpS; simp [e0, fd_i, e48, e89, ef, hnf, nI_cl (show f < 100000 by omega), st9_n, st9_s, st9_tw, st9_five, upd_s, upd_tw] at h124 ⊢; first | (simp [h124]; done) | (have h9 := Int32.not_le.mpr h124; simp [h9])) rfl rfl
                · skip
                  refine v_iload_n C dX5_findPeople_127 rfl 3 0 rfl rfl ?_
                  refine v_goto C 137 dX5_findPeople_128 (by decide) ?_
                  refine v_iast C K _ 6 0 rfl rfl (d) (rfl) (by omega) (by decide) (mW_a5 ad cI _ _) dX5_findPeople_137 rfl ?_
                  refine v_aload_n C dX5_findPeople_138 rfl 0 2 rfl rfl ?_
                  refine v_get C K in_X5_findPeople_X5 0 rfl rfl 9 (by decide) fl_X5_findPeople_X5_9 rfl dX5_findPeople_139 rfl ?_
                  refine v_iload_n C dX5_findPeople_142 rfl 2 1 rfl rfl ?_
                  refine v_dup2 C dX5_findPeople_143 rfl rfl rfl ?_
                  refine v_iald C K 8 0 rfl rfl (f) (ef) (by omega) (by decide) dX5_findPeople_144 rfl ?_
                  refine v_aload_n C dX5_findPeople_145 rfl 0 2 rfl rfl ?_
                  refine v_get C K in_X5_findPeople_X5 0 rfl rfl 7 (by decide) fl_X5_findPeople_X5_7 rfl dX5_findPeople_146 rfl ?_
                  refine v_iload_n C dX5_findPeople_149 rfl 1 3 rfl rfl ?_
                  refine v_iald C K 6 0 rfl rfl (d) (rfl) (by omega) (by decide) dX5_findPeople_150 rfl ?_
                  refine v_isub C dX5_findPeople_151 rfl ?_
                  refine v_iast C K _ 8 0 rfl rfl (f) (ef) (by omega) (by decide) (mW_a7 ad cI _ _) dX5_findPeople_152 rfl ?_
                  refine v_aload_n C dX5_findPeople_153 rfl 0 2 rfl rfl ?_
                  refine v_get C K in_X5_findPeople_X5 0 rfl rfl 8 (by decide) fl_X5_findPeople_X5_8 rfl dX5_findPeople_154 rfl ?_
                  refine v_iload_n C dX5_findPeople_157 rfl 1 3 rfl rfl ?_
                  refine v_aload_n C dX5_findPeople_158 rfl 0 2 rfl rfl ?_
                  refine v_get C K in_X5_findPeople_X5 0 rfl rfl 9 (by decide) fl_X5_findPeople_X5_9 rfl dX5_findPeople_159 rfl ?_
                  refine v_iload_n C dX5_findPeople_162 rfl 2 1 rfl rfl ?_
                  refine v_iald C K 8 0 rfl rfl (f) (ef) (by omega) (by decide) dX5_findPeople_163 rfl ?_
                  refine v_iast C K _ 7 0 rfl rfl (d) (rfl) (by omega) (by decide) (mW_a6 ad cI _ _) dX5_findPeople_164 rfl ?_
                  refine v_iinc (lv' := [(1, _), (3, _), (2, _), (0, _)]) C dX5_findPeople_165 rfl 3 rfl (inc9 _) (by decide) rfl ?_
                  refine v_goto C 28 dX5_findPeople_168 (by decide) ?_
                  refine v_lv (lv' := [(0, _), (1, _)]) [3, 0] rfl ?_
                  exact v9cast ih (by unfold fpS; simp [e0, fd_i, e48, e89, ef, hnf, nI_cl (show f < 100000 by omega), st9_n, st9_s, st9_tw, st9_five, upd_s, upd_tw] at h124 ⊢; first | (simp [h124]; done) | (have h9 := Int32.not_le.mpr h124; simp [h9])) rfl rfl
        · skip
          refine v_iload_n C dX5_findPeople_28 rfl 1 1 rfl rfl ?_
          refine v_bipush (v := 70) C dX5_findPeople_29 rfl bp_70 ?_
          refine v_icmp_ge C 171 dX5_findPeople_31 (by decide) rfl (fun _ => ?_) (fun h9 => absurd (nI_le (Nat.le_refl _) (by decide)) h9)
          exact hend (rfl) dX5_findPeople_171
      refine v_lv [1, 0] rfl ?_
      exact LP28 0 (by omega)
  refine v_lv [1, 0] rfl ?_
  exact LP2 0 (by omega)

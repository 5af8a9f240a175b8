theorem sm9_congr {f g : Nat → Int32} : ∀ {n : Nat}, (∀ k, k < n → f k = g k) → sm9 f n = sm9 g n
  | 0, _ => rfl
  | n + 1, h => by rw [sm9, sm9, sm9_congr (fun k hk => h k (by omega)), h n (by omega)]
/-- a sum over films and weeks, of one week or (below 0) of all -/
def q_W (X : Nat → Nat → Int32) (wk : Int32) : Int32 := sm9 (fun f => sm9 (fun w => if wk < 0 ∨ nI w = wk then X f w else 0) 5) 8
theorem q_W_J {g : Nat → Int32} {X : Nat → Nat → Int32} (h : ∀ f w, f < 8 → w < 5 → g (5 * f + w) = X f w) (wk : Int32) : sm9 (swT g wk) 40 = q_W X wk := by
  have key : ∀ f, f ≤ 8 → sm9 (swT g wk) (5 * f) = sm9 (fun f => sm9 (fun w => if wk < 0 ∨ nI w = wk then X f w else 0) 5) f := by
    intro f
    induction f with
    | zero => exact fun _ => rfl
    | succ f ih =>
      intro hf
      have t : ∀ w, w < 5 → swT g wk (5 * f + w) = if wk < 0 ∨ nI w = wk then X f w else 0 := by
        intro w hw
        unfold swT
        rw [show (5 * f + w) % 5 = w by omega, h f w (by omega) hw]
      rw [show 5 * (f + 1) = 5 * f + 4 + 1 by omega, sm9, show 5 * f + 4 = 5 * f + 3 + 1 by omega, sm9, show 5 * f + 3 = 5 * f + 2 + 1 by omega, sm9, show 5 * f + 2 = 5 * f + 1 + 1 by omega, sm9, sm9]
      rw [ih (by omega), show 5 * f + 1 + 1 + 1 + 1 = 5 * f + 4 from rfl, show 5 * f + 1 + 1 + 1 = 5 * f + 3 from rfl, show 5 * f + 1 + 1 = 5 * f + 2 from rfl]
      have t0 := t 0 (by decide)
      rw [Nat.add_zero] at t0
      rw [t 4 (by decide), t 3 (by decide), t 2 (by decide), t 1 (by decide), t0, sm9]
      simp only [sm9, Int32.zero_add, Int32.add_assoc]
  have h8 := key 8 (Nat.le_refl _)
  rw [show 5 * 8 = 40 from rfl] at h8
  exact h8
def q_left (r : Nat → Int32) (wk : Int32) : Int32 := q_W (q_T r) wk - q_W (q_D r) wk - r 2 * q_W (q_S r) wk + sm9 (rnT r wk) 35
theorem p_left_J {σ : S9} {n : Nat} (hw : wfS (σ 0) n) (wk : Int32) : p_left (rkM n σ) wk = q_left (σ 0) wk := by
  obtain ⟨-, -, h⟩ := rkM_J hw
  unfold p_left q_left
  rw [q_W_J (fun f w hf hw => (h f w hf hw).1) wk, q_W_J (fun f w hf hw => (h f w hf hw).2.1) wk, q_W_J (fun f w hf hw => (h f w hf hw).2.2.2) wk, rkM_i n 0 (by decide)]
/-- but for what is reckoned, nothing is different -/
def sc9 (σ u : S9) : Prop := ∀ i, (i < 5 ∨ 11 < i) → u i = σ i
theorem sc9_rf (σ : S9) : sc9 σ σ := fun _ _ => rfl
theorem sc9_tr {a b c : S9} (h : sc9 a b) (k : sc9 b c) : sc9 a c := fun i hi => (k i hi).trans (h i hi)
theorem sc9_rk (n : Nat) (σ : S9) : sc9 σ (rkM n σ) := fun i hi => rkM_i n i hi σ
theorem sc9_0 {σ u : S9} (h : sc9 σ u) : u 0 = σ 0 := h 0 (by decide)
theorem sc9_12 {σ u : S9} (h : sc9 σ u) : u 12 = σ 12 := h 12 (by decide)
def q_at (r : Nat → Int32) (k : Nat) (what : Int32) : Int32 := if what = 0 then r (46 + k) else if what = 1 then q_ppa r k else if what = 2 then q_ppa r k * r 1 else if what = 3 then q_bhd r k else -2
def q_k (d q : Int32) : Nat := 2 * d.toNatClampNeg + q.toNatClampNeg
set_option maxHeartbeats 4000000 in
set_option maxRecDepth 100000 in
theorem c_X5_at (l : Launch) (D : va_G) (ad : Nat → Nat) (cI : ClassId) (σ : S9) (n : Nat) (hw : wfS (σ 0) n) (d q what : Int32) : CMi l (mW ad cI) D [(cI, .int)] yX5_at wsX5_at ({ frames := 4, cells := 0, slots := 0, locals := 90 } : Room) [.ref (ad 0), .int d, .int q, .int what] σ (fun r u => r = (if p_part d q = 0 then -2 else q_at (σ 0) (q_k d q) what) ∧ sc9 σ u) := by
  refine v_starti (own := RX5) (cc := cX5_at) (nL := 5) rfl (by decide) rfl (Nat.le_of_ble_eq_true rfl) ?_
  intro p e s m args below meth c A Q C K hend
  refine v_lv (lv' := [(0, .ref (ad 0)), (1, .int d), (2, .int q), (3, .int what)]) [0, 1, 2, 3] rfl ?_
  refine v_iload_n C dX5_at_0 rfl 1 1 rfl rfl ?_
  refine v_iload_n C dX5_at_1 rfl 2 2 rfl rfl ?_
  refine v_callSpd C (c_X5_isPart l _ _) gX5_at_X5_isPart rfl hd_X5_isPart.2 ⟨rfl, rfl⟩ ⟨Nat.le_of_ble_eq_true rfl, Nat.le_of_ble_eq_true rfl⟩ rfl rfl (Nat.le_of_ble_eq_true rfl) ⟨Nat.le_refl _, Nat.le_refl _⟩ dX5_at_2 rfl ?_
  refine v_if_ne C 11 dX5_at_5 (by decide) rfl (fun h5 => ?_) (fun h5 => ?_)
  · skip
    obtain ⟨d, q, hd, hq, rfl, rfl⟩ := p_part_ne h5
    have ecd : (nI d).toNatClampNeg = d := nI_cl (by omega)
    have ecq : (nI q).toNatClampNeg = q := nI_cl (by omega)
    refine v_aload_n C dX5_at_11 rfl 0 0 rfl rfl ?_
    refine v_callVv C K (c_X5_reckon l D ad cI _ n hw) gX5_at_X5_reckon rfl hd_X5_reckon ⟨rfl, rfl⟩ ⟨Nat.le_of_ble_eq_true rfl, Nat.le_of_ble_eq_true rfl⟩ 0 rfl rfl rfl rfl rfl (Nat.le_of_ble_eq_true rfl) ⟨Nat.le_refl _, Nat.le_refl _⟩ dX5_at_12 rfl (fun u12 hc12 => ?_)
    have hs : sc9 σ u12 := by
      rw [hc12]
      exact sc9_rk n σ
    have hs0 : u12 0 = σ 0 := sc9_0 hs
    have hJ := rkM_J hw
    rw [← hc12] at hJ
    clear hc12
    obtain ⟨hJ7, hJ56, hJ8⟩ := hJ
    refine v_iconst (v := 2) C dX5_at_15 rfl ic_2 ?_
    refine v_iload_n C dX5_at_16 rfl 1 1 rfl rfl ?_
    refine v_imul C dX5_at_17 rfl ?_
    refine v_iload_n C dX5_at_18 rfl 2 2 rfl rfl ?_
    refine v_iadd C dX5_at_19 rfl ?_
    refine v_top (nI (2 * d + q)) (by simp only [lit9, pk_mul, nI_add]) ?_
    refine v_istore (lv' := [(4, _), (0, _), (1, _), (2, _), (3, _)]) C dX5_at_20 rfl (by decide) rfl ?_
    refine v_iload_n C dX5_at_22 rfl 3 4 rfl rfl ?_
    by_cases h23_0 : what = 0
    · refine v_tableIn C 52 dX5_at_23 (by rw [h23_0]; decide) (by rw [h23_0]; decide) (off := 29) (by rw [h23_0]; rfl) (by decide) ?_
      refine v_aload_n C dX5_at_52 rfl 0 1 rfl rfl ?_
      refine v_get C K in_X5_at_X5 0 rfl rfl 0 (by decide) fl_X5_at_X5_0 rfl dX5_at_53 rfl ?_
      refine v_bipush (v := 46) C dX5_at_56 rfl bp_46 ?_
      refine v_iload C dX5_at_58 rfl 0 rfl ?_
      refine v_iadd C dX5_at_60 rfl ?_
      refine v_iald C K 1 0 rfl rfl (46 + (2 * d + q)) (by simp only [lit9, pk_mul, nI_add]) (by omega) (by decide) dX5_at_61 rfl ?_
      exact hend (⟨by simp [h5, h23_0, q_at, q_k, ecd, ecq, hs0], hs⟩) (rfl) dX5_at_62
    by_cases h23_1 : what = 1
    · refine v_tableIn C 63 dX5_at_23 (by rw [h23_1]; decide) (by rw [h23_1]; decide) (off := 40) (by rw [h23_1]; rfl) (by decide) ?_
      refine v_aload_n C dX5_at_63 rfl 0 1 rfl rfl ?_
      refine v_get C K in_X5_at_X5 0 rfl rfl 7 (by decide) fl_X5_at_X5_7 rfl dX5_at_64 rfl ?_
      refine v_iload C dX5_at_67 rfl 0 rfl ?_
      refine v_iald C K 6 0 rfl rfl (2 * d + q) (rfl) (by omega) (by decide) dX5_at_69 rfl ?_
      exact hend (⟨by simp [h5, h23_0, h23_1, q_at, q_k, ecd, ecq, hs0, (hJ56 (2 * d + q) (by omega)).1], hs⟩) (rfl) dX5_at_70
    by_cases h23_2 : what = 2
    · refine v_tableIn C 71 dX5_at_23 (by rw [h23_2]; decide) (by rw [h23_2]; decide) (off := 48) (by rw [h23_2]; rfl) (by decide) ?_
      refine v_aload_n C dX5_at_71 rfl 0 1 rfl rfl ?_
      refine v_get C K in_X5_at_X5 0 rfl rfl 7 (by decide) fl_X5_at_X5_7 rfl dX5_at_72 rfl ?_
      refine v_iload C dX5_at_75 rfl 0 rfl ?_
      refine v_iald C K 6 0 rfl rfl (2 * d + q) (rfl) (by omega) (by decide) dX5_at_77 rfl ?_
      refine v_aload_n C dX5_at_78 rfl 0 1 rfl rfl ?_
      refine v_get C K in_X5_at_X5 0 rfl rfl 0 (by decide) fl_X5_at_X5_0 rfl dX5_at_79 rfl ?_
      refine v_iconst (v := 1) C dX5_at_82 rfl ic_1 ?_
      refine v_iald C K 1 0 rfl rfl (1) (rfl) (by omega) (by decide) dX5_at_83 rfl ?_
      refine v_imul C dX5_at_84 rfl ?_
      exact hend (⟨by simp [h5, h23_0, h23_1, h23_2, q_at, q_k, ecd, ecq, hs0, (hJ56 (2 * d + q) (by omega)).1], hs⟩) (rfl) dX5_at_85
    by_cases h23_3 : what = 3
    · refine v_tableIn C 86 dX5_at_23 (by rw [h23_3]; decide) (by rw [h23_3]; decide) (off := 63) (by rw [h23_3]; rfl) (by decide) ?_
      refine v_aload_n C dX5_at_86 rfl 0 1 rfl rfl ?_
      refine v_get C K in_X5_at_X5 0 rfl rfl 8 (by decide) fl_X5_at_X5_8 rfl dX5_at_87 rfl ?_
      refine v_iload C dX5_at_90 rfl 0 rfl ?_
      refine v_iald C K 7 0 rfl rfl (2 * d + q) (rfl) (by omega) (by decide) dX5_at_92 rfl ?_
      exact hend (⟨by simp [h5, h23_0, h23_1, h23_2, h23_3, q_at, q_k, ecd, ecq, hs0, (hJ56 (2 * d + q) (by omega)).2], hs⟩) (rfl) dX5_at_93
    refine v_tableOut C 94 dX5_at_23 (sw9 (x := what) (n := 3) (by decide) (fun j hj => by rcases (show j = 0 ∨ j = 1 ∨ j = 2 ∨ j = 3 by omega) with rfl | rfl | rfl | rfl <;> first | exact h23_0 | exact h23_1 | exact h23_2 | exact h23_3)) (by decide) ?_
    refine v_bipush (v := -2) C dX5_at_94 rfl bp_m2 ?_
    exact hend (⟨by simp [h5, h23_0, h23_1, h23_2, h23_3, q_at, q_k, ecd, ecq, hs0], hs⟩) (rfl) dX5_at_96
  · skip
    refine v_bipush (v := -2) C dX5_at_8 rfl bp_m2 ?_
    exact hend (⟨by simp [h5], sc9_rf σ⟩) (rfl) dX5_at_10
def q_po (r : Nat → Int32) (f k : Nat) : Int32 := if r (46 + k) = nI f then q_ppa r k else 0
def q_of (r : Nat → Int32) (f : Nat) (what : Int32) : Int32 := if what = 0 then r (6 + 5 * f + 0) else if what = 1 then r (6 + 5 * f + 1) else if what = 2 then r (6 + 5 * f + 2) else if what = 3 then r (6 + 5 * f + 3) else if what = 4 then r (6 + 5 * f + 4) else if what = 5 then sm9 (q_S r f) 5 else if what = 6 then sm9 (q_po r f) 70 else if what = 7 then sm9 (q_T r f) 5 else if what = 8 then sm9 (q_D r f) 5 else if what = 9 then q_L r f 70 else if what = 10 then fsh r (nI f) 70 else -2
set_option maxHeartbeats 4000000 in
set_option maxRecDepth 100000 in
theorem c_X5_firstShow (l : Launch) (D : va_G) (ad : Nat → Nat) (cI : ClassId) (σ : S9) (x : Int32) : CMi l (mW ad cI) D [(cI, .int)] yX5_firstShow wsX5_firstShow ({ frames := 0, cells := 0, slots := 0, locals := 0 } : Room) [.ref (ad 0), .int x] σ (fun r u => r = fsh (σ 0) x 70 ∧ u = σ) := by
  refine v_starti (own := RX5) (cc := cX5_firstShow) (nL := 4) rfl (by decide) rfl (Nat.le_of_ble_eq_true rfl) ?_
  intro p e s m args below meth c A Q C K hend
  refine v_lv (lv' := [(0, .ref (ad 0)), (1, .int x)]) [0, 1] rfl ?_
  refine v_bipush (v := -6) C dX5_firstShow_0 rfl bp_m6 ?_
  refine v_istore_n (lv' := [(2, _), (0, _), (1, _)]) C dX5_firstShow_2 rfl 2 rfl (by decide) rfl ?_
  refine v_bipush (v := 69) C dX5_firstShow_3 rfl bp_69 ?_
  refine v_istore_n (lv' := [(3, _), (2, _), (0, _), (1, _)]) C dX5_firstShow_5 rfl 3 rfl (by decide) rfl ?_
  have LP6 : ∀ d, d ≤ 70 → VV p l e ({ frames := 0, cells := 0, slots := 0, locals := 0 } : Room) s m args below meth c 0 0 Q (mW ad cI) D A s.heap 4 σ 6 [(0, .ref (ad 0)), (1, .int x), (2, .int (fsh (σ 0) x d)), (3, .int (nI (70 - d) + (-1)))] [] := by
    refine lpB9 (fun d => VV p l e ({ frames := 0, cells := 0, slots := 0, locals := 0 } : Room) s m args below meth c 0 0 Q (mW ad cI) D A s.heap 4 σ 6 [(0, .ref (ad 0)), (1, .int x), (2, .int (fsh (σ 0) x d)), (3, .int (nI (70 - d) + (-1)))] []) 70 (fun d hd ih => ?_) ?_
    · skip
      have e3 : nI (70 - d) + (-1) = nI (69 - d) := by
        rw [show 70 - d = (69 - d) + 1 by omega]
        exact pk_m1 _
      refine v_iload_n C dX5_firstShow_6 rfl 3 3 rfl rfl ?_
      refine v_if_lt C 37 dX5_firstShow_7 (by decide) rfl (fun h9 => absurd h9 (by rw [e3]; exact nI_pos (by omega))) (fun _ => ?_)
      refine v_aload_n C dX5_firstShow_10 rfl 0 0 rfl rfl ?_
      refine v_get C K in_X5_firstShow_X5 0 rfl rfl 0 (by decide) fl_X5_firstShow_X5_0 rfl dX5_firstShow_11 rfl ?_
      refine v_bipush (v := 46) C dX5_firstShow_14 rfl bp_46 ?_
      refine v_iload_n C dX5_firstShow_16 rfl 3 3 rfl rfl ?_
      refine v_iadd C dX5_firstShow_17 rfl ?_
      refine v_iald C K 1 0 rfl rfl (46 + (69 - d)) (by rw [e3]; simp only [lit9, nI_add]) (by omega) (by decide) dX5_firstShow_18 rfl ?_
      refine v_iload_n C dX5_firstShow_19 rfl 1 1 rfl rfl ?_
      refine v_icmp_ne C 29 dX5_firstShow_20 (by decide) rfl (fun h20 => ?_) (fun h20 => ?_)
      · skip
        refine v_iload_n C dX5_firstShow_29 rfl 2 2 rfl rfl ?_
        refine v_top (fsh (σ 0) x (d + 1)) (by simp [fsh, h20]) ?_
        refine v_istore_n (lv' := [(2, _), (0, _), (1, _), (3, _)]) C dX5_firstShow_30 rfl 2 rfl (by decide) rfl ?_
        refine v_iinc (lv' := [(3, _), (2, _), (0, _), (1, _)]) C dX5_firstShow_31 rfl 3 rfl (show _ = nI (70 - (d + 1)) + (-1) by rw [e3, show 70 - (d + 1) = 69 - d by omega]; rfl) (by decide) rfl ?_
        refine v_goto C 6 dX5_firstShow_34 (by decide) ?_
        refine v_lv (lv' := [(0, _), (1, _), (2, _), (3, _)]) [2, 3, 1, 0] rfl ?_
        exact ih
      · skip
        refine v_iload_n C dX5_firstShow_23 rfl 3 3 rfl rfl ?_
        refine v_iconst (v := 2) C dX5_firstShow_24 rfl ic_2 ?_
        refine v_idiv C dX5_firstShow_25 rfl (by decide) ?_
        refine v_top (nI ((69 - d) / 2)) (by rw [e3]; exact pk_div (by omega) (by decide) (by decide)) ?_
        refine v_goto C 30 dX5_firstShow_26 (by decide) ?_
        refine v_top (fsh (σ 0) x (d + 1)) (by simp [fsh, h20]) ?_
        refine v_istore_n (lv' := [(2, _), (0, _), (1, _), (3, _)]) C dX5_firstShow_30 rfl 2 rfl (by decide) rfl ?_
        refine v_iinc (lv' := [(3, _), (2, _), (0, _), (1, _)]) C dX5_firstShow_31 rfl 3 rfl (show _ = nI (70 - (d + 1)) + (-1) by rw [e3, show 70 - (d + 1) = 69 - d by omega]; rfl) (by decide) rfl ?_
        refine v_goto C 6 dX5_firstShow_34 (by decide) ?_
        refine v_lv (lv' := [(0, _), (1, _), (2, _), (3, _)]) [2, 3, 1, 0] rfl ?_
        exact ih
    · skip
      refine v_iload_n C dX5_firstShow_6 rfl 3 3 rfl rfl ?_
      refine v_if_lt C 37 dX5_firstShow_7 (by decide) rfl (fun _ => ?_) (fun h9 => absurd (by decide) h9)
      refine v_iload_n C dX5_firstShow_37 rfl 2 2 rfl rfl ?_
      exact hend (⟨rfl, rfl⟩) (rfl) dX5_firstShow_38
  refine v_lv (lv' := [(0, _), (1, _), (2, _), (3, _)]) [2, 3, 1, 0] rfl ?_
  exact v9cast (LP6 0 (by omega)) rfl (by rw [show nI (70 - 0) + (-1) = (69 : Int32) by decide]; rfl) rfl
theorem w5 {w : Int32} (h : ¬ p_in w 0 4 = 0) : ∃ j : Nat, j < 5 ∧ w = nI j := by
  obtain ⟨j, hj, e⟩ := p_in_nI (n := 4) (by decide) h
  exact ⟨j, by omega, e⟩
set_option maxHeartbeats 4000000 in
set_option maxRecDepth 100000 in
theorem c_X5_of (l : Launch) (D : va_G) (ad : Nat → Nat) (cI : ClassId) (σ : S9) (n : Nat) (hw : wfS (σ 0) n) (x what : Int32) : CMi l (mW ad cI) D [(cI, .int)] yX5_of wsX5_of ({ frames := 4, cells := 0, slots := 0, locals := 90 } : Room) [.ref (ad 0), .int x, .int what] σ (fun r u => r = (if p_in x 0 (σ 0 5 - 1) = 0 then -1 else q_of (σ 0) x.toNatClampNeg what) ∧ sc9 σ u) := by
  refine v_starti (own := RX5) (cc := cX5_of) (nL := 3) rfl (by decide) rfl (Nat.le_of_ble_eq_true rfl) ?_
  intro p e s m args below meth c A Q C K hend
  refine v_lv (lv' := [(0, .ref (ad 0)), (1, .int x), (2, .int what)]) [0, 1, 2] rfl ?_
  refine v_aload_n C dX5_of_0 rfl 0 0 rfl rfl ?_
  refine v_iload_n C dX5_of_1 rfl 1 1 rfl rfl ?_
  refine v_callVid C K (c_X5_isFilm l D ad cI _ _) gX5_of_X5_isFilm rfl hd_X5_isFilm ⟨rfl, rfl⟩ ⟨Nat.le_of_ble_eq_true rfl, Nat.le_of_ble_eq_true rfl⟩ 0 rfl rfl rfl rfl rfl (Nat.le_of_ble_eq_true rfl) ⟨Nat.le_refl _, Nat.le_refl _⟩ dX5_of_2 rfl ?_
  refine v_if_ne C 10 dX5_of_5 (by decide) rfl (fun h5 => ?_) (fun h5 => ?_)
  · skip
    obtain ⟨f, hf, rfl⟩ := p_film_ne hw.1 hw.2.1 h5
    have hf8 : f < 8 := Nat.lt_of_lt_of_le hf hw.2.1
    have ecf : (nI f).toNatClampNeg = f := nI_cl (by omega)
    refine v_aload_n C dX5_of_10 rfl 0 0 rfl rfl ?_
    refine v_callVv C K (c_X5_reckon l D ad cI _ n hw) gX5_of_X5_reckon rfl hd_X5_reckon ⟨rfl, rfl⟩ ⟨Nat.le_of_ble_eq_true rfl, Nat.le_of_ble_eq_true rfl⟩ 0 rfl rfl rfl rfl rfl (Nat.le_of_ble_eq_true rfl) ⟨Nat.le_refl _, Nat.le_refl _⟩ dX5_of_11 rfl (fun u11 hc11 => ?_)
    have hs : sc9 σ u11 := by
      rw [hc11]
      exact sc9_rk n σ
    have hs0 : u11 0 = σ 0 := sc9_0 hs
    have hJ := rkM_J hw
    rw [← hc11] at hJ
    clear hc11
    obtain ⟨hJ7, hJ56, hJ8⟩ := hJ
    refine v_iload_n C dX5_of_14 rfl 2 2 rfl rfl ?_
    by_cases h15_0 : what = 0
    · refine v_tableIn C 72 dX5_of_15 (by rw [h15_0]; decide) (by rw [h15_0]; decide) (off := 57) (by rw [h15_0]; rfl) (by decide) ?_
      subst h15_0
      refine v_aload_n C dX5_of_72 rfl 0 0 rfl rfl ?_
      refine v_iload_n C dX5_of_73 rfl 1 1 rfl rfl ?_
      refine v_iload_n C dX5_of_74 rfl 2 2 rfl rfl ?_
      refine v_callVid C K (c_X5_filmPart l D ad cI _ f 0 hf8 (by decide)) gX5_of_X5_filmPart rfl hd_X5_filmPart ⟨rfl, rfl⟩ ⟨Nat.le_of_ble_eq_true rfl, Nat.le_of_ble_eq_true rfl⟩ 0 rfl rfl rfl rfl rfl (Nat.le_of_ble_eq_true rfl) ⟨Nat.le_refl _, Nat.le_refl _⟩ dX5_of_75 rfl ?_
      exact hend (⟨by simp [q_of, ecf, hs0, h5], hs⟩) (rfl) dX5_of_78
    by_cases h15_1 : what = 1
    · refine v_tableIn C 72 dX5_of_15 (by rw [h15_1]; decide) (by rw [h15_1]; decide) (off := 57) (by rw [h15_1]; rfl) (by decide) ?_
      subst h15_1
      refine v_aload_n C dX5_of_72 rfl 0 0 rfl rfl ?_
      refine v_iload_n C dX5_of_73 rfl 1 1 rfl rfl ?_
      refine v_iload_n C dX5_of_74 rfl 2 2 rfl rfl ?_
      refine v_callVid C K (c_X5_filmPart l D ad cI _ f 1 hf8 (by decide)) gX5_of_X5_filmPart rfl hd_X5_filmPart ⟨rfl, rfl⟩ ⟨Nat.le_of_ble_eq_true rfl, Nat.le_of_ble_eq_true rfl⟩ 0 rfl rfl rfl rfl rfl (Nat.le_of_ble_eq_true rfl) ⟨Nat.le_refl _, Nat.le_refl _⟩ dX5_of_75 rfl ?_
      exact hend (⟨by simp [q_of, ecf, hs0, h5], hs⟩) (rfl) dX5_of_78
    by_cases h15_2 : what = 2
    · refine v_tableIn C 72 dX5_of_15 (by rw [h15_2]; decide) (by rw [h15_2]; decide) (off := 57) (by rw [h15_2]; rfl) (by decide) ?_
      subst h15_2
      refine v_aload_n C dX5_of_72 rfl 0 0 rfl rfl ?_
      refine v_iload_n C dX5_of_73 rfl 1 1 rfl rfl ?_
      refine v_iload_n C dX5_of_74 rfl 2 2 rfl rfl ?_
      refine v_callVid C K (c_X5_filmPart l D ad cI _ f 2 hf8 (by decide)) gX5_of_X5_filmPart rfl hd_X5_filmPart ⟨rfl, rfl⟩ ⟨Nat.le_of_ble_eq_true rfl, Nat.le_of_ble_eq_true rfl⟩ 0 rfl rfl rfl rfl rfl (Nat.le_of_ble_eq_true rfl) ⟨Nat.le_refl _, Nat.le_refl _⟩ dX5_of_75 rfl ?_
      exact hend (⟨by simp [q_of, ecf, hs0, h5], hs⟩) (rfl) dX5_of_78
    by_cases h15_3 : what = 3
    · refine v_tableIn C 72 dX5_of_15 (by rw [h15_3]; decide) (by rw [h15_3]; decide) (off := 57) (by rw [h15_3]; rfl) (by decide) ?_
      subst h15_3
      refine v_aload_n C dX5_of_72 rfl 0 0 rfl rfl ?_
      refine v_iload_n C dX5_of_73 rfl 1 1 rfl rfl ?_
      refine v_iload_n C dX5_of_74 rfl 2 2 rfl rfl ?_
      refine v_callVid C K (c_X5_filmPart l D ad cI _ f 3 hf8 (by decide)) gX5_of_X5_filmPart rfl hd_X5_filmPart ⟨rfl, rfl⟩ ⟨Nat.le_of_ble_eq_true rfl, Nat.le_of_ble_eq_true rfl⟩ 0 rfl rfl rfl rfl rfl (Nat.le_of_ble_eq_true rfl) ⟨Nat.le_refl _, Nat.le_refl _⟩ dX5_of_75 rfl ?_
      exact hend (⟨by simp [q_of, ecf, hs0, h5], hs⟩) (rfl) dX5_of_78
    by_cases h15_4 : what = 4
    · refine v_tableIn C 72 dX5_of_15 (by rw [h15_4]; decide) (by rw [h15_4]; decide) (off := 57) (by rw [h15_4]; rfl) (by decide) ?_
      subst h15_4
      refine v_aload_n C dX5_of_72 rfl 0 0 rfl rfl ?_
      refine v_iload_n C dX5_of_73 rfl 1 1 rfl rfl ?_
      refine v_iload_n C dX5_of_74 rfl 2 2 rfl rfl ?_
      refine v_callVid C K (c_X5_filmPart l D ad cI _ f 4 hf8 (by decide)) gX5_of_X5_filmPart rfl hd_X5_filmPart ⟨rfl, rfl⟩ ⟨Nat.le_of_ble_eq_true rfl, Nat.le_of_ble_eq_true rfl⟩ 0 rfl rfl rfl rfl rfl (Nat.le_of_ble_eq_true rfl) ⟨Nat.le_refl _, Nat.le_refl _⟩ dX5_of_75 rfl ?_
      exact hend (⟨by simp [q_of, ecf, hs0, h5], hs⟩) (rfl) dX5_of_78
    by_cases h15_5 : what = 5
    · refine v_tableIn C 79 dX5_of_15 (by rw [h15_5]; decide) (by rw [h15_5]; decide) (off := 64) (by rw [h15_5]; rfl) (by decide) ?_
      refine v_aload_n C dX5_of_79 rfl 0 0 rfl rfl ?_
      refine v_get C K in_X5_of_X5 0 rfl rfl 10 (by decide) fl_X5_of_X5_10 rfl dX5_of_80 rfl ?_
      refine v_iload_n C dX5_of_83 rfl 1 1 rfl rfl ?_
      refine v_callSid C K (c_X5_sumOfFilm l D ad cI _ 8 (by decide) (by decide) f hf8) gX5_of_X5_sumOfFilm rfl hd_X5_sumOfFilm.2 ⟨rfl, rfl⟩ ⟨Nat.le_of_ble_eq_true rfl, Nat.le_of_ble_eq_true rfl⟩ rfl rfl (Nat.le_of_ble_eq_true rfl) ⟨Nat.le_refl _, Nat.le_refl _⟩ dX5_of_84 rfl ?_
      exact hend (⟨by simp [h5, h15_0, h15_1, h15_2, h15_3, h15_4, h15_5, q_of, ecf]; exact sm9_congr (fun w hw => (hJ8 f w hf8 hw).1), hs⟩) (rfl) dX5_of_87
    by_cases h15_6 : what = 6
    · refine v_tableIn C 88 dX5_of_15 (by rw [h15_6]; decide) (by rw [h15_6]; decide) (off := 73) (by rw [h15_6]; rfl) (by decide) ?_
      refine v_aload_n C dX5_of_88 rfl 0 0 rfl rfl ?_
      refine v_iload_n C dX5_of_89 rfl 1 1 rfl rfl ?_
      refine v_callVid C K (c_X5_peopleOf l D ad cI _ _) gX5_of_X5_peopleOf rfl hd_X5_peopleOf ⟨rfl, rfl⟩ ⟨Nat.le_of_ble_eq_true rfl, Nat.le_of_ble_eq_true rfl⟩ 0 rfl rfl rfl rfl rfl (Nat.le_of_ble_eq_true rfl) ⟨Nat.le_refl _, Nat.le_refl _⟩ dX5_of_90 rfl ?_
      exact hend (⟨by simp [h5, h15_0, h15_1, h15_2, h15_3, h15_4, h15_5, h15_6, q_of, ecf]; exact sm9_congr (fun k hk => by rw [poT, q_po, hs0, (hJ56 k hk).1]), hs⟩) (rfl) dX5_of_93
    by_cases h15_7 : what = 7
    · refine v_tableIn C 94 dX5_of_15 (by rw [h15_7]; decide) (by rw [h15_7]; decide) (off := 79) (by rw [h15_7]; rfl) (by decide) ?_
      refine v_aload_n C dX5_of_94 rfl 0 0 rfl rfl ?_
      refine v_get C K in_X5_of_X5 0 rfl rfl 11 (by decide) fl_X5_of_X5_11 rfl dX5_of_95 rfl ?_
      refine v_iload_n C dX5_of_98 rfl 1 1 rfl rfl ?_
      refine v_callSid C K (c_X5_sumOfFilm l D ad cI _ 9 (by decide) (by decide) f hf8) gX5_of_X5_sumOfFilm rfl hd_X5_sumOfFilm.2 ⟨rfl, rfl⟩ ⟨Nat.le_of_ble_eq_true rfl, Nat.le_of_ble_eq_true rfl⟩ rfl rfl (Nat.le_of_ble_eq_true rfl) ⟨Nat.le_refl _, Nat.le_refl _⟩ dX5_of_99 rfl ?_
      exact hend (⟨by simp [h5, h15_0, h15_1, h15_2, h15_3, h15_4, h15_5, h15_6, h15_7, q_of, ecf]; exact sm9_congr (fun w hw => (hJ8 f w hf8 hw).2.1), hs⟩) (rfl) dX5_of_102
    by_cases h15_8 : what = 8
    · refine v_tableIn C 103 dX5_of_15 (by rw [h15_8]; decide) (by rw [h15_8]; decide) (off := 88) (by rw [h15_8]; rfl) (by decide) ?_
      refine v_aload_n C dX5_of_103 rfl 0 0 rfl rfl ?_
      refine v_get C K in_X5_of_X5 0 rfl rfl 13 (by decide) fl_X5_of_X5_13 rfl dX5_of_104 rfl ?_
      refine v_iload_n C dX5_of_107 rfl 1 1 rfl rfl ?_
      refine v_callSid C K (c_X5_sumOfFilm l D ad cI _ 11 (by decide) (by decide) f hf8) gX5_of_X5_sumOfFilm rfl hd_X5_sumOfFilm.2 ⟨rfl, rfl⟩ ⟨Nat.le_of_ble_eq_true rfl, Nat.le_of_ble_eq_true rfl⟩ rfl rfl (Nat.le_of_ble_eq_true rfl) ⟨Nat.le_refl _, Nat.le_refl _⟩ dX5_of_108 rfl ?_
      exact hend (⟨by simp [h5, h15_0, h15_1, h15_2, h15_3, h15_4, h15_5, h15_6, h15_7, h15_8, q_of, ecf]; exact sm9_congr (fun w hw => (hJ8 f w hf8 hw).2.2.2), hs⟩) (rfl) dX5_of_111
    by_cases h15_9 : what = 9
    · refine v_tableIn C 112 dX5_of_15 (by rw [h15_9]; decide) (by rw [h15_9]; decide) (off := 97) (by rw [h15_9]; rfl) (by decide) ?_
      refine v_aload_n C dX5_of_112 rfl 0 0 rfl rfl ?_
      refine v_get C K in_X5_of_X5 0 rfl rfl 9 (by decide) fl_X5_of_X5_9 rfl dX5_of_113 rfl ?_
      refine v_iload_n C dX5_of_116 rfl 1 1 rfl rfl ?_
      refine v_iald C K 8 0 rfl rfl (f) (rfl) (by omega) (by decide) dX5_of_117 rfl ?_
      exact hend (⟨by simp [h5, h15_0, h15_1, h15_2, h15_3, h15_4, h15_5, h15_6, h15_7, h15_8, h15_9, q_of, ecf, hJ7 f hf], hs⟩) (rfl) dX5_of_118
    by_cases h15_10 : what = 10
    · refine v_tableIn C 119 dX5_of_15 (by rw [h15_10]; decide) (by rw [h15_10]; decide) (off := 104) (by rw [h15_10]; rfl) (by decide) ?_
      refine v_aload_n C dX5_of_119 rfl 0 0 rfl rfl ?_
      refine v_iload_n C dX5_of_120 rfl 1 1 rfl rfl ?_
      refine v_callVid C K (c_X5_firstShow l D ad cI _ _) gX5_of_X5_firstShow rfl hd_X5_firstShow ⟨rfl, rfl⟩ ⟨Nat.le_of_ble_eq_true rfl, Nat.le_of_ble_eq_true rfl⟩ 0 rfl rfl rfl rfl rfl (Nat.le_of_ble_eq_true rfl) ⟨Nat.le_refl _, Nat.le_refl _⟩ dX5_of_121 rfl ?_
      exact hend (⟨by simp [h5, h15_0, h15_1, h15_2, h15_3, h15_4, h15_5, h15_6, h15_7, h15_8, h15_9, h15_10, q_of, ecf, hs0], hs⟩) (rfl) dX5_of_124
    refine v_tableOut C 125 dX5_of_15 (sw9 (x := what) (n := 10) (by decide) (fun j hj => by rcases (show j = 0 ∨ j = 1 ∨ j = 2 ∨ j = 3 ∨ j = 4 ∨ j = 5 ∨ j = 6 ∨ j = 7 ∨ j = 8 ∨ j = 9 ∨ j = 10 by omega) with rfl | rfl | rfl | rfl | rfl | rfl | rfl | rfl | rfl | rfl | rfl <;> first | exact h15_0 | exact h15_1 | exact h15_2 | exact h15_3 | exact h15_4 | exact h15_5 | exact h15_6 | exact h15_7 | exact h15_8 | exact h15_9 | exact h15_10)) (by decide) ?_
    refine v_bipush (v := -2) C dX5_of_125 rfl bp_m2 ?_
    exact hend (⟨by simp [h5, h15_0, h15_1, h15_2, h15_3, h15_4, h15_5, h15_6, h15_7, h15_8, h15_9, h15_10, q_of, ecf], hs⟩) (rfl) dX5_of_127
  · skip
    refine v_iconst (v := -1) C dX5_of_8 rfl ic_m1 ?_
    exact hend (⟨by simp [h5], sc9_rf σ⟩) (rfl) dX5_of_9
def q_iw (r : Nat → Int32) (f w : Nat) (what : Int32) : Int32 := if what = 0 then q_T r f w else if what = 1 then q_sh r f w else if what = 2 then q_D r f w else if what = 3 then q_D r f w - q_so r f w else -2
set_option maxHeartbeats 4000000 in
set_option maxRecDepth 100000 in
theorem c_X5_inWeek (l : Launch) (D : va_G) (ad : Nat → Nat) (cI : ClassId) (σ : S9) (n : Nat) (hw : wfS (σ 0) n) (x wk what : Int32) : CMi l (mW ad cI) D [(cI, .int)] yX5_inWeek wsX5_inWeek ({ frames := 4, cells := 0, slots := 0, locals := 90 } : Room) [.ref (ad 0), .int x, .int wk, .int what] σ (fun r u => r = (if p_in x 0 (σ 0 5 - 1) = 0 then -1 else if p_in wk 0 4 = 0 then -2 else q_iw (σ 0) x.toNatClampNeg wk.toNatClampNeg what) ∧ sc9 σ u) := by
  refine v_starti (own := RX5) (cc := cX5_inWeek) (nL := 5) rfl (by decide) rfl (Nat.le_of_ble_eq_true rfl) ?_
  intro p e s m args below meth c A Q C K hend
  refine v_lv (lv' := [(0, .ref (ad 0)), (1, .int x), (2, .int wk), (3, .int what)]) [0, 1, 2, 3] rfl ?_
  refine v_aload_n C dX5_inWeek_0 rfl 0 0 rfl rfl ?_
  refine v_iload_n C dX5_inWeek_1 rfl 1 1 rfl rfl ?_
  refine v_callVid C K (c_X5_isFilm l D ad cI _ _) gX5_inWeek_X5_isFilm rfl hd_X5_isFilm ⟨rfl, rfl⟩ ⟨Nat.le_of_ble_eq_true rfl, Nat.le_of_ble_eq_true rfl⟩ 0 rfl rfl rfl rfl rfl (Nat.le_of_ble_eq_true rfl) ⟨Nat.le_refl _, Nat.le_refl _⟩ dX5_inWeek_2 rfl ?_
  refine v_if_ne C 10 dX5_inWeek_5 (by decide) rfl (fun h5 => ?_) (fun h5 => ?_)
  · skip
    obtain ⟨f, hf, rfl⟩ := p_film_ne hw.1 hw.2.1 h5
    have hf8 : f < 8 := Nat.lt_of_lt_of_le hf hw.2.1
    have ecf : (nI f).toNatClampNeg = f := nI_cl (by omega)
    refine v_iload_n C dX5_inWeek_10 rfl 2 2 rfl rfl ?_
    refine v_iconst (v := 0) C dX5_inWeek_11 rfl ic_0 ?_
    refine v_iconst (v := 4) C dX5_inWeek_12 rfl ic_4 ?_
    refine v_callSpd C (c_X5_within l _ _ _) gX5_inWeek_X5_within rfl hd_X5_within.2 ⟨rfl, rfl⟩ ⟨Nat.le_of_ble_eq_true rfl, Nat.le_of_ble_eq_true rfl⟩ rfl rfl (Nat.le_of_ble_eq_true rfl) ⟨Nat.le_refl _, Nat.le_refl _⟩ dX5_inWeek_13 rfl ?_
    refine v_if_ne C 22 dX5_inWeek_16 (by decide) rfl (fun h16 => ?_) (fun h16 => ?_)
    · skip
      obtain ⟨w, hw5, rfl⟩ := w5 h16
      have ecw : (nI w).toNatClampNeg = w := nI_cl (by omega)
      refine v_aload_n C dX5_inWeek_22 rfl 0 0 rfl rfl ?_
      refine v_callVv C K (c_X5_reckon l D ad cI _ n hw) gX5_inWeek_X5_reckon rfl hd_X5_reckon ⟨rfl, rfl⟩ ⟨Nat.le_of_ble_eq_true rfl, Nat.le_of_ble_eq_true rfl⟩ 0 rfl rfl rfl rfl rfl (Nat.le_of_ble_eq_true rfl) ⟨Nat.le_refl _, Nat.le_refl _⟩ dX5_inWeek_23 rfl (fun u23 hc23 => ?_)
      have hs : sc9 σ u23 := by
        rw [hc23]
        exact sc9_rk n σ
      have hs0 : u23 0 = σ 0 := sc9_0 hs
      have hJ := rkM_J hw
      rw [← hc23] at hJ
      clear hc23
      obtain ⟨hJ7, hJ56, hJ8⟩ := hJ
      refine v_iconst (v := 5) C dX5_inWeek_26 rfl ic_5 ?_
      refine v_iload_n C dX5_inWeek_27 rfl 1 1 rfl rfl ?_
      refine v_imul C dX5_inWeek_28 rfl ?_
      refine v_iload_n C dX5_inWeek_29 rfl 2 2 rfl rfl ?_
      refine v_iadd C dX5_inWeek_30 rfl ?_
      refine v_top (nI (5 * f + w)) (by simp only [lit9, pk_mul, nI_add]) ?_
      refine v_istore (lv' := [(4, _), (0, _), (1, _), (2, _), (3, _)]) C dX5_inWeek_31 rfl (by decide) rfl ?_
      refine v_iload_n C dX5_inWeek_33 rfl 3 4 rfl rfl ?_
      by_cases h34_0 : what = 0
      · refine v_tableIn C 64 dX5_inWeek_34 (by rw [h34_0]; decide) (by rw [h34_0]; decide) (off := 30) (by rw [h34_0]; rfl) (by decide) ?_
        refine v_aload_n C dX5_inWeek_64 rfl 0 1 rfl rfl ?_
        refine v_get C K in_X5_inWeek_X5 0 rfl rfl 11 (by decide) fl_X5_inWeek_X5_11 rfl dX5_inWeek_65 rfl ?_
        refine v_iload C dX5_inWeek_68 rfl 0 rfl ?_
        refine v_iald C K 10 0 rfl rfl (5 * f + w) (rfl) (by omega) (by decide) dX5_inWeek_70 rfl ?_
        exact hend (⟨by simp [h5, h16, h34_0, q_iw, ecf, ecw, (hJ8 f w hf8 hw5).2.1], hs⟩) (rfl) dX5_inWeek_71
      by_cases h34_1 : what = 1
      · refine v_tableIn C 72 dX5_inWeek_34 (by rw [h34_1]; decide) (by rw [h34_1]; decide) (off := 38) (by rw [h34_1]; rfl) (by decide) ?_
        refine v_aload_n C dX5_inWeek_72 rfl 0 1 rfl rfl ?_
        refine v_get C K in_X5_inWeek_X5 0 rfl rfl 12 (by decide) fl_X5_inWeek_X5_12 rfl dX5_inWeek_73 rfl ?_
        refine v_iload C dX5_inWeek_76 rfl 0 rfl ?_
        refine v_iald C K 11 0 rfl rfl (5 * f + w) (rfl) (by omega) (by decide) dX5_inWeek_78 rfl ?_
        exact hend (⟨by simp [h5, h16, h34_0, h34_1, q_iw, ecf, ecw, (hJ8 f w hf8 hw5).2.2.1], hs⟩) (rfl) dX5_inWeek_79
      by_cases h34_2 : what = 2
      · refine v_tableIn C 80 dX5_inWeek_34 (by rw [h34_2]; decide) (by rw [h34_2]; decide) (off := 46) (by rw [h34_2]; rfl) (by decide) ?_
        refine v_aload_n C dX5_inWeek_80 rfl 0 1 rfl rfl ?_
        refine v_get C K in_X5_inWeek_X5 0 rfl rfl 13 (by decide) fl_X5_inWeek_X5_13 rfl dX5_inWeek_81 rfl ?_
        refine v_iload C dX5_inWeek_84 rfl 0 rfl ?_
        refine v_iald C K 12 0 rfl rfl (5 * f + w) (rfl) (by omega) (by decide) dX5_inWeek_86 rfl ?_
        exact hend (⟨by simp [h5, h16, h34_0, h34_1, h34_2, q_iw, ecf, ecw, (hJ8 f w hf8 hw5).2.2.2], hs⟩) (rfl) dX5_inWeek_87
      by_cases h34_3 : what = 3
      · refine v_tableIn C 88 dX5_inWeek_34 (by rw [h34_3]; decide) (by rw [h34_3]; decide) (off := 54) (by rw [h34_3]; rfl) (by decide) ?_
        refine v_aload_n C dX5_inWeek_88 rfl 0 1 rfl rfl ?_
        refine v_get C K in_X5_inWeek_X5 0 rfl rfl 13 (by decide) fl_X5_inWeek_X5_13 rfl dX5_inWeek_89 rfl ?_
        refine v_iload C dX5_inWeek_92 rfl 0 rfl ?_
        refine v_iald C K 12 0 rfl rfl (5 * f + w) (rfl) (by omega) (by decide) dX5_inWeek_94 rfl ?_
        refine v_aload_n C dX5_inWeek_95 rfl 0 1 rfl rfl ?_
        refine v_iload C dX5_inWeek_96 rfl 0 rfl ?_
        refine v_callVid C K (c_X5_shareOfTakings l D ad cI _ (5 * f + w) (by omega)) gX5_inWeek_X5_shareOfTakings rfl hd_X5_shareOfTakings ⟨rfl, rfl⟩ ⟨Nat.le_of_ble_eq_true rfl, Nat.le_of_ble_eq_true rfl⟩ 0 rfl rfl rfl rfl rfl (Nat.le_of_ble_eq_true rfl) ⟨Nat.le_refl _, Nat.le_refl _⟩ dX5_inWeek_98 rfl ?_
        refine v_isub C dX5_inWeek_101 rfl ?_
        exact hend (⟨by simp [h5, h16, h34_0, h34_1, h34_2, h34_3, q_iw, ecf, ecw, (hJ8 f w hf8 hw5).2.2.2, p_sot, q_so, (hJ8 f w hf8 hw5).2.1, (hJ8 f w hf8 hw5).2.2.1], hs⟩) (rfl) dX5_inWeek_102
      refine v_tableOut C 103 dX5_inWeek_34 (sw9 (x := what) (n := 3) (by decide) (fun j hj => by rcases (show j = 0 ∨ j = 1 ∨ j = 2 ∨ j = 3 by omega) with rfl | rfl | rfl | rfl <;> first | exact h34_0 | exact h34_1 | exact h34_2 | exact h34_3)) (by decide) ?_
      refine v_bipush (v := -2) C dX5_inWeek_103 rfl bp_m2 ?_
      exact hend (⟨by simp [h5, h16, h34_0, h34_1, h34_2, h34_3, q_iw], hs⟩) (rfl) dX5_inWeek_105
    · skip
      refine v_bipush (v := -2) C dX5_inWeek_19 rfl bp_m2 ?_
      exact hend (⟨by simp [h5, h16], sc9_rf σ⟩) (rfl) dX5_inWeek_21
  · skip
    refine v_iconst (v := -1) C dX5_inWeek_8 rfl ic_m1 ?_
    exact hend (⟨by simp [h5], sc9_rf σ⟩) (rfl) dX5_inWeek_9
def q_wk (r : Nat → Int32) (wk what : Int32) : Int32 := if what = 0 then q_W (q_S r) wk else if what = 1 then sm9 (ppT (q_ppa r) wk) 70 else if what = 2 then q_W (q_T r) wk else if what = 3 then q_W (q_D r) wk else if what = 4 then q_left r wk + 1000000 else -2
set_option maxHeartbeats 4000000 in
set_option maxRecDepth 100000 in
theorem c_X5_week (l : Launch) (D : va_G) (ad : Nat → Nat) (cI : ClassId) (σ : S9) (n : Nat) (hw : wfS (σ 0) n) (wk what : Int32) : CMi l (mW ad cI) D [(cI, .int)] yX5_week wsX5_week ({ frames := 4, cells := 0, slots := 0, locals := 90 } : Room) [.ref (ad 0), .int wk, .int what] σ (fun r u => r = (if p_in wk 0 4 = 0 then -2 else q_wk (σ 0) wk what) ∧ sc9 σ u) := by
  refine v_starti (own := RX5) (cc := cX5_week) (nL := 3) rfl (by decide) rfl (Nat.le_of_ble_eq_true rfl) ?_
  intro p e s m args below meth c A Q C K hend
  refine v_lv (lv' := [(0, .ref (ad 0)), (1, .int wk), (2, .int what)]) [0, 1, 2] rfl ?_
  refine v_iload_n C dX5_week_0 rfl 1 1 rfl rfl ?_
  refine v_iconst (v := 0) C dX5_week_1 rfl ic_0 ?_
  refine v_iconst (v := 4) C dX5_week_2 rfl ic_4 ?_
  refine v_callSpd C (c_X5_within l _ _ _) gX5_week_X5_within rfl hd_X5_within.2 ⟨rfl, rfl⟩ ⟨Nat.le_of_ble_eq_true rfl, Nat.le_of_ble_eq_true rfl⟩ rfl rfl (Nat.le_of_ble_eq_true rfl) ⟨Nat.le_refl _, Nat.le_refl _⟩ dX5_week_3 rfl ?_
  refine v_if_ne C 12 dX5_week_6 (by decide) rfl (fun h6 => ?_) (fun h6 => ?_)
  · skip
    refine v_aload_n C dX5_week_12 rfl 0 0 rfl rfl ?_
    refine v_callVv C K (c_X5_reckon l D ad cI _ n hw) gX5_week_X5_reckon rfl hd_X5_reckon ⟨rfl, rfl⟩ ⟨Nat.le_of_ble_eq_true rfl, Nat.le_of_ble_eq_true rfl⟩ 0 rfl rfl rfl rfl rfl (Nat.le_of_ble_eq_true rfl) ⟨Nat.le_refl _, Nat.le_refl _⟩ dX5_week_13 rfl (fun u13 hc13 => ?_)
    have hs : sc9 σ u13 := by
      rw [hc13]
      exact sc9_rk n σ
    have hs0 : u13 0 = σ 0 := sc9_0 hs
    have hJ := rkM_J hw
    rw [← hc13] at hJ
    obtain ⟨hJ7, hJ56, hJ8⟩ := hJ
    have hl : p_left u13 wk = q_left (σ 0) wk := by
      rw [hc13]
      exact p_left_J hw wk
    refine v_iload_n C dX5_week_16 rfl 2 2 rfl rfl ?_
    by_cases h17_0 : what = 0
    · refine v_tableIn C 52 dX5_week_17 (by rw [h17_0]; decide) (by rw [h17_0]; decide) (off := 35) (by rw [h17_0]; rfl) (by decide) ?_
      refine v_aload_n C dX5_week_52 rfl 0 0 rfl rfl ?_
      refine v_get C K in_X5_week_X5 0 rfl rfl 10 (by decide) fl_X5_week_X5_10 rfl dX5_week_53 rfl ?_
      refine v_iload_n C dX5_week_56 rfl 1 1 rfl rfl ?_
      refine v_callSid C K (c_X5_sumOf l D ad cI _ 8 (by decide) (by decide) _) gX5_week_X5_sumOf rfl hd_X5_sumOf.2 ⟨rfl, rfl⟩ ⟨Nat.le_of_ble_eq_true rfl, Nat.le_of_ble_eq_true rfl⟩ rfl rfl (Nat.le_of_ble_eq_true rfl) ⟨Nat.le_refl _, Nat.le_refl _⟩ dX5_week_57 rfl ?_
      exact hend (⟨by simp [h6, h17_0, q_wk]; exact q_W_J (fun f w hf hw => (hJ8 f w hf hw).1) wk, hs⟩) (rfl) dX5_week_60
    by_cases h17_1 : what = 1
    · refine v_tableIn C 61 dX5_week_17 (by rw [h17_1]; decide) (by rw [h17_1]; decide) (off := 44) (by rw [h17_1]; rfl) (by decide) ?_
      refine v_aload_n C dX5_week_61 rfl 0 0 rfl rfl ?_
      refine v_iload_n C dX5_week_62 rfl 1 1 rfl rfl ?_
      refine v_callVid C K (c_X5_peopleIn l D ad cI _ _) gX5_week_X5_peopleIn rfl hd_X5_peopleIn ⟨rfl, rfl⟩ ⟨Nat.le_of_ble_eq_true rfl, Nat.le_of_ble_eq_true rfl⟩ 0 rfl rfl rfl rfl rfl (Nat.le_of_ble_eq_true rfl) ⟨Nat.le_refl _, Nat.le_refl _⟩ dX5_week_63 rfl ?_
      exact hend (⟨by simp [h6, h17_0, h17_1, q_wk]; exact sm9_congr (fun k hk => by rw [ppT, ppT, (hJ56 k hk).1]), hs⟩) (rfl) dX5_week_66
    by_cases h17_2 : what = 2
    · refine v_tableIn C 67 dX5_week_17 (by rw [h17_2]; decide) (by rw [h17_2]; decide) (off := 50) (by rw [h17_2]; rfl) (by decide) ?_
      refine v_aload_n C dX5_week_67 rfl 0 0 rfl rfl ?_
      refine v_get C K in_X5_week_X5 0 rfl rfl 11 (by decide) fl_X5_week_X5_11 rfl dX5_week_68 rfl ?_
      refine v_iload_n C dX5_week_71 rfl 1 1 rfl rfl ?_
      refine v_callSid C K (c_X5_sumOf l D ad cI _ 9 (by decide) (by decide) _) gX5_week_X5_sumOf rfl hd_X5_sumOf.2 ⟨rfl, rfl⟩ ⟨Nat.le_of_ble_eq_true rfl, Nat.le_of_ble_eq_true rfl⟩ rfl rfl (Nat.le_of_ble_eq_true rfl) ⟨Nat.le_refl _, Nat.le_refl _⟩ dX5_week_72 rfl ?_
      exact hend (⟨by simp [h6, h17_0, h17_1, h17_2, q_wk]; exact q_W_J (fun f w hf hw => (hJ8 f w hf hw).2.1) wk, hs⟩) (rfl) dX5_week_75
    by_cases h17_3 : what = 3
    · refine v_tableIn C 76 dX5_week_17 (by rw [h17_3]; decide) (by rw [h17_3]; decide) (off := 59) (by rw [h17_3]; rfl) (by decide) ?_
      refine v_aload_n C dX5_week_76 rfl 0 0 rfl rfl ?_
      refine v_get C K in_X5_week_X5 0 rfl rfl 13 (by decide) fl_X5_week_X5_13 rfl dX5_week_77 rfl ?_
      refine v_iload_n C dX5_week_80 rfl 1 1 rfl rfl ?_
      refine v_callSid C K (c_X5_sumOf l D ad cI _ 11 (by decide) (by decide) _) gX5_week_X5_sumOf rfl hd_X5_sumOf.2 ⟨rfl, rfl⟩ ⟨Nat.le_of_ble_eq_true rfl, Nat.le_of_ble_eq_true rfl⟩ rfl rfl (Nat.le_of_ble_eq_true rfl) ⟨Nat.le_refl _, Nat.le_refl _⟩ dX5_week_81 rfl ?_
      exact hend (⟨by simp [h6, h17_0, h17_1, h17_2, h17_3, q_wk]; exact q_W_J (fun f w hf hw => (hJ8 f w hf hw).2.2.2) wk, hs⟩) (rfl) dX5_week_84
    by_cases h17_4 : what = 4
    · refine v_tableIn C 85 dX5_week_17 (by rw [h17_4]; decide) (by rw [h17_4]; decide) (off := 68) (by rw [h17_4]; rfl) (by decide) ?_
      refine v_aload_n C dX5_week_85 rfl 0 0 rfl rfl ?_
      refine v_iload_n C dX5_week_86 rfl 1 1 rfl rfl ?_
      refine v_callVid C K (c_X5_leftOf l D ad cI _ _) gX5_week_X5_leftOf rfl hd_X5_leftOf ⟨rfl, rfl⟩ ⟨Nat.le_of_ble_eq_true rfl, Nat.le_of_ble_eq_true rfl⟩ 0 rfl rfl rfl rfl rfl (Nat.le_of_ble_eq_true rfl) ⟨Nat.le_refl _, Nat.le_refl _⟩ dX5_week_87 rfl ?_
      refine v_ldc C dX5_week_90 rfl ct_X5_week_129 ?_
      refine v_iadd C dX5_week_92 rfl ?_
      exact hend (⟨by simp [h6, h17_0, h17_1, h17_2, h17_3, h17_4, q_wk, hl], hs⟩) (rfl) dX5_week_93
    refine v_tableOut C 94 dX5_week_17 (sw9 (x := what) (n := 4) (by decide) (fun j hj => by rcases (show j = 0 ∨ j = 1 ∨ j = 2 ∨ j = 3 ∨ j = 4 by omega) with rfl | rfl | rfl | rfl | rfl <;> first | exact h17_0 | exact h17_1 | exact h17_2 | exact h17_3 | exact h17_4)) (by decide) ?_
    refine v_bipush (v := -2) C dX5_week_94 rfl bp_m2 ?_
    exact hend (⟨by simp [h6, h17_0, h17_1, h17_2, h17_3, h17_4, q_wk], hs⟩) (rfl) dX5_week_96
  · skip
    refine v_bipush (v := -2) C dX5_week_9 rfl bp_m2 ?_
    exact hend (⟨by simp [h6], sc9_rf σ⟩) (rfl) dX5_week_11
set_option maxHeartbeats 4000000 in
set_option maxRecDepth 100000 in
theorem c_X5_rent (l : Launch) (D : va_G) (ad : Nat → Nat) (cI : ClassId) (σ : S9) (d : Int32) : CMi l (mW ad cI) D [(cI, .int)] yX5_rent wsX5_rent ({ frames := 1, cells := 0, slots := 0, locals := 22 } : Room) [.ref (ad 0), .int d] σ (fun r u => r = (if p_in d 0 34 = 0 then -2 else σ 0 (116 + d.toNatClampNeg)) ∧ u = σ) := by
  refine v_starti (own := RX5) (cc := cX5_rent) (nL := 2) rfl (by decide) rfl (Nat.le_of_ble_eq_true rfl) ?_
  intro p e s m args below meth c A Q C K hend
  refine v_lv (lv' := [(0, .ref (ad 0)), (1, .int d)]) [0, 1] rfl ?_
  refine v_iload_n C dX5_rent_0 rfl 1 1 rfl rfl ?_
  refine v_iconst (v := 0) C dX5_rent_1 rfl ic_0 ?_
  refine v_bipush (v := 34) C dX5_rent_2 rfl bp_34 ?_
  refine v_callSpd C (c_X5_within l _ _ _) gX5_rent_X5_within rfl hd_X5_within.2 ⟨rfl, rfl⟩ ⟨Nat.le_of_ble_eq_true rfl, Nat.le_of_ble_eq_true rfl⟩ rfl rfl (Nat.le_of_ble_eq_true rfl) ⟨Nat.le_refl _, Nat.le_refl _⟩ dX5_rent_4 rfl ?_
  refine v_if_eq C 22 dX5_rent_7 (by decide) rfl (fun h7t => ?_) (fun h7 => ?_)
  · skip
    refine v_bipush (v := -2) C dX5_rent_22 rfl bp_m2 ?_
    exact hend (⟨by simp [h7t], rfl⟩) (rfl) dX5_rent_24
  · skip
    obtain ⟨d, hd, rfl⟩ := p_in_nI (n := 34) (by decide) h7
    have ecd : (nI d).toNatClampNeg = d := nI_cl (by omega)
    refine v_aload_n C dX5_rent_10 rfl 0 0 rfl rfl ?_
    refine v_get C K in_X5_rent_X5 0 rfl rfl 0 (by decide) fl_X5_rent_X5_0 rfl dX5_rent_11 rfl ?_
    refine v_bipush (v := 116) C dX5_rent_14 rfl bp_116 ?_
    refine v_iload_n C dX5_rent_16 rfl 1 1 rfl rfl ?_
    refine v_iadd C dX5_rent_17 rfl ?_
    refine v_iald C K 1 0 rfl rfl (116 + d) (by simp only [lit9, pk_mul, nI_add]) (by omega) (by decide) dX5_rent_18 rfl ?_
    refine v_goto C 24 dX5_rent_19 (by decide) ?_
    exact hend (⟨by simp [h7, ecd], rfl⟩) (rfl) dX5_rent_24
def q_fs (r : Nat → Int32) (k : Nat) : Int32 := if ¬ r (46 + k) = -6 ∧ q_ppa r k = r 0 then 1 else 0
def q_cnt (r : Nat → Int32) (pl rc what : Int32) : Int32 := if what = 0 then r 5 else if what = 1 then q_W (q_S r) (-1) else if what = 2 then sm9 (ppT (q_ppa r) (-1)) 70 else if what = 3 then q_W (q_T r) (-1) else if what = 4 then q_W (q_D r) (-1) else if what = 5 then q_left r (-1) + 1000000 else if what = 6 then sm9 (rnT r (-1)) 35 else if what = 7 then sm9 (q_fs r) 70 else if what = 8 then r 0 else if what = 9 then r 1 else if what = 10 then r 2 else if what = 11 then r 3 else if what = 12 then r 4 else if what = 13 then pl else if what = 14 then rc else -2
set_option maxHeartbeats 4000000 in
set_option maxRecDepth 100000 in
theorem c_X5_count (l : Launch) (D : va_G) (ad : Nat → Nat) (cI : ClassId) (σ : S9) (n : Nat) (hw : wfS (σ 0) n) (what : Int32) : CMi l (mW ad cI) D [(cI, .int)] yX5_count wsX5_count ({ frames := 4, cells := 0, slots := 0, locals := 90 } : Room) [.ref (ad 0), .int what] σ (fun r u => r = q_cnt (σ 0) (σ 12 1) (σ 12 0) what ∧ sc9 σ u) := by
  refine v_starti (own := RX5) (cc := cX5_count) (nL := 2) rfl (by decide) rfl (Nat.le_of_ble_eq_true rfl) ?_
  intro p e s m args below meth c A Q C K hend
  refine v_lv (lv' := [(0, .ref (ad 0)), (1, .int what)]) [0, 1] rfl ?_
  refine v_aload_n C dX5_count_0 rfl 0 0 rfl rfl ?_
  refine v_callVv C K (c_X5_reckon l D ad cI _ n hw) gX5_count_X5_reckon rfl hd_X5_reckon ⟨rfl, rfl⟩ ⟨Nat.le_of_ble_eq_true rfl, Nat.le_of_ble_eq_true rfl⟩ 0 rfl rfl rfl rfl rfl (Nat.le_of_ble_eq_true rfl) ⟨Nat.le_refl _, Nat.le_refl _⟩ dX5_count_1 rfl (fun u1 hc1 => ?_)
  have hs : sc9 σ u1 := by
    rw [hc1]
    exact sc9_rk n σ
  have hs0 : u1 0 = σ 0 := sc9_0 hs
  have hJ := rkM_J hw
  rw [← hc1] at hJ
  obtain ⟨hJ7, hJ56, hJ8⟩ := hJ
  have hl : p_left u1 (-1) = q_left (σ 0) (-1) := by
    rw [hc1]
    exact p_left_J hw (-1)
  have hs12 : u1 12 = σ 12 := sc9_12 hs
  refine v_iload_n C dX5_count_4 rfl 1 1 rfl rfl ?_
  by_cases h5_0 : what = 0
  · refine v_tableIn C 80 dX5_count_5 (by rw [h5_0]; decide) (by rw [h5_0]; decide) (off := 75) (by rw [h5_0]; rfl) (by decide) ?_
    refine v_aload_n C dX5_count_80 rfl 0 0 rfl rfl ?_
    refine v_get C K in_X5_count_X5 0 rfl rfl 0 (by decide) fl_X5_count_X5_0 rfl dX5_count_81 rfl ?_
    refine v_iconst (v := 5) C dX5_count_84 rfl ic_5 ?_
    refine v_iald C K 1 0 rfl rfl (5) (rfl) (by omega) (by decide) dX5_count_85 rfl ?_
    exact hend (⟨by simp [h5_0, q_cnt, hs0], hs⟩) (rfl) dX5_count_86
  by_cases h5_1 : what = 1
  · refine v_tableIn C 87 dX5_count_5 (by rw [h5_1]; decide) (by rw [h5_1]; decide) (off := 82) (by rw [h5_1]; rfl) (by decide) ?_
    refine v_aload_n C dX5_count_87 rfl 0 0 rfl rfl ?_
    refine v_get C K in_X5_count_X5 0 rfl rfl 10 (by decide) fl_X5_count_X5_10 rfl dX5_count_88 rfl ?_
    refine v_iconst (v := -1) C dX5_count_91 rfl ic_m1 ?_
    refine v_callSid C K (c_X5_sumOf l D ad cI _ 8 (by decide) (by decide) _) gX5_count_X5_sumOf rfl hd_X5_sumOf.2 ⟨rfl, rfl⟩ ⟨Nat.le_of_ble_eq_true rfl, Nat.le_of_ble_eq_true rfl⟩ rfl rfl (Nat.le_of_ble_eq_true rfl) ⟨Nat.le_refl _, Nat.le_refl _⟩ dX5_count_92 rfl ?_
    exact hend (⟨by simp [h5_0, h5_1, q_cnt]; exact q_W_J (fun f w hf hw => (hJ8 f w hf hw).1) (-1), hs⟩) (rfl) dX5_count_95
  by_cases h5_2 : what = 2
  · refine v_tableIn C 96 dX5_count_5 (by rw [h5_2]; decide) (by rw [h5_2]; decide) (off := 91) (by rw [h5_2]; rfl) (by decide) ?_
    refine v_aload_n C dX5_count_96 rfl 0 0 rfl rfl ?_
    refine v_iconst (v := -1) C dX5_count_97 rfl ic_m1 ?_
    refine v_callVid C K (c_X5_peopleIn l D ad cI _ _) gX5_count_X5_peopleIn rfl hd_X5_peopleIn ⟨rfl, rfl⟩ ⟨Nat.le_of_ble_eq_true rfl, Nat.le_of_ble_eq_true rfl⟩ 0 rfl rfl rfl rfl rfl (Nat.le_of_ble_eq_true rfl) ⟨Nat.le_refl _, Nat.le_refl _⟩ dX5_count_98 rfl ?_
    exact hend (⟨by simp [h5_0, h5_1, h5_2, q_cnt]; exact sm9_congr (fun k hk => by rw [ppT, ppT, (hJ56 k hk).1]), hs⟩) (rfl) dX5_count_101
  by_cases h5_3 : what = 3
  · refine v_tableIn C 102 dX5_count_5 (by rw [h5_3]; decide) (by rw [h5_3]; decide) (off := 97) (by rw [h5_3]; rfl) (by decide) ?_
    refine v_aload_n C dX5_count_102 rfl 0 0 rfl rfl ?_
    refine v_get C K in_X5_count_X5 0 rfl rfl 11 (by decide) fl_X5_count_X5_11 rfl dX5_count_103 rfl ?_
    refine v_iconst (v := -1) C dX5_count_106 rfl ic_m1 ?_
    refine v_callSid C K (c_X5_sumOf l D ad cI _ 9 (by decide) (by decide) _) gX5_count_X5_sumOf rfl hd_X5_sumOf.2 ⟨rfl, rfl⟩ ⟨Nat.le_of_ble_eq_true rfl, Nat.le_of_ble_eq_true rfl⟩ rfl rfl (Nat.le_of_ble_eq_true rfl) ⟨Nat.le_refl _, Nat.le_refl _⟩ dX5_count_107 rfl ?_
    exact hend (⟨by simp [h5_0, h5_1, h5_2, h5_3, q_cnt]; exact q_W_J (fun f w hf hw => (hJ8 f w hf hw).2.1) (-1), hs⟩) (rfl) dX5_count_110
  by_cases h5_4 : what = 4
  · refine v_tableIn C 111 dX5_count_5 (by rw [h5_4]; decide) (by rw [h5_4]; decide) (off := 106) (by rw [h5_4]; rfl) (by decide) ?_
    refine v_aload_n C dX5_count_111 rfl 0 0 rfl rfl ?_
    refine v_get C K in_X5_count_X5 0 rfl rfl 13 (by decide) fl_X5_count_X5_13 rfl dX5_count_112 rfl ?_
    refine v_iconst (v := -1) C dX5_count_115 rfl ic_m1 ?_
    refine v_callSid C K (c_X5_sumOf l D ad cI _ 11 (by decide) (by decide) _) gX5_count_X5_sumOf rfl hd_X5_sumOf.2 ⟨rfl, rfl⟩ ⟨Nat.le_of_ble_eq_true rfl, Nat.le_of_ble_eq_true rfl⟩ rfl rfl (Nat.le_of_ble_eq_true rfl) ⟨Nat.le_refl _, Nat.le_refl _⟩ dX5_count_116 rfl ?_
    exact hend (⟨by simp [h5_0, h5_1, h5_2, h5_3, h5_4, q_cnt]; exact q_W_J (fun f w hf hw => (hJ8 f w hf hw).2.2.2) (-1), hs⟩) (rfl) dX5_count_119
  by_cases h5_5 : what = 5
  · refine v_tableIn C 120 dX5_count_5 (by rw [h5_5]; decide) (by rw [h5_5]; decide) (off := 115) (by rw [h5_5]; rfl) (by decide) ?_
    refine v_aload_n C dX5_count_120 rfl 0 0 rfl rfl ?_
    refine v_iconst (v := -1) C dX5_count_121 rfl ic_m1 ?_
    refine v_callVid C K (c_X5_leftOf l D ad cI _ _) gX5_count_X5_leftOf rfl hd_X5_leftOf ⟨rfl, rfl⟩ ⟨Nat.le_of_ble_eq_true rfl, Nat.le_of_ble_eq_true rfl⟩ 0 rfl rfl rfl rfl rfl (Nat.le_of_ble_eq_true rfl) ⟨Nat.le_refl _, Nat.le_refl _⟩ dX5_count_122 rfl ?_
    refine v_ldc C dX5_count_125 rfl ct_X5_count_129 ?_
    refine v_iadd C dX5_count_127 rfl ?_
    exact hend (⟨by simp [h5_0, h5_1, h5_2, h5_3, h5_4, h5_5, q_cnt, hl], hs⟩) (rfl) dX5_count_128
  by_cases h5_6 : what = 6
  · refine v_tableIn C 129 dX5_count_5 (by rw [h5_6]; decide) (by rw [h5_6]; decide) (off := 124) (by rw [h5_6]; rfl) (by decide) ?_
    refine v_aload_n C dX5_count_129 rfl 0 0 rfl rfl ?_
    refine v_iconst (v := -1) C dX5_count_130 rfl ic_m1 ?_
    refine v_callVid C K (c_X5_rentsOf l D ad cI _ _) gX5_count_X5_rentsOf rfl hd_X5_rentsOf ⟨rfl, rfl⟩ ⟨Nat.le_of_ble_eq_true rfl, Nat.le_of_ble_eq_true rfl⟩ 0 rfl rfl rfl rfl rfl (Nat.le_of_ble_eq_true rfl) ⟨Nat.le_refl _, Nat.le_refl _⟩ dX5_count_131 rfl ?_
    exact hend (⟨by simp [h5_0, h5_1, h5_2, h5_3, h5_4, h5_5, h5_6, q_cnt, hs0], hs⟩) (rfl) dX5_count_134
  by_cases h5_7 : what = 7
  · refine v_tableIn C 135 dX5_count_5 (by rw [h5_7]; decide) (by rw [h5_7]; decide) (off := 130) (by rw [h5_7]; rfl) (by decide) ?_
    refine v_aload_n C dX5_count_135 rfl 0 0 rfl rfl ?_
    refine v_callVid C K (c_X5_fullShows l D ad cI _) gX5_count_X5_fullShows rfl hd_X5_fullShows ⟨rfl, rfl⟩ ⟨Nat.le_of_ble_eq_true rfl, Nat.le_of_ble_eq_true rfl⟩ 0 rfl rfl rfl rfl rfl (Nat.le_of_ble_eq_true rfl) ⟨Nat.le_refl _, Nat.le_refl _⟩ dX5_count_136 rfl ?_
    exact hend (⟨by simp [h5_0, h5_1, h5_2, h5_3, h5_4, h5_5, h5_6, h5_7, q_cnt]; exact sm9_congr (fun k hk => by rw [fsT, q_fs, hs0, (hJ56 k hk).1]), hs⟩) (rfl) dX5_count_139
  by_cases h5_8 : what = 8
  · refine v_tableIn C 140 dX5_count_5 (by rw [h5_8]; decide) (by rw [h5_8]; decide) (off := 135) (by rw [h5_8]; rfl) (by decide) ?_
    subst h5_8
    refine v_aload_n C dX5_count_140 rfl 0 0 rfl rfl ?_
    refine v_get C K in_X5_count_X5 0 rfl rfl 0 (by decide) fl_X5_count_X5_0 rfl dX5_count_141 rfl ?_
    refine v_iload_n C dX5_count_144 rfl 1 1 rfl rfl ?_
    refine v_bipush (v := 8) C dX5_count_145 rfl bp_8 ?_
    refine v_isub C dX5_count_147 rfl ?_
    refine v_iald C K 1 0 rfl rfl (0) (by decide) (by decide) (by decide) dX5_count_148 rfl ?_
    exact hend (⟨by simp [q_cnt, hs0], hs⟩) (rfl) dX5_count_149
  by_cases h5_9 : what = 9
  · refine v_tableIn C 140 dX5_count_5 (by rw [h5_9]; decide) (by rw [h5_9]; decide) (off := 135) (by rw [h5_9]; rfl) (by decide) ?_
    subst h5_9
    refine v_aload_n C dX5_count_140 rfl 0 0 rfl rfl ?_
    refine v_get C K in_X5_count_X5 0 rfl rfl 0 (by decide) fl_X5_count_X5_0 rfl dX5_count_141 rfl ?_
    refine v_iload_n C dX5_count_144 rfl 1 1 rfl rfl ?_
    refine v_bipush (v := 8) C dX5_count_145 rfl bp_8 ?_
    refine v_isub C dX5_count_147 rfl ?_
    refine v_iald C K 1 0 rfl rfl (1) (by decide) (by decide) (by decide) dX5_count_148 rfl ?_
    exact hend (⟨by simp [q_cnt, hs0], hs⟩) (rfl) dX5_count_149
  by_cases h5_10 : what = 10
  · refine v_tableIn C 140 dX5_count_5 (by rw [h5_10]; decide) (by rw [h5_10]; decide) (off := 135) (by rw [h5_10]; rfl) (by decide) ?_
    subst h5_10
    refine v_aload_n C dX5_count_140 rfl 0 0 rfl rfl ?_
    refine v_get C K in_X5_count_X5 0 rfl rfl 0 (by decide) fl_X5_count_X5_0 rfl dX5_count_141 rfl ?_
    refine v_iload_n C dX5_count_144 rfl 1 1 rfl rfl ?_
    refine v_bipush (v := 8) C dX5_count_145 rfl bp_8 ?_
    refine v_isub C dX5_count_147 rfl ?_
    refine v_iald C K 1 0 rfl rfl (2) (by decide) (by decide) (by decide) dX5_count_148 rfl ?_
    exact hend (⟨by simp [q_cnt, hs0], hs⟩) (rfl) dX5_count_149
  by_cases h5_11 : what = 11
  · refine v_tableIn C 140 dX5_count_5 (by rw [h5_11]; decide) (by rw [h5_11]; decide) (off := 135) (by rw [h5_11]; rfl) (by decide) ?_
    subst h5_11
    refine v_aload_n C dX5_count_140 rfl 0 0 rfl rfl ?_
    refine v_get C K in_X5_count_X5 0 rfl rfl 0 (by decide) fl_X5_count_X5_0 rfl dX5_count_141 rfl ?_
    refine v_iload_n C dX5_count_144 rfl 1 1 rfl rfl ?_
    refine v_bipush (v := 8) C dX5_count_145 rfl bp_8 ?_
    refine v_isub C dX5_count_147 rfl ?_
    refine v_iald C K 1 0 rfl rfl (3) (by decide) (by decide) (by decide) dX5_count_148 rfl ?_
    exact hend (⟨by simp [q_cnt, hs0], hs⟩) (rfl) dX5_count_149
  by_cases h5_12 : what = 12
  · refine v_tableIn C 140 dX5_count_5 (by rw [h5_12]; decide) (by rw [h5_12]; decide) (off := 135) (by rw [h5_12]; rfl) (by decide) ?_
    subst h5_12
    refine v_aload_n C dX5_count_140 rfl 0 0 rfl rfl ?_
    refine v_get C K in_X5_count_X5 0 rfl rfl 0 (by decide) fl_X5_count_X5_0 rfl dX5_count_141 rfl ?_
    refine v_iload_n C dX5_count_144 rfl 1 1 rfl rfl ?_
    refine v_bipush (v := 8) C dX5_count_145 rfl bp_8 ?_
    refine v_isub C dX5_count_147 rfl ?_
    refine v_iald C K 1 0 rfl rfl (4) (by decide) (by decide) (by decide) dX5_count_148 rfl ?_
    exact hend (⟨by simp [q_cnt, hs0], hs⟩) (rfl) dX5_count_149
  by_cases h5_13 : what = 13
  · refine v_tableIn C 150 dX5_count_5 (by rw [h5_13]; decide) (by rw [h5_13]; decide) (off := 145) (by rw [h5_13]; rfl) (by decide) ?_
    refine v_aload_n C dX5_count_150 rfl 0 0 rfl rfl ?_
    refine v_get C K in_X5_count_X5 0 rfl rfl 6 (by decide) fl_X5_count_X5_6 rfl dX5_count_151 rfl ?_
    exact hend (⟨by simp [h5_0, h5_1, h5_2, h5_3, h5_4, h5_5, h5_6, h5_7, h5_8, h5_9, h5_10, h5_11, h5_12, h5_13, q_cnt, hs12], hs⟩) (rfl) dX5_count_154
  by_cases h5_14 : what = 14
  · refine v_tableIn C 155 dX5_count_5 (by rw [h5_14]; decide) (by rw [h5_14]; decide) (off := 150) (by rw [h5_14]; rfl) (by decide) ?_
    refine v_aload_n C dX5_count_155 rfl 0 0 rfl rfl ?_
    refine v_get C K in_X5_count_X5 0 rfl rfl 2 (by decide) fl_X5_count_X5_2 rfl dX5_count_156 rfl ?_
    exact hend (⟨by simp [h5_0, h5_1, h5_2, h5_3, h5_4, h5_5, h5_6, h5_7, h5_8, h5_9, h5_10, h5_11, h5_12, h5_13, h5_14, q_cnt, hs12], hs⟩) (rfl) dX5_count_159
  refine v_tableOut C 160 dX5_count_5 (sw9 (x := what) (n := 14) (by decide) (fun j hj => by rcases (show j = 0 ∨ j = 1 ∨ j = 2 ∨ j = 3 ∨ j = 4 ∨ j = 5 ∨ j = 6 ∨ j = 7 ∨ j = 8 ∨ j = 9 ∨ j = 10 ∨ j = 11 ∨ j = 12 ∨ j = 13 ∨ j = 14 by omega) with rfl | rfl | rfl | rfl | rfl | rfl | rfl | rfl | rfl | rfl | rfl | rfl | rfl | rfl | rfl <;> first | exact h5_0 | exact h5_1 | exact h5_2 | exact h5_3 | exact h5_4 | exact h5_5 | exact h5_6 | exact h5_7 | exact h5_8 | exact h5_9 | exact h5_10 | exact h5_11 | exact h5_12 | exact h5_13 | exact h5_14)) (by decide) ?_
  refine v_bipush (v := -2) C dX5_count_160 rfl bp_m2 ?_
  exact hend (⟨by simp [h5_0, h5_1, h5_2, h5_3, h5_4, h5_5, h5_6, h5_7, h5_8, h5_9, h5_10, h5_11, h5_12, h5_13, h5_14, q_cnt], hs⟩) (rfl) dX5_count_162

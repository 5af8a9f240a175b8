theorem st9_tw (σ : S9) (i : Nat) (g h : Nat → Int32) : st9 (st9 σ i g) i h = st9 σ i h := by
  funext k
  by_cases e : k = i <;> simp [st9, e]
theorem st9_sw (σ : S9) {i j : Nat} (g h : Nat → Int32) (n : i ≠ j) : st9 (st9 σ i g) j h = st9 (st9 σ j h) i g := by
  funext k
  by_cases e : k = i
  · subst e
    simp [st9, n]
  · by_cases e2 : k = j
    · subst e2
      simp [st9, e]
    · simp [st9, e, e2]
theorem st9_id (σ : S9) (i : Nat) : st9 σ i (σ i) = σ := by
  funext k
  by_cases e : k = i <;> simp [st9, e]
theorem upd_tw (f : Nat → Int32) (k : Nat) (x y : Int32) : upd (upd f k x) k y = upd f k y := by
  funext j
  by_cases e : j = k <;> simp [upd, e]
theorem upd_id (f : Nat → Int32) (k : Nat) : upd f k (f k) = f := by
  funext j
  by_cases e : j = k <;> simp [upd, e]
theorem upd_s (f : Nat → Int32) (k : Nat) (x : Int32) : upd f k x k = x := if_pos rfl
theorem upd_n (f : Nat → Int32) {j k : Nat} (x : Int32) (h : j ≠ k) : upd f k x j = f j := if_neg h
def sm9 (t : Nat → Int32) : Nat → Int32
  | 0 => 0
  | d + 1 => sm9 t d + t d
def it9 (g : Nat → S9 → S9) : Nat → S9 → S9
  | 0, u => u
  | k + 1, u => g k (it9 g k u)
def p_part (d q : Int32) : Int32 := if p_in d 0 34 = 0 then 0 else if p_in q 0 1 = 0 then 0 else 1
theorem p_part_nar (d q : Int32) : narrow .boolean (.int (p_part d q)) = .int (p_part d q) := by
  unfold p_part
  split
  · rfl
  · split <;> rfl
set_option maxHeartbeats 4000000 in
set_option maxRecDepth 100000 in
theorem c_X5_isPart (l : Launch) (d q : Int32) : CPi l yX5_isPart wsX5_isPart ({ frames := 1, cells := 0, slots := 0, locals := 22 } : Room) [.int d, .int q] (fun r => r = p_part d q) := by
  refine v_startP (own := RX5) (cc := cX5_isPart) (nL := 2) ((fun _ => 0), (fun _ _ => 0)) rfl (by decide) rfl (Nat.le_of_ble_eq_true rfl) ?_
  intro p e s m args below meth c A Q C hend
  skip
  refine v_lv (lv' := [(0, .int d), (1, .int q)]) [0, 1] rfl ?_
  refine v_iload_n C dX5_isPart_0 rfl 0 0 rfl rfl ?_
  refine v_iconst (v := 0) C dX5_isPart_1 rfl ic_0 ?_
  refine v_bipush (v := 34) C dX5_isPart_2 rfl bp_34 ?_
  refine v_callSpd C (c_X5_within l _ _ _) gX5_isPart_X5_within rfl hd_X5_within.2 ⟨rfl, rfl⟩ ⟨Nat.le_of_ble_eq_true rfl, Nat.le_of_ble_eq_true rfl⟩ rfl rfl (Nat.le_of_ble_eq_true rfl) ⟨Nat.le_refl _, Nat.le_refl _⟩ dX5_isPart_4 rfl ?_
  refine v_if_eq C 23 dX5_isPart_7 (by decide) rfl (fun h7 => ?_) (fun h7 => ?_)
  · skip
    refine v_iconst (v := 0) C dX5_isPart_23 rfl ic_0 ?_
    exact hend (by simp [p_part, h7]) (rfl) dX5_isPart_24
  · skip
    refine v_iload_n C dX5_isPart_10 rfl 1 1 rfl rfl ?_
    refine v_iconst (v := 0) C dX5_isPart_11 rfl ic_0 ?_
    refine v_iconst (v := 1) C dX5_isPart_12 rfl ic_1 ?_
    refine v_callSpd C (c_X5_within l _ _ _) gX5_isPart_X5_within rfl hd_X5_within.2 ⟨rfl, rfl⟩ ⟨Nat.le_of_ble_eq_true rfl, Nat.le_of_ble_eq_true rfl⟩ rfl rfl (Nat.le_of_ble_eq_true rfl) ⟨Nat.le_refl _, Nat.le_refl _⟩ dX5_isPart_13 rfl ?_
    refine v_if_eq C 23 dX5_isPart_16 (by decide) rfl (fun h16 => ?_) (fun h16 => ?_)
    · skip
      refine v_iconst (v := 0) C dX5_isPart_23 rfl ic_0 ?_
      exact hend (by simp [p_part, h7, h16]) (rfl) dX5_isPart_24
    · skip
      refine v_iconst (v := 1) C dX5_isPart_19 rfl ic_1 ?_
      refine v_goto C 24 dX5_isPart_20 (by decide) ?_
      exact hend (by simp [p_part, h7, h16]) (rfl) dX5_isPart_24
set_option maxHeartbeats 4000000 in
set_option maxRecDepth 100000 in
theorem c_X5_showAt (l : Launch) (D : va_G) (ad : Nat → Nat) (cI : ClassId) (σ : S9) (d q : Nat) (hd : d < 35) (hq : q < 2) : CMi l (mW ad cI) D [(cI, .int)] yX5_showAt wsX5_showAt ({ frames := 0, cells := 0, slots := 0, locals := 0 } : Room) [.ref (ad 0), .int (nI d), .int (nI q)] σ (fun r u => r = σ 0 (46 + 2 * d + q) ∧ u = σ) := by
  refine v_starti (own := RX5) (cc := cX5_showAt) (nL := 3) rfl (by decide) rfl (Nat.le_of_ble_eq_true rfl) ?_
  intro p e s m args below meth c A Q C K hend
  refine v_lv (lv' := [(0, .ref (ad 0)), (1, .int (nI d)), (2, .int (nI q))]) [0, 1, 2] rfl ?_
  refine v_aload_n C dX5_showAt_0 rfl 0 0 rfl rfl ?_
  refine v_get C K in_X5_showAt_X5 0 rfl rfl 0 (by decide) fl_X5_showAt_X5_0 rfl dX5_showAt_1 rfl ?_
  refine v_bipush (v := 46) C dX5_showAt_4 rfl bp_46 ?_
  refine v_iconst (v := 2) C dX5_showAt_6 rfl ic_2 ?_
  refine v_iload_n C dX5_showAt_7 rfl 1 1 rfl rfl ?_
  refine v_imul C dX5_showAt_8 rfl ?_
  refine v_iadd C dX5_showAt_9 rfl ?_
  refine v_iload_n C dX5_showAt_10 rfl 2 2 rfl rfl ?_
  refine v_iadd C dX5_showAt_11 rfl ?_
  refine v_iald C K 1 0 rfl rfl (46 + 2 * d + q) (by simp only [lit9, pk_mul, nI_add]) (by omega) (by decide) dX5_showAt_12 rfl ?_
  exact hend (⟨rfl, rfl⟩) (rfl) dX5_showAt_13
def p_let (r : Nat → Int32) (d : Nat) : Int32 := if r (116 + d) ≤ 0 then 0 else 1
set_option maxHeartbeats 4000000 in
set_option maxRecDepth 100000 in
theorem c_X5_isLet (l : Launch) (D : va_G) (ad : Nat → Nat) (cI : ClassId) (σ : S9) (d : Nat) (hd : d < 35) : CMi l (mW ad cI) D [(cI, .int)] yX5_isLet wsX5_isLet ({ frames := 0, cells := 0, slots := 0, locals := 0 } : Room) [.ref (ad 0), .int (nI d)] σ (fun r u => r = p_let (σ 0) d ∧ u = σ) := by
  refine v_starti (own := RX5) (cc := cX5_isLet) (nL := 2) rfl (by decide) rfl (Nat.le_of_ble_eq_true rfl) ?_
  intro p e s m args below meth c A Q C K hend
  refine v_lv (lv' := [(0, .ref (ad 0)), (1, .int (nI d))]) [0, 1] rfl ?_
  refine v_aload_n C dX5_isLet_0 rfl 0 0 rfl rfl ?_
  refine v_get C K in_X5_isLet_X5 0 rfl rfl 0 (by decide) fl_X5_isLet_X5_0 rfl dX5_isLet_1 rfl ?_
  refine v_bipush (v := 116) C dX5_isLet_4 rfl bp_116 ?_
  refine v_iload_n C dX5_isLet_6 rfl 1 1 rfl rfl ?_
  refine v_iadd C dX5_isLet_7 rfl ?_
  refine v_iald C K 1 0 rfl rfl (116 + d) (by simp only [lit9, pk_mul, nI_add]) (by omega) (by decide) dX5_isLet_8 rfl ?_
  refine v_if_le C 16 dX5_isLet_9 (by decide) rfl (fun h9 => ?_) (fun h9 => ?_)
  · skip
    refine v_iconst (v := 0) C dX5_isLet_16 rfl ic_0 ?_
    exact hend (⟨by simp [p_let, h9], rfl⟩) (rfl) dX5_isLet_17
  · skip
    refine v_iconst (v := 1) C dX5_isLet_12 rfl ic_1 ?_
    refine v_goto C 17 dX5_isLet_13 (by decide) ?_
    exact hend (⟨by simp [p_let, h9], rfl⟩) (rfl) dX5_isLet_17
def p_canShow (r : Nat → Int32) (f d : Nat) : Int32 := if ¬ p_let r d = 0 then 0 else if nI d < r (6 + 5 * f + 4) then 0 else 1
set_option maxHeartbeats 4000000 in
set_option maxRecDepth 100000 in
theorem c_X5_canShow (l : Launch) (D : va_G) (ad : Nat → Nat) (cI : ClassId) (σ : S9) (f d : Nat) (hf : f < 8) (hd : d < 35) : CMi l (mW ad cI) D [(cI, .int)] yX5_canShow wsX5_canShow ({ frames := 1, cells := 0, slots := 0, locals := 22 } : Room) [.ref (ad 0), .int (nI f), .int (nI d)] σ (fun r u => r = p_canShow (σ 0) f d ∧ u = σ) := by
  refine v_starti (own := RX5) (cc := cX5_canShow) (nL := 3) rfl (by decide) rfl (Nat.le_of_ble_eq_true rfl) ?_
  intro p e s m args below meth c A Q C K hend
  refine v_lv (lv' := [(0, .ref (ad 0)), (1, .int (nI f)), (2, .int (nI d))]) [0, 1, 2] rfl ?_
  refine v_aload_n C dX5_canShow_0 rfl 0 0 rfl rfl ?_
  refine v_iload_n C dX5_canShow_1 rfl 2 2 rfl rfl ?_
  refine v_callVid C K (c_X5_isLet l D ad cI _ _ hd) gX5_canShow_X5_isLet rfl hd_X5_isLet ⟨rfl, rfl⟩ ⟨Nat.le_of_ble_eq_true rfl, Nat.le_of_ble_eq_true rfl⟩ 0 rfl rfl rfl rfl rfl (Nat.le_of_ble_eq_true rfl) ⟨Nat.le_refl _, Nat.le_refl _⟩ dX5_canShow_2 rfl ?_
  refine v_if_ne C 22 dX5_canShow_5 (by decide) rfl (fun h5 => ?_) (fun h5 => ?_)
  · skip
    refine v_iconst (v := 0) C dX5_canShow_22 rfl ic_0 ?_
    exact hend (⟨by simp [p_canShow, h5], rfl⟩) (rfl) dX5_canShow_23
  · skip
    refine v_iload_n C dX5_canShow_8 rfl 2 2 rfl rfl ?_
    refine v_aload_n C dX5_canShow_9 rfl 0 0 rfl rfl ?_
    refine v_iload_n C dX5_canShow_10 rfl 1 1 rfl rfl ?_
    refine v_iconst (v := 4) C dX5_canShow_11 rfl ic_4 ?_
    refine v_callVid C K (c_X5_filmPart l D ad cI _ f 4 hf (by decide)) gX5_canShow_X5_filmPart rfl hd_X5_filmPart ⟨rfl, rfl⟩ ⟨Nat.le_of_ble_eq_true rfl, Nat.le_of_ble_eq_true rfl⟩ 0 rfl rfl rfl rfl rfl (Nat.le_of_ble_eq_true rfl) ⟨Nat.le_refl _, Nat.le_refl _⟩ dX5_canShow_12 rfl ?_
    refine v_icmp_lt C 22 dX5_canShow_15 (by decide) rfl (fun h15 => ?_) (fun h15 => ?_)
    · skip
      refine v_iconst (v := 0) C dX5_canShow_22 rfl ic_0 ?_
      exact hend (⟨by simp [p_canShow, h5, h15], rfl⟩) (rfl) dX5_canShow_23
    · skip
      refine v_iconst (v := 1) C dX5_canShow_18 rfl ic_1 ?_
      refine v_goto C 23 dX5_canShow_19 (by decide) ?_
      exact hend (⟨by simp [p_canShow, h5, h15], rfl⟩) (rfl) dX5_canShow_23
def p_why (r : Nat → Int32) (f d q : Int32) : Int32 := if p_in f 0 (r 5 - 1) = 0 then -1 else if p_part d q = 0 then -2 else if p_canShow r f.toNatClampNeg d.toNatClampNeg = 0 then -5 else 0
theorem p_in_ne {v lo hi : Int32} (h : ¬ p_in v lo hi = 0) : lo ≤ v ∧ v ≤ hi := by
  unfold p_in at h
  by_cases h1 : v < lo
  · simp [h1] at h
  · by_cases h2 : hi < v
    · simp [h1, h2] at h
    · exact ⟨Int32.not_lt.mp h1, Int32.not_lt.mp h2⟩
theorem p_in_nI {v : Int32} {n : Nat} (hn : n < 2 ^ 31) (h : ¬ p_in v 0 (nI n) = 0) : ∃ j : Nat, j ≤ n ∧ v = nI j := by
  obtain ⟨h1, h2⟩ := p_in_ne h
  exact nI_of2 (M := nI n) (nI_toInt hn) (Int32.not_lt.mpr h1) h2
theorem p_part_ne {d q : Int32} (h : ¬ p_part d q = 0) : ∃ (i j : Nat), i < 35 ∧ j < 2 ∧ d = nI i ∧ q = nI j := by
  unfold p_part at h
  by_cases h1 : p_in d 0 34 = 0
  · simp [h1] at h
  · by_cases h2 : p_in q 0 1 = 0
    · simp [h1, h2] at h
    · obtain ⟨i, hi, rfl⟩ := p_in_nI (n := 34) (by decide) h1
      obtain ⟨j, hj, rfl⟩ := p_in_nI (n := 1) (by decide) h2
      exact ⟨i, j, by omega, by omega, rfl, rfl⟩
theorem p_film_ne {f : Int32} {r : Nat → Int32} {n : Nat} (hn : r 5 = nI n) (h8 : n ≤ 8) (h : ¬ p_in f 0 (r 5 - 1) = 0) : ∃ i : Nat, i < n ∧ f = nI i := by
  rcases Nat.eq_zero_or_pos n with h0 | h0
  · subst h0
    obtain ⟨h1, h2⟩ := p_in_ne h
    rw [hn] at h2
    have h3 := Int32.le_trans h1 h2
    exact absurd h3 (by decide)
  · rw [hn, show nI n - 1 = nI (n - 1) by have := nI_pred (n - 1); rwa [Nat.sub_add_cancel h0] at this] at h
    obtain ⟨i, hi, rfl⟩ := p_in_nI (by omega) h
    exact ⟨i, by omega, rfl⟩
theorem nI_cl {n : Nat} (h : n < 100000) : (nI n).toNatClampNeg = n := nI_clamp (by omega)
set_option maxHeartbeats 4000000 in
set_option maxRecDepth 100000 in
theorem c_X5_whyNotShown (l : Launch) (D : va_G) (ad : Nat → Nat) (cI : ClassId) (σ : S9) (n : Nat) (hn : σ 0 5 = nI n) (h8 : n ≤ 8) (f d q : Int32) : CMi l (mW ad cI) D [(cI, .int)] yX5_whyNotShown wsX5_whyNotShown ({ frames := 2, cells := 0, slots := 0, locals := 44 } : Room) [.ref (ad 0), .int f, .int d, .int q] σ (fun r u => r = p_why (σ 0) f d q ∧ u = σ) := by
  refine v_starti (own := RX5) (cc := cX5_whyNotShown) (nL := 4) rfl (by decide) rfl (Nat.le_of_ble_eq_true rfl) ?_
  intro p e s m args below meth c A Q C K hend
  refine v_lv (lv' := [(0, .ref (ad 0)), (1, .int f), (2, .int d), (3, .int q)]) [0, 1, 2, 3] rfl ?_
  refine v_aload_n C dX5_whyNotShown_0 rfl 0 0 rfl rfl ?_
  refine v_iload_n C dX5_whyNotShown_1 rfl 1 1 rfl rfl ?_
  refine v_callVid C K (c_X5_isFilm l D ad cI _ _) gX5_whyNotShown_X5_isFilm rfl hd_X5_isFilm ⟨rfl, rfl⟩ ⟨Nat.le_of_ble_eq_true rfl, Nat.le_of_ble_eq_true rfl⟩ 0 rfl rfl rfl rfl rfl (Nat.le_of_ble_eq_true rfl) ⟨Nat.le_refl _, Nat.le_refl _⟩ dX5_whyNotShown_2 rfl ?_
  refine v_if_ne C 10 dX5_whyNotShown_5 (by decide) rfl (fun h5 => ?_) (fun h5 => ?_)
  · skip
    refine v_iload_n C dX5_whyNotShown_10 rfl 2 2 rfl rfl ?_
    refine v_iload_n C dX5_whyNotShown_11 rfl 3 3 rfl rfl ?_
    refine v_callSpd C (c_X5_isPart l _ _) gX5_whyNotShown_X5_isPart rfl hd_X5_isPart.2 ⟨rfl, rfl⟩ ⟨Nat.le_of_ble_eq_true rfl, Nat.le_of_ble_eq_true rfl⟩ rfl rfl (Nat.le_of_ble_eq_true rfl) ⟨Nat.le_refl _, Nat.le_refl _⟩ dX5_whyNotShown_12 rfl ?_
    refine v_if_ne C 23 dX5_whyNotShown_15 (by decide) rfl (fun h15 => ?_) (fun h15 => ?_)
    · skip
      obtain ⟨f, hf, rfl⟩ := p_film_ne hn h8 h5
      obtain ⟨d, q, hi, hj, rfl, rfl⟩ := p_part_ne h15
      refine v_aload_n C dX5_whyNotShown_23 rfl 0 0 rfl rfl ?_
      refine v_iload_n C dX5_whyNotShown_24 rfl 1 1 rfl rfl ?_
      refine v_iload_n C dX5_whyNotShown_25 rfl 2 2 rfl rfl ?_
      refine v_callVid C K (c_X5_canShow l D ad cI _ _ _ (Nat.lt_of_lt_of_le hf h8) hi) gX5_whyNotShown_X5_canShow rfl hd_X5_canShow ⟨rfl, rfl⟩ ⟨Nat.le_of_ble_eq_true rfl, Nat.le_of_ble_eq_true rfl⟩ 0 rfl rfl rfl rfl rfl (Nat.le_of_ble_eq_true rfl) ⟨Nat.le_refl _, Nat.le_refl _⟩ dX5_whyNotShown_26 rfl ?_
      refine v_if_eq C 36 dX5_whyNotShown_29 (by decide) rfl (fun h29 => ?_) (fun h29 => ?_)
      · skip
        refine v_bipush (v := -5) C dX5_whyNotShown_36 rfl bp_m5 ?_
        exact hend (⟨by simp [p_why, nI_cl (show d < 100000 by omega), nI_cl (show f < 100000 by omega), h5, h15, h29], rfl⟩) (rfl) dX5_whyNotShown_38
      · skip
        refine v_iconst (v := 0) C dX5_whyNotShown_32 rfl ic_0 ?_
        refine v_goto C 38 dX5_whyNotShown_33 (by decide) ?_
        exact hend (⟨by simp [p_why, nI_cl (show d < 100000 by omega), nI_cl (show f < 100000 by omega), h5, h15, h29], rfl⟩) (rfl) dX5_whyNotShown_38
    · skip
      refine v_bipush (v := -2) C dX5_whyNotShown_18 rfl bp_m2 ?_
      refine v_goto C 38 dX5_whyNotShown_20 (by decide) ?_
      exact hend (⟨by simp [p_why, h5, h15], rfl⟩) (rfl) dX5_whyNotShown_38
  · skip
    refine v_iconst (v := -1) C dX5_whyNotShown_8 rfl ic_m1 ?_
    exact hend (⟨by simp [p_why, h5], rfl⟩) (rfl) dX5_whyNotShown_9
def p_canBe (r : Nat → Int32) (x : Int32) (d : Nat) : Int32 := if ¬ p_let r d = 0 then 0 else if x = -6 then 1 else if nI d < r (6 + 5 * x.toNatClampNeg + 4) then 0 else 1
set_option maxHeartbeats 4000000 in
set_option maxRecDepth 100000 in
theorem c_X5_canBe (l : Launch) (D : va_G) (ad : Nat → Nat) (cI : ClassId) (σ : S9) (x : Int32) (hx : x = -6 ∨ ∃ f : Nat, f < 8 ∧ x = nI f) (d : Nat) (hd : d < 35) : CMi l (mW ad cI) D [(cI, .int)] yX5_canBe wsX5_canBe ({ frames := 1, cells := 0, slots := 0, locals := 22 } : Room) [.ref (ad 0), .int x, .int (nI d)] σ (fun r u => r = p_canBe (σ 0) x d ∧ u = σ) := by
  refine v_starti (own := RX5) (cc := cX5_canBe) (nL := 3) rfl (by decide) rfl (Nat.le_of_ble_eq_true rfl) ?_
  intro p e s m args below meth c A Q C K hend
  refine v_lv (lv' := [(0, .ref (ad 0)), (1, .int x), (2, .int (nI d))]) [0, 1, 2] rfl ?_
  refine v_aload_n C dX5_canBe_0 rfl 0 0 rfl rfl ?_
  refine v_iload_n C dX5_canBe_1 rfl 2 2 rfl rfl ?_
  refine v_callVid C K (c_X5_isLet l D ad cI _ _ hd) gX5_canBe_X5_isLet rfl hd_X5_isLet ⟨rfl, rfl⟩ ⟨Nat.le_of_ble_eq_true rfl, Nat.le_of_ble_eq_true rfl⟩ 0 rfl rfl rfl rfl rfl (Nat.le_of_ble_eq_true rfl) ⟨Nat.le_refl _, Nat.le_refl _⟩ dX5_canBe_2 rfl ?_
  refine v_if_ne C 28 dX5_canBe_5 (by decide) rfl (fun h5 => ?_) (fun h5 => ?_)
  · skip
    refine v_iconst (v := 0) C dX5_canBe_28 rfl ic_0 ?_
    exact hend (⟨by simp [p_canBe, h5], rfl⟩) (rfl) dX5_canBe_29
  · skip
    refine v_iload_n C dX5_canBe_8 rfl 1 1 rfl rfl ?_
    refine v_bipush (v := -6) C dX5_canBe_9 rfl bp_m6 ?_
    refine v_icmp_eq C 24 dX5_canBe_11 (by decide) rfl (fun h11 => ?_) (fun h11 => ?_)
    · skip
      refine v_iconst (v := 1) C dX5_canBe_24 rfl ic_1 ?_
      refine v_goto C 29 dX5_canBe_25 (by decide) ?_
      exact hend (⟨by simp [p_canBe, h5, h11], rfl⟩) (rfl) dX5_canBe_29
    · skip
      obtain ⟨f, hf, rfl⟩ := hx.resolve_left h11
      refine v_iload_n C dX5_canBe_14 rfl 2 2 rfl rfl ?_
      refine v_aload_n C dX5_canBe_15 rfl 0 0 rfl rfl ?_
      refine v_iload_n C dX5_canBe_16 rfl 1 1 rfl rfl ?_
      refine v_iconst (v := 4) C dX5_canBe_17 rfl ic_4 ?_
      refine v_callVid C K (c_X5_filmPart l D ad cI _ f 4 hf (by decide)) gX5_canBe_X5_filmPart rfl hd_X5_filmPart ⟨rfl, rfl⟩ ⟨Nat.le_of_ble_eq_true rfl, Nat.le_of_ble_eq_true rfl⟩ 0 rfl rfl rfl rfl rfl (Nat.le_of_ble_eq_true rfl) ⟨Nat.le_refl _, Nat.le_refl _⟩ dX5_canBe_18 rfl ?_
      refine v_icmp_lt C 28 dX5_canBe_21 (by decide) rfl (fun h21 => ?_) (fun h21 => ?_)
      · skip
        refine v_iconst (v := 0) C dX5_canBe_28 rfl ic_0 ?_
        exact hend (⟨by simp [p_canBe, nI_cl (show f < 100000 by omega), h5, h11, h21], rfl⟩) (rfl) dX5_canBe_29
      · skip
        refine v_iconst (v := 1) C dX5_canBe_24 rfl ic_1 ?_
        refine v_goto C 29 dX5_canBe_25 (by decide) ?_
        exact hend (⟨by simp [p_canBe, nI_cl (show f < 100000 by omega), h5, h11, h21], rfl⟩) (rfl) dX5_canBe_29
def mvF (g h : Nat → Int32) (fo t : Nat) : Nat → (Nat → Int32)
  | 0 => h
  | k + 1 => upd (mvF g h fo t k) (t + k) (g (fo + k))
theorem mvF_in (g h : Nat → Int32) (fo t : Nat) : ∀ (n k : Nat), k < n → mvF g h fo t n (t + k) = g (fo + k)
  | 0, k, hk => absurd hk (Nat.not_lt_zero k)
  | n + 1, k, hk => by
    by_cases e : k = n
    · subst e
      exact upd_s _ _ _
    · rw [mvF, upd_n _ _ (by omega)]
      exact mvF_in g h fo t n k (by omega)
theorem mvF_out (g h : Nat → Int32) (fo t : Nat) {j : Nat} : ∀ (n : Nat), (j < t ∨ t + n ≤ j) → mvF g h fo t n j = h j
  | 0, _ => rfl
  | n + 1, hj => by
    rw [mvF, upd_n _ _ (by omega)]
    exact mvF_out g h fo t n (by omega)
set_option maxHeartbeats 4000000 in
set_option maxRecDepth 100000 in
theorem c_X5_moves (l : Launch) (D : va_G) (ad : Nat → Nat) (cI : ClassId) (σ : S9) (a b fo t : Nat) (ha : a < 12) (hb : b < 12) (hab : a ≠ b) (h1 : fo + 151 ≤ mLen a) (h2 : t + 151 ≤ mLen b) (h3 : mLen a ≤ 1000 ∧ mLen b ≤ 1000) : CMv l (mW ad cI) D [(cI, .int)] yX5_moves wsX5_moves ({ frames := 0, cells := 0, slots := 0, locals := 0 } : Room) [.ref (ad (a + 1)), .int (nI fo), .ref (ad (b + 1)), .int (nI t)] σ (fun u => u = st9 σ b (mvF (σ a) (σ b) fo t 151)) := by
  refine v_startv (own := RX5) (cc := cX5_moves) (nL := 5) rfl (by decide) rfl (Nat.le_of_ble_eq_true rfl) ?_
  intro p e s m args below meth c A Q C K hend
  refine v_lv (lv' := [(0, .ref (ad (a + 1))), (1, .int (nI fo)), (2, .ref (ad (b + 1))), (3, .int (nI t))]) [0, 1, 2, 3] rfl ?_
  refine v_iconst (v := 0) C dX5_moves_0 rfl ic_0 ?_
  refine v_istore (lv' := [(4, _), (0, _), (1, _), (2, _), (3, _)]) C dX5_moves_1 rfl (by decide) rfl ?_
  have LP3 : ∀ d, d ≤ 151 → VV p l e ({ frames := 0, cells := 0, slots := 0, locals := 0 } : Room) s m args below meth c 0 0 Q (mW ad cI) D A s.heap 5 (st9 σ b (mvF (σ a) (σ b) fo t d)) 3 [(0, .ref (ad (a + 1))), (1, .int (nI fo)), (2, .ref (ad (b + 1))), (3, .int (nI t)), (4, .int (nI d))] [] := by
    refine lpB9 (fun d => VV p l e ({ frames := 0, cells := 0, slots := 0, locals := 0 } : Room) s m args below meth c 0 0 Q (mW ad cI) D A s.heap 5 (st9 σ b (mvF (σ a) (σ b) fo t d)) 3 [(0, .ref (ad (a + 1))), (1, .int (nI fo)), (2, .ref (ad (b + 1))), (3, .int (nI t)), (4, .int (nI d))] []) 151 (fun d hd ih => ?_) ?_
    · skip
      refine v_iload C dX5_moves_3 rfl 4 rfl ?_
      refine v_sipush (v := 151) C dX5_moves_5 rfl sp_151 ?_
      refine v_icmp_ge C 29 dX5_moves_8 (by decide) rfl (fun h9 => absurd h9 (nI_ge hd (by decide))) (fun _ => ?_)
      refine v_aload_n C dX5_moves_11 rfl 2 2 rfl rfl ?_
      refine v_iload_n C dX5_moves_12 rfl 3 3 rfl rfl ?_
      refine v_iload C dX5_moves_13 rfl 4 rfl ?_
      refine v_iadd C dX5_moves_15 rfl ?_
      refine v_aload_n C dX5_moves_16 rfl 0 0 rfl rfl ?_
      refine v_iload_n C dX5_moves_17 rfl 1 1 rfl rfl ?_
      refine v_iload C dX5_moves_18 rfl 4 rfl ?_
      refine v_iadd C dX5_moves_20 rfl ?_
      refine v_iald C K (a + 1) 0 (mW_get ad cI _ (by omega)) rfl (fo + d) (by simp only [nI_add]) (by omega) (by omega) dX5_moves_21 rfl ?_
      refine v_iast C K _ (b + 1) 0 (mW_get ad cI _ (by omega)) rfl (t + d) (by simp only [nI_add]) (by omega) (by omega) (mW_ax ad cI _ _ (by omega)) dX5_moves_22 rfl ?_
      refine v_iinc (lv' := [(4, _), (0, _), (1, _), (2, _), (3, _)]) C dX5_moves_23 rfl 4 rfl (inc9 _) (by decide) rfl ?_
      refine v_goto C 3 dX5_moves_26 (by decide) ?_
      refine v_lv (lv' := [(0, _), (1, _), (2, _), (3, _), (4, _)]) [1, 2, 3, 4, 0] rfl ?_
      exact v9cast ih (by rw [st9_tw, st9_s, st9_n _ _ hab]; rfl) rfl rfl
    · skip
      refine v_iload C dX5_moves_3 rfl 4 rfl ?_
      refine v_sipush (v := 151) C dX5_moves_5 rfl sp_151 ?_
      refine v_icmp_ge C 29 dX5_moves_8 (by decide) rfl (fun _ => ?_) (fun h9 => absurd (nI_le (Nat.le_refl _) (by decide)) h9)
      exact hend (rfl) dX5_moves_29
  refine v_lv [1, 2, 3, 4, 0] rfl ?_
  exact v9cast (LP3 0 (by omega)) (st9_id σ b).symm rfl rfl
def shF (g : Nat → Int32) : Nat → (Nat → Int32)
  | 0 => g
  | k + 1 => upd (shF g k) k (shF g k (k + 151))
theorem shF_spec (g : Nat → Int32) : ∀ (n j : Nat), shF g n j = if j < n then g (j + 151) else g j
  | 0, j => by simp [shF]
  | n + 1, j => by
    rw [shF]
    by_cases e : j = n
    · subst e
      rw [upd_s, shF_spec g j (j + 151), if_neg (by omega), if_pos (by omega)]
    · rw [upd_n _ _ e, shF_spec g n j]
      by_cases h : j < n
      · rw [if_pos h, if_pos (by omega)]
      · rw [if_neg h, if_neg (by omega)]
def rcN (n : Nat) : Nat := if n = 6 then 5 else n
def rcH (σ : S9) (n : Nat) : Nat → Int32 := mvF (σ 0) (if n = 6 then shF (σ 1) 755 else σ 1) 0 (rcN n * 151) 151
def rcM (σ : S9) (n : Nat) : S9 := st9 (st9 σ 1 (rcH σ n)) 12 (upd (σ 12) 0 (nI (rcN n + 1)))
set_option maxHeartbeats 4000000 in
set_option maxRecDepth 100000 in
theorem c_X5_record (l : Launch) (D : va_G) (ad : Nat → Nat) (cI : ClassId) (σ : S9) (n : Nat) (hn : σ 12 0 = nI n) (h6 : n ≤ 6) : CMv l (mW ad cI) D [(cI, .int)] yX5_record wsX5_record ({ frames := 1, cells := 0, slots := 0, locals := 24 } : Room) [.ref (ad 0)] σ (fun u => u = rcM σ n) := by
  refine v_startv (own := RX5) (cc := cX5_record) (nL := 2) rfl (by decide) rfl (Nat.le_of_ble_eq_true rfl) ?_
  intro p e s m args below meth c A Q C K hend
  refine v_lv (lv' := [(0, .ref (ad 0))]) [0] rfl ?_
  refine v_aload_n C dX5_record_0 rfl 0 0 rfl rfl ?_
  refine v_get C K in_X5_record_X5 0 rfl rfl 2 (by decide) fl_X5_record_X5_2 rfl dX5_record_1 rfl ?_
  refine v_bipush (v := 6) C dX5_record_4 rfl bp_6 ?_
  refine v_icmp_ne C 50 dX5_record_6 (by decide) rfl (fun h6_ => ?_) (fun h6_ => ?_)
  · skip
    have n6 : n ≠ 6 := by
      rintro rfl
      exact h6_ hn
    refine v_aload_n C dX5_record_50 rfl 0 0 rfl rfl ?_
    refine v_get C K in_X5_record_X5 0 rfl rfl 0 (by decide) fl_X5_record_X5_0 rfl dX5_record_51 rfl ?_
    refine v_iconst (v := 0) C dX5_record_54 rfl ic_0 ?_
    refine v_aload_n C dX5_record_55 rfl 0 0 rfl rfl ?_
    refine v_get C K in_X5_record_X5 0 rfl rfl 1 (by decide) fl_X5_record_X5_1 rfl dX5_record_56 rfl ?_
    refine v_aload_n C dX5_record_59 rfl 0 0 rfl rfl ?_
    refine v_get C K in_X5_record_X5 0 rfl rfl 2 (by decide) fl_X5_record_X5_2 rfl dX5_record_60 rfl ?_
    refine v_sipush (v := 151) C dX5_record_63 rfl sp_151 ?_
    refine v_imul C dX5_record_66 rfl ?_
    refine v_top (nI (rcN n * 151)) (by rw [hn, rcN, if_neg n6]; simp only [lit9, pk_mul]) ?_
    refine v_callSvd C K (c_X5_moves l D ad cI _ 0 1 0 _ (by decide) (by decide) (by decide) (by decide) (by have h9 : rcN n ≤ 5 := (by unfold rcN; split <;> omega); simp only [mLen]; simp; omega) (by decide)) gX5_record_X5_moves rfl hd_X5_moves.2 ⟨rfl, rfl⟩ ⟨Nat.le_of_ble_eq_true rfl, Nat.le_of_ble_eq_true rfl⟩ rfl rfl (Nat.le_of_ble_eq_true rfl) ⟨Nat.le_refl _, Nat.le_refl _⟩ dX5_record_67 rfl ?_
    refine v_aload_n C dX5_record_70 rfl 0 0 rfl rfl ?_
    refine v_dup C dX5_record_71 rfl rfl ?_
    refine v_get C K in_X5_record_X5 0 rfl rfl 2 (by decide) fl_X5_record_X5_2 rfl dX5_record_72 rfl ?_
    refine v_iconst (v := 1) C dX5_record_75 rfl ic_1 ?_
    refine v_iadd C dX5_record_76 rfl ?_
    refine v_top (nI (rcN n + 1)) (by rw [st9_n _ _ (by decide), hn, rcN, if_neg n6]; exact nI_1 n) ?_
    refine v_put (ty := .int) C K _ in_X5_record_X5 tyX5_ok nmX5 0 rfl rfl 2 (by decide) fl_X5_record_X5_2 rfl (by decide +kernel) rfl rfl (Nat.le_of_ble_eq_true rfl) (mW_f0 ad cI _ _) dX5_record_77 rfl ?_
    exact hend (by first | (rw [st9_n _ _ (by decide)]; simp [rcM, rcH, n6]; done) | (funext i; by_cases e1 : i = 1 <;> by_cases e2 : i = 12 <;> simp [rcM, rcH, st9, e1, e2, upd_tw])) dX5_record_80
  · skip
    have e6 : n = 6 := by
      rw [hn] at h6_
      exact (nI_eq (by omega) (by decide)).mp h6_
    subst e6
    refine v_iconst (v := 0) C dX5_record_9 rfl ic_0 ?_
    refine v_istore_n (lv' := [(1, _), (0, _)]) C dX5_record_10 rfl 1 rfl (by decide) rfl ?_
    have LP11 : ∀ d, d ≤ 755 → VV p l e ({ frames := 1, cells := 0, slots := 0, locals := 24 } : Room) s m args below meth c 0 0 Q (mW ad cI) D A s.heap 2 (st9 σ 1 (shF (σ 1) d)) 11 [(0, .ref (ad 0)), (1, .int (nI d))] [] := by
      refine lpB9 (fun d => VV p l e ({ frames := 1, cells := 0, slots := 0, locals := 24 } : Room) s m args below meth c 0 0 Q (mW ad cI) D A s.heap 2 (st9 σ 1 (shF (σ 1) d)) 11 [(0, .ref (ad 0)), (1, .int (nI d))] []) 755 (fun d hd ih => ?_) ?_
      · skip
        refine v_iload_n C dX5_record_11 rfl 1 1 rfl rfl ?_
        refine v_sipush (v := 755) C dX5_record_12 rfl sp_755 ?_
        refine v_icmp_ge C 40 dX5_record_15 (by decide) rfl (fun h9 => absurd h9 (nI_ge hd (by decide))) (fun _ => ?_)
        refine v_aload_n C dX5_record_18 rfl 0 0 rfl rfl ?_
        refine v_get C K in_X5_record_X5 0 rfl rfl 1 (by decide) fl_X5_record_X5_1 rfl dX5_record_19 rfl ?_
        refine v_iload_n C dX5_record_22 rfl 1 1 rfl rfl ?_
        refine v_aload_n C dX5_record_23 rfl 0 0 rfl rfl ?_
        refine v_get C K in_X5_record_X5 0 rfl rfl 1 (by decide) fl_X5_record_X5_1 rfl dX5_record_24 rfl ?_
        refine v_iload_n C dX5_record_27 rfl 1 1 rfl rfl ?_
        refine v_sipush (v := 151) C dX5_record_28 rfl sp_151 ?_
        refine v_iadd C dX5_record_31 rfl ?_
        refine v_iald C K 2 0 rfl rfl (d + 151) (by simp only [lit9, pk_mul, nI_add]) (by omega) (by decide) dX5_record_32 rfl ?_
        refine v_iast C K _ 2 0 rfl rfl (d) (rfl) (by omega) (by decide) (mW_a1 ad cI _ _) dX5_record_33 rfl ?_
        refine v_iinc (lv' := [(1, _), (0, _)]) C dX5_record_34 rfl 1 rfl (inc9 _) (by decide) rfl ?_
        refine v_goto C 11 dX5_record_37 (by decide) ?_
        refine v_lv (lv' := [(0, _), (1, _)]) [1, 0] rfl ?_
        exact v9cast ih (by rw [st9_tw, st9_s]; rfl) rfl rfl
      · skip
        refine v_iload_n C dX5_record_11 rfl 1 1 rfl rfl ?_
        refine v_sipush (v := 755) C dX5_record_12 rfl sp_755 ?_
        refine v_icmp_ge C 40 dX5_record_15 (by decide) rfl (fun _ => ?_) (fun h9 => absurd (nI_le (Nat.le_refl _) (by decide)) h9)
        refine v_aload_n C dX5_record_40 rfl 0 0 rfl rfl ?_
        refine v_dup C dX5_record_41 rfl rfl ?_
        refine v_get C K in_X5_record_X5 0 rfl rfl 2 (by decide) fl_X5_record_X5_2 rfl dX5_record_42 rfl ?_
        refine v_iconst (v := 1) C dX5_record_45 rfl ic_1 ?_
        refine v_isub C dX5_record_46 rfl ?_
        refine v_top (nI 5) (by rw [st9_n _ _ (by decide), hn]; rfl) ?_
        refine v_put (ty := .int) C K _ in_X5_record_X5 tyX5_ok nmX5 0 rfl rfl 2 (by decide) fl_X5_record_X5_2 rfl (by decide +kernel) rfl rfl (Nat.le_of_ble_eq_true rfl) (mW_f0 ad cI _ _) dX5_record_47 rfl ?_
        refine v_aload_n C dX5_record_50 rfl 0 0 rfl rfl ?_
        refine v_get C K in_X5_record_X5 0 rfl rfl 0 (by decide) fl_X5_record_X5_0 rfl dX5_record_51 rfl ?_
        refine v_iconst (v := 0) C dX5_record_54 rfl ic_0 ?_
        refine v_aload_n C dX5_record_55 rfl 0 0 rfl rfl ?_
        refine v_get C K in_X5_record_X5 0 rfl rfl 1 (by decide) fl_X5_record_X5_1 rfl dX5_record_56 rfl ?_
        refine v_aload_n C dX5_record_59 rfl 0 0 rfl rfl ?_
        refine v_get C K in_X5_record_X5 0 rfl rfl 2 (by decide) fl_X5_record_X5_2 rfl dX5_record_60 rfl ?_
        refine v_sipush (v := 151) C dX5_record_63 rfl sp_151 ?_
        refine v_imul C dX5_record_66 rfl ?_
        refine v_top (nI (rcN 6 * 151)) (rfl) ?_
        refine v_callSvd C K (c_X5_moves l D ad cI _ 0 1 0 _ (by decide) (by decide) (by decide) (by decide) (by decide) (by decide)) gX5_record_X5_moves rfl hd_X5_moves.2 ⟨rfl, rfl⟩ ⟨Nat.le_of_ble_eq_true rfl, Nat.le_of_ble_eq_true rfl⟩ rfl rfl (Nat.le_of_ble_eq_true rfl) ⟨Nat.le_refl _, Nat.le_refl _⟩ dX5_record_67 rfl ?_
        refine v_aload_n C dX5_record_70 rfl 0 0 rfl rfl ?_
        refine v_dup C dX5_record_71 rfl rfl ?_
        refine v_get C K in_X5_record_X5 0 rfl rfl 2 (by decide) fl_X5_record_X5_2 rfl dX5_record_72 rfl ?_
        refine v_iconst (v := 1) C dX5_record_75 rfl ic_1 ?_
        refine v_iadd C dX5_record_76 rfl ?_
        refine v_top (nI (rcN 6 + 1)) (rfl) ?_
        refine v_put (ty := .int) C K _ in_X5_record_X5 tyX5_ok nmX5 0 rfl rfl 2 (by decide) fl_X5_record_X5_2 rfl (by decide +kernel) rfl rfl (Nat.le_of_ble_eq_true rfl) (mW_f0 ad cI _ _) dX5_record_77 rfl ?_
        exact hend (by first | (rw [st9_n _ _ (by decide)]; simp [rcM, rcH, n6]; done) | (funext i; by_cases e1 : i = 1 <;> by_cases e2 : i = 12 <;> simp [rcM, rcH, st9, e1, e2, upd_tw])) dX5_record_80
    refine v_lv [1, 0] rfl ?_
    exact v9cast (LP11 0 (by omega)) (st9_id σ 1).symm rfl rfl

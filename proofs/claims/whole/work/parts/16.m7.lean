theorem wfS_upd {r : Nat → Int32} {n k : Nat} {x : Int32} (hw : wfS r n) (hk : k < 70) (hx : x = -6 ∨ ∃ f : Nat, f < n ∧ x = nI f) : wfS (upd r (46 + k) x) n := by
  refine ⟨by rw [upd_n _ _ (by omega)]; exact hw.1, hw.2.1, fun j hj => ?_⟩
  by_cases e : j = k
  · subst e
    rw [upd_s]
    exact hx
  · rw [upd_n _ _ (by omega)]
    exact hw.2.2 j hj
def q_more (r : Nat → Int32) (k : Nat) (x : Int32) : Int32 := q_left (upd r (46 + k) x) (-1) - q_left r (-1)
theorem sc9_of {n : Nat} {σ u : S9} (h : u = rkM n σ) : sc9 σ u := by
  rw [h]
  exact sc9_rk n σ
set_option maxHeartbeats 4000000 in
set_option maxRecDepth 100000 in
theorem c_X5_moreWith (l : Launch) (D : va_G) (ad : Nat → Nat) (cI : ClassId) (σ : S9) (n : Nat) (hw : wfS (σ 0) n) (x : Int32) (hx : x = -6 ∨ ∃ f : Nat, f < n ∧ x = nI f) (k : Nat) (hk : k < 70) : CMi l (mW ad cI) D [(cI, .int)] yX5_moreWith wsX5_moreWith ({ frames := 5, cells := 0, slots := 0, locals := 110 } : Room) [.ref (ad 0), .int x, .int (nI k)] σ (fun r u => r = q_more (σ 0) k x ∧ sc9 σ u) := by
  refine v_starti (own := RX5) (cc := cX5_moreWith) (nL := 6) rfl (by decide) rfl (Nat.le_of_ble_eq_true rfl) ?_
  intro p e s m args below meth c A Q C K hend
  refine v_lv (lv' := [(0, .ref (ad 0)), (1, .int x), (2, .int (nI k))]) [0, 1, 2] rfl ?_
  refine v_aload_n C dX5_moreWith_0 rfl 0 0 rfl rfl ?_
  refine v_get C K in_X5_moreWith_X5 0 rfl rfl 0 (by decide) fl_X5_moreWith_X5_0 rfl dX5_moreWith_1 rfl ?_
  refine v_bipush (v := 46) C dX5_moreWith_4 rfl bp_46 ?_
  refine v_iload_n C dX5_moreWith_6 rfl 2 2 rfl rfl ?_
  refine v_iadd C dX5_moreWith_7 rfl ?_
  refine v_iald C K 1 0 rfl rfl (46 + k) (by simp only [lit9, pk_mul, nI_add]) (by omega) (by decide) dX5_moreWith_8 rfl ?_
  refine v_istore_n (lv' := [(3, _), (0, _), (1, _), (2, _)]) C dX5_moreWith_9 rfl 3 rfl (by decide) rfl ?_
  refine v_aload_n C dX5_moreWith_10 rfl 0 1 rfl rfl ?_
  refine v_callVi C K (c_X5_leftNow l D ad cI _ n (hw)) gX5_moreWith_X5_leftNow rfl hd_X5_leftNow ⟨rfl, rfl⟩ ⟨Nat.le_of_ble_eq_true rfl, Nat.le_of_ble_eq_true rfl⟩ 0 rfl rfl rfl rfl rfl (Nat.le_of_ble_eq_true rfl) ⟨Nat.le_refl _, Nat.le_refl _⟩ dX5_moreWith_11 rfl (fun r11 u11 hc11 => ?_)
  obtain ⟨e11, hs11⟩ := hc11
  replace e11 := e11.trans (p_left_J (hw) _)
  replace hs11 := sc9_of hs11
  refine v_istore (lv' := [(4, _), (3, _), (0, _), (1, _), (2, _)]) C dX5_moreWith_14 rfl (by decide) rfl ?_
  refine v_aload_n C dX5_moreWith_16 rfl 0 2 rfl rfl ?_
  refine v_get C K in_X5_moreWith_X5 0 rfl rfl 0 (by decide) fl_X5_moreWith_X5_0 rfl dX5_moreWith_17 rfl ?_
  refine v_bipush (v := 46) C dX5_moreWith_20 rfl bp_46 ?_
  refine v_iload_n C dX5_moreWith_22 rfl 2 4 rfl rfl ?_
  refine v_iadd C dX5_moreWith_23 rfl ?_
  refine v_iload_n C dX5_moreWith_24 rfl 1 3 rfl rfl ?_
  refine v_iast C K _ 1 0 rfl rfl (46 + k) (by simp only [lit9, pk_mul, nI_add]) (by omega) (by decide) (mW_a0 ad cI _ _) dX5_moreWith_25 rfl ?_
  refine v_aload_n C dX5_moreWith_26 rfl 0 2 rfl rfl ?_
  refine v_callVi C K (c_X5_leftNow l D ad cI _ n (by rw [st9_s, sc9_0 hs11]; exact wfS_upd hw hk hx)) gX5_moreWith_X5_leftNow rfl hd_X5_leftNow ⟨rfl, rfl⟩ ⟨Nat.le_of_ble_eq_true rfl, Nat.le_of_ble_eq_true rfl⟩ 0 rfl rfl rfl rfl rfl (Nat.le_of_ble_eq_true rfl) ⟨Nat.le_refl _, Nat.le_refl _⟩ dX5_moreWith_27 rfl (fun r27 u27 hc27 => ?_)
  obtain ⟨e27, hs27⟩ := hc27
  replace e27 := e27.trans (p_left_J (by rw [st9_s, sc9_0 hs11]; exact wfS_upd hw hk hx) _)
  rw [st9_s, sc9_0 hs11] at e27
  replace hs27 := sc9_of hs27
  refine v_iload C dX5_moreWith_30 rfl 0 rfl ?_
  refine v_isub C dX5_moreWith_32 rfl ?_
  refine v_istore (lv' := [(5, _), (4, _), (3, _), (0, _), (1, _), (2, _)]) C dX5_moreWith_33 rfl (by decide) rfl ?_
  refine v_aload_n C dX5_moreWith_35 rfl 0 3 rfl rfl ?_
  refine v_get C K in_X5_moreWith_X5 0 rfl rfl 0 (by decide) fl_X5_moreWith_X5_0 rfl dX5_moreWith_36 rfl ?_
  refine v_bipush (v := 46) C dX5_moreWith_39 rfl bp_46 ?_
  refine v_iload_n C dX5_moreWith_41 rfl 2 5 rfl rfl ?_
  refine v_iadd C dX5_moreWith_42 rfl ?_
  refine v_iload_n C dX5_moreWith_43 rfl 3 2 rfl rfl ?_
  refine v_iast C K _ 1 0 rfl rfl (46 + k) (by simp only [lit9, pk_mul, nI_add]) (by omega) (by decide) (mW_a0 ad cI _ _) dX5_moreWith_44 rfl ?_
  refine v_iload C dX5_moreWith_45 rfl 0 rfl ?_
  exact hend (⟨by rw [e27, e11]; rfl, fun i hi => by
      by_cases e : i = 0
      · subst e
        rw [st9_s, hs27 0 hi, st9_s, sc9_0 hs11, upd_tw, upd_id]
      · rw [st9_n _ _ e, hs27 i hi, st9_n _ _ e, hs11 i hi]⟩) (rfl) dX5_moreWith_47
theorem p_why_ge {r : Nat → Int32} {n : Nat} (h5 : r 5 = nI n) (h8 : n ≤ 8) {f d q : Int32} (h : 0 ≤ p_why r f d q) : p_why r f d q = 0 ∧ ∃ (f' d' q' : Nat), f' < n ∧ d' < 35 ∧ q' < 2 ∧ f = nI f' ∧ d = nI d' ∧ q = nI q' ∧ ¬ p_canShow r f' d' = 0 := by
  unfold p_why at h ⊢
  by_cases h1 : p_in f 0 (r 5 - 1) = 0
  · rw [if_pos h1] at h
    exact absurd h (by decide)
  · rw [if_neg h1] at h ⊢
    by_cases h2 : p_part d q = 0
    · rw [if_pos h2] at h
      exact absurd h (by decide)
    · rw [if_neg h2] at h ⊢
      by_cases h3 : p_canShow r f.toNatClampNeg d.toNatClampNeg = 0
      · rw [if_pos h3] at h
        exact absurd h (by decide)
      · rw [if_neg h3]
        obtain ⟨f', hf, rfl⟩ := p_film_ne h5 h8 h1
        obtain ⟨d', q', hd, hq, rfl, rfl⟩ := p_part_ne h2
        rw [nI_cl (by omega), nI_cl (by omega)] at h3
        exact ⟨rfl, f', d', q', hf, hd, hq, rfl, rfl, rfl, h3⟩
set_option maxHeartbeats 4000000 in
set_option maxRecDepth 100000 in
theorem c_X5_ifShown (l : Launch) (D : va_G) (ad : Nat → Nat) (cI : ClassId) (σ : S9) (n : Nat) (hw : wfS (σ 0) n) (f d q : Int32) : CMi l (mW ad cI) D [(cI, .int)] yX5_ifShown wsX5_ifShown ({ frames := 6, cells := 0, slots := 0, locals := 135 } : Room) [.ref (ad 0), .int f, .int d, .int q] σ (fun r u => r = (if 0 ≤ p_why (σ 0) f d q then q_more (σ 0) (q_k d q) f + 1000000 else p_why (σ 0) f d q) ∧ sc9 σ u) := by
  refine v_starti (own := RX5) (cc := cX5_ifShown) (nL := 5) rfl (by decide) rfl (Nat.le_of_ble_eq_true rfl) ?_
  intro p e s m args below meth c A Q C K hend
  refine v_lv (lv' := [(0, .ref (ad 0)), (1, .int f), (2, .int d), (3, .int q)]) [0, 1, 2, 3] rfl ?_
  refine v_aload_n C dX5_ifShown_0 rfl 0 0 rfl rfl ?_
  refine v_iload_n C dX5_ifShown_1 rfl 1 1 rfl rfl ?_
  refine v_iload_n C dX5_ifShown_2 rfl 2 2 rfl rfl ?_
  refine v_iload_n C dX5_ifShown_3 rfl 3 3 rfl rfl ?_
  refine v_callVid C K (c_X5_whyNotShown l D ad cI _ n hw.1 hw.2.1 _ _ _) gX5_ifShown_X5_whyNotShown rfl hd_X5_whyNotShown ⟨rfl, rfl⟩ ⟨Nat.le_of_ble_eq_true rfl, Nat.le_of_ble_eq_true rfl⟩ 0 rfl rfl rfl rfl rfl (Nat.le_of_ble_eq_true rfl) ⟨Nat.le_refl _, Nat.le_refl _⟩ dX5_ifShown_4 rfl ?_
  refine v_istore (lv' := [(4, _), (0, _), (1, _), (2, _), (3, _)]) C dX5_ifShown_7 rfl (by decide) rfl ?_
  refine v_iload C dX5_ifShown_9 rfl 0 rfl ?_
  refine v_if_ge C 19 dX5_ifShown_11 (by decide) rfl (fun h11 => ?_) (fun h11n => ?_)
  · skip
    obtain ⟨hz, f, d, q, hf, hd, hq, rfl, rfl, rfl, hcs⟩ := p_why_ge hw.1 hw.2.1 h11
    have ecd : (nI d).toNatClampNeg = d := nI_cl (by omega)
    have ecq : (nI q).toNatClampNeg = q := nI_cl (by omega)
    refine v_aload_n C dX5_ifShown_19 rfl 0 1 rfl rfl ?_
    refine v_iload_n C dX5_ifShown_20 rfl 1 2 rfl rfl ?_
    refine v_iconst (v := 2) C dX5_ifShown_21 rfl ic_2 ?_
    refine v_iload_n C dX5_ifShown_22 rfl 2 3 rfl rfl ?_
    refine v_imul C dX5_ifShown_23 rfl ?_
    refine v_iload_n C dX5_ifShown_24 rfl 3 4 rfl rfl ?_
    refine v_iadd C dX5_ifShown_25 rfl ?_
    refine v_top (nI (2 * d + q)) (by simp only [lit9, pk_mul, nI_add]) ?_
    refine v_callVi C K (c_X5_moreWith l D ad cI _ n hw _ (Or.inr ⟨f, hf, rfl⟩) (2 * d + q) (by omega)) gX5_ifShown_X5_moreWith rfl hd_X5_moreWith ⟨rfl, rfl⟩ ⟨Nat.le_of_ble_eq_true rfl, Nat.le_of_ble_eq_true rfl⟩ 0 rfl rfl rfl rfl rfl (Nat.le_of_ble_eq_true rfl) ⟨Nat.le_refl _, Nat.le_refl _⟩ dX5_ifShown_26 rfl (fun r26 u26 hc26 => ?_)
    obtain ⟨rfl, hs⟩ := hc26
    refine v_ldc C dX5_ifShown_29 rfl ct_X5_ifShown_129 ?_
    refine v_iadd C dX5_ifShown_31 rfl ?_
    exact hend (⟨by rw [if_pos h11]; simp only [q_k, ecd, ecq], hs⟩) (rfl) dX5_ifShown_32
  · skip
    refine v_iload C dX5_ifShown_14 rfl 0 rfl ?_
    refine v_goto C 32 dX5_ifShown_16 (by decide) ?_
    exact hend (⟨by rw [if_neg h11n], sc9_rf σ⟩) (rfl) dX5_ifShown_32
/-- the best film of the first f, and how much more would be left -/
def q_bb (r : Nat → Int32) (dd k : Nat) : Nat → Int32 × Int32
  | 0 => (-6, 0)
  | f + 1 => if p_canShow r f dd = 0 then q_bb r dd k f else if (q_bb r dd k f).1 = -6 ∨ ¬ q_more r k (nI f) ≤ (q_bb r dd k f).2 then (nI f, q_more r k (nI f)) else q_bb r dd k f
def q_bf (p : Int32 × Int32) (what : Int32) : Int32 := if p.1 = -6 then -6 else if what = 0 then p.1 else p.2 + 1000000
/-- the worst show of the first k places -/
def q_ww (r : Nat → Int32) : Nat → Int32 × Int32
  | 0 => (-6, 0)
  | k + 1 => if r (46 + k) = -6 then q_ww r k else if (q_ww r k).1 = -6 ∨ ¬ q_more r k (-6) ≤ (q_ww r k).2 then (nI k, q_more r k (-6)) else q_ww r k
def q_ws (p : Int32 × Int32) (what : Int32) : Int32 := if p.1 = -6 then -6 else if what = 0 then p.1 / 2 else if what = 1 then p.1 - p.1 / 2 * 2 else p.2 + 1000000
def q_pf (x t : Int32) : Nat → Int32
  | 0 => -6
  | d + 1 => if x * nI (20 - d) < t then q_pf x t d else nI (20 - d)
set_option maxHeartbeats 4000000 in
set_option maxRecDepth 100000 in
theorem c_X5_bestFilm (l : Launch) (D : va_G) (ad : Nat → Nat) (cI : ClassId) (σ : S9) (n : Nat) (hw : wfS (σ 0) n) (d q what : Int32) : CMi l (mW ad cI) D [(cI, .int)] yX5_bestFilm wsX5_bestFilm ({ frames := 6, cells := 0, slots := 0, locals := 135 } : Room) [.ref (ad 0), .int d, .int q, .int what] σ (fun r u => r = (if p_part d q = 0 then -2 else if p_in what 0 1 = 0 then -2 else if ¬ p_let (σ 0) d.toNatClampNeg = 0 then -5 else q_bf (q_bb (σ 0) d.toNatClampNeg (q_k d q) n) what) ∧ sc9 σ u) := by
  refine v_starti (own := RX5) (cc := cX5_bestFilm) (nL := 9) rfl (by decide) rfl (Nat.le_of_ble_eq_true rfl) ?_
  intro p e s m args below meth c A Q C K hend
  refine v_lv (lv' := [(0, .ref (ad 0)), (1, .int d), (2, .int q), (3, .int what)]) [0, 1, 2, 3] rfl ?_
  refine v_iload_n C dX5_bestFilm_0 rfl 1 1 rfl rfl ?_
  refine v_iload_n C dX5_bestFilm_1 rfl 2 2 rfl rfl ?_
  refine v_callSpd C (c_X5_isPart l _ _) gX5_bestFilm_X5_isPart rfl hd_X5_isPart.2 ⟨rfl, rfl⟩ ⟨Nat.le_of_ble_eq_true rfl, Nat.le_of_ble_eq_true rfl⟩ rfl rfl (Nat.le_of_ble_eq_true rfl) ⟨Nat.le_refl _, Nat.le_refl _⟩ dX5_bestFilm_2 rfl ?_
  refine v_if_eq C 17 dX5_bestFilm_5 (by decide) rfl (fun h5 => ?_) (fun h5 => ?_)
  · skip
    refine v_bipush (v := -2) C dX5_bestFilm_17 rfl bp_m2 ?_
    exact hend (⟨by simp [h5], sc9_rf σ⟩) (rfl) dX5_bestFilm_19
  · skip
    refine v_iload_n C dX5_bestFilm_8 rfl 3 3 rfl rfl ?_
    refine v_iconst (v := 0) C dX5_bestFilm_9 rfl ic_0 ?_
    refine v_iconst (v := 1) C dX5_bestFilm_10 rfl ic_1 ?_
    refine v_callSpd C (c_X5_within l _ _ _) gX5_bestFilm_X5_within rfl hd_X5_within.2 ⟨rfl, rfl⟩ ⟨Nat.le_of_ble_eq_true rfl, Nat.le_of_ble_eq_true rfl⟩ rfl rfl (Nat.le_of_ble_eq_true rfl) ⟨Nat.le_refl _, Nat.le_refl _⟩ dX5_bestFilm_11 rfl ?_
    refine v_if_ne C 20 dX5_bestFilm_14 (by decide) rfl (fun h14 => ?_) (fun h14 => ?_)
    · skip
      obtain ⟨d, q, hd, hq, rfl, rfl⟩ := p_part_ne h5
      have ecd : (nI d).toNatClampNeg = d := nI_cl (by omega)
      have ecq : (nI q).toNatClampNeg = q := nI_cl (by omega)
      have ek : q_k (nI d) (nI q) = 2 * d + q := by rw [q_k, ecd, ecq]
      refine v_aload_n C dX5_bestFilm_20 rfl 0 0 rfl rfl ?_
      refine v_iload_n C dX5_bestFilm_21 rfl 1 1 rfl rfl ?_
      refine v_callVid C K (c_X5_isLet l D ad cI _ _ hd) gX5_bestFilm_X5_isLet rfl hd_X5_isLet ⟨rfl, rfl⟩ ⟨Nat.le_of_ble_eq_true rfl, Nat.le_of_ble_eq_true rfl⟩ 0 rfl rfl rfl rfl rfl (Nat.le_of_ble_eq_true rfl) ⟨Nat.le_refl _, Nat.le_refl _⟩ dX5_bestFilm_22 rfl ?_
      refine v_if_eq C 31 dX5_bestFilm_25 (by decide) rfl (fun h25 => ?_) (fun h25 => ?_)
      · skip
        refine v_bipush (v := -6) C dX5_bestFilm_31 rfl bp_m6 ?_
        refine v_istore (lv' := [(4, _), (0, _), (1, _), (2, _), (3, _)]) C dX5_bestFilm_33 rfl (by decide) rfl ?_
        refine v_iconst (v := 0) C dX5_bestFilm_35 rfl ic_0 ?_
        refine v_istore (lv' := [(5, _), (4, _), (0, _), (1, _), (2, _), (3, _)]) C dX5_bestFilm_36 rfl (by decide) rfl ?_
        refine v_iconst (v := 0) C dX5_bestFilm_38 rfl ic_0 ?_
        refine v_istore (lv' := [(6, _), (5, _), (4, _), (0, _), (1, _), (2, _), (3, _)]) C dX5_bestFilm_39 rfl (by decide) rfl ?_
        have LP41 : ∀ f, f ≤ n → ∀ u : S9, sc9 σ u → VV p l e ({ frames := 6, cells := 0, slots := 0, locals := 135 } : Room) s m args below meth c 0 0 Q (mW ad cI) D A s.heap 9 u 41 [(0, .ref (ad 0)), (1, .int (nI d)), (2, .int (nI q)), (3, .int what), (4, .int (q_bb (σ 0) d (2 * d + q) f).1), (5, .int (q_bb (σ 0) d (2 * d + q) f).2), (6, .int (nI f))] [] := by
          refine lpB9 (fun f => ∀ u : S9, sc9 σ u → VV p l e ({ frames := 6, cells := 0, slots := 0, locals := 135 } : Room) s m args below meth c 0 0 Q (mW ad cI) D A s.heap 9 u 41 [(0, .ref (ad 0)), (1, .int (nI d)), (2, .int (nI q)), (3, .int what), (4, .int (q_bb (σ 0) d (2 * d + q) f).1), (5, .int (q_bb (σ 0) d (2 * d + q) f).2), (6, .int (nI f))] []) n (fun f hf ih => ?_) ?_
          · intro u hs
            refine v_iload C dX5_bestFilm_41 rfl 6 rfl ?_
            refine v_aload_n C dX5_bestFilm_43 rfl 0 0 rfl rfl ?_
            refine v_get C K in_X5_bestFilm_X5 0 rfl rfl 0 (by decide) fl_X5_bestFilm_X5_0 rfl dX5_bestFilm_44 rfl ?_
            refine v_iconst (v := 5) C dX5_bestFilm_47 rfl ic_5 ?_
            refine v_iald C K 1 0 rfl rfl (5) (rfl) (by omega) (by decide) dX5_bestFilm_48 rfl ?_
            refine v_top (nI n) (by rw [sc9_0 hs]; exact hw.1) ?_
            refine v_icmp_ge C 130 dX5_bestFilm_49 (by decide) rfl (fun h9 => absurd h9 (nI_ge hf (by have := hw.2.1; omega))) (fun _ => ?_)
            refine v_aload_n C dX5_bestFilm_52 rfl 0 0 rfl rfl ?_
            refine v_iload C dX5_bestFilm_53 rfl 6 rfl ?_
            refine v_iload_n C dX5_bestFilm_55 rfl 1 1 rfl rfl ?_
            refine v_callVid C K (c_X5_canShow l D ad cI _ f d (by have := hw.2.1; omega) hd) gX5_bestFilm_X5_canShow rfl hd_X5_canShow ⟨rfl, rfl⟩ ⟨Nat.le_of_ble_eq_true rfl, Nat.le_of_ble_eq_true rfl⟩ 0 rfl rfl rfl rfl rfl (Nat.le_of_ble_eq_true rfl) ⟨Nat.le_refl _, Nat.le_refl _⟩ dX5_bestFilm_56 rfl ?_
            refine v_top (p_canShow (σ 0) f d) (by rw [sc9_0 hs]) ?_
            refine v_if_eq C 124 dX5_bestFilm_59 (by decide) rfl (fun h59 => ?_) (fun h59f => ?_)
            · skip
              refine v_iinc (lv' := [(6, _), (0, _), (1, _), (2, _), (3, _), (4, _), (5, _)]) C dX5_bestFilm_124 rfl 6 rfl (inc9 _) (by decide) rfl ?_
              refine v_goto C 41 dX5_bestFilm_127 (by decide) ?_
              refine v_lv (lv' := [(0, _), (1, _), (2, _), (3, _), (4, _), (5, _), (6, _)]) [1, 2, 3, 4, 5, 6, 0] rfl ?_
              exact v9cast (ih _ hs) rfl (by simp [q_bb, h59]) rfl
            · skip
              refine v_aload_n C dX5_bestFilm_62 rfl 0 0 rfl rfl ?_
              refine v_iload C dX5_bestFilm_63 rfl 6 rfl ?_
              refine v_iconst (v := 2) C dX5_bestFilm_65 rfl ic_2 ?_
              refine v_iload_n C dX5_bestFilm_66 rfl 1 1 rfl rfl ?_
              refine v_imul C dX5_bestFilm_67 rfl ?_
              refine v_iload_n C dX5_bestFilm_68 rfl 2 2 rfl rfl ?_
              refine v_iadd C dX5_bestFilm_69 rfl ?_
              refine v_top (nI (2 * d + q)) (by simp only [lit9, pk_mul, nI_add]) ?_
              refine v_callVi C K (c_X5_moreWith l D ad cI _ n (by rw [sc9_0 hs]; exact hw) _ (Or.inr ⟨f, hf, rfl⟩) (2 * d + q) (by omega)) gX5_bestFilm_X5_moreWith rfl hd_X5_moreWith ⟨rfl, rfl⟩ ⟨Nat.le_of_ble_eq_true rfl, Nat.le_of_ble_eq_true rfl⟩ 0 rfl rfl rfl rfl rfl (Nat.le_of_ble_eq_true rfl) ⟨Nat.le_refl _, Nat.le_refl _⟩ dX5_bestFilm_70 rfl (fun r70 u70 hc70 => ?_)
              obtain ⟨e70, hs70⟩ := hc70
              rw [sc9_0 hs] at e70
              replace hs70 := sc9_tr hs hs70
              refine v_istore (lv' := [(7, _), (0, _), (1, _), (2, _), (3, _), (4, _), (5, _), (6, _)]) C dX5_bestFilm_73 rfl (by decide) rfl ?_
              refine v_iload C dX5_bestFilm_75 rfl 5 rfl ?_
              refine v_bipush (v := -6) C dX5_bestFilm_77 rfl bp_m6 ?_
              refine v_icmp_eq C 89 dX5_bestFilm_79 (by decide) rfl (fun h79 => ?_) (fun h79f => ?_)
              · skip
                refine v_iconst (v := 1) C dX5_bestFilm_89 rfl ic_1 ?_
                refine v_goto C 94 dX5_bestFilm_90 (by decide) ?_
                refine v_istore (lv' := [(8, _), (7, _), (0, _), (1, _), (2, _), (3, _), (4, _), (5, _), (6, _)]) C dX5_bestFilm_94 rfl (by decide) rfl ?_
                refine v_iload C dX5_bestFilm_96 rfl 0 rfl ?_
                refine v_if_eq C 106 dX5_bestFilm_98 (by decide) rfl (fun h9 => absurd h9 (by decide)) (fun _ => ?_)
                refine v_iload C dX5_bestFilm_101 rfl 8 rfl ?_
                refine v_goto C 108 dX5_bestFilm_103 (by decide) ?_
                refine v_istore (lv' := [(4, _), (8, _), (7, _), (0, _), (1, _), (2, _), (3, _), (5, _), (6, _)]) C dX5_bestFilm_108 rfl (by decide) rfl ?_
                refine v_iload C dX5_bestFilm_110 rfl 1 rfl ?_
                refine v_if_eq C 120 dX5_bestFilm_112 (by decide) rfl (fun h9 => absurd h9 (by decide)) (fun _ => ?_)
                refine v_iload C dX5_bestFilm_115 rfl 2 rfl ?_
                refine v_goto C 122 dX5_bestFilm_117 (by decide) ?_
                refine v_istore (lv' := [(5, _), (4, _), (8, _), (7, _), (0, _), (1, _), (2, _), (3, _), (6, _)]) C dX5_bestFilm_122 rfl (by decide) rfl ?_
                refine v_iinc (lv' := [(6, _), (5, _), (4, _), (8, _), (7, _), (0, _), (1, _), (2, _), (3, _)]) C dX5_bestFilm_124 rfl 8 rfl (inc9 _) (by decide) rfl ?_
                refine v_goto C 41 dX5_bestFilm_127 (by decide) ?_
                refine v_lv (lv' := [(0, _), (1, _), (2, _), (3, _), (4, _), (5, _), (6, _)]) [5, 6, 7, 8, 2, 1, 0] rfl ?_
                exact v9cast (ih _ hs70) rfl (by simp [q_bb, h59f, h79, ← e70]) rfl
              · skip
                refine v_iload C dX5_bestFilm_82 rfl 0 rfl ?_
                refine v_iload C dX5_bestFilm_84 rfl 6 rfl ?_
                refine v_icmp_le C 93 dX5_bestFilm_86 (by decide) rfl (fun h86 => ?_) (fun h86f => ?_)
                · skip
                  refine v_iconst (v := 0) C dX5_bestFilm_93 rfl ic_0 ?_
                  refine v_istore (lv' := [(8, _), (7, _), (0, _), (1, _), (2, _), (3, _), (4, _), (5, _), (6, _)]) C dX5_bestFilm_94 rfl (by decide) rfl ?_
                  refine v_iload C dX5_bestFilm_96 rfl 0 rfl ?_
                  refine v_if_eq C 106 dX5_bestFilm_98 (by decide) rfl (fun _ => ?_) (fun h9 => absurd (rfl) h9)
                  refine v_iload C dX5_bestFilm_106 rfl 6 rfl ?_
                  refine v_istore (lv' := [(4, _), (8, _), (7, _), (0, _), (1, _), (2, _), (3, _), (5, _), (6, _)]) C dX5_bestFilm_108 rfl (by decide) rfl ?_
                  refine v_iload C dX5_bestFilm_110 rfl 1 rfl ?_
                  refine v_if_eq C 120 dX5_bestFilm_112 (by decide) rfl (fun _ => ?_) (fun h9 => absurd (rfl) h9)
                  refine v_iload C dX5_bestFilm_120 rfl 7 rfl ?_
                  refine v_istore (lv' := [(5, _), (4, _), (8, _), (7, _), (0, _), (1, _), (2, _), (3, _), (6, _)]) C dX5_bestFilm_122 rfl (by decide) rfl ?_
                  refine v_iinc (lv' := [(6, _), (5, _), (4, _), (8, _), (7, _), (0, _), (1, _), (2, _), (3, _)]) C dX5_bestFilm_124 rfl 8 rfl (inc9 _) (by decide) rfl ?_
                  refine v_goto C 41 dX5_bestFilm_127 (by decide) ?_
                  refine v_lv (lv' := [(0, _), (1, _), (2, _), (3, _), (4, _), (5, _), (6, _)]) [5, 6, 7, 8, 2, 1, 0] rfl ?_
                  exact v9cast (ih _ hs70) rfl (by simp [q_bb, h59f, h79f, h86, ← e70]) rfl
                · skip
                  refine v_iconst (v := 1) C dX5_bestFilm_89 rfl ic_1 ?_
                  refine v_goto C 94 dX5_bestFilm_90 (by decide) ?_
                  refine v_istore (lv' := [(8, _), (7, _), (0, _), (1, _), (2, _), (3, _), (4, _), (5, _), (6, _)]) C dX5_bestFilm_94 rfl (by decide) rfl ?_
                  refine v_iload C dX5_bestFilm_96 rfl 0 rfl ?_
                  refine v_if_eq C 106 dX5_bestFilm_98 (by decide) rfl (fun h9 => absurd h9 (by decide)) (fun _ => ?_)
                  refine v_iload C dX5_bestFilm_101 rfl 8 rfl ?_
                  refine v_goto C 108 dX5_bestFilm_103 (by decide) ?_
                  refine v_istore (lv' := [(4, _), (8, _), (7, _), (0, _), (1, _), (2, _), (3, _), (5, _), (6, _)]) C dX5_bestFilm_108 rfl (by decide) rfl ?_
                  refine v_iload C dX5_bestFilm_110 rfl 1 rfl ?_
                  refine v_if_eq C 120 dX5_bestFilm_112 (by decide) rfl (fun h9 => absurd h9 (by decide)) (fun _ => ?_)
                  refine v_iload C dX5_bestFilm_115 rfl 2 rfl ?_
                  refine v_goto C 122 dX5_bestFilm_117 (by decide) ?_
                  refine v_istore (lv' := [(5, _), (4, _), (8, _), (7, _), (0, _), (1, _), (2, _), (3, _), (6, _)]) C dX5_bestFilm_122 rfl (by decide) rfl ?_
                  refine v_iinc (lv' := [(6, _), (5, _), (4, _), (8, _), (7, _), (0, _), (1, _), (2, _), (3, _)]) C dX5_bestFilm_124 rfl 8 rfl (inc9 _) (by decide) rfl ?_
                  refine v_goto C 41 dX5_bestFilm_127 (by decide) ?_
                  refine v_lv (lv' := [(0, _), (1, _), (2, _), (3, _), (4, _), (5, _), (6, _)]) [5, 6, 7, 8, 2, 1, 0] rfl ?_
                  exact v9cast (ih _ hs70) rfl (by simp [q_bb, h59f, h79f, h86f, ← e70]) rfl
          · intro u hs
            refine v_iload C dX5_bestFilm_41 rfl 6 rfl ?_
            refine v_aload_n C dX5_bestFilm_43 rfl 0 0 rfl rfl ?_
            refine v_get C K in_X5_bestFilm_X5 0 rfl rfl 0 (by decide) fl_X5_bestFilm_X5_0 rfl dX5_bestFilm_44 rfl ?_
            refine v_iconst (v := 5) C dX5_bestFilm_47 rfl ic_5 ?_
            refine v_iald C K 1 0 rfl rfl (5) (rfl) (by omega) (by decide) dX5_bestFilm_48 rfl ?_
            refine v_top (nI n) (by rw [sc9_0 hs]; exact hw.1) ?_
            refine v_icmp_ge C 130 dX5_bestFilm_49 (by decide) rfl (fun _ => ?_) (fun h9 => absurd (nI_le (Nat.le_refl _) (by have := hw.2.1; omega)) h9)
            refine v_iload C dX5_bestFilm_130 rfl 4 rfl ?_
            refine v_bipush (v := -6) C dX5_bestFilm_132 rfl bp_m6 ?_
            refine v_icmp_eq C 141 dX5_bestFilm_134 (by decide) rfl (fun h134 => ?_) (fun h134 => ?_)
            · skip
              refine v_iload C dX5_bestFilm_141 rfl 4 rfl ?_
              refine v_goto C 151 dX5_bestFilm_143 (by decide) ?_
              exact hend (⟨by rw [if_neg h5, if_neg h14, ecd, if_neg (fun h => h h25), ek]; simp [q_bf, h134], hs⟩) (rfl) dX5_bestFilm_151
            · skip
              refine v_iload_n C dX5_bestFilm_137 rfl 3 3 rfl rfl ?_
              refine v_if_ne C 146 dX5_bestFilm_138 (by decide) rfl (fun h138 => ?_) (fun h138 => ?_)
              · skip
                refine v_iload C dX5_bestFilm_146 rfl 5 rfl ?_
                refine v_ldc C dX5_bestFilm_148 rfl ct_X5_bestFilm_129 ?_
                refine v_iadd C dX5_bestFilm_150 rfl ?_
                exact hend (⟨by rw [if_neg h5, if_neg h14, ecd, if_neg (fun h => h h25), ek]; simp [q_bf, h134, h138], hs⟩) (rfl) dX5_bestFilm_151
              · skip
                refine v_iload C dX5_bestFilm_141 rfl 4 rfl ?_
                refine v_goto C 151 dX5_bestFilm_143 (by decide) ?_
                exact hend (⟨by rw [if_neg h5, if_neg h14, ecd, if_neg (fun h => h h25), ek]; simp [q_bf, h134, h138], hs⟩) (rfl) dX5_bestFilm_151
        refine v_lv (lv' := [(0, _), (1, _), (2, _), (3, _), (4, _), (5, _), (6, _)]) [3, 4, 5, 6, 2, 1, 0] rfl ?_
        exact LP41 0 (Nat.zero_le _) σ (sc9_rf σ)
      · skip
        refine v_bipush (v := -5) C dX5_bestFilm_28 rfl bp_m5 ?_
        exact hend (⟨by simp [h5, h14, h25, ecd], sc9_rf σ⟩) (rfl) dX5_bestFilm_30
    · skip
      refine v_bipush (v := -2) C dX5_bestFilm_17 rfl bp_m2 ?_
      exact hend (⟨by simp [h5, h14], sc9_rf σ⟩) (rfl) dX5_bestFilm_19
set_option maxHeartbeats 4000000 in
set_option maxRecDepth 100000 in
theorem c_X5_worstShow (l : Launch) (D : va_G) (ad : Nat → Nat) (cI : ClassId) (σ : S9) (n : Nat) (hw : wfS (σ 0) n) (what : Int32) : CMi l (mW ad cI) D [(cI, .int)] yX5_worstShow wsX5_worstShow ({ frames := 6, cells := 0, slots := 0, locals := 135 } : Room) [.ref (ad 0), .int what] σ (fun r u => r = (if p_in what 0 2 = 0 then -2 else q_ws (q_ww (σ 0) 70) what) ∧ sc9 σ u) := by
  refine v_starti (own := RX5) (cc := cX5_worstShow) (nL := 7) rfl (by decide) rfl (Nat.le_of_ble_eq_true rfl) ?_
  intro p e s m args below meth c A Q C K hend
  refine v_lv (lv' := [(0, .ref (ad 0)), (1, .int what)]) [0, 1] rfl ?_
  refine v_iload_n C dX5_worstShow_0 rfl 1 1 rfl rfl ?_
  refine v_iconst (v := 0) C dX5_worstShow_1 rfl ic_0 ?_
  refine v_iconst (v := 2) C dX5_worstShow_2 rfl ic_2 ?_
  refine v_callSpd C (c_X5_within l _ _ _) gX5_worstShow_X5_within rfl hd_X5_within.2 ⟨rfl, rfl⟩ ⟨Nat.le_of_ble_eq_true rfl, Nat.le_of_ble_eq_true rfl⟩ rfl rfl (Nat.le_of_ble_eq_true rfl) ⟨Nat.le_refl _, Nat.le_refl _⟩ dX5_worstShow_3 rfl ?_
  refine v_if_ne C 12 dX5_worstShow_6 (by decide) rfl (fun h6 => ?_) (fun h6 => ?_)
  · skip
    refine v_bipush (v := -6) C dX5_worstShow_12 rfl bp_m6 ?_
    refine v_istore_n (lv' := [(2, _), (0, _), (1, _)]) C dX5_worstShow_14 rfl 2 rfl (by decide) rfl ?_
    refine v_iconst (v := 0) C dX5_worstShow_15 rfl ic_0 ?_
    refine v_istore_n (lv' := [(3, _), (2, _), (0, _), (1, _)]) C dX5_worstShow_16 rfl 3 rfl (by decide) rfl ?_
    refine v_iconst (v := 0) C dX5_worstShow_17 rfl ic_0 ?_
    refine v_istore (lv' := [(4, _), (3, _), (2, _), (0, _), (1, _)]) C dX5_worstShow_18 rfl (by decide) rfl ?_
    have LP20 : ∀ k, k ≤ 70 → ∀ u : S9, sc9 σ u → VV p l e ({ frames := 6, cells := 0, slots := 0, locals := 135 } : Room) s m args below meth c 0 0 Q (mW ad cI) D A s.heap 7 u 20 [(0, .ref (ad 0)), (1, .int what), (2, .int (q_ww (σ 0) k).1), (3, .int (q_ww (σ 0) k).2), (4, .int (nI k))] [] := by
      refine lpB9 (fun k => ∀ u : S9, sc9 σ u → VV p l e ({ frames := 6, cells := 0, slots := 0, locals := 135 } : Room) s m args below meth c 0 0 Q (mW ad cI) D A s.heap 7 u 20 [(0, .ref (ad 0)), (1, .int what), (2, .int (q_ww (σ 0) k).1), (3, .int (q_ww (σ 0) k).2), (4, .int (nI k))] []) 70 (fun k hk ih => ?_) ?_
      · intro u hs
        refine v_iload C dX5_worstShow_20 rfl 4 rfl ?_
        refine v_bipush (v := 70) C dX5_worstShow_22 rfl bp_70 ?_
        refine v_icmp_ge C 101 dX5_worstShow_24 (by decide) rfl (fun h9 => absurd h9 (nI_ge hk (by decide))) (fun _ => ?_)
        refine v_aload_n C dX5_worstShow_27 rfl 0 0 rfl rfl ?_
        refine v_get C K in_X5_worstShow_X5 0 rfl rfl 0 (by decide) fl_X5_worstShow_X5_0 rfl dX5_worstShow_28 rfl ?_
        refine v_bipush (v := 46) C dX5_worstShow_31 rfl bp_46 ?_
        refine v_iload C dX5_worstShow_33 rfl 4 rfl ?_
        refine v_iadd C dX5_worstShow_35 rfl ?_
        refine v_iald C K 1 0 rfl rfl (46 + k) (by simp only [lit9, pk_mul, nI_add]) (by omega) (by decide) dX5_worstShow_36 rfl ?_
        refine v_top (σ 0 (46 + k)) (by rw [sc9_0 hs]) ?_
        refine v_bipush (v := -6) C dX5_worstShow_37 rfl bp_m6 ?_
        refine v_icmp_eq C 95 dX5_worstShow_39 (by decide) rfl (fun h39 => ?_) (fun h39f => ?_)
        · skip
          refine v_iinc (lv' := [(4, _), (0, _), (1, _), (2, _), (3, _)]) C dX5_worstShow_95 rfl 4 rfl (inc9 _) (by decide) rfl ?_
          refine v_goto C 20 dX5_worstShow_98 (by decide) ?_
          refine v_lv (lv' := [(0, _), (1, _), (2, _), (3, _), (4, _)]) [1, 2, 3, 4, 0] rfl ?_
          exact v9cast (ih _ hs) rfl (by simp [q_ww, h39]) rfl
        · skip
          refine v_aload_n C dX5_worstShow_42 rfl 0 0 rfl rfl ?_
          refine v_bipush (v := -6) C dX5_worstShow_43 rfl bp_m6 ?_
          refine v_iload C dX5_worstShow_45 rfl 4 rfl ?_
          refine v_callVi C K (c_X5_moreWith l D ad cI _ n (by rw [sc9_0 hs]; exact hw) _ (Or.inl rfl) k (by omega)) gX5_worstShow_X5_moreWith rfl hd_X5_moreWith ⟨rfl, rfl⟩ ⟨Nat.le_of_ble_eq_true rfl, Nat.le_of_ble_eq_true rfl⟩ 0 rfl rfl rfl rfl rfl (Nat.le_of_ble_eq_true rfl) ⟨Nat.le_refl _, Nat.le_refl _⟩ dX5_worstShow_47 rfl (fun r47 u47 hc47 => ?_)
          obtain ⟨e47, hs47⟩ := hc47
          rw [sc9_0 hs] at e47
          replace hs47 := sc9_tr hs hs47
          refine v_istore (lv' := [(5, _), (0, _), (1, _), (2, _), (3, _), (4, _)]) C dX5_worstShow_50 rfl (by decide) rfl ?_
          refine v_iload_n C dX5_worstShow_52 rfl 2 3 rfl rfl ?_
          refine v_bipush (v := -6) C dX5_worstShow_53 rfl bp_m6 ?_
          refine v_icmp_eq C 64 dX5_worstShow_55 (by decide) rfl (fun h55 => ?_) (fun h55f => ?_)
          · skip
            refine v_iconst (v := 1) C dX5_worstShow_64 rfl ic_1 ?_
            refine v_goto C 69 dX5_worstShow_65 (by decide) ?_
            refine v_istore (lv' := [(6, _), (5, _), (0, _), (1, _), (2, _), (3, _), (4, _)]) C dX5_worstShow_69 rfl (by decide) rfl ?_
            refine v_iload C dX5_worstShow_71 rfl 0 rfl ?_
            refine v_if_eq C 81 dX5_worstShow_73 (by decide) rfl (fun h9 => absurd h9 (by decide)) (fun _ => ?_)
            refine v_iload C dX5_worstShow_76 rfl 6 rfl ?_
            refine v_goto C 82 dX5_worstShow_78 (by decide) ?_
            refine v_istore_n (lv' := [(2, _), (6, _), (5, _), (0, _), (1, _), (3, _), (4, _)]) C dX5_worstShow_82 rfl 2 rfl (by decide) rfl ?_
            refine v_iload C dX5_worstShow_83 rfl 1 rfl ?_
            refine v_if_eq C 93 dX5_worstShow_85 (by decide) rfl (fun h9 => absurd h9 (by decide)) (fun _ => ?_)
            refine v_iload C dX5_worstShow_88 rfl 2 rfl ?_
            refine v_goto C 94 dX5_worstShow_90 (by decide) ?_
            refine v_istore_n (lv' := [(3, _), (2, _), (6, _), (5, _), (0, _), (1, _), (4, _)]) C dX5_worstShow_94 rfl 3 rfl (by decide) rfl ?_
            refine v_iinc (lv' := [(4, _), (3, _), (2, _), (6, _), (5, _), (0, _), (1, _)]) C dX5_worstShow_95 rfl 6 rfl (inc9 _) (by decide) rfl ?_
            refine v_goto C 20 dX5_worstShow_98 (by decide) ?_
            refine v_lv (lv' := [(0, _), (1, _), (2, _), (3, _), (4, _)]) [5, 6, 2, 1, 0] rfl ?_
            exact v9cast (ih _ hs47) rfl (by simp [q_ww, h39f, h55, ← e47]) rfl
          · skip
            refine v_iload C dX5_worstShow_58 rfl 0 rfl ?_
            refine v_iload_n C dX5_worstShow_60 rfl 3 4 rfl rfl ?_
            refine v_icmp_le C 68 dX5_worstShow_61 (by decide) rfl (fun h61 => ?_) (fun h61f => ?_)
            · skip
              refine v_iconst (v := 0) C dX5_worstShow_68 rfl ic_0 ?_
              refine v_istore (lv' := [(6, _), (5, _), (0, _), (1, _), (2, _), (3, _), (4, _)]) C dX5_worstShow_69 rfl (by decide) rfl ?_
              refine v_iload C dX5_worstShow_71 rfl 0 rfl ?_
              refine v_if_eq C 81 dX5_worstShow_73 (by decide) rfl (fun _ => ?_) (fun h9 => absurd (rfl) h9)
              refine v_iload_n C dX5_worstShow_81 rfl 2 4 rfl rfl ?_
              refine v_istore_n (lv' := [(2, _), (6, _), (5, _), (0, _), (1, _), (3, _), (4, _)]) C dX5_worstShow_82 rfl 2 rfl (by decide) rfl ?_
              refine v_iload C dX5_worstShow_83 rfl 1 rfl ?_
              refine v_if_eq C 93 dX5_worstShow_85 (by decide) rfl (fun _ => ?_) (fun h9 => absurd (rfl) h9)
              refine v_iload_n C dX5_worstShow_93 rfl 3 5 rfl rfl ?_
              refine v_istore_n (lv' := [(3, _), (2, _), (6, _), (5, _), (0, _), (1, _), (4, _)]) C dX5_worstShow_94 rfl 3 rfl (by decide) rfl ?_
              refine v_iinc (lv' := [(4, _), (3, _), (2, _), (6, _), (5, _), (0, _), (1, _)]) C dX5_worstShow_95 rfl 6 rfl (inc9 _) (by decide) rfl ?_
              refine v_goto C 20 dX5_worstShow_98 (by decide) ?_
              refine v_lv (lv' := [(0, _), (1, _), (2, _), (3, _), (4, _)]) [5, 6, 2, 1, 0] rfl ?_
              exact v9cast (ih _ hs47) rfl (by simp [q_ww, h39f, h55f, h61, ← e47]) rfl
            · skip
              refine v_iconst (v := 1) C dX5_worstShow_64 rfl ic_1 ?_
              refine v_goto C 69 dX5_worstShow_65 (by decide) ?_
              refine v_istore (lv' := [(6, _), (5, _), (0, _), (1, _), (2, _), (3, _), (4, _)]) C dX5_worstShow_69 rfl (by decide) rfl ?_
              refine v_iload C dX5_worstShow_71 rfl 0 rfl ?_
              refine v_if_eq C 81 dX5_worstShow_73 (by decide) rfl (fun h9 => absurd h9 (by decide)) (fun _ => ?_)
              refine v_iload C dX5_worstShow_76 rfl 6 rfl ?_
              refine v_goto C 82 dX5_worstShow_78 (by decide) ?_
              refine v_istore_n (lv' := [(2, _), (6, _), (5, _), (0, _), (1, _), (3, _), (4, _)]) C dX5_worstShow_82 rfl 2 rfl (by decide) rfl ?_
              refine v_iload C dX5_worstShow_83 rfl 1 rfl ?_
              refine v_if_eq C 93 dX5_worstShow_85 (by decide) rfl (fun h9 => absurd h9 (by decide)) (fun _ => ?_)
              refine v_iload C dX5_worstShow_88 rfl 2 rfl ?_
              refine v_goto C 94 dX5_worstShow_90 (by decide) ?_
              refine v_istore_n (lv' := [(3, _), (2, _), (6, _), (5, _), (0, _), (1, _), (4, _)]) C dX5_worstShow_94 rfl 3 rfl (by decide) rfl ?_
              refine v_iinc (lv' := [(4, _), (3, _), (2, _), (6, _), (5, _), (0, _), (1, _)]) C dX5_worstShow_95 rfl 6 rfl (inc9 _) (by decide) rfl ?_
              refine v_goto C 20 dX5_worstShow_98 (by decide) ?_
              refine v_lv (lv' := [(0, _), (1, _), (2, _), (3, _), (4, _)]) [5, 6, 2, 1, 0] rfl ?_
              exact v9cast (ih _ hs47) rfl (by simp [q_ww, h39f, h55f, h61f, ← e47]) rfl
      · intro u hs
        refine v_iload C dX5_worstShow_20 rfl 4 rfl ?_
        refine v_bipush (v := 70) C dX5_worstShow_22 rfl bp_70 ?_
        refine v_icmp_ge C 101 dX5_worstShow_24 (by decide) rfl (fun _ => ?_) (fun h9 => absurd (nI_le (Nat.le_refl _) (by decide)) h9)
        refine v_iload_n C dX5_worstShow_101 rfl 2 2 rfl rfl ?_
        refine v_bipush (v := -6) C dX5_worstShow_102 rfl bp_m6 ?_
        refine v_icmp_ne C 112 dX5_worstShow_104 (by decide) rfl (fun h104 => ?_) (fun h104 => ?_)
        · skip
          refine v_iload_n C dX5_worstShow_112 rfl 1 1 rfl rfl ?_
          refine v_if_ne C 122 dX5_worstShow_113 (by decide) rfl (fun h113 => ?_) (fun h113 => ?_)
          · skip
            refine v_iload_n C dX5_worstShow_122 rfl 1 1 rfl rfl ?_
            refine v_iconst (v := 1) C dX5_worstShow_123 rfl ic_1 ?_
            refine v_icmp_ne C 133 dX5_worstShow_124 (by decide) rfl (fun h124 => ?_) (fun h124 => ?_)
            · skip
              refine v_iload_n C dX5_worstShow_133 rfl 3 3 rfl rfl ?_
              refine v_ldc C dX5_worstShow_134 rfl ct_X5_worstShow_129 ?_
              refine v_iadd C dX5_worstShow_136 rfl ?_
              exact hend (⟨by rw [if_neg h6]; simp [q_ws, h104, h113, h124], hs⟩) (rfl) dX5_worstShow_137
            · skip
              refine v_iload_n C dX5_worstShow_127 rfl 2 2 rfl rfl ?_
              refine v_iconst (v := 2) C dX5_worstShow_128 rfl ic_2 ?_
              refine v_irem C dX5_worstShow_129 rfl (by decide) ?_
              refine v_goto C 137 dX5_worstShow_130 (by decide) ?_
              exact hend (⟨by rw [if_neg h6]; simp [q_ws, h104, h113, h124], hs⟩) (rfl) dX5_worstShow_137
          · skip
            refine v_iload_n C dX5_worstShow_116 rfl 2 2 rfl rfl ?_
            refine v_iconst (v := 2) C dX5_worstShow_117 rfl ic_2 ?_
            refine v_idiv C dX5_worstShow_118 rfl (by decide) ?_
            refine v_goto C 137 dX5_worstShow_119 (by decide) ?_
            exact hend (⟨by rw [if_neg h6]; simp [q_ws, h104, h113], hs⟩) (rfl) dX5_worstShow_137
        · skip
          refine v_bipush (v := -6) C dX5_worstShow_107 rfl bp_m6 ?_
          refine v_goto C 137 dX5_worstShow_109 (by decide) ?_
          exact hend (⟨by rw [if_neg h6]; simp [q_ws, h104], hs⟩) (rfl) dX5_worstShow_137
    refine v_lv (lv' := [(0, _), (1, _), (2, _), (3, _), (4, _)]) [3, 4, 2, 1, 0] rfl ?_
    exact LP20 0 (Nat.zero_le _) σ (sc9_rf σ)
  · skip
    refine v_bipush (v := -2) C dX5_worstShow_9 rfl bp_m2 ?_
    exact hend (⟨by simp [h6], sc9_rf σ⟩) (rfl) dX5_worstShow_11
set_option maxHeartbeats 4000000 in
set_option maxRecDepth 100000 in
theorem c_X5_priceFor (l : Launch) (D : va_G) (ad : Nat → Nat) (cI : ClassId) (σ : S9) (n : Nat) (hw : wfS (σ 0) n) (d q t : Int32) : CMi l (mW ad cI) D [(cI, .int)] yX5_priceFor wsX5_priceFor ({ frames := 4, cells := 0, slots := 0, locals := 90 } : Room) [.ref (ad 0), .int d, .int q, .int t] σ (fun r u => r = (if p_part d q = 0 then -2 else if p_in t 1 5000 = 0 then -2 else if σ 0 (46 + q_k d q) = -6 then -5 else q_pf (q_ppa (σ 0) (q_k d q)) t 20) ∧ sc9 σ u) := by
  refine v_starti (own := RX5) (cc := cX5_priceFor) (nL := 6) rfl (by decide) rfl (Nat.le_of_ble_eq_true rfl) ?_
  intro p e s m args below meth c A Q C K hend
  refine v_lv (lv' := [(0, .ref (ad 0)), (1, .int d), (2, .int q), (3, .int t)]) [0, 1, 2, 3] rfl ?_
  refine v_iload_n C dX5_priceFor_0 rfl 1 1 rfl rfl ?_
  refine v_iload_n C dX5_priceFor_1 rfl 2 2 rfl rfl ?_
  refine v_callSpd C (c_X5_isPart l _ _) gX5_priceFor_X5_isPart rfl hd_X5_isPart.2 ⟨rfl, rfl⟩ ⟨Nat.le_of_ble_eq_true rfl, Nat.le_of_ble_eq_true rfl⟩ rfl rfl (Nat.le_of_ble_eq_true rfl) ⟨Nat.le_refl _, Nat.le_refl _⟩ dX5_priceFor_2 rfl ?_
  refine v_if_eq C 19 dX5_priceFor_5 (by decide) rfl (fun h5 => ?_) (fun h5 => ?_)
  · skip
    refine v_bipush (v := -2) C dX5_priceFor_19 rfl bp_m2 ?_
    exact hend (⟨by simp [h5], sc9_rf σ⟩) (rfl) dX5_priceFor_21
  · skip
    refine v_iload_n C dX5_priceFor_8 rfl 3 3 rfl rfl ?_
    refine v_iconst (v := 1) C dX5_priceFor_9 rfl ic_1 ?_
    refine v_sipush (v := 5000) C dX5_priceFor_10 rfl sp_5000 ?_
    refine v_callSpd C (c_X5_within l _ _ _) gX5_priceFor_X5_within rfl hd_X5_within.2 ⟨rfl, rfl⟩ ⟨Nat.le_of_ble_eq_true rfl, Nat.le_of_ble_eq_true rfl⟩ rfl rfl (Nat.le_of_ble_eq_true rfl) ⟨Nat.le_refl _, Nat.le_refl _⟩ dX5_priceFor_13 rfl ?_
    refine v_if_ne C 22 dX5_priceFor_16 (by decide) rfl (fun h16 => ?_) (fun h16 => ?_)
    · skip
      obtain ⟨d, q, hd, hq, rfl, rfl⟩ := p_part_ne h5
      have ecd : (nI d).toNatClampNeg = d := nI_cl (by omega)
      have ecq : (nI q).toNatClampNeg = q := nI_cl (by omega)
      have ek : q_k (nI d) (nI q) = 2 * d + q := by rw [q_k, ecd, ecq]
      have ek2 : 46 + 2 * d + q = 46 + (2 * d + q) := by omega
      refine v_aload_n C dX5_priceFor_22 rfl 0 0 rfl rfl ?_
      refine v_iload_n C dX5_priceFor_23 rfl 1 1 rfl rfl ?_
      refine v_iload_n C dX5_priceFor_24 rfl 2 2 rfl rfl ?_
      refine v_callVid C K (c_X5_showAt l D ad cI _ d q hd hq) gX5_priceFor_X5_showAt rfl hd_X5_showAt ⟨rfl, rfl⟩ ⟨Nat.le_of_ble_eq_true rfl, Nat.le_of_ble_eq_true rfl⟩ 0 rfl rfl rfl rfl rfl (Nat.le_of_ble_eq_true rfl) ⟨Nat.le_refl _, Nat.le_refl _⟩ dX5_priceFor_25 rfl ?_
      refine v_bipush (v := -6) C dX5_priceFor_28 rfl bp_m6 ?_
      refine v_icmp_ne C 36 dX5_priceFor_30 (by decide) rfl (fun h30 => ?_) (fun h30 => ?_)
      · skip
        refine v_aload_n C dX5_priceFor_36 rfl 0 0 rfl rfl ?_
        refine v_callVv C K (c_X5_reckon l D ad cI _ n hw) gX5_priceFor_X5_reckon rfl hd_X5_reckon ⟨rfl, rfl⟩ ⟨Nat.le_of_ble_eq_true rfl, Nat.le_of_ble_eq_true rfl⟩ 0 rfl rfl rfl rfl rfl (Nat.le_of_ble_eq_true rfl) ⟨Nat.le_refl _, Nat.le_refl _⟩ dX5_priceFor_37 rfl (fun u37 hc37 => ?_)
        have hs : sc9 σ u37 := by
          rw [hc37]
          exact sc9_rk n σ
        have hs0 : u37 0 = σ 0 := sc9_0 hs
        have hJ := rkM_J hw
        rw [← hc37] at hJ
        clear hc37
        obtain ⟨hJ7, hJ56, hJ8⟩ := hJ
        refine v_bipush (v := -6) C dX5_priceFor_40 rfl bp_m6 ?_
        refine v_istore (lv' := [(4, _), (0, _), (1, _), (2, _), (3, _)]) C dX5_priceFor_42 rfl (by decide) rfl ?_
        refine v_bipush (v := 20) C dX5_priceFor_44 rfl bp_20 ?_
        refine v_istore (lv' := [(5, _), (4, _), (0, _), (1, _), (2, _), (3, _)]) C dX5_priceFor_46 rfl (by decide) rfl ?_
        have LP48 : ∀ j, j ≤ 20 → VV p l e ({ frames := 4, cells := 0, slots := 0, locals := 90 } : Room) s m args below meth c 0 0 Q (mW ad cI) D A s.heap 6 u37 48 [(0, .ref (ad 0)), (1, .int (nI d)), (2, .int (nI q)), (3, .int t), (4, .int (q_pf (q_ppa (σ 0) (2 * d + q)) t j)), (5, .int (nI (20 - j)))] [] := by
          refine lpB9 (fun j => VV p l e ({ frames := 4, cells := 0, slots := 0, locals := 90 } : Room) s m args below meth c 0 0 Q (mW ad cI) D A s.heap 6 u37 48 [(0, .ref (ad 0)), (1, .int (nI d)), (2, .int (nI q)), (3, .int t), (4, .int (q_pf (q_ppa (σ 0) (2 * d + q)) t j)), (5, .int (nI (20 - j)))] []) 20 (fun j hj ih => ?_) ?_
          · skip
            refine v_iload C dX5_priceFor_48 rfl 5 rfl ?_
            refine v_iconst (v := 1) C dX5_priceFor_50 rfl ic_1 ?_
            refine v_icmp_lt C 86 dX5_priceFor_51 (by decide) rfl (fun h9 => absurd h9 (nI_nlt (a := 20 - j) (b := 1) (by omega) (by omega))) (fun _ => ?_)
            refine v_aload_n C dX5_priceFor_54 rfl 0 0 rfl rfl ?_
            refine v_get C K in_X5_priceFor_X5 0 rfl rfl 7 (by decide) fl_X5_priceFor_X5_7 rfl dX5_priceFor_55 rfl ?_
            refine v_iconst (v := 2) C dX5_priceFor_58 rfl ic_2 ?_
            refine v_iload_n C dX5_priceFor_59 rfl 1 1 rfl rfl ?_
            refine v_imul C dX5_priceFor_60 rfl ?_
            refine v_iload_n C dX5_priceFor_61 rfl 2 2 rfl rfl ?_
            refine v_iadd C dX5_priceFor_62 rfl ?_
            refine v_iald C K 6 0 rfl rfl (2 * d + q) (by simp only [lit9, pk_mul, nI_add]) (by omega) (by decide) dX5_priceFor_63 rfl ?_
            refine v_top (q_ppa (σ 0) (2 * d + q)) ((hJ56 (2 * d + q) (by omega)).1) ?_
            refine v_iload C dX5_priceFor_64 rfl 5 rfl ?_
            refine v_imul C dX5_priceFor_66 rfl ?_
            refine v_iload_n C dX5_priceFor_67 rfl 3 3 rfl rfl ?_
            refine v_icmp_lt C 76 dX5_priceFor_68 (by decide) rfl (fun h68 => ?_) (fun h68 => ?_)
            · skip
              refine v_iload C dX5_priceFor_76 rfl 4 rfl ?_
              refine v_top (q_pf (q_ppa (σ 0) (2 * d + q)) t (j + 1)) (by simp [q_pf, h68]) ?_
              refine v_istore (lv' := [(4, _), (0, _), (1, _), (2, _), (3, _), (5, _)]) C dX5_priceFor_78 rfl (by decide) rfl ?_
              refine v_iinc (lv' := [(5, _), (4, _), (0, _), (1, _), (2, _), (3, _)]) C dX5_priceFor_80 rfl 5 rfl (show _ = nI (20 - (j + 1)) by rw [show 20 - j = (20 - (j + 1)) + 1 by omega]; exact dec9 _) (by decide) rfl ?_
              refine v_goto C 48 dX5_priceFor_83 (by decide) ?_
              refine v_lv (lv' := [(0, _), (1, _), (2, _), (3, _), (4, _), (5, _)]) [2, 3, 4, 5, 1, 0] rfl ?_
              exact ih
            · skip
              refine v_iload C dX5_priceFor_71 rfl 5 rfl ?_
              refine v_goto C 78 dX5_priceFor_73 (by decide) ?_
              refine v_top (q_pf (q_ppa (σ 0) (2 * d + q)) t (j + 1)) (by simp [q_pf, h68]) ?_
              refine v_istore (lv' := [(4, _), (0, _), (1, _), (2, _), (3, _), (5, _)]) C dX5_priceFor_78 rfl (by decide) rfl ?_
              refine v_iinc (lv' := [(5, _), (4, _), (0, _), (1, _), (2, _), (3, _)]) C dX5_priceFor_80 rfl 5 rfl (show _ = nI (20 - (j + 1)) by rw [show 20 - j = (20 - (j + 1)) + 1 by omega]; exact dec9 _) (by decide) rfl ?_
              refine v_goto C 48 dX5_priceFor_83 (by decide) ?_
              refine v_lv (lv' := [(0, _), (1, _), (2, _), (3, _), (4, _), (5, _)]) [2, 3, 4, 5, 1, 0] rfl ?_
              exact ih
          · skip
            refine v_iload C dX5_priceFor_48 rfl 5 rfl ?_
            refine v_iconst (v := 1) C dX5_priceFor_50 rfl ic_1 ?_
            refine v_icmp_lt C 86 dX5_priceFor_51 (by decide) rfl (fun _ => ?_) (fun h9 => absurd (by decide) h9)
            refine v_iload C dX5_priceFor_86 rfl 4 rfl ?_
            exact hend (⟨by rw [ek2] at h30; simp [h5, h16, h30, ek], hs⟩) (rfl) dX5_priceFor_88
        refine v_lv (lv' := [(0, _), (1, _), (2, _), (3, _), (4, _), (5, _)]) [2, 3, 4, 5, 1, 0] rfl ?_
        exact v9cast (LP48 0 (by omega)) rfl rfl rfl
      · skip
        refine v_bipush (v := -5) C dX5_priceFor_33 rfl bp_m5 ?_
        exact hend (⟨by rw [ek2] at h30; simp [h5, h16, h30, ek], sc9_rf σ⟩) (rfl) dX5_priceFor_35
    · skip
      refine v_bipush (v := -2) C dX5_priceFor_19 rfl bp_m2 ?_
      exact hend (⟨by simp [h5, h16], sc9_rf σ⟩) (rfl) dX5_priceFor_21
def q_dv (r : Nat → Int32) (what : Int32) (f : Nat) : Int32 := if what = 0 then 1 else if what = 1 then sm9 (q_S r f) 5 else sm9 (q_D r f) 5
def q_di (r : Nat → Int32) (x what : Int32) (f : Nat) : Int32 := if r (6 + 5 * f + 0) = x then q_dv r what f else 0
set_option maxHeartbeats 4000000 in
set_option maxRecDepth 100000 in
theorem c_X5_distributor (l : Launch) (D : va_G) (ad : Nat → Nat) (cI : ClassId) (σ : S9) (n : Nat) (hw : wfS (σ 0) n) (x what : Int32) : CMi l (mW ad cI) D [(cI, .int)] yX5_distributor wsX5_distributor ({ frames := 4, cells := 0, slots := 0, locals := 90 } : Room) [.ref (ad 0), .int x, .int what] σ (fun r u => r = (if p_in x 0 3 = 0 then -2 else if p_in what 0 2 = 0 then -2 else sm9 (q_di (σ 0) x what) n) ∧ sc9 σ u) := by
  refine v_starti (own := RX5) (cc := cX5_distributor) (nL := 6) rfl (by decide) rfl (Nat.le_of_ble_eq_true rfl) ?_
  intro p e s m args below meth c A Q C K hend
  refine v_lv (lv' := [(0, .ref (ad 0)), (1, .int x), (2, .int what)]) [0, 1, 2] rfl ?_
  refine v_iload_n C dX5_distributor_0 rfl 1 1 rfl rfl ?_
  refine v_iconst (v := 0) C dX5_distributor_1 rfl ic_0 ?_
  refine v_iconst (v := 3) C dX5_distributor_2 rfl ic_3 ?_
  refine v_callSpd C (c_X5_within l _ _ _) gX5_distributor_X5_within rfl hd_X5_within.2 ⟨rfl, rfl⟩ ⟨Nat.le_of_ble_eq_true rfl, Nat.le_of_ble_eq_true rfl⟩ rfl rfl (Nat.le_of_ble_eq_true rfl) ⟨Nat.le_refl _, Nat.le_refl _⟩ dX5_distributor_3 rfl ?_
  refine v_if_eq C 18 dX5_distributor_6 (by decide) rfl (fun h6 => ?_) (fun h6 => ?_)
  · skip
    refine v_bipush (v := -2) C dX5_distributor_18 rfl bp_m2 ?_
    exact hend (⟨by simp [h6], sc9_rf σ⟩) (rfl) dX5_distributor_20
  · skip
    refine v_iload_n C dX5_distributor_9 rfl 2 2 rfl rfl ?_
    refine v_iconst (v := 0) C dX5_distributor_10 rfl ic_0 ?_
    refine v_iconst (v := 2) C dX5_distributor_11 rfl ic_2 ?_
    refine v_callSpd C (c_X5_within l _ _ _) gX5_distributor_X5_within rfl hd_X5_within.2 ⟨rfl, rfl⟩ ⟨Nat.le_of_ble_eq_true rfl, Nat.le_of_ble_eq_true rfl⟩ rfl rfl (Nat.le_of_ble_eq_true rfl) ⟨Nat.le_refl _, Nat.le_refl _⟩ dX5_distributor_12 rfl ?_
    refine v_if_ne C 21 dX5_distributor_15 (by decide) rfl (fun h15 => ?_) (fun h15 => ?_)
    · skip
      refine v_aload_n C dX5_distributor_21 rfl 0 0 rfl rfl ?_
      refine v_callVv C K (c_X5_reckon l D ad cI _ n hw) gX5_distributor_X5_reckon rfl hd_X5_reckon ⟨rfl, rfl⟩ ⟨Nat.le_of_ble_eq_true rfl, Nat.le_of_ble_eq_true rfl⟩ 0 rfl rfl rfl rfl rfl (Nat.le_of_ble_eq_true rfl) ⟨Nat.le_refl _, Nat.le_refl _⟩ dX5_distributor_22 rfl (fun u22 hc22 => ?_)
      have hs : sc9 σ u22 := by
        rw [hc22]
        exact sc9_rk n σ
      have hs0 : u22 0 = σ 0 := sc9_0 hs
      have hJ := rkM_J hw
      rw [← hc22] at hJ
      clear hc22
      obtain ⟨hJ7, hJ56, hJ8⟩ := hJ
      refine v_iconst (v := 0) C dX5_distributor_25 rfl ic_0 ?_
      refine v_istore_n (lv' := [(3, _), (0, _), (1, _), (2, _)]) C dX5_distributor_26 rfl 3 rfl (by decide) rfl ?_
      refine v_iconst (v := 0) C dX5_distributor_27 rfl ic_0 ?_
      refine v_istore (lv' := [(4, _), (3, _), (0, _), (1, _), (2, _)]) C dX5_distributor_28 rfl (by decide) rfl ?_
      have LP30 : ∀ f, f ≤ n → VV p l e ({ frames := 4, cells := 0, slots := 0, locals := 90 } : Room) s m args below meth c 0 0 Q (mW ad cI) D A s.heap 6 u22 30 [(0, .ref (ad 0)), (1, .int x), (2, .int what), (3, .int (sm9 (q_di (σ 0) x what) f)), (4, .int (nI f))] [] := by
        refine lpB9 (fun f => VV p l e ({ frames := 4, cells := 0, slots := 0, locals := 90 } : Room) s m args below meth c 0 0 Q (mW ad cI) D A s.heap 6 u22 30 [(0, .ref (ad 0)), (1, .int x), (2, .int what), (3, .int (sm9 (q_di (σ 0) x what) f)), (4, .int (nI f))] []) n (fun f hf ih => ?_) ?_
        · skip
          have hn8 := hw.2.1
          refine v_iload C dX5_distributor_30 rfl 4 rfl ?_
          refine v_aload_n C dX5_distributor_32 rfl 0 0 rfl rfl ?_
          refine v_get C K in_X5_distributor_X5 0 rfl rfl 0 (by decide) fl_X5_distributor_X5_0 rfl dX5_distributor_33 rfl ?_
          refine v_iconst (v := 5) C dX5_distributor_36 rfl ic_5 ?_
          refine v_iald C K 1 0 rfl rfl (5) (rfl) (by omega) (by decide) dX5_distributor_37 rfl ?_
          refine v_top (nI n) (by rw [hs0]; exact hw.1) ?_
          refine v_icmp_ge C 98 dX5_distributor_38 (by decide) rfl (fun h9 => absurd h9 (nI_ge hf (by omega))) (fun _ => ?_)
          refine v_iload_n C dX5_distributor_41 rfl 2 2 rfl rfl ?_
          have J70 : VV p l e ({ frames := 4, cells := 0, slots := 0, locals := 90 } : Room) s m args below meth c 0 0 Q (mW ad cI) D A s.heap 6 u22 70 [(0, .ref (ad 0)), (1, .int x), (2, .int what), (3, .int (sm9 (q_di (σ 0) x what) f)), (4, .int (nI f))] [.int (q_dv (σ 0) what f)] := by
            refine v_istore (lv' := [(5, _), (0, _), (1, _), (2, _), (3, _), (4, _)]) C dX5_distributor_70 rfl (by decide) rfl ?_
            refine v_iload_n C dX5_distributor_72 rfl 3 4 rfl rfl ?_
            refine v_aload_n C dX5_distributor_73 rfl 0 1 rfl rfl ?_
            refine v_iload C dX5_distributor_74 rfl 5 rfl ?_
            refine v_iconst (v := 0) C dX5_distributor_76 rfl ic_0 ?_
            refine v_callVid C K (c_X5_filmPart l D ad cI _ f 0 (by omega) (by decide)) gX5_distributor_X5_filmPart rfl hd_X5_filmPart ⟨rfl, rfl⟩ ⟨Nat.le_of_ble_eq_true rfl, Nat.le_of_ble_eq_true rfl⟩ 0 rfl rfl rfl rfl rfl (Nat.le_of_ble_eq_true rfl) ⟨Nat.le_refl _, Nat.le_refl _⟩ dX5_distributor_77 rfl ?_
            refine v_top (σ 0 (6 + 5 * f + 0)) (by rw [hs0]) ?_
            refine v_iload_n C dX5_distributor_80 rfl 1 2 rfl rfl ?_
            refine v_icmp_ne C 89 dX5_distributor_81 (by decide) rfl (fun h81 => ?_) (fun h81 => ?_)
            · skip
              refine v_iconst (v := 0) C dX5_distributor_89 rfl ic_0 ?_
              refine v_iadd C dX5_distributor_90 rfl ?_
              refine v_top (sm9 (q_di (σ 0) x what) (f + 1)) (by rw [sm9, q_di]; first | rw [if_pos h81] | rw [if_neg h81]) ?_
              refine v_istore_n (lv' := [(3, _), (5, _), (0, _), (1, _), (2, _), (4, _)]) C dX5_distributor_91 rfl 3 rfl (by decide) rfl ?_
              refine v_iinc (lv' := [(4, _), (3, _), (5, _), (0, _), (1, _), (2, _)]) C dX5_distributor_92 rfl 5 rfl (inc9 _) (by decide) rfl ?_
              refine v_goto C 30 dX5_distributor_95 (by decide) ?_
              refine v_lv (lv' := [(0, _), (1, _), (2, _), (3, _), (4, _)]) [3, 4, 5, 1, 0] rfl ?_
              exact ih
            · skip
              refine v_iload C dX5_distributor_84 rfl 0 rfl ?_
              refine v_goto C 90 dX5_distributor_86 (by decide) ?_
              refine v_iadd C dX5_distributor_90 rfl ?_
              refine v_top (sm9 (q_di (σ 0) x what) (f + 1)) (by rw [sm9, q_di]; first | rw [if_pos h81] | rw [if_neg h81]) ?_
              refine v_istore_n (lv' := [(3, _), (5, _), (0, _), (1, _), (2, _), (4, _)]) C dX5_distributor_91 rfl 3 rfl (by decide) rfl ?_
              refine v_iinc (lv' := [(4, _), (3, _), (5, _), (0, _), (1, _), (2, _)]) C dX5_distributor_92 rfl 5 rfl (inc9 _) (by decide) rfl ?_
              refine v_goto C 30 dX5_distributor_95 (by decide) ?_
              refine v_lv (lv' := [(0, _), (1, _), (2, _), (3, _), (4, _)]) [3, 4, 5, 1, 0] rfl ?_
              exact ih
          refine v_if_ne C 49 dX5_distributor_42 (by decide) rfl (fun h42 => ?_) (fun h42n => ?_)
          · skip
            refine v_iload_n C dX5_distributor_49 rfl 2 2 rfl rfl ?_
            refine v_iconst (v := 1) C dX5_distributor_50 rfl ic_1 ?_
            refine v_icmp_ne C 61 dX5_distributor_51 (by decide) rfl (fun h51n => ?_) (fun h51 => ?_)
            · skip
              refine v_aload_n C dX5_distributor_61 rfl 0 0 rfl rfl ?_
              refine v_get C K in_X5_distributor_X5 0 rfl rfl 13 (by decide) fl_X5_distributor_X5_13 rfl dX5_distributor_62 rfl ?_
              refine v_iload C dX5_distributor_65 rfl 4 rfl ?_
              refine v_callSid C K (c_X5_sumOfFilm l D ad cI _ 11 (by decide) (by decide) f (by omega)) gX5_distributor_X5_sumOfFilm rfl hd_X5_sumOfFilm.2 ⟨rfl, rfl⟩ ⟨Nat.le_of_ble_eq_true rfl, Nat.le_of_ble_eq_true rfl⟩ rfl rfl (Nat.le_of_ble_eq_true rfl) ⟨Nat.le_refl _, Nat.le_refl _⟩ dX5_distributor_67 rfl ?_
              exact v9cast J70 rfl rfl (by simp [q_dv, h42, h51n]; exact sm9_congr (fun w hw => (hJ8 f w (by omega) hw).2.2.2))
            · skip
              refine v_aload_n C dX5_distributor_54 rfl 0 0 rfl rfl ?_
              refine v_get C K in_X5_distributor_X5 0 rfl rfl 10 (by decide) fl_X5_distributor_X5_10 rfl dX5_distributor_55 rfl ?_
              refine v_goto C 65 dX5_distributor_58 (by decide) ?_
              refine v_iload C dX5_distributor_65 rfl 4 rfl ?_
              refine v_callSid C K (c_X5_sumOfFilm l D ad cI _ 8 (by decide) (by decide) f (by omega)) gX5_distributor_X5_sumOfFilm rfl hd_X5_sumOfFilm.2 ⟨rfl, rfl⟩ ⟨Nat.le_of_ble_eq_true rfl, Nat.le_of_ble_eq_true rfl⟩ rfl rfl (Nat.le_of_ble_eq_true rfl) ⟨Nat.le_refl _, Nat.le_refl _⟩ dX5_distributor_67 rfl ?_
              exact v9cast J70 rfl rfl (by simp [q_dv, h42, h51]; exact sm9_congr (fun w hw => (hJ8 f w (by omega) hw).1))
          · skip
            refine v_iconst (v := 1) C dX5_distributor_45 rfl ic_1 ?_
            refine v_goto C 70 dX5_distributor_46 (by decide) ?_
            exact v9cast J70 rfl rfl (by simp [q_dv, h42n])
        · skip
          have hn8 := hw.2.1
          refine v_iload C dX5_distributor_30 rfl 4 rfl ?_
          refine v_aload_n C dX5_distributor_32 rfl 0 0 rfl rfl ?_
          refine v_get C K in_X5_distributor_X5 0 rfl rfl 0 (by decide) fl_X5_distributor_X5_0 rfl dX5_distributor_33 rfl ?_
          refine v_iconst (v := 5) C dX5_distributor_36 rfl ic_5 ?_
          refine v_iald C K 1 0 rfl rfl (5) (rfl) (by omega) (by decide) dX5_distributor_37 rfl ?_
          refine v_top (nI n) (by rw [hs0]; exact hw.1) ?_
          refine v_icmp_ge C 98 dX5_distributor_38 (by decide) rfl (fun _ => ?_) (fun h9 => absurd (nI_le (Nat.le_refl _) (by omega)) h9)
          refine v_iload_n C dX5_distributor_98 rfl 3 3 rfl rfl ?_
          exact hend (⟨by simp [h6, h15], hs⟩) (rfl) dX5_distributor_99
      refine v_lv (lv' := [(0, _), (1, _), (2, _), (3, _), (4, _)]) [2, 3, 4, 1, 0] rfl ?_
      exact LP30 0 (Nat.zero_le _)
    · skip
      refine v_bipush (v := -2) C dX5_distributor_18 rfl bp_m2 ?_
      exact hend (⟨by simp [h6, h15], sc9_rf σ⟩) (rfl) dX5_distributor_20

/-- a hall's row as it must be: films, shows, shares, rents -/
def wfH (r : Nat → Int32) (n : Nat) : Prop := wfS r n ∧ (∀ f, f < n → ∃ s : Nat, 20 ≤ s ∧ s ≤ 90 ∧ r (6 + 5 * f + 3) = nI s) ∧ ∀ d, d < 35 → ∃ v : Nat, v ≤ 999 ∧ r (116 + d) = nI v
def FS (r : Nat → Int32) (f v : Nat) (u : S9) : Prop := u 3 (5 * v + 0) = q_S r f v ∧ u 3 (5 * v + 1) = q_ps r f v ∧ u 3 (5 * v + 2) = q_T r f v ∧ u 3 (5 * v + 3) = q_D r f v ∧ u 3 (5 * v + 4) = q_T r f v - q_D r f v - q_S r f v * r 2 ∧ u 4 v = q_sh r f v
def FJ (r : Nat → Int32) (f w : Nat) (σ u : S9) : Prop := (∀ i, (i = 0 ∨ 5 < i) → u i = σ i) ∧ (∀ k, k < 14 * w → r (46 + k) = nI f → u 1 k = q_P r f k ∧ u 2 k = q_L r f (k + 1)) ∧ (∀ v, v < w → FS r f v u) ∧ u 5 0 = sm9 (q_ff r f) (14 * w)
theorem FJ_0 {r : Nat → Int32} {f : Nat} {σ u : S9} (h : ∀ i, (i = 0 ∨ 5 < i) → u i = σ i) (h5 : u 5 0 = 0) : FJ r f 0 σ u := ⟨h, fun k hk => absurd hk (Nat.not_lt_zero k), fun v hv => absurd hv (Nat.not_lt_zero v), h5⟩
theorem FJ_s {r : Nat → Int32} {f w : Nat} (hf : f < 8) (hw : w < 5) {σ u u1 : S9} (hr : σ 0 = r) (h : FJ r f w σ u) (h1 : fwE r f w u u1) : FJ r f (w + 1) σ (rwM (st9 u1 4 (upd (u1 4) w (q_sh r f w))) w (r (6 + 5 * f + 2))) := by
  obtain ⟨a0, a1, a2, a3⟩ := h
  obtain ⟨b0, b1, b2, b3, b4, b5⟩ := h1
  have e0 : u1 0 = r := (b0 0 (by decide) (by decide) (by decide) (by decide)).trans ((a0 0 (Or.inl rfl)).trans hr)
  generalize hv : st9 u1 4 (upd (u1 4) w (q_sh r f w)) = v
  have v0 : v 0 = r := by rw [← hv, st9_n _ _ (by decide)]; exact e0
  have v3 : v 3 = upd (upd (u 3) (5 * w + 0) (sm9 (q_cj r f w) 14)) (5 * w + 1) (q_ps r f w) := by rw [← hv, st9_n _ _ (by decide)]; exact b3
  have v4 : v 4 w = q_sh r f w := by rw [← hv, st9_s, upd_s]
  have v30 : v 3 (5 * w + 0) = q_S r f w := by rw [v3, upd_n _ _ (by omega), upd_s, q_S_w r f hw]
  have v31 : v 3 (5 * w + 1) = q_ps r f w := by rw [v3, upd_s]
  have eT : v 3 (5 * w + 1) * v 0 1 = q_T r f w := by rw [v31, v0, q_T_w r hf hw]
  have eso : rw_so (v 4 w) (q_T r f w) = q_so r f w := by rw [v4]; rfl
  have eD : rw_du (v 3 (5 * w + 0)) (r (6 + 5 * f + 2)) (rw_so (v 4 w) (v 3 (5 * w + 1) * v 0 1)) = q_D r f w := by rw [eT, eso, v30]; rfl
  have eM : rwM v w (r (6 + 5 * f + 2)) = st9 v 3 (upd (upd (upd (v 3) (5 * w + 2) (q_T r f w)) (5 * w + 3) (q_D r f w)) (5 * w + 4) (q_T r f w - q_D r f w - q_S r f w * r 2)) := by rw [rwM, eD, eT, v30, v0]
  rw [eM]
  have vi : ∀ i, i ≠ 3 → i ≠ 4 → st9 v 3 (upd (upd (upd (v 3) (5 * w + 2) (q_T r f w)) (5 * w + 3) (q_D r f w)) (5 * w + 4) (q_T r f w - q_D r f w - q_S r f w * r 2)) i = u1 i := fun i h3 h4 => by rw [st9_n _ _ h3, ← hv, st9_n _ _ h4]
  refine ⟨fun i hi => ?_, fun k hk hs => ?_, fun z hz => ?_, ?_⟩
  · rw [vi i (by omega) (by omega), b0 i (by omega) (by omega) (by omega) (by omega)]
    exact a0 i hi
  · rw [vi 1 (by decide) (by decide), vi 2 (by decide) (by decide), b1 k, b2 k]
    by_cases q : 14 * w ≤ k
    · rw [if_pos ⟨q, by omega, hs⟩, if_pos ⟨q, by omega, hs⟩]
      exact ⟨rfl, rfl⟩
    · rw [if_neg (fun y => q y.1), if_neg (fun y => q y.1)]
      exact a1 k (by omega) hs
  · unfold FS
    rw [st9_s, st9_n _ _ (by decide)]
    by_cases q : z = w
    · subst q
      refine ⟨?_, ?_, ?_, ?_, ?_, v4⟩
      · rw [upd_n _ _ (by omega), upd_n _ _ (by omega), upd_n _ _ (by omega)]; exact v30
      · rw [upd_n _ _ (by omega), upd_n _ _ (by omega), upd_n _ _ (by omega)]; exact v31
      · rw [upd_n _ _ (by omega), upd_n _ _ (by omega), upd_s]
      · rw [upd_n _ _ (by omega), upd_s]
      · rw [upd_s]
    · obtain ⟨c0, c1, c2, c3, c4, c5⟩ := a2 z (by omega)
      have key : ∀ c, c < 5 → upd (upd (upd (v 3) (5 * w + 2) (q_T r f w)) (5 * w + 3) (q_D r f w)) (5 * w + 4) (q_T r f w - q_D r f w - q_S r f w * r 2) (5 * z + c) = u 3 (5 * z + c) := fun c hc => by
        rw [upd_n _ _ (by omega), upd_n _ _ (by omega), upd_n _ _ (by omega), v3, upd_n _ _ (by omega), upd_n _ _ (by omega)]
      rw [key 0 (by decide), key 1 (by decide), key 2 (by decide), key 3 (by decide), key 4 (by decide)]
      refine ⟨c0, c1, c2, c3, c4, ?_⟩
      rw [← hv, st9_s, upd_n _ _ q, b0 4 (by decide) (by decide) (by decide) (by decide)]
      exact c5
  · rw [vi 5 (by decide) (by decide), b5, a3, show 14 * (w + 1) = 14 * w + 14 by omega, sm9_split]
def foE (r : Nat → Int32) (f : Nat) (σ u : S9) : Prop := (∀ i, (i = 0 ∨ 5 < i) → u i = σ i) ∧ (∀ k, k < 70 → r (46 + k) = nI f → u 1 k = q_P r f k ∧ u 2 k = q_L r f (k + 1)) ∧ (∀ v, v < 5 → FS r f v u) ∧ u 5 0 = sm9 (q_ff r f) 70 ∧ u 5 1 = q_L r f 70
set_option maxHeartbeats 4000000 in
set_option maxRecDepth 100000 in
theorem c_X0_follow (l : Launch) (D : va_G) (ad : Nat → Nat) (cI cC cZ cQ : ClassId) (σ : S9) (n : Nat) (hw : wfH (σ 0) n) (f : Nat) (hf : f < n) : CMv l (cW ad cI cC cZ cQ) D (cTy cI cC cZ cQ) yX0_follow wsX0_follow ({ frames := 3, cells := 0, slots := 0, locals := 73 } : Room) [.ref (ad 3), .ref (ad 1), .int (nI f)] σ (fun u => foE (σ 0) f σ u) := by
  refine v_startv (own := RX0) (cc := cX0_follow) (nL := 7) rfl (by decide) rfl (Nat.le_of_ble_eq_true rfl) ?_
  intro p e s m args below meth c A Q C K hend
  refine v_lv (lv' := [(0, .ref (ad 3)), (1, .ref (ad 1)), (2, .int (nI f))]) [0, 1, 2] rfl ?_
  have hf8 : f < 8 := Nat.lt_of_lt_of_le hf hw.1.2.1
  refine v_aload_n C dX0_follow_0 rfl 1 1 rfl rfl ?_
  refine v_iload_n C dX0_follow_1 rfl 2 2 rfl rfl ?_
  refine v_iconst (v := 1) C dX0_follow_2 rfl ic_1 ?_
  refine v_callVid C K (c_X1_fact l D ad cI cC cZ cQ _ f 1 hf8 (by decide)) gX0_follow_X1_fact rfl hd_X1_fact ⟨rfl, rfl⟩ ⟨Nat.le_of_ble_eq_true rfl, Nat.le_of_ble_eq_true rfl⟩ 1 rfl rfl rfl rfl rfl (Nat.le_of_ble_eq_true rfl) ⟨Nat.le_refl _, Nat.le_refl _⟩ dX0_follow_3 rfl ?_
  refine v_istore_n (lv' := [(3, _), (0, _), (1, _), (2, _)]) C dX0_follow_6 rfl 3 rfl (by decide) rfl ?_
  refine v_aload_n C dX0_follow_7 rfl 1 2 rfl rfl ?_
  refine v_iload_n C dX0_follow_8 rfl 2 3 rfl rfl ?_
  refine v_iconst (v := 4) C dX0_follow_9 rfl ic_4 ?_
  refine v_callVid C K (c_X1_fact l D ad cI cC cZ cQ _ f 4 hf8 (by decide)) gX0_follow_X1_fact rfl hd_X1_fact ⟨rfl, rfl⟩ ⟨Nat.le_of_ble_eq_true rfl, Nat.le_of_ble_eq_true rfl⟩ 1 rfl rfl rfl rfl rfl (Nat.le_of_ble_eq_true rfl) ⟨Nat.le_refl _, Nat.le_refl _⟩ dX0_follow_10 rfl ?_
  refine v_bipush (v := 7) C dX0_follow_13 rfl bp_7 ?_
  refine v_idiv C dX0_follow_15 rfl (by decide) ?_
  refine v_istore (lv' := [(4, _), (3, _), (0, _), (1, _), (2, _)]) C dX0_follow_16 rfl (by decide) rfl ?_
  refine v_bipush (v := -6) C dX0_follow_18 rfl bp_m6 ?_
  refine v_istore (lv' := [(5, _), (4, _), (3, _), (0, _), (1, _), (2, _)]) C dX0_follow_20 rfl (by decide) rfl ?_
  refine v_aload_n C dX0_follow_22 rfl 0 3 rfl rfl ?_
  refine v_iconst (v := 0) C dX0_follow_23 rfl ic_0 ?_
  refine v_put (ty := .int) C K _ in_X0_follow_X0 tyX0_ok nmX0 3 rfl rfl 4 (by decide) fl_X0_follow_X0_4 rfl (by decide +kernel) rfl rfl (Nat.le_of_ble_eq_true rfl) (cW_fX0_4 ad cI cC cZ cQ _ _) dX0_follow_24 rfl ?_
  refine v_iconst (v := 0) C dX0_follow_27 rfl ic_0 ?_
  refine v_istore (lv' := [(6, _), (5, _), (4, _), (3, _), (0, _), (1, _), (2, _)]) C dX0_follow_28 rfl (by decide) rfl ?_
  have LP30 : ∀ w9, w9 ≤ 5 → ∀ u : S9, FJ (σ 0) f w9 σ u → VV p l e ({ frames := 3, cells := 0, slots := 0, locals := 73 } : Room) s m args below meth c 0 0 Q (cW ad cI cC cZ cQ) D A s.heap 7 u 30 [(0, .ref (ad 3)), (1, .ref (ad 1)), (2, .int (nI f)), (3, .int (q_L (σ 0) f (14 * w9))), (4, .int (σ 0 (6 + 5 * f + 4) / 7)), (5, .int (q_cs (σ 0) f w9)), (6, .int (nI w9))] [] := by
    refine lpB9 (fun w9 => ∀ u : S9, FJ (σ 0) f w9 σ u → VV p l e ({ frames := 3, cells := 0, slots := 0, locals := 73 } : Room) s m args below meth c 0 0 Q (cW ad cI cC cZ cQ) D A s.heap 7 u 30 [(0, .ref (ad 3)), (1, .ref (ad 1)), (2, .int (nI f)), (3, .int (q_L (σ 0) f (14 * w9))), (4, .int (σ 0 (6 + 5 * f + 4) / 7)), (5, .int (q_cs (σ 0) f w9)), (6, .int (nI w9))] []) 5 (fun w9 hw9 ih => ?_) ?_
    · intro u hJ
      have hu0 : u 0 = σ 0 := hJ.1 0 (Or.inl rfl)
      obtain ⟨s9, hs1, hs2, hs3⟩ := hw.2.1 f hf
      refine v_iload C dX0_follow_30 rfl 6 rfl ?_
      refine v_iconst (v := 5) C dX0_follow_32 rfl ic_5 ?_
      refine v_icmp_ge C 115 dX0_follow_33 (by decide) rfl (fun h9 => absurd h9 (nI_ge hw9 (by decide))) (fun _ => ?_)
      refine v_iload C dX0_follow_36 rfl 6 rfl ?_
      refine v_iload C dX0_follow_38 rfl 4 rfl ?_
      have J49 : VV p l e ({ frames := 3, cells := 0, slots := 0, locals := 73 } : Room) s m args below meth c 0 0 Q (cW ad cI cC cZ cQ) D A s.heap 7 u 49 [(0, .ref (ad 3)), (1, .ref (ad 1)), (2, .int (nI f)), (4, .int (σ 0 (6 + 5 * f + 4) / 7)), (5, .int (q_cs (σ 0) f w9)), (6, .int (nI w9)), (3, .int (q_Y (σ 0) f (14 * w9)))] [] := by
        refine v_aload_n C dX0_follow_49 rfl 0 0 rfl rfl ?_
        refine v_aload_n C dX0_follow_50 rfl 1 1 rfl rfl ?_
        refine v_iload_n C dX0_follow_51 rfl 2 2 rfl rfl ?_
        refine v_iload C dX0_follow_52 rfl 5 rfl ?_
        refine v_iload_n C dX0_follow_54 rfl 3 6 rfl rfl ?_
        refine v_callVi C K (c_X0_followWeek l D ad cI cC cZ cQ _ f hf8 w9 hw9 _ (by rw [hu0])) gX0_follow_X0_followWeek rfl hd_X0_followWeek ⟨rfl, rfl⟩ ⟨Nat.le_of_ble_eq_true rfl, Nat.le_of_ble_eq_true rfl⟩ 3 rfl rfl rfl rfl rfl (Nat.le_of_ble_eq_true rfl) ⟨Nat.le_refl _, Nat.le_refl _⟩ dX0_follow_55 rfl (fun r55 u55 hc55 => ?_)
        obtain ⟨e55, hE⟩ := hc55
        rw [hu0] at e55 hE
        have hv0 : u55 0 = σ 0 := (hE.1 0 (by decide) (by decide) (by decide) (by decide)).trans hu0
        have hv30 : u55 3 (5 * w9 + 0) = q_S (σ 0) f w9 := by rw [hE.2.2.2.1, upd_n _ _ (by omega), upd_s, q_S_w _ f hw9]
        subst e55
        refine v_istore_n (lv' := [(3, _), (0, _), (1, _), (2, _), (4, _), (5, _), (6, _)]) C dX0_follow_58 rfl 3 rfl (by decide) rfl ?_
        refine v_iload C dX0_follow_59 rfl 5 rfl ?_
        refine v_aload_n C dX0_follow_61 rfl 1 2 rfl rfl ?_
        refine v_iload_n C dX0_follow_62 rfl 2 3 rfl rfl ?_
        refine v_iconst (v := 3) C dX0_follow_63 rfl ic_3 ?_
        refine v_callVid C K (c_X1_fact l D ad cI cC cZ cQ _ f 3 hf8 (by decide)) gX0_follow_X1_fact rfl hd_X1_fact ⟨rfl, rfl⟩ ⟨Nat.le_of_ble_eq_true rfl, Nat.le_of_ble_eq_true rfl⟩ 1 rfl rfl rfl rfl rfl (Nat.le_of_ble_eq_true rfl) ⟨Nat.le_refl _, Nat.le_refl _⟩ dX0_follow_64 rfl ?_
        refine v_top (σ 0 (6 + 5 * f + 3)) (by rw [hv0]) ?_
        refine v_aload_n C dX0_follow_67 rfl 0 1 rfl rfl ?_
        refine v_iload C dX0_follow_68 rfl 6 rfl ?_
        refine v_iconst (v := 0) C dX0_follow_70 rfl ic_0 ?_
        refine v_callVid C K (c_X0_sumOfWeek l D ad cI cC cZ cQ _ w9 0 hw9 (by decide)) gX0_follow_X0_sumOfWeek rfl hd_X0_sumOfWeek ⟨rfl, rfl⟩ ⟨Nat.le_of_ble_eq_true rfl, Nat.le_of_ble_eq_true rfl⟩ 3 rfl rfl rfl rfl rfl (Nat.le_of_ble_eq_true rfl) ⟨Nat.le_refl _, Nat.le_refl _⟩ dX0_follow_71 rfl ?_
        have J82 : VV p l e ({ frames := 3, cells := 0, slots := 0, locals := 73 } : Room) s m args below meth c 0 0 Q (cW ad cI cC cZ cQ) D A s.heap 7 u55 82 [(0, .ref (ad 3)), (1, .ref (ad 1)), (2, .int (nI f)), (4, .int (σ 0 (6 + 5 * f + 4) / 7)), (5, .int (q_cs (σ 0) f w9)), (6, .int (nI w9)), (3, .int (q_L (σ 0) f (14 * w9 + 14)))] [.int (if q_S (σ 0) f w9 ≤ 0 then 0 else 1), .int (σ 0 (6 + 5 * f + 3)), .int (q_cs (σ 0) f w9)] := by
          refine v_callSpd C (c_X0_nextShare l _ _ _) gX0_follow_X0_nextShare rfl hd_X0_nextShare.2 ⟨rfl, rfl⟩ ⟨Nat.le_of_ble_eq_true rfl, Nat.le_of_ble_eq_true rfl⟩ rfl rfl (Nat.le_of_ble_eq_true rfl) ⟨Nat.le_refl _, Nat.le_refl _⟩ dX0_follow_82 rfl ?_
          refine v_top (q_sh (σ 0) f w9) (cs_next hw9 hs3 hs1 hs2) ?_
          refine v_istore (lv' := [(5, _), (0, _), (1, _), (2, _), (4, _), (6, _), (3, _)]) C dX0_follow_85 rfl (by decide) rfl ?_
          refine v_aload_n C dX0_follow_87 rfl 0 1 rfl rfl ?_
          refine v_get C K in_X0_follow_X0 3 rfl rfl 3 (by decide) fl_X0_follow_X0_3 rfl dX0_follow_88 rfl ?_
          refine v_iload C dX0_follow_91 rfl 5 rfl ?_
          refine v_iload C dX0_follow_93 rfl 0 rfl ?_
          refine v_iast C K _ 7 0 rfl rfl (w9) (rfl) (by omega) (by decide) (cW_a7 ad cI cC cZ cQ _ _) dX0_follow_95 rfl ?_
          refine v_aload_n C dX0_follow_96 rfl 0 1 rfl rfl ?_
          refine v_aload_n C dX0_follow_97 rfl 1 2 rfl rfl ?_
          refine v_iload C dX0_follow_98 rfl 5 rfl ?_
          refine v_aload_n C dX0_follow_100 rfl 1 2 rfl rfl ?_
          refine v_iload_n C dX0_follow_101 rfl 2 3 rfl rfl ?_
          refine v_iconst (v := 2) C dX0_follow_102 rfl ic_2 ?_
          refine v_callVid C K (c_X1_fact l D ad cI cC cZ cQ _ f 2 hf8 (by decide)) gX0_follow_X1_fact rfl hd_X1_fact ⟨rfl, rfl⟩ ⟨Nat.le_of_ble_eq_true rfl, Nat.le_of_ble_eq_true rfl⟩ 1 rfl rfl rfl rfl rfl (Nat.le_of_ble_eq_true rfl) ⟨Nat.le_refl _, Nat.le_refl _⟩ dX0_follow_103 rfl ?_
          refine v_top (σ 0 (6 + 5 * f + 2)) (by rw [st9_n _ _ (by decide), hv0]) ?_
          refine v_callVvd C K (c_X0_reckonWeek l D ad cI cC cZ cQ _ w9 hw9 _) gX0_follow_X0_reckonWeek rfl hd_X0_reckonWeek ⟨rfl, rfl⟩ ⟨Nat.le_of_ble_eq_true rfl, Nat.le_of_ble_eq_true rfl⟩ 3 rfl rfl rfl rfl rfl (Nat.le_of_ble_eq_true rfl) ⟨Nat.le_refl _, Nat.le_refl _⟩ dX0_follow_106 rfl ?_
          refine v_iinc (lv' := [(6, _), (5, _), (0, _), (1, _), (2, _), (4, _), (3, _)]) C dX0_follow_109 rfl 5 rfl (inc9 _) (by decide) rfl ?_
          refine v_goto C 30 dX0_follow_112 (by decide) ?_
          refine v_lv (lv' := [(0, _), (1, _), (2, _), (3, _), (4, _), (5, _), (6, _)]) [2, 3, 4, 6, 5, 1, 0] rfl ?_
          exact v9cast (ih _ (FJ_s hf8 hw9 rfl hJ hE)) rfl (by rw [show 14 * (w9 + 1) = 14 * w9 + 14 by omega]; rfl) rfl
        refine v_top (q_S (σ 0) f w9) (hv30) ?_
        refine v_if_le C 81 dX0_follow_74 (by decide) rfl (fun h74 => ?_) (fun h74 => ?_)
        · skip
          refine v_iconst (v := 0) C dX0_follow_81 rfl ic_0 ?_
          refine v_lv (lv' := [(0, _), (1, _), (2, _), (4, _), (5, _), (6, _), (3, _)]) [1, 2, 3, 4, 5, 6, 0] rfl ?_
          exact v9cast J82 rfl rfl (by simp [h74])
        · skip
          refine v_iconst (v := 1) C dX0_follow_77 rfl ic_1 ?_
          refine v_goto C 82 dX0_follow_78 (by decide) ?_
          refine v_lv (lv' := [(0, _), (1, _), (2, _), (4, _), (5, _), (6, _), (3, _)]) [1, 2, 3, 4, 5, 6, 0] rfl ?_
          exact v9cast J82 rfl rfl (by simp [h74])
      refine v_icmp_le C 49 dX0_follow_40 (by decide) rfl (fun h40 => ?_) (fun h40 => ?_)
      · skip
        refine v_lv (lv' := [(0, _), (1, _), (2, _), (4, _), (5, _), (6, _), (3, _)]) [0, 1, 2, 4, 5, 6, 3] rfl ?_
        exact v9cast J49 rfl (by rw [Y0]; simp [h40]) rfl
      · skip
        refine v_iload_n C dX0_follow_43 rfl 3 3 rfl rfl ?_
        refine v_iload_n C dX0_follow_44 rfl 3 3 rfl rfl ?_
        refine v_iconst (v := 4) C dX0_follow_45 rfl ic_4 ?_
        refine v_idiv C dX0_follow_46 rfl (by decide) ?_
        refine v_isub C dX0_follow_47 rfl ?_
        refine v_istore_n (lv' := [(3, _), (0, _), (1, _), (2, _), (4, _), (5, _), (6, _)]) C dX0_follow_48 rfl 3 rfl (by decide) rfl ?_
        refine v_lv (lv' := [(0, _), (1, _), (2, _), (4, _), (5, _), (6, _), (3, _)]) [1, 2, 3, 4, 5, 6, 0] rfl ?_
        exact v9cast J49 rfl (by rw [Y0]; simp [h40]) rfl
    · intro u hJ
      refine v_iload C dX0_follow_30 rfl 6 rfl ?_
      refine v_iconst (v := 5) C dX0_follow_32 rfl ic_5 ?_
      refine v_icmp_ge C 115 dX0_follow_33 (by decide) rfl (fun _ => ?_) (fun h9 => absurd (nI_le (Nat.le_refl _) (by decide)) h9)
      refine v_aload_n C dX0_follow_115 rfl 0 0 rfl rfl ?_
      refine v_iload_n C dX0_follow_116 rfl 3 3 rfl rfl ?_
      refine v_put (ty := .int) C K _ in_X0_follow_X0 tyX0_ok nmX0 3 rfl rfl 5 (by decide) fl_X0_follow_X0_5 rfl (by decide +kernel) rfl rfl (Nat.le_of_ble_eq_true rfl) (cW_fX0_5 ad cI cC cZ cQ _ _) dX0_follow_117 rfl ?_
      exact hend (⟨fun i hi => by rw [st9_n _ _ (by omega)]; exact hJ.1 i hi, fun k hk hs => by rw [st9_n _ _ (by decide), st9_n _ _ (by decide)]; exact hJ.2.1 k hk hs, fun v hv => by have h := hJ.2.2.1 v hv; unfold FS at h ⊢; rw [st9_n _ _ (by decide), st9_n _ _ (by decide)]; exact h, by rw [st9_s, upd_n _ _ (by decide)]; exact hJ.2.2.2, by rw [st9_s, upd_s]⟩) dX0_follow_120
  refine v_lv (lv' := [(0, _), (1, _), (2, _), (3, _), (4, _), (5, _), (6, _)]) [4, 5, 6, 3, 2, 1, 0] rfl ?_
  exact LP30 0 (by omega) _ (FJ_0 (fun i hi => by rw [st9_n _ _ (by omega)]) (by rw [st9_s, upd_s]))

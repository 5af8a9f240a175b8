theorem upd_0 {f : Nat → Int32} {k : Nat} {x : Int32} (h : f k = x) : upd f k x = f := by rw [← h, upd_id]
theorem isn_1 {T : Nat → Int32} {L a : Nat} (h : chr T L a = 44) : isn T L a = 1 := if_pos h
theorem ffl_a {T : Nat → Int32} {L n a : Nat} (h : rdd T L a < 0) : ffl T L (n + 1) a = nI (rd3 T L a) := if_pos h
theorem ffl_b {T : Nat → Int32} {L n a : Nat} (h : ¬ rdd T L a < 0) (h2 : rd3 T L a = L) : ffl T L (n + 1) a = -6 := by rw [ffl, if_neg h, if_pos h2]
theorem ffl_c {T : Nat → Int32} {L n a : Nat} (h : ¬ rdd T L a < 0) (h2 : ¬ rd3 T L a = L) (h3 : chr T L (rd3 T L a) = 44) : ffl T L (n + 1) a = ffl T L n (rd3 T L a + 1) := by rw [ffl, if_neg h, if_neg h2, if_pos h3]
theorem ffl_d {T : Nat → Int32} {L n a : Nat} (h : ¬ rdd T L a < 0) (h2 : ¬ rd3 T L a = L) (h3 : ¬ chr T L (rd3 T L a) = 44) : ffl T L (n + 1) a = nI (rd3 T L a) := by rw [ffl, if_neg h, if_neg h2, if_neg h3]
/-- what a text without a fault says of its first show -/
theorem ffl_ok {T : Nat → Int32} {L n a : Nat} (hL6 : L ≤ 60) (hal : a ≤ L) (h : ffl T L (n + 1) a = -6) : ¬ rdd T L a < 0 ∧ (rd3 T L a = L ∨ (¬ rd3 T L a = L ∧ chr T L (rd3 T L a) = 44 ∧ rd3 T L a < L ∧ ffl T L n (rd3 T L a + 1) = -6)) := by
  have h3 := rd3_le T hal
  have hn : ¬ nI (rd3 T L a) = -6 := nI_ne6 (by omega)
  by_cases e1 : rdd T L a < 0
  · rw [ffl_a e1] at h
    exact absurd h hn
  · refine ⟨e1, ?_⟩
    by_cases e2 : rd3 T L a = L
    · exact Or.inl e2
    · by_cases e3 : chr T L (rd3 T L a) = 44
      · rw [ffl_c e1 e2 e3] at h
        exact Or.inr ⟨e2, e3, by omega, h⟩
      · rw [ffl_d e1 e2 e3] at h
        exact absurd h hn
set_option maxHeartbeats 4000000 in
set_option maxRecDepth 100000 in
theorem c_X5_findFault (l : Launch) (D : va_G) (ad : Nat → Nat) (cI : ClassId) (σ : S9) (L : Nat) (hL : σ 12 1 = nI L) (hL6 : L ≤ 60) : CMi l (mW ad cI) D [(cI, .int)] yX5_findFault wsX5_findFault ({ frames := 4, cells := 0, slots := 0, locals := 86 } : Room) [.ref (ad 0)] σ (fun r u => r = ffl (σ 4) L 61 0 ∧ tx9 σ u) := by
  refine v_starti (own := RX5) (cc := cX5_findFault) (nL := 1) rfl (by decide) rfl (Nat.le_of_ble_eq_true rfl) ?_
  intro p e s m args below meth c A Q C K hend
  refine v_lv (lv' := [(0, .ref (ad 0))]) [0] rfl ?_
  refine v_aload_n C dX5_findFault_0 rfl 0 0 rfl rfl ?_
  refine v_iconst (v := 0) C dX5_findFault_1 rfl ic_0 ?_
  refine v_put (ty := .int) C K _ in_X5_findFault_X5 tyX5_ok nmX5 0 rfl rfl 14 (by decide) fl_X5_findFault_X5_14 rfl (by decide +kernel) rfl rfl (Nat.le_of_ble_eq_true rfl) (mW_f2 ad cI _ _) dX5_findFault_2 rfl ?_
  have LP5 : ∀ j, j ≤ 61 → ∀ (u : S9) (a : Nat), tx9 σ u → u 12 2 = nI a → a ≤ L → L < a + (61 - j) → ffl (σ 4) L (61 - j) a = ffl (σ 4) L 61 0 → VV p l e ({ frames := 4, cells := 0, slots := 0, locals := 86 } : Room) s m args below meth c 0 0 Q (mW ad cI) D A s.heap 1 u 5 [(0, .ref (ad 0))] [] := by
    refine lpB9 (fun j => ∀ (u : S9) (a : Nat), tx9 σ u → u 12 2 = nI a → a ≤ L → L < a + (61 - j) → ffl (σ 4) L (61 - j) a = ffl (σ 4) L 61 0 → VV p l e ({ frames := 4, cells := 0, slots := 0, locals := 86 } : Room) s m args below meth c 0 0 Q (mW ad cI) D A s.heap 1 u 5 [(0, .ref (ad 0))] []) 61 (fun j hj ih => ?_) ?_
    · intro u a hT ha hal hfu hff
      have e4 : u 4 = σ 4 := hT.1 4 (by decide)
      have e1 : u 12 1 = nI L := hT.2.2.trans hL
      have l3 := rd3_le (σ 4) hal
      rw [show 61 - j = (61 - (j + 1)) + 1 by omega] at hff
      refine v_aload_n C dX5_findFault_5 rfl 0 0 rfl rfl ?_
      refine v_callVi C K (c_X5_readsShow l D ad cI u L e1 hL6 a ha hal) gX5_findFault_X5_readsShow rfl hd_X5_readsShow ⟨rfl, rfl⟩ ⟨Nat.le_of_ble_eq_true rfl, Nat.le_of_ble_eq_true rfl⟩ 0 rfl rfl rfl rfl rfl (Nat.le_of_ble_eq_true rfl) ⟨Nat.le_refl _, Nat.le_refl _⟩ dX5_findFault_6 rfl (fun r6 u6 hc6 => ?_)
      rw [e4] at hc6
      obtain ⟨rfl, hu6⟩ := hc6
      obtain ⟨k1, k2, k3, k4, k5⟩ : tx9 u u6 ∧ u6 12 2 = nI (rd3 (σ 4) L a) ∧ u6 12 3 = rdf (σ 4) L a ∧ u6 12 4 = rdq (σ 4) L a ∧ u6 12 5 = rdd (σ 4) L a := by rw [hu6]; exact tx9_r3 _ _ _ _ _
      have k1 := tx9_tr hT k1
      refine v_if_ne C 17 dX5_findFault_9 (by decide) rfl (fun h9 => ?_) (fun h9f => ?_)
      · skip
        have h9n : ¬ rdd (σ 4) L a < 0 := fun q => h9 (if_pos q)
        refine v_aload_n C dX5_findFault_17 rfl 0 0 rfl rfl ?_
        refine v_get C K in_X5_findFault_X5 0 rfl rfl 14 (by decide) fl_X5_findFault_X5_14 rfl dX5_findFault_18 rfl ?_
        refine v_top (nI (rd3 (σ 4) L a)) (k2) ?_
        refine v_aload_n C dX5_findFault_21 rfl 0 0 rfl rfl ?_
        refine v_get C K in_X5_findFault_X5 0 rfl rfl 6 (by decide) fl_X5_findFault_X5_6 rfl dX5_findFault_22 rfl ?_
        refine v_top (nI L) (k1.2.2.trans hL) ?_
        refine v_icmp_ne C 31 dX5_findFault_25 (by decide) rfl (fun h25 => ?_) (fun h25f => ?_)
        · skip
          have h25n : ¬ rd3 (σ 4) L a = L := fun q => h25 (by rw [q])
          refine v_aload_n C dX5_findFault_31 rfl 0 0 rfl rfl ?_
          refine v_callVi C K (c_X5_isNext l D ad cI u6 L (k1.2.2.trans hL) hL6 (rd3 (σ 4) L a) k2 l3.1) gX5_findFault_X5_isNext rfl hd_X5_isNext ⟨rfl, rfl⟩ ⟨Nat.le_of_ble_eq_true rfl, Nat.le_of_ble_eq_true rfl⟩ 0 rfl rfl rfl rfl rfl (Nat.le_of_ble_eq_true rfl) ⟨Nat.le_refl _, Nat.le_refl _⟩ dX5_findFault_32 rfl (fun r32 u32 hc32 => ?_)
          rw [k1.1 4 (by decide)] at hc32
          obtain ⟨rfl, hu32⟩ := hc32
          have hT32 : tx9 σ u32 := tx9_tr k1 (by rw [hu32]; exact tx9_at _ _)
          refine v_if_ne C 5 dX5_findFault_35 (by decide) rfl (fun h35 => ?_) (fun h35f => ?_)
          · skip
            have h44 : chr (σ 4) L (rd3 (σ 4) L a) = 44 := by
              by_cases q : chr (σ 4) L (rd3 (σ 4) L a) = 44
              · exact q
              · exact absurd (if_neg q) h35
            have l4 : rd3 (σ 4) L a < L := chr_lt (T := σ 4) (by rw [h44]; decide)
            exact ih u32 (rd3 (σ 4) L a + 1) hT32 (by rw [hu32, atS_12, upd_s, if_pos h44]) (by omega) (by omega) (by rw [← hff, ffl_c h9n h25n h44])
          · skip
            have h44 : ¬ chr (σ 4) L (rd3 (σ 4) L a) = 44 := fun q => by
              rw [isn_1 q] at h35f
              exact absurd h35f (by decide)
            refine v_aload_n C dX5_findFault_38 rfl 0 0 rfl rfl ?_
            refine v_get C K in_X5_findFault_X5 0 rfl rfl 14 (by decide) fl_X5_findFault_X5_14 rfl dX5_findFault_39 rfl ?_
            refine v_top (nI (rd3 (σ 4) L a)) (by rw [hu32, atS_12, upd_s, if_neg h44]) ?_
            exact hend (⟨by rw [← hff, ffl_d h9n h25n h44], hT32⟩) (rfl) dX5_findFault_42
        · skip
          have h25n : rd3 (σ 4) L a = L := nI_inj (by omega) (by omega) h25f
          refine v_bipush (v := -6) C dX5_findFault_28 rfl bp_m6 ?_
          exact hend (⟨by rw [← hff, ffl_b h9n h25n], k1⟩) (rfl) dX5_findFault_30
      · skip
        have h9n : rdd (σ 4) L a < 0 := by
          by_cases q : rdd (σ 4) L a < 0
          · exact q
          · rw [if_neg q] at h9f
            exact absurd h9f (by decide)
        refine v_aload_n C dX5_findFault_12 rfl 0 0 rfl rfl ?_
        refine v_get C K in_X5_findFault_X5 0 rfl rfl 14 (by decide) fl_X5_findFault_X5_14 rfl dX5_findFault_13 rfl ?_
        refine v_top (nI (rd3 (σ 4) L a)) (k2) ?_
        exact hend (⟨by rw [← hff, ffl_a h9n], k1⟩) (rfl) dX5_findFault_16
    · intro u a hT ha hal hfu hff
      exact absurd hfu (by omega)
  exact LP5 0 (by decide) (atS σ 0) 0 (tx9_at σ 0) (by rw [atS_12, upd_s]) (Nat.zero_le _) (by omega) rfl
set_option maxHeartbeats 4000000 in
set_option maxRecDepth 100000 in
theorem c_X5_fault (l : Launch) (D : va_G) (ad : Nat → Nat) (cI : ClassId) (σ : S9) (L : Nat) (hL : σ 12 1 = nI L) (hL6 : L ≤ 60) : CMi l (mW ad cI) D [(cI, .int)] yX5_fault wsX5_fault ({ frames := 5, cells := 0, slots := 0, locals := 106 } : Room) [.ref (ad 0)] σ (fun r u => r = ffl (σ 4) L 61 0 ∧ tx9 σ u) := by
  refine v_starti (own := RX5) (cc := cX5_fault) (nL := 1) rfl (by decide) rfl (Nat.le_of_ble_eq_true rfl) ?_
  intro p e s m args below meth c A Q C K hend
  refine v_lv (lv' := [(0, .ref (ad 0))]) [0] rfl ?_
  refine v_aload_n C dX5_fault_0 rfl 0 0 rfl rfl ?_
  refine v_callVi C K (c_X5_findFault l D ad cI _ L hL hL6) gX5_fault_X5_findFault rfl hd_X5_findFault ⟨rfl, rfl⟩ ⟨Nat.le_of_ble_eq_true rfl, Nat.le_of_ble_eq_true rfl⟩ 0 rfl rfl rfl rfl rfl (Nat.le_of_ble_eq_true rfl) ⟨Nat.le_refl _, Nat.le_refl _⟩ dX5_fault_1 rfl (fun r1 u1 hc1 => ?_)
  obtain ⟨rfl, hu1⟩ := hc1
  exact hend (⟨rfl, hu1⟩) (rfl) dX5_fault_4
/-- the reference behind a carrying out: shows put into the row, the text gone -/
def cyE (σ : S9) (h L : Nat) (u : S9) : Prop := tx9 (st9 (st9 (rcM σ h) 0 (cy (σ 4) L 61 (σ 0) 0).2) 12 (upd (rcM σ h 12) 1 0)) u
/-- what holds within the reference's loop of shows that are put in -/
def cyI (σ b : S9) (h L : Nat) (u : S9) (r : Nat → Int32) : Prop := (∀ i, i ≠ 0 → i ≠ 12 → u i = rcM b h i) ∧ u 0 = r ∧ u 12 0 = rcM b h 12 0 ∧ u 12 1 = nI L
theorem rcM_tx {σ b : S9} (h : Nat) (ht : tx9 σ b) : (∀ i, i ≠ 12 → rcM b h i = rcM σ h i) ∧ rcM b h 12 0 = rcM σ h 12 0 ∧ rcM b h 12 1 = rcM σ h 12 1 := by
  have hH : rcH b h = rcH σ h := by
    unfold rcH
    rw [ht.1 1 (by decide), ht.1 0 (by decide)]
  refine ⟨fun i hi => ?_, ?_, ?_⟩
  · rw [rcM, rcM, st9_n _ _ hi, st9_n _ _ hi, hH]
    by_cases e : i = 1
    · subst e
      rw [st9_s, st9_s]
    · rw [st9_n _ _ e, st9_n _ _ e]
      exact ht.1 i hi
  · rw [rcM, rcM, st9_s, st9_s, upd_s, upd_s]
  · rw [rcM, rcM, st9_s, st9_s, upd_n _ _ (by decide), upd_n _ _ (by decide)]
    exact ht.2.2
theorem k70 {d q : Nat} (hd : d < 35) (hq : q < 2) : 2 * d + q < 70 := by omega
theorem k151 {d q : Nat} (hd : d < 35) (hq : q < 2) : 46 + (2 * d + q) < 151 := by omega
theorem le_60 {a b : Nat} (ha : a ≤ 60) (hb : b ≤ 60) (h : nI a ≤ nI b) : a ≤ b := (nI_leI (by omega) (by omega)).mp h
theorem nle_60 {a b : Nat} (ha : a ≤ 60) (hb : b ≤ 60) (h : ¬ nI a ≤ nI b) : b < a := by
  rcases Nat.lt_or_ge b a with q | q
  · exact q
  · exact absurd (nI_le q (by omega)) h
theorem cy_stop {T : Nat → Int32} {L a j k9 M9 : Nat} {R9 r9 : Nat → Int32} (hj : j < 61) (hlt : a < L) (hw : ¬ p_why r9 (rdf T L a) (rdd T L a) (rdq T L a) = 0) (hcy : k9 + (cy T L (61 - j) r9 a).1 = M9 ∧ (cy T L (61 - j) r9 a).2 = R9) : k9 = M9 ∧ r9 = R9 := by
  rw [show 61 - j = (61 - (j + 1)) + 1 by omega, cy, if_pos hlt, if_neg hw] at hcy
  exact hcy
theorem cy_end {T : Nat → Int32} {L a j k9 M9 : Nat} {R9 r9 : Nat → Int32} (hge : L ≤ a) (hcy : k9 + (cy T L (61 - j) r9 a).1 = M9 ∧ (cy T L (61 - j) r9 a).2 = R9) : k9 = M9 ∧ r9 = R9 := by
  rw [cy_ge _ hge] at hcy
  exact hcy
theorem cy_next {T : Nat → Int32} {L a j k9 M9 : Nat} {R9 r9 r2 : Nat → Int32} {b : Nat} (hL6 : L ≤ 60) (hal : a ≤ L) (hj : j < 61) (hfu : L < a + (61 - j)) (hlt : a < L) (hw : p_why r9 (rdf T L a) (rdd T L a) (rdq T L a) = 0) (hff : a = L ∨ ffl T L (61 - j) a = -6) (hcy : k9 + (cy T L (61 - j) r9 a).1 = M9 ∧ (cy T L (61 - j) r9 a).2 = R9) (hr : r2 = upd r9 (46 + q_k (rdd T L a) (rdq T L a)) (rdf T L a)) (hb : b = if chr T L (rd3 T L a) = 44 then rd3 T L a + 1 else rd3 T L a) : b ≤ L ∧ L < b + (61 - (j + 1)) ∧ (b = L ∨ ffl T L (61 - (j + 1)) b = -6) ∧ k9 + 1 + (cy T L (61 - (j + 1)) r2 b).1 = M9 ∧ (cy T L (61 - (j + 1)) r2 b).2 = R9 := by
  have l3 := rd3_le T hal
  have hff := hff.resolve_left (by omega)
  have e61 : 61 - j = (61 - (j + 1)) + 1 := by omega
  rw [e61] at hff
  have hok := ffl_ok hL6 hal hff
  rw [e61, cy, if_pos hlt, if_pos hw, ← hr] at hcy
  obtain ⟨h1, h2⟩ := hcy
  clear hff e61 hr hw
  generalize hm : 61 - (j + 1) = mm at *
  have hmm : L < a + (mm + 1) := by omega
  rcases hok.2 with e | ⟨e, e44, el, en⟩
  · have h44 : ¬ chr T L (rd3 T L a) = 44 := by
      rw [e, chr, if_neg (Nat.lt_irrefl L)]
      decide
    rw [if_neg h44] at hb
    rw [cy_ge _ (show L ≤ rd3 T L a + 1 by omega)] at h1 h2
    subst hb
    rw [cy_ge _ (show L ≤ rd3 T L a by omega)]
    clear hok h44
    generalize rd3 T L a = z at *
    exact ⟨by omega, by omega, Or.inl e, by simp only at h1 ⊢; omega, h2⟩
  · rw [if_pos e44] at hb
    subst hb
    refine ⟨by omega, by omega, Or.inr en, ?_, h2⟩
    generalize (cy T L mm r2 (rd3 T L a + 1)).1 = z at *
    clear hok en e44
    omega
set_option maxHeartbeats 4000000 in
set_option maxRecDepth 100000 in
theorem c_X5_carryOut (l : Launch) (D : va_G) (ad : Nat → Nat) (cI : ClassId) (σ : S9) (L : Nat) (hL : σ 12 1 = nI L) (hL6 : L ≤ 60) (n : Nat) (hw : wfS (σ 0) n) (h : Nat) (hh : σ 12 0 = nI h) (hle : h ≤ 6) : CMi l (mW ad cI) D [(cI, .int)] yX5_carryOut wsX5_carryOut ({ frames := 5, cells := 0, slots := 0, locals := 106 } : Room) [.ref (ad 0)] σ (fun r u => (ffl (σ 4) L 61 0 = -6 → r = nI (cy (σ 4) L 61 (σ 0) 0).1 ∧ cyE σ h L u) ∧ (¬ ffl (σ 4) L 61 0 = -6 → r = -3 ∧ tx9 σ u)) := by
  refine v_starti (own := RX5) (cc := cX5_carryOut) (nL := 3) rfl (by decide) rfl (Nat.le_of_ble_eq_true rfl) ?_
  intro p e s m args below meth c A Q C K hend
  refine v_lv (lv' := [(0, .ref (ad 0))]) [0] rfl ?_
  refine v_aload_n C dX5_carryOut_0 rfl 0 0 rfl rfl ?_
  refine v_callVi C K (c_X5_findFault l D ad cI _ L hL hL6) gX5_carryOut_X5_findFault rfl hd_X5_findFault ⟨rfl, rfl⟩ ⟨Nat.le_of_ble_eq_true rfl, Nat.le_of_ble_eq_true rfl⟩ 0 rfl rfl rfl rfl rfl (Nat.le_of_ble_eq_true rfl) ⟨Nat.le_refl _, Nat.le_refl _⟩ dX5_carryOut_1 rfl (fun r1 u1 hc1 => ?_)
  obtain ⟨rfl, hT1⟩ := hc1
  refine v_bipush (v := -6) C dX5_carryOut_4 rfl bp_m6 ?_
  refine v_icmp_eq C 12 dX5_carryOut_6 (by decide) rfl (fun h6 => ?_) (fun h6f => ?_)
  · skip
    refine v_aload_n C dX5_carryOut_12 rfl 0 0 rfl rfl ?_
    refine v_callVvd C K (c_X5_record l D ad cI u1 h (hT1.2.1.trans hh) hle) gX5_carryOut_X5_record rfl hd_X5_record ⟨rfl, rfl⟩ ⟨Nat.le_of_ble_eq_true rfl, Nat.le_of_ble_eq_true rfl⟩ 0 rfl rfl rfl rfl rfl (Nat.le_of_ble_eq_true rfl) ⟨Nat.le_refl _, Nat.le_refl _⟩ dX5_carryOut_13 rfl ?_
    obtain ⟨M9, R9, hR9⟩ : ∃ M R, cy (σ 4) L 61 (σ 0) 0 = (M, R) := ⟨_, _, rfl⟩
    have J108 : ∀ (u9 : S9), cyI σ u1 h L u9 R9 → VV p l e ({ frames := 5, cells := 0, slots := 0, locals := 106 } : Room) s m args below meth c 0 0 Q (mW ad cI) D A s.heap 3 u9 108 [(0, .ref (ad 0)), (1, .int (nI M9))] [] := by
        intro u9 hu9
        refine v_aload_n C dX5_carryOut_108 rfl 0 0 rfl rfl ?_
        refine v_iconst (v := 0) C dX5_carryOut_109 rfl ic_0 ?_
        refine v_put (ty := .int) C K _ in_X5_carryOut_X5 tyX5_ok nmX5 0 rfl rfl 6 (by decide) fl_X5_carryOut_X5_6 rfl (by decide +kernel) rfl rfl (Nat.le_of_ble_eq_true rfl) (mW_f1 ad cI _ _) dX5_carryOut_110 rfl ?_
        refine v_iload_n C dX5_carryOut_113 rfl 1 1 rfl rfl ?_
        refine hend ⟨fun _ => ⟨by rw [hR9], ?_⟩, fun q => absurd h6 q⟩ rfl dX5_carryOut_114
        have hb := rcM_tx h hT1
        unfold cyE
        rw [hR9]
        refine ⟨fun i hi => ?_, ?_, ?_⟩
        · rw [st9_n _ _ hi, st9_n _ _ hi]
          by_cases e : i = 0
          · subst e
            rw [st9_s]
            exact hu9.2.1
          · rw [st9_n _ _ e, hu9.1 i e hi]
            exact hb.1 i hi
        · rw [st9_s, st9_s, upd_n _ _ (by decide), upd_n _ _ (by decide), hu9.2.2.1]
          exact hb.2.1
        · rw [st9_s, st9_s, upd_s, upd_s]
    refine v_iconst (v := 0) C dX5_carryOut_16 rfl ic_0 ?_
    refine v_istore_n (lv' := [(1, _), (0, _)]) C dX5_carryOut_17 rfl 1 rfl (by decide) rfl ?_
    refine v_aload_n C dX5_carryOut_18 rfl 0 1 rfl rfl ?_
    refine v_iconst (v := 0) C dX5_carryOut_19 rfl ic_0 ?_
    refine v_put (ty := .int) C K _ in_X5_carryOut_X5 tyX5_ok nmX5 0 rfl rfl 14 (by decide) fl_X5_carryOut_X5_14 rfl (by decide +kernel) rfl rfl (Nat.le_of_ble_eq_true rfl) (mW_f2 ad cI _ _) dX5_carryOut_20 rfl ?_
    refine v_iconst (v := 1) C dX5_carryOut_23 rfl ic_1 ?_
    refine v_istore_n (lv' := [(2, _), (1, _), (0, _)]) C dX5_carryOut_24 rfl 2 rfl (by decide) rfl ?_
    have LP25 : ∀ j, j ≤ 61 → ∀ (u9 : S9) (a k9 : Nat) (r9 : Nat → Int32), cyI σ u1 h L u9 r9 → wfS r9 n → u9 12 2 = nI a → a ≤ L → L < a + (61 - j) → (a = L ∨ ffl (σ 4) L (61 - j) a = -6) → (k9 + (cy (σ 4) L (61 - j) r9 a).1 = M9 ∧ (cy (σ 4) L (61 - j) r9 a).2 = R9) → VV p l e ({ frames := 5, cells := 0, slots := 0, locals := 106 } : Room) s m args below meth c 0 0 Q (mW ad cI) D A s.heap 3 u9 25 [(0, .ref (ad 0)), (1, .int (nI k9)), (2, .int 1)] [] := by
      refine lpB9 (fun j => ∀ (u9 : S9) (a k9 : Nat) (r9 : Nat → Int32), cyI σ u1 h L u9 r9 → wfS r9 n → u9 12 2 = nI a → a ≤ L → L < a + (61 - j) → (a = L ∨ ffl (σ 4) L (61 - j) a = -6) → (k9 + (cy (σ 4) L (61 - j) r9 a).1 = M9 ∧ (cy (σ 4) L (61 - j) r9 a).2 = R9) → VV p l e ({ frames := 5, cells := 0, slots := 0, locals := 106 } : Room) s m args below meth c 0 0 Q (mW ad cI) D A s.heap 3 u9 25 [(0, .ref (ad 0)), (1, .int (nI k9)), (2, .int 1)] []) 61 (fun j hj ih => ?_) ?_
      · intro u9 a k9 r9 hI hw9 ha hal hfu hff hcy
        have e4 : u9 4 = σ 4 := by rw [hI.1 4 (by decide) (by decide), rcM_i _ _ _ (by decide) (by decide)]; exact hT1.1 4 (by decide)
        have l3 := rd3_le (σ 4) hal
        refine v_iload_n C dX5_carryOut_25 rfl 2 2 rfl rfl ?_
        refine v_if_eq C 108 dX5_carryOut_26 (by decide) rfl (fun h9 => absurd h9 (by decide)) (fun _ => ?_)
        refine v_aload_n C dX5_carryOut_29 rfl 0 0 rfl rfl ?_
        refine v_get C K in_X5_carryOut_X5 0 rfl rfl 14 (by decide) fl_X5_carryOut_X5_14 rfl dX5_carryOut_30 rfl ?_
        refine v_top (nI a) (ha) ?_
        refine v_aload_n C dX5_carryOut_33 rfl 0 0 rfl rfl ?_
        refine v_get C K in_X5_carryOut_X5 0 rfl rfl 6 (by decide) fl_X5_carryOut_X5_6 rfl dX5_carryOut_34 rfl ?_
        refine v_top (nI L) (hI.2.2.2) ?_
        refine v_icmp_ge C 108 dX5_carryOut_37 (by decide) rfl (fun h37 => ?_) (fun h37f => ?_)
        · skip
          have hge : L ≤ a := le_60 hL6 (Nat.le_trans hal hL6) h37
          have hce := cy_end hge hcy
          exact v_lv (lv' := [(0, _), (1, _)]) [0, 1] rfl (v9cast (J108 u9 ⟨hI.1, hI.2.1.trans hce.2, hI.2.2⟩) rfl (by rw [hce.1]) rfl)
        · skip
          have hlt : a < L := nle_60 hL6 (Nat.le_trans hal hL6) h37f
          refine v_aload_n C dX5_carryOut_40 rfl 0 0 rfl rfl ?_
          refine v_callVi C K (c_X5_readsShow l D ad cI u9 L hI.2.2.2 hL6 a ha hal) gX5_carryOut_X5_readsShow rfl hd_X5_readsShow ⟨rfl, rfl⟩ ⟨Nat.le_of_ble_eq_true rfl, Nat.le_of_ble_eq_true rfl⟩ 0 rfl rfl rfl rfl rfl (Nat.le_of_ble_eq_true rfl) ⟨Nat.le_refl _, Nat.le_refl _⟩ dX5_carryOut_41 rfl (fun r41 u41 hc41 => ?_)
          rw [e4] at hc41
          obtain ⟨-, hu41⟩ := hc41
          obtain ⟨k1, k2, k3, k4, k5⟩ : tx9 u9 u41 ∧ u41 12 2 = nI (rd3 (σ 4) L a) ∧ u41 12 3 = rdf (σ 4) L a ∧ u41 12 4 = rdq (σ 4) L a ∧ u41 12 5 = rdd (σ 4) L a := by rw [hu41]; exact tx9_r3 _ _ _ _ _
          refine v_pop C dX5_carryOut_44 rfl rfl ?_
          refine v_aload_n C dX5_carryOut_45 rfl 0 0 rfl rfl ?_
          refine v_callVi C K (c_X5_isNext l D ad cI u41 L (k1.2.2.trans hI.2.2.2) hL6 (rd3 (σ 4) L a) k2 l3.1) gX5_carryOut_X5_isNext rfl hd_X5_isNext ⟨rfl, rfl⟩ ⟨Nat.le_of_ble_eq_true rfl, Nat.le_of_ble_eq_true rfl⟩ 0 rfl rfl rfl rfl rfl (Nat.le_of_ble_eq_true rfl) ⟨Nat.le_refl _, Nat.le_refl _⟩ dX5_carryOut_46 rfl (fun r46 u46 hc46 => ?_)
          rw [(k1.1 4 (by decide)).trans e4] at hc46
          obtain ⟨-, hu46⟩ := hc46
          have k46 : tx9 u9 u46 := tx9_tr k1 (by rw [hu46]; exact tx9_at _ _)
          have e0 : u46 0 = r9 := (k46.1 0 (by decide)).trans hI.2.1
          have ea : u46 12 2 = nI (if chr (σ 4) L (rd3 (σ 4) L a) = 44 then rd3 (σ 4) L a + 1 else rd3 (σ 4) L a) := by rw [hu46, atS_12, upd_s]
          have g3 : u46 12 3 = rdf (σ 4) L a := by rw [hu46, atS_12, upd_n _ _ (by decide)]; exact k3
          have g4 : u46 12 4 = rdq (σ 4) L a := by rw [hu46, atS_12, upd_n _ _ (by decide)]; exact k4
          have g5 : u46 12 5 = rdd (σ 4) L a := by rw [hu46, atS_12, upd_n _ _ (by decide)]; exact k5
          refine v_pop C dX5_carryOut_49 rfl rfl ?_
          refine v_aload_n C dX5_carryOut_50 rfl 0 0 rfl rfl ?_
          refine v_aload_n C dX5_carryOut_51 rfl 0 0 rfl rfl ?_
          refine v_get C K in_X5_carryOut_X5 0 rfl rfl 15 (by decide) fl_X5_carryOut_X5_15 rfl dX5_carryOut_52 rfl ?_
          refine v_top (rdf (σ 4) L a) (g3) ?_
          refine v_aload_n C dX5_carryOut_55 rfl 0 0 rfl rfl ?_
          refine v_get C K in_X5_carryOut_X5 0 rfl rfl 17 (by decide) fl_X5_carryOut_X5_17 rfl dX5_carryOut_56 rfl ?_
          refine v_top (rdd (σ 4) L a) (g5) ?_
          refine v_aload_n C dX5_carryOut_59 rfl 0 0 rfl rfl ?_
          refine v_get C K in_X5_carryOut_X5 0 rfl rfl 16 (by decide) fl_X5_carryOut_X5_16 rfl dX5_carryOut_60 rfl ?_
          refine v_top (rdq (σ 4) L a) (g4) ?_
          refine v_callVid C K (c_X5_whyNotShown l D ad cI u46 n (by rw [e0]; exact hw9.1) hw9.2.1 _ _ _) gX5_carryOut_X5_whyNotShown rfl hd_X5_whyNotShown ⟨rfl, rfl⟩ ⟨Nat.le_of_ble_eq_true rfl, Nat.le_of_ble_eq_true rfl⟩ 0 rfl rfl rfl rfl rfl (Nat.le_of_ble_eq_true rfl) ⟨Nat.le_refl _, Nat.le_refl _⟩ dX5_carryOut_63 rfl ?_
          refine v_top (p_why r9 (rdf (σ 4) L a) (rdd (σ 4) L a) (rdq (σ 4) L a)) (by rw [e0]) ?_
          refine v_if_ne C 73 dX5_carryOut_66 (by decide) rfl (fun h66f => ?_) (fun h66 => ?_)
          · skip
            have hcs9 := cy_stop hj hlt h66f hcy
            refine v_iconst (v := 0) C dX5_carryOut_73 rfl ic_0 ?_
            refine v_istore_n (lv' := [(2, _), (0, _), (1, _)]) C dX5_carryOut_74 rfl 2 rfl (by decide) rfl ?_
            refine v_iload_n C dX5_carryOut_75 rfl 2 0 rfl rfl ?_
            refine v_if_eq C 25 dX5_carryOut_76 (by decide) rfl (fun _ => ?_) (fun h9 => absurd (rfl) h9)
            refine v_lv (lv' := [(0, _), (1, _), (2, _)]) [1, 2, 0] rfl ?_
            exact v_iload_n C dX5_carryOut_25 rfl 2 2 rfl rfl (v_if_eq C 108 dX5_carryOut_26 (by decide) rfl (fun _ => v_lv (lv' := [(0, _), (1, _)]) [0, 1] rfl (v9cast (J108 u46 ⟨fun i h1 h2 => (k46.1 i h2).trans (hI.1 i h1 h2), by rw [e0]; exact hcs9.2, k46.2.1.trans hI.2.2.1, k46.2.2.trans hI.2.2.2⟩) rfl (by rw [hcs9.1]) rfl)) (fun h9 => absurd rfl h9))
          · skip
            refine v_iconst (v := 1) C dX5_carryOut_69 rfl ic_1 ?_
            refine v_goto C 74 dX5_carryOut_70 (by decide) ?_
            refine v_istore_n (lv' := [(2, _), (0, _), (1, _)]) C dX5_carryOut_74 rfl 2 rfl (by decide) rfl ?_
            refine v_iload_n C dX5_carryOut_75 rfl 2 0 rfl rfl ?_
            refine v_if_eq C 25 dX5_carryOut_76 (by decide) rfl (fun h9 => absurd h9 (by decide)) (fun _ => ?_)
            have hge : 0 ≤ p_why (r9 : Nat → Int32) (rdf (σ 4) L a) (rdd (σ 4) L a) (rdq (σ 4) L a) := by rw [h66]; decide
            obtain ⟨hz, f, d, q, hf, hd, hq, ef, ed, eq, hcs⟩ := p_why_ge hw9.1 hw9.2.1 hge
            have ecd : (nI d).toNatClampNeg = d := nI_cl (Nat.lt_trans hd (by decide))
            have ecq : (nI q).toNatClampNeg = q := nI_cl (Nat.lt_trans hq (by decide))
            have ekk : q_k (rdd (σ 4) L a) (rdq (σ 4) L a) = 2 * d + q := by rw [ed, eq, q_k, ecd, ecq]
            have hnx := cy_next (r2 := upd r9 (46 + (2 * d + q)) (nI f)) hL6 hal hj hfu hlt h66 hff hcy (by rw [ekk, ef]) rfl
            clear hcy hff hfu
            refine v_aload_n C dX5_carryOut_79 rfl 0 1 rfl rfl ?_
            refine v_get C K in_X5_carryOut_X5 0 rfl rfl 0 (by decide) fl_X5_carryOut_X5_0 rfl dX5_carryOut_80 rfl ?_
            refine v_bipush (v := 46) C dX5_carryOut_83 rfl bp_46 ?_
            refine v_iconst (v := 2) C dX5_carryOut_85 rfl ic_2 ?_
            refine v_aload_n C dX5_carryOut_86 rfl 0 1 rfl rfl ?_
            refine v_get C K in_X5_carryOut_X5 0 rfl rfl 17 (by decide) fl_X5_carryOut_X5_17 rfl dX5_carryOut_87 rfl ?_
            refine v_top (nI d) (g5.trans ed) ?_
            refine v_imul C dX5_carryOut_90 rfl ?_
            refine v_iadd C dX5_carryOut_91 rfl ?_
            refine v_aload_n C dX5_carryOut_92 rfl 0 1 rfl rfl ?_
            refine v_get C K in_X5_carryOut_X5 0 rfl rfl 16 (by decide) fl_X5_carryOut_X5_16 rfl dX5_carryOut_93 rfl ?_
            refine v_top (nI q) (g4.trans eq) ?_
            refine v_iadd C dX5_carryOut_96 rfl ?_
            refine v_aload_n C dX5_carryOut_97 rfl 0 1 rfl rfl ?_
            refine v_get C K in_X5_carryOut_X5 0 rfl rfl 15 (by decide) fl_X5_carryOut_X5_15 rfl dX5_carryOut_98 rfl ?_
            refine v_top (nI f) (g3.trans ef) ?_
            refine v_iast C K _ 1 0 rfl rfl (46 + (2 * d + q)) (by simp only [lit9, pk_mul, nI_add, Nat.add_assoc]) (k151 hd hq) (by decide) (mW_a0 ad cI _ _) dX5_carryOut_101 rfl ?_
            refine v_iinc (lv' := [(1, _), (2, _), (0, _)]) C dX5_carryOut_102 rfl 2 rfl (inc9 _) (by decide) rfl ?_
            refine v_goto C 25 dX5_carryOut_105 (by decide) ?_
            refine v_lv (lv' := [(0, _), (1, _), (2, _)]) [2, 0, 1] rfl ?_
            exact ih (st9 u46 0 (upd (u46 0) (46 + (2 * d + q)) (nI f))) (if chr (σ 4) L (rd3 (σ 4) L a) = 44 then rd3 (σ 4) L a + 1 else rd3 (σ 4) L a) (k9 + 1) (upd r9 (46 + (2 * d + q)) (nI f)) ⟨fun i h1 h2 => (st9_n _ _ h1).trans ((k46.1 i h2).trans (hI.1 i h1 h2)), by rw [st9_s, e0], k46.2.1.trans hI.2.2.1, k46.2.2.trans hI.2.2.2⟩ (wfS_upd hw9 (k70 hd hq) (Or.inr ⟨f, hf, rfl⟩)) ea hnx.1 hnx.2.1 hnx.2.2.1 hnx.2.2.2
      · intro u9 a k9 r9 hI hw9 ha hal hfu hff hcy
        exact absurd hfu (by omega)
    refine v_lv (lv' := [(0, _), (1, _), (2, _)]) [2, 1, 0] rfl ?_
    exact LP25 0 (by decide) (atS (rcM u1 h) 0) 0 0 (σ 0) ⟨fun i _ h2 => st9_n _ _ h2, by rw [atS, st9_n _ _ (by decide), rcM_0]; exact hT1.1 0 (by decide), by rw [atS_12, upd_n _ _ (by decide)], by rw [atS_12, upd_n _ _ (by decide), (rcM_tx h hT1).2.2, rcM, st9_s, upd_n _ _ (by decide)]; exact hL⟩ hw (by rw [atS_12, upd_s]) (Nat.zero_le _) (by omega) (Or.inr h6) ⟨by rw [show 61 - 0 = 61 from rfl, hR9]; exact Nat.zero_add _, by rw [show 61 - 0 = 61 from rfl, hR9]⟩
  · skip
    refine v_bipush (v := -3) C dX5_carryOut_9 rfl bp_m3 ?_
    exact hend (⟨fun q => absurd q h6f, fun _ => ⟨rfl, hT1⟩⟩) (rfl) dX5_carryOut_11

theorem put_pst {x : Int64} {L : Nat} {r : Int32} {σ u : S9} (h : (cn9 x = 0 → r = -2 ∧ u = σ) ∧ (¬ cn9 x = 0 → 60 < L + cn9 x → r = -4 ∧ u = σ) ∧ (¬ cn9 x = 0 → ¬ 60 < L + cn9 x → r = nI (L + cn9 x) ∧ u = st9 (st9 σ 6 (ptF (σ 6) x L (cn9 x) (cn9 x))) 7 (upd (σ 7) 0 (nI (L + cn9 x))))) : (q_putE x L = 0 → r = nI (L + (put9 x).1) ∧ L + (put9 x).1 ≤ 60 ∧ u = st9 (st9 σ 6 (ptF (σ 6) x L (put9 x).1 (put9 x).1)) 7 (upd (σ 7) 0 (nI (L + (put9 x).1)))) ∧ (¬ q_putE x L = 0 → r = q_putE x L ∧ u = σ) := by
  by_cases h0 : cn9 x = 0
  · have hE := cn9_0 (L := L) h0
    rw [hE]
    exact ⟨fun q => absurd q (by decide), fun _ => h.1 h0⟩
  · obtain ⟨e, hb⟩ := cn9_n h0
    by_cases hg : 60 < L + cn9 x
    · have h2 := h.2.1 h0 hg
      rw [e] at hg
      rw [putE_b hb hg]
      exact ⟨fun q => absurd q (by decide), fun _ => h2⟩
    · have h2 := h.2.2 h0 hg
      rw [e] at hg h2
      rw [putE_c hb hg]
      exact ⟨fun _ => ⟨h2.1, by omega, h2.2⟩, fun q => absurd rfl q⟩
theorem st9_of {σ u : S9} {R : Nat → Int32} (h : ∀ i, i ≠ 0 → u i = σ i) (h0 : u 0 = R) : u = st9 σ 0 R := by
  funext i
  by_cases e : i = 0
  · subst e
    rw [st9_s, h0]
  · rw [st9_n _ _ e, h i e]
theorem le_60x {a b : Nat} (h : nI a ≤ nI b) (ha : a ≤ 100) (hb : b ≤ 100) : a ≤ b := (nI_leI (by omega) (by omega)).mp h
theorem nle_60x {a b : Nat} (h : ¬ nI a ≤ nI b) (ha : a ≤ 100) (hb : b ≤ 100) : b < a := by
  rcases Nat.lt_or_ge b a with q | q
  · exact q
  · exact absurd (nI_le q (by omega)) h
set_option maxHeartbeats 4000000 in
set_option maxRecDepth 100000 in
theorem c_X4_put (l : Launch) (D : va_G) (ad : Nat → Nat) (cI cC cZ cQ : ClassId) (σ : S9) (L : Nat) (hL : σ 7 0 = nI L) (hL6 : L ≤ 60) (x : Int64) : CMi l (cW ad cI cC cZ cQ) D (cTy cI cC cZ cQ) yX4_put wsX4_put ({ frames := 2, cells := 0, slots := 0, locals := 50 } : Room) [.ref (ad 0), .long x] σ (fun r u => (q_putE x L = 0 → r = nI (L + (put9 x).1) ∧ L + (put9 x).1 ≤ 60 ∧ u = st9 (st9 σ 6 (ptF (σ 6) x L (put9 x).1 (put9 x).1)) 7 (upd (σ 7) 0 (nI (L + (put9 x).1)))) ∧ (¬ q_putE x L = 0 → r = q_putE x L ∧ u = σ)) := by
  refine v_starti (own := RX4) (cc := cX4_put) (nL := 3) rfl (by decide) rfl (Nat.le_of_ble_eq_true rfl) ?_
  intro p e s m args below meth c A Q C K hend
  refine v_lv (lv' := [(0, .ref (ad 0)), (1, .long x)]) [0, 1] rfl ?_
  refine v_aload_n C dX4_put_0 rfl 0 0 rfl rfl ?_
  refine v_get C K in_X4_put_X4 0 rfl rfl 2 (by decide) fl_X4_put_X4_2 rfl dX4_put_1 rfl ?_
  refine v_lload_n C dX4_put_4 rfl 1 1 rfl rfl ?_
  refine v_callVi C K (c_X3_append l D ad cI cC cZ cQ _ L hL hL6 x (cn9 x) (cn9_8 x) (cn9_e x)) gX4_put_X3_append rfl hd_X3_append ⟨rfl, rfl⟩ ⟨Nat.le_of_ble_eq_true rfl, Nat.le_of_ble_eq_true rfl⟩ 8 rfl rfl rfl rfl rfl (Nat.le_of_ble_eq_true rfl) ⟨Nat.le_refl _, Nat.le_refl _⟩ dX4_put_5 rfl (fun r5 u5 hc5 => ?_)
  have hp := put_pst hc5
  exact hend (hp) (rfl) dX4_put_8
set_option maxHeartbeats 4000000 in
set_option maxRecDepth 100000 in
theorem c_X4_fault (l : Launch) (D : va_G) (ad : Nat → Nat) (cI cC cZ cQ : ClassId) (σ : S9) (L : Nat) (hL : σ 7 0 = nI L) (hL6 : L ≤ 60) : CMi l (cW ad cI cC cZ cQ) D (cTy cI cC cZ cQ) yX4_fault wsX4_fault ({ frames := 4, cells := 0, slots := 0, locals := 85 } : Room) [.ref (ad 0)] σ (fun r u => r = ffl (σ 6) L 61 0 ∧ u = σ) := by
  refine v_starti (own := RX4) (cc := cX4_fault) (nL := 1) rfl (by decide) rfl (Nat.le_of_ble_eq_true rfl) ?_
  intro p e s m args below meth c A Q C K hend
  refine v_lv (lv' := [(0, .ref (ad 0))]) [0] rfl ?_
  refine v_aload_n C dX4_fault_0 rfl 0 0 rfl rfl ?_
  refine v_get C K in_X4_fault_X4 0 rfl rfl 2 (by decide) fl_X4_fault_X4_2 rfl dX4_fault_1 rfl ?_
  refine v_callVid C K (c_X3_firstFault l D ad cI cC cZ cQ _ L hL hL6) gX4_fault_X3_firstFault rfl hd_X3_firstFault ⟨rfl, rfl⟩ ⟨Nat.le_of_ble_eq_true rfl, Nat.le_of_ble_eq_true rfl⟩ 8 rfl rfl rfl rfl rfl (Nat.le_of_ble_eq_true rfl) ⟨Nat.le_refl _, Nat.le_refl _⟩ dX4_fault_4 rfl ?_
  exact hend (⟨rfl, rfl⟩) (rfl) dX4_fault_7
theorem eos_ge (T : Nat → Int32) : ∀ n i, i ≤ eos T n i
  | 0, i => Nat.le_refl _
  | n + 1, i => by
    rw [eos]
    by_cases h : T i = 44
    · rw [if_pos h]
      exact Nat.le_refl _
    · rw [if_neg h]
      have := eos_ge T n (i + 1)
      omega
/-- the loop over a programme at place j: the show that begins at a (fuel m), or behind the last one -/
def pI (T : Nat → Int32) (L j a m : Nat) : Prop := a = L + 1 ∨ (a ≤ L ∧ ffl T L m a = -6 ∧ j ≤ rd3 T L a ∧ eos T (L - j) j = rd3 T L a)
theorem pI_0 {T : Nat → Int32} {L : Nat} (hL6 : L ≤ 60) (h : ffl T L 61 0 = -6) : pI T L 0 0 62 := by
  have h2 : ffl T L (61 + 1) 0 = -6 := (ffl_more 62 61 0 (Nat.zero_le _) (by omega) (by omega)).trans h
  exact Or.inr ⟨Nat.zero_le _, h2, Nat.zero_le _, (show_ok hL6 (Nat.zero_le _) h2).2.1⟩
theorem pI_end {T : Nat → Int32} {L a m : Nat} (h : pI T L (L + 1) a m) : L ≤ a := by
  rcases h with h | ⟨h1, -, h3, -⟩
  · omega
  · have := (rd3_le T h1).1
    omega
theorem pI_in {T : Nat → Int32} {L j a m : Nat} (hL6 : L ≤ 60) (h : pI T L j a m) (haj : a ≤ j) (hj : j ≤ L) (hm : 0 < m) : a < L ∧ ffl T L m a = -6 ∧ j ≤ rd3 T L a ∧ eos T (L - j) j = rd3 T L a ∧ a + 3 ≤ rd3 T L a ∧ rd3 T L a ≤ L := by
  rcases h with h | ⟨h1, h2, h3, h4⟩
  · omega
  · have h5 := (rd3_le T h1).1
    obtain ⟨k, rfl⟩ : ∃ k, m = k + 1 := ⟨m - 1, by omega⟩
    have h6 := (show_ok hL6 h1 h2).1
    exact ⟨by omega, h2, h3, h4, h6, h5⟩
theorem pI_skip {T : Nat → Int32} {L j a m : Nat} (hL6 : L ≤ 60) (h : pI T L j a m) (haj : a ≤ j) (hj : j ≤ L) (hm : 0 < m) (hc : ¬ cha T L j = 44) : pI T L (j + 1) a m := by
  obtain ⟨h1, h2, h3, h4, h5, h6⟩ := pI_in hL6 h haj hj hm
  have hlt : j < L := by
    rcases Nat.lt_or_ge j L with q | q
    · exact q
    · exact absurd (if_neg (by omega)) hc
  rw [cha, if_pos hlt] at hc
  rw [eos_b hlt hc] at h4
  have := eos_ge T (L - (j + 1)) (j + 1)
  exact Or.inr ⟨by omega, h2, by omega, h4⟩
theorem pI_hit {T : Nat → Int32} {L j a m : Nat} (hL6 : L ≤ 60) (h : pI T L j a m) (haj : a ≤ j) (hj : j ≤ L) (hm : 0 < m) (hc : cha T L j = 44) : rd3 T L a = j := by
  obtain ⟨h1, h2, h3, h4, h5, h6⟩ := pI_in hL6 h haj hj hm
  rw [← h4]
  refine eos_end hj ?_
  rcases Nat.lt_or_ge j L with q | q
  · exact Or.inr (by rw [← cha_chr q]; exact hc)
  · exact Or.inl (by omega)
theorem pI_next {T : Nat → Int32} {L j a m : Nat} (hL6 : L ≤ 60) (h : pI T L j a m) (haj : a ≤ j) (hj : j ≤ L) (hfu : L + 1 < a + m) (hc : cha T L j = 44) : pI T L (j + 1) (j + 1) (m - (0 + 1)) := by
  have hm : 0 < m := by omega
  have e3 := pI_hit hL6 h haj hj hm hc
  obtain ⟨h1, h2, h3, h4, h5, h6⟩ := pI_in hL6 h haj hj hm
  obtain ⟨k, rfl⟩ : ∃ k, m = (k + 1) + 1 := ⟨m - 2, by omega⟩
  obtain ⟨-, h7⟩ := ffl_ok hL6 (Nat.le_of_lt h1) h2
  rw [e3] at h7
  rcases h7 with h7 | ⟨-, -, h8, h9⟩
  · exact Or.inl (by omega)
  · have h9 : ffl T L (k + 1) (j + 1) = -6 := h9
    exact Or.inr ⟨h8, h9, (rd3_le T h8).2, (show_ok hL6 h8 h9).2.1⟩
set_option maxHeartbeats 4000000 in
set_option maxRecDepth 100000 in
theorem c_X4_putInShowsOfPad (l : Launch) (D : va_G) (ad : Nat → Nat) (cI cC cZ cQ : ClassId) (σ : S9) (L : Nat) (hL : σ 7 0 = nI L) (hL6 : L ≤ 60) (hch : ∀ i, i < L → narrow .char (.int (σ 6 i)) = .int (σ 6 i)) (n : Nat) (hw : wfH (σ 0) n) (hno : ffl (σ 6) L 61 0 = -6) : CMi l (cW ad cI cC cZ cQ) D (cTy cI cC cZ cQ) yX4_putInShowsOfPad wsX4_putInShowsOfPad ({ frames := 4, cells := 0, slots := 0, locals := 86 } : Room) [.ref (ad 0)] σ (fun r u => r = nI (cy (σ 6) L 61 (σ 0) 0).1 ∧ u = st9 σ 0 (cy (σ 6) L 61 (σ 0) 0).2) := by
  refine v_starti (own := RX4) (cc := cX4_putInShowsOfPad) (nL := 7) rfl (by decide) rfl (Nat.le_of_ble_eq_true rfl) ?_
  intro p e s m args below meth c A Q C K hend
  refine v_lv (lv' := [(0, .ref (ad 0))]) [0] rfl ?_
  obtain ⟨M9, R9, hR9⟩ : ∃ M R, cy (σ 6) L 61 (σ 0) 0 = (M, R) := ⟨_, _, rfl⟩
  refine v_iconst (v := 0) C dX4_putInShowsOfPad_0 rfl ic_0 ?_
  refine v_istore_n (lv' := [(1, _), (0, _)]) C dX4_putInShowsOfPad_1 rfl 1 rfl (by decide) rfl ?_
  refine v_iconst (v := 0) C dX4_putInShowsOfPad_2 rfl ic_0 ?_
  refine v_istore_n (lv' := [(2, _), (1, _), (0, _)]) C dX4_putInShowsOfPad_3 rfl 2 rfl (by decide) rfl ?_
  refine v_iconst (v := 0) C dX4_putInShowsOfPad_4 rfl ic_0 ?_
  refine v_istore_n (lv' := [(3, _), (2, _), (1, _), (0, _)]) C dX4_putInShowsOfPad_5 rfl 3 rfl (by decide) rfl ?_
  have LP6 : ∀ j, j ≤ (L + 1) → ∀ (u9 : S9) (a k9 m9 : Nat) (r9 : Nat → Int32), (∀ i, i ≠ 0 → u9 i = σ i) → u9 0 = r9 → wfH r9 n → a ≤ j → L + 1 < a + m9 → pI (σ 6) L j a m9 → (k9 + (cy (σ 6) L m9 r9 a).1 = M9 ∧ (cy (σ 6) L m9 r9 a).2 = R9) → VV p l e ({ frames := 4, cells := 0, slots := 0, locals := 86 } : Room) s m args below meth c 0 0 Q (cW ad cI cC cZ cQ) D A s.heap 7 u9 6 [(0, .ref (ad 0)), (1, .int (nI k9)), (2, .int (nI a)), (3, .int (nI j))] [] := by
    refine lpB9 (fun j => ∀ (u9 : S9) (a k9 m9 : Nat) (r9 : Nat → Int32), (∀ i, i ≠ 0 → u9 i = σ i) → u9 0 = r9 → wfH r9 n → a ≤ j → L + 1 < a + m9 → pI (σ 6) L j a m9 → (k9 + (cy (σ 6) L m9 r9 a).1 = M9 ∧ (cy (σ 6) L m9 r9 a).2 = R9) → VV p l e ({ frames := 4, cells := 0, slots := 0, locals := 86 } : Room) s m args below meth c 0 0 Q (cW ad cI cC cZ cQ) D A s.heap 7 u9 6 [(0, .ref (ad 0)), (1, .int (nI k9)), (2, .int (nI a)), (3, .int (nI j))] []) (L + 1) (fun j hj ih => ?_) ?_
    · intro u9 a k9 m9 r9 hu9 h09 hw9 haj hfu hI hcy
      refine v_iload_n C dX4_putInShowsOfPad_6 rfl 3 3 rfl rfl ?_
      refine v_aload_n C dX4_putInShowsOfPad_7 rfl 0 0 rfl rfl ?_
      refine v_get C K in_X4_putInShowsOfPad_X4 0 rfl rfl 2 (by decide) fl_X4_putInShowsOfPad_X4_2 rfl dX4_putInShowsOfPad_8 rfl ?_
      refine v_callVid C K (c_X3_length l D ad cI cC cZ cQ _) gX4_putInShowsOfPad_X3_length rfl hd_X3_length ⟨rfl, rfl⟩ ⟨Nat.le_of_ble_eq_true rfl, Nat.le_of_ble_eq_true rfl⟩ 8 rfl rfl rfl rfl rfl (Nat.le_of_ble_eq_true rfl) ⟨Nat.le_refl _, Nat.le_refl _⟩ dX4_putInShowsOfPad_11 rfl ?_
      refine v_top (nI L) (by rw [hu9 7 (by decide)]; exact hL) ?_
      refine v_icmp_gt C 108 dX4_putInShowsOfPad_14 (by decide) rfl (fun h9 => absurd h9 (fun q => absurd ((nI_ltI (by omega) (by omega)).mp q) (by omega))) (fun _ => ?_)
      have hjL : j ≤ L := by omega
      have hm9 : 0 < m9 := by omega
      have e6 : u9 6 = σ 6 := hu9 6 (by decide)
      have hL9 : u9 7 0 = nI L := by rw [hu9 7 (by decide)]; exact hL
      have hch9 : ∀ i, i < L → narrow .char (.int (u9 6 i)) = .int (u9 6 i) := fun i hi => by rw [e6]; exact hch i hi
      refine v_aload_n C dX4_putInShowsOfPad_17 rfl 0 0 rfl rfl ?_
      refine v_get C K in_X4_putInShowsOfPad_X4 0 rfl rfl 2 (by decide) fl_X4_putInShowsOfPad_X4_2 rfl dX4_putInShowsOfPad_18 rfl ?_
      refine v_iload_n C dX4_putInShowsOfPad_21 rfl 3 3 rfl rfl ?_
      refine v_callVid C K (c_X3_isEndOfShow l D ad cI cC cZ cQ _ L hL9 hL6 hch9 j (by omega)) gX4_putInShowsOfPad_X3_isEndOfShow rfl hd_X3_isEndOfShow ⟨rfl, rfl⟩ ⟨Nat.le_of_ble_eq_true rfl, Nat.le_of_ble_eq_true rfl⟩ 8 rfl rfl rfl rfl rfl (Nat.le_of_ble_eq_true rfl) ⟨Nat.le_refl _, Nat.le_refl _⟩ dX4_putInShowsOfPad_22 rfl ?_
      refine v_top (if cha (σ 6) L j = 44 then 1 else 0) (by rw [e6]) ?_
      refine v_if_eq C 102 dX4_putInShowsOfPad_25 (by decide) rfl (fun h25 => ?_) (fun h25f => ?_)
      · skip
        have hc : ¬ cha (σ 6) L j = 44 := fun q => by rw [if_pos q] at h25; exact absurd h25 (by decide)
        refine v_iinc (lv' := [(3, _), (0, _), (1, _), (2, _)]) C dX4_putInShowsOfPad_102 rfl 3 rfl (inc9 _) (by decide) rfl ?_
        refine v_goto C 6 dX4_putInShowsOfPad_105 (by decide) ?_
        refine v_lv (lv' := [(0, _), (1, _), (2, _), (3, _)]) [1, 2, 3, 0] rfl ?_
        exact ih u9 a k9 m9 r9 hu9 h09 hw9 (by omega) hfu (pI_skip hL6 hI haj hjL hm9 hc) hcy
      · skip
        have hc : cha (σ 6) L j = 44 := Decidable.byContradiction (fun q => h25f (if_neg q))
        obtain ⟨hlt, hff, -, -, h3a, h3L⟩ := pI_in hL6 hI haj hjL hm9
        have e3 := pI_hit hL6 hI haj hjL hm9 hc
        have hok := cyc_ok (N := m9) (j := 0) hL6 hm9 hlt (Or.inr hff)
        obtain ⟨hok1, hok2, hok3, hok4, hok5⟩ := hok
        refine v_aload_n C dX4_putInShowsOfPad_28 rfl 0 0 rfl rfl ?_
        refine v_get C K in_X4_putInShowsOfPad_X4 0 rfl rfl 2 (by decide) fl_X4_putInShowsOfPad_X4_2 rfl dX4_putInShowsOfPad_29 rfl ?_
        refine v_iload_n C dX4_putInShowsOfPad_32 rfl 2 2 rfl rfl ?_
        refine v_callVid C K (c_X3_filmAt l D ad cI cC cZ cQ _ L hL9 hL6 hch9 a (by omega)) gX4_putInShowsOfPad_X3_filmAt rfl hd_X3_filmAt ⟨rfl, rfl⟩ ⟨Nat.le_of_ble_eq_true rfl, Nat.le_of_ble_eq_true rfl⟩ 8 rfl rfl rfl rfl rfl (Nat.le_of_ble_eq_true rfl) ⟨Nat.le_refl _, Nat.le_refl _⟩ dX4_putInShowsOfPad_33 rfl ?_
        refine v_top (rdf (σ 6) L a) (by rw [e6, hok3]) ?_
        refine v_istore (lv' := [(4, _), (0, _), (1, _), (2, _), (3, _)]) C dX4_putInShowsOfPad_36 rfl (by decide) rfl ?_
        refine v_aload_n C dX4_putInShowsOfPad_38 rfl 0 1 rfl rfl ?_
        refine v_get C K in_X4_putInShowsOfPad_X4 0 rfl rfl 2 (by decide) fl_X4_putInShowsOfPad_X4_2 rfl dX4_putInShowsOfPad_39 rfl ?_
        refine v_iload_n C dX4_putInShowsOfPad_42 rfl 2 3 rfl rfl ?_
        refine v_iconst (v := 1) C dX4_putInShowsOfPad_43 rfl ic_1 ?_
        refine v_iadd C dX4_putInShowsOfPad_44 rfl ?_
        refine v_top (nI (a + 1)) (nI_1 a) ?_
        refine v_callVid C K (c_X3_partAt l D ad cI cC cZ cQ _ L hL9 hL6 hch9 (a + 1) (by omega)) gX4_putInShowsOfPad_X3_partAt rfl hd_X3_partAt ⟨rfl, rfl⟩ ⟨Nat.le_of_ble_eq_true rfl, Nat.le_of_ble_eq_true rfl⟩ 8 rfl rfl rfl rfl rfl (Nat.le_of_ble_eq_true rfl) ⟨Nat.le_refl _, Nat.le_refl _⟩ dX4_putInShowsOfPad_45 rfl ?_
        refine v_top (rdq (σ 6) L a) (by rw [e6, hok4]) ?_
        refine v_istore (lv' := [(5, _), (4, _), (0, _), (1, _), (2, _), (3, _)]) C dX4_putInShowsOfPad_48 rfl (by decide) rfl ?_
        refine v_aload_n C dX4_putInShowsOfPad_50 rfl 0 2 rfl rfl ?_
        refine v_get C K in_X4_putInShowsOfPad_X4 0 rfl rfl 2 (by decide) fl_X4_putInShowsOfPad_X4_2 rfl dX4_putInShowsOfPad_51 rfl ?_
        refine v_iload_n C dX4_putInShowsOfPad_54 rfl 2 4 rfl rfl ?_
        refine v_iconst (v := 2) C dX4_putInShowsOfPad_55 rfl ic_2 ?_
        refine v_iadd C dX4_putInShowsOfPad_56 rfl ?_
        refine v_top (nI (a + 2)) (nI_add a 2) ?_
        refine v_iload_n C dX4_putInShowsOfPad_57 rfl 3 5 rfl rfl ?_
        refine v_top (nI (a + 2 + (rd3 (σ 6) L a - (a + 2)))) (by rw [show a + 2 + (rd3 (σ 6) L a - (a + 2)) = j by omega]) ?_
        refine v_callVid C K (c_X3_dayAt l D ad cI cC cZ cQ _ L hL9 hL6 hch9 (a + 2) (rd3 (σ 6) L a - (a + 2)) (by omega)) gX4_putInShowsOfPad_X3_dayAt rfl hd_X3_dayAt ⟨rfl, rfl⟩ ⟨Nat.le_of_ble_eq_true rfl, Nat.le_of_ble_eq_true rfl⟩ 8 rfl rfl rfl rfl rfl (Nat.le_of_ble_eq_true rfl) ⟨Nat.le_refl _, Nat.le_refl _⟩ dX4_putInShowsOfPad_58 rfl ?_
        refine v_top (rdd (σ 6) L a) (by rw [e6, hok5]) ?_
        refine v_istore (lv' := [(6, _), (5, _), (4, _), (0, _), (1, _), (2, _), (3, _)]) C dX4_putInShowsOfPad_61 rfl (by decide) rfl ?_
        refine v_aload_n C dX4_putInShowsOfPad_63 rfl 0 3 rfl rfl ?_
        refine v_iload C dX4_putInShowsOfPad_64 rfl 2 rfl ?_
        refine v_iload C dX4_putInShowsOfPad_66 rfl 0 rfl ?_
        refine v_iload C dX4_putInShowsOfPad_68 rfl 1 rfl ?_
        refine v_callVid C K (c_X4_errorOfShow l D ad cI cC cZ cQ _ n (by rw [h09]; exact hw9) _ _ _) gX4_putInShowsOfPad_X4_errorOfShow rfl hd_X4_errorOfShow ⟨rfl, rfl⟩ ⟨Nat.le_of_ble_eq_true rfl, Nat.le_of_ble_eq_true rfl⟩ 0 rfl rfl rfl rfl rfl (Nat.le_of_ble_eq_true rfl) ⟨Nat.le_refl _, Nat.le_refl _⟩ dX4_putInShowsOfPad_70 rfl ?_
        refine v_top (p_why r9 (rdf (σ 6) L a) (rdd (σ 6) L a) (rdq (σ 6) L a)) (by rw [h09]) ?_
        refine v_if_eq C 78 dX4_putInShowsOfPad_73 (by decide) rfl (fun h66 => ?_) (fun h66f => ?_)
        · skip
          have hge : 0 ≤ p_why (r9 : Nat → Int32) (rdf (σ 6) L a) (rdd (σ 6) L a) (rdq (σ 6) L a) := by rw [h66]; decide
          obtain ⟨hz, f, d, q, hf, hd, hq, ef, ed, eq, hcs⟩ := p_why_ge hw9.1.1 hw9.1.2.1 hge
          have ecd : (nI d).toNatClampNeg = d := nI_cl (Nat.lt_trans hd (by decide))
          have ecq : (nI q).toNatClampNeg = q := nI_cl (Nat.lt_trans hq (by decide))
          have ekk : q_k (rdd (σ 6) L a) (rdq (σ 6) L a) = 2 * d + q := by rw [ed, eq, q_k, ecd, ecq]
          have hnx := cyc_next (N := m9) (j := 0) (r2 := upd r9 (46 + (2 * d + q)) (nI f)) hL6 hm9 hfu hlt h66 (Or.inr hff) hcy (by rw [ekk, ef])
          have hpn := pI_next hL6 hI haj hjL hfu hc
          rw [e3] at hnx
          clear hcy hff hI
          refine v_aload_n C dX4_putInShowsOfPad_78 rfl 0 3 rfl rfl ?_
          refine v_get C K in_X4_putInShowsOfPad_X4 0 rfl rfl 0 (by decide) fl_X4_putInShowsOfPad_X4_0 rfl dX4_putInShowsOfPad_79 rfl ?_
          refine v_iload C dX4_putInShowsOfPad_82 rfl 0 rfl ?_
          refine v_top (nI d) (ed) ?_
          refine v_iload C dX4_putInShowsOfPad_84 rfl 1 rfl ?_
          refine v_top (nI q) (eq) ?_
          refine v_callSpd C (c_X4_placeOf l _ _) gX4_putInShowsOfPad_X4_placeOf rfl hd_X4_placeOf.2 ⟨rfl, rfl⟩ ⟨Nat.le_of_ble_eq_true rfl, Nat.le_of_ble_eq_true rfl⟩ rfl rfl (Nat.le_of_ble_eq_true rfl) ⟨Nat.le_refl _, Nat.le_refl _⟩ dX4_putInShowsOfPad_86 rfl ?_
          refine v_iload C dX4_putInShowsOfPad_89 rfl 2 rfl ?_
          refine v_top (nI f) (ef) ?_
          refine v_callVid C K (c_X1_replaceShow l D ad cI cC cZ cQ _ (2 * d + q) (k70 hd hq) _) gX4_putInShowsOfPad_X1_replaceShow rfl hd_X1_replaceShow ⟨rfl, rfl⟩ ⟨Nat.le_of_ble_eq_true rfl, Nat.le_of_ble_eq_true rfl⟩ 1 rfl rfl rfl rfl rfl (Nat.le_of_ble_eq_true rfl) ⟨Nat.le_refl _, Nat.le_refl _⟩ dX4_putInShowsOfPad_91 rfl ?_
          refine v_pop C dX4_putInShowsOfPad_94 rfl rfl ?_
          refine v_iinc (lv' := [(1, _), (6, _), (5, _), (4, _), (0, _), (2, _), (3, _)]) C dX4_putInShowsOfPad_95 rfl 4 rfl (inc9 _) (by decide) rfl ?_
          refine v_iload_n C dX4_putInShowsOfPad_98 rfl 3 6 rfl rfl ?_
          refine v_iconst (v := 1) C dX4_putInShowsOfPad_99 rfl ic_1 ?_
          refine v_iadd C dX4_putInShowsOfPad_100 rfl ?_
          refine v_top (nI (j + 1)) (nI_1 _) ?_
          refine v_istore_n (lv' := [(2, _), (1, _), (6, _), (5, _), (4, _), (0, _), (3, _)]) C dX4_putInShowsOfPad_101 rfl 2 rfl (by decide) rfl ?_
          refine v_iinc (lv' := [(3, _), (2, _), (1, _), (6, _), (5, _), (4, _), (0, _)]) C dX4_putInShowsOfPad_102 rfl 6 rfl (inc9 _) (by decide) rfl ?_
          refine v_goto C 6 dX4_putInShowsOfPad_105 (by decide) ?_
          refine v_lv (lv' := [(0, _), (1, _), (2, _), (3, _)]) [6, 2, 1, 0] rfl ?_
          exact ih _ (j + 1) (k9 + 1) (m9 - (0 + 1)) (upd r9 (46 + (2 * d + q)) (nI f)) (fun i hi => (st9_n _ _ hi).trans (hu9 i hi)) (by rw [st9_s, h09]) (wfH_upd hw9 (k70 hd hq) (Or.inr ⟨f, hf, rfl⟩)) (Nat.le_refl _) hnx.2.1 hpn hnx.2.2.2
        · skip
          have hce := cyc_stop (N := m9) (j := 0) hm9 hlt h66f hcy
          refine v_iload_n C dX4_putInShowsOfPad_76 rfl 1 4 rfl rfl ?_
          exact hend (⟨by rw [hR9, hce.1], by rw [hR9]; exact st9_of hu9 (h09.trans hce.2)⟩) (rfl) dX4_putInShowsOfPad_77
    · intro u9 a k9 m9 r9 hu9 h09 hw9 haj hfu hI hcy
      have hce := cyc_end (N := m9) (j := 0) (pI_end hI) hcy
      refine v_iload_n C dX4_putInShowsOfPad_6 rfl 3 3 rfl rfl ?_
      refine v_aload_n C dX4_putInShowsOfPad_7 rfl 0 0 rfl rfl ?_
      refine v_get C K in_X4_putInShowsOfPad_X4 0 rfl rfl 2 (by decide) fl_X4_putInShowsOfPad_X4_2 rfl dX4_putInShowsOfPad_8 rfl ?_
      refine v_callVid C K (c_X3_length l D ad cI cC cZ cQ _) gX4_putInShowsOfPad_X3_length rfl hd_X3_length ⟨rfl, rfl⟩ ⟨Nat.le_of_ble_eq_true rfl, Nat.le_of_ble_eq_true rfl⟩ 8 rfl rfl rfl rfl rfl (Nat.le_of_ble_eq_true rfl) ⟨Nat.le_refl _, Nat.le_refl _⟩ dX4_putInShowsOfPad_11 rfl ?_
      refine v_top (nI L) (by rw [hu9 7 (by decide)]; exact hL) ?_
      refine v_icmp_gt C 108 dX4_putInShowsOfPad_14 (by decide) rfl (fun _ => ?_) (fun h9 => absurd (nI_lt (by omega) (by omega)) h9)
      refine v_iload_n C dX4_putInShowsOfPad_108 rfl 1 1 rfl rfl ?_
      exact hend (⟨by rw [hR9, hce.1], by rw [hR9]; exact st9_of hu9 (h09.trans hce.2)⟩) (rfl) dX4_putInShowsOfPad_109
  refine v_lv (lv' := [(0, _), (1, _), (2, _), (3, _)]) [3, 2, 1, 0] rfl ?_
  exact LP6 0 (Nat.zero_le _) σ 0 0 62 (σ 0) (fun _ _ => rfl) rfl hw (Nat.le_refl _) (by omega) (pI_0 hL6 hno) ⟨by rw [← cy_more 61 (σ 0) 0 (by omega), hR9]; exact Nat.zero_add _, by rw [← cy_more 61 (σ 0) 0 (by omega), hR9]⟩
set_option maxHeartbeats 4000000 in
set_option maxRecDepth 100000 in
theorem c_X4_carryOut (l : Launch) (D : va_G) (ad : Nat → Nat) (cI cC cZ cQ : ClassId) (σ : S9) (L : Nat) (hL : σ 7 0 = nI L) (hL6 : L ≤ 60) (hch : ∀ i, i < L → narrow .char (.int (σ 6 i)) = .int (σ 6 i)) (n : Nat) (hw : wfH (σ 0) n) (o : Nat) (ho : σ 8 0 = nI o) (ho6 : o < 6) (h : Nat) (hh : σ 8 1 = nI h) (hle : h ≤ 6) : CMi l (cW ad cI cC cZ cQ) D (cTy cI cC cZ cQ) yX4_carryOut wsX4_carryOut ({ frames := 5, cells := 0, slots := 0, locals := 112 } : Room) [.ref (ad 0)] σ (fun r u => (ffl (σ 6) L 61 0 = -6 → r = nI (cy (σ 6) L 61 (σ 0) 0).1 ∧ u = st9 (st9 (hsM σ o h) 0 (cy (σ 6) L 61 (σ 0) 0).2) 7 (upd (σ 7) 0 0)) ∧ (¬ ffl (σ 6) L 61 0 = -6 → r = -3 ∧ u = σ)) := by
  refine v_starti (own := RX4) (cc := cX4_carryOut) (nL := 2) rfl (by decide) rfl (Nat.le_of_ble_eq_true rfl) ?_
  intro p e s m args below meth c A Q C K hend
  refine v_lv (lv' := [(0, .ref (ad 0))]) [0] rfl ?_
  refine v_aload_n C dX4_carryOut_0 rfl 0 0 rfl rfl ?_
  refine v_get C K in_X4_carryOut_X4 0 rfl rfl 2 (by decide) fl_X4_carryOut_X4_2 rfl dX4_carryOut_1 rfl ?_
  refine v_callVid C K (c_X3_firstFault l D ad cI cC cZ cQ _ L hL hL6) gX4_carryOut_X3_firstFault rfl hd_X3_firstFault ⟨rfl, rfl⟩ ⟨Nat.le_of_ble_eq_true rfl, Nat.le_of_ble_eq_true rfl⟩ 8 rfl rfl rfl rfl rfl (Nat.le_of_ble_eq_true rfl) ⟨Nat.le_refl _, Nat.le_refl _⟩ dX4_carryOut_4 rfl ?_
  refine v_bipush (v := -6) C dX4_carryOut_7 rfl bp_m6 ?_
  refine v_icmp_eq C 15 dX4_carryOut_9 (by decide) rfl (fun h9t => ?_) (fun h9f => ?_)
  · skip
    have s7 : hsM σ o h 7 = σ 7 := hsM_i _ _ _ 7 (by decide) (by decide)
    have s6 : hsM σ o h 6 = σ 6 := hsM_i _ _ _ 6 (by decide) (by decide)
    have s0 : hsM σ o h 0 = σ 0 := hsM_0 _ _ _
    refine v_aload_n C dX4_carryOut_15 rfl 0 0 rfl rfl ?_
    refine v_get C K in_X4_carryOut_X4 0 rfl rfl 3 (by decide) fl_X4_carryOut_X4_3 rfl dX4_carryOut_16 rfl ?_
    refine v_aload_n C dX4_carryOut_19 rfl 0 0 rfl rfl ?_
    refine v_get C K in_X4_carryOut_X4 0 rfl rfl 0 (by decide) fl_X4_carryOut_X4_0 rfl dX4_carryOut_20 rfl ?_
    refine v_callVvd C K (c_X2_record l D ad cI cC cZ cQ _ o ho ho6 h hh hle) gX4_carryOut_X2_record rfl hd_X2_record ⟨rfl, rfl⟩ ⟨Nat.le_of_ble_eq_true rfl, Nat.le_of_ble_eq_true rfl⟩ 10 rfl rfl rfl rfl rfl (Nat.le_of_ble_eq_true rfl) ⟨Nat.le_refl _, Nat.le_refl _⟩ dX4_carryOut_23 rfl ?_
    refine v_aload_n C dX4_carryOut_26 rfl 0 0 rfl rfl ?_
    refine v_callVi C K (c_X4_putInShowsOfPad l D ad cI cC cZ cQ _ L (by rw [s7]; exact hL) hL6 (fun i hi => by rw [s6]; exact hch i hi) n (by rw [s0]; exact hw) (by rw [s6]; exact h9t)) gX4_carryOut_X4_putInShowsOfPad rfl hd_X4_putInShowsOfPad ⟨rfl, rfl⟩ ⟨Nat.le_of_ble_eq_true rfl, Nat.le_of_ble_eq_true rfl⟩ 0 rfl rfl rfl rfl rfl (Nat.le_of_ble_eq_true rfl) ⟨Nat.le_refl _, Nat.le_refl _⟩ dX4_carryOut_27 rfl (fun r27 u27 hc27 => ?_)
    rw [s6, s0] at hc27
    obtain ⟨rfl, rfl⟩ := hc27
    refine v_istore_n (lv' := [(1, _), (0, _)]) C dX4_carryOut_30 rfl 1 rfl (by decide) rfl ?_
    refine v_aload_n C dX4_carryOut_31 rfl 0 1 rfl rfl ?_
    refine v_get C K in_X4_carryOut_X4 0 rfl rfl 2 (by decide) fl_X4_carryOut_X4_2 rfl dX4_carryOut_32 rfl ?_
    refine v_callVvd C K (c_X3_empty l D ad cI cC cZ cQ _) gX4_carryOut_X3_empty rfl hd_X3_empty ⟨rfl, rfl⟩ ⟨Nat.le_of_ble_eq_true rfl, Nat.le_of_ble_eq_true rfl⟩ 8 rfl rfl rfl rfl rfl (Nat.le_of_ble_eq_true rfl) ⟨Nat.le_refl _, Nat.le_refl _⟩ dX4_carryOut_35 rfl ?_
    refine v_iload_n C dX4_carryOut_38 rfl 1 0 rfl rfl ?_
    exact hend (⟨fun _ => ⟨rfl, by rw [st9_n _ _ (show 7 ≠ 0 by decide), s7]⟩, fun q => absurd h9t q⟩) (rfl) dX4_carryOut_39
  · skip
    refine v_bipush (v := -3) C dX4_carryOut_12 rfl bp_m3 ?_
    exact hend (⟨fun q => absurd q h9f, fun _ => ⟨rfl, rfl⟩⟩) (rfl) dX4_carryOut_14

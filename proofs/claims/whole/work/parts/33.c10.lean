theorem put_pst {x : Int64} {L : Nat} {r : Int32} {σ u : S9} (h : (cn9 x = 0 → r = -2 ∧ u = σ) ∧ (¬ cn9 x = 0 → 60 < L + cn9 x → r = -4 ∧ u = σ) ∧ (¬ cn9 x = 0 → ¬ 60 < L + cn9 x → r = nI (L + cn9 x) ∧ u = st9 (st9 σ 6 (ptF (σ 6) x L (cn9 x) (cn9 x))) 7 (upd (σ 7) 0 (nI (L + cn9 x))))) : (q_putE x L = 0 → r = nI (L + (put9 x).1) ∧ L + (put9 x).1 ≤ 60 ∧ u = st9 (st9 σ 6 (ptF (σ 6) x L (put9 x).1 (put9 x).1)) 7 (upd (σ 7) 0 (nI (L + (put9 x).1)))) ∧ (¬ q_putE x L = 0 → r = q_putE x L ∧ u = σ) := by
  by_cases h0 : cn9 x = 0
  · have hE := cn9_0 (L := L) h0
    rw [hE]
    exact ⟨fun q => absurd q (by decide), fun _ => h.1 h0⟩
  · obtain ⟨e, hb⟩ := cn9_n h0
    by_cases hg : 60 < L + cn9 x
    · have h2 := h.2.1 h0 hg
      rw [e] at hg
      rw [putE_b hb hg]
      exact ⟨fun q => absurd q (by decide), fun _ => h2⟩
    · have h2 := h.2.2 h0 hg
      rw [e] at hg h2
      rw [putE_c hb hg]
      exact ⟨fun _ => ⟨h2.1, by omega, h2.2⟩, fun q => absurd rfl q⟩
theorem st9_of {σ u : S9} {R : Nat → Int32} (h : ∀ i, i ≠ 0 → u i = σ i) (h0 : u 0 = R) : u = st9 σ 0 R := by
  funext i
  by_cases e : i = 0
  · subst e
    rw [st9_s, h0]
  · rw [st9_n _ _ e, h i e]
theorem le_60x {a b : Nat} (h : nI a ≤ nI b) (ha : a ≤ 100) (hb : b ≤ 100) : a ≤ b := (nI_leI (by omega) (by omega)).mp h
theorem nle_60x {a b : Nat} (h : ¬ nI a ≤ nI b) (ha : a ≤ 100) (hb : b ≤ 100) : b < a := by
  rcases Nat.lt_or_ge b a with q | q
  · exact q
  · exact absurd (nI_le q (by omega)) h
set_option maxHeartbeats 4000000 in
set_option maxRecDepth 100000 in
theorem c_X4_put (l : Launch) (D : va_G) (ad : Nat → Nat) (cI cC cZ cQ : ClassId) (σ : S9) (L : Nat) (hL : σ 7 0 = nI L) (hL6 : L ≤ 60) (x : Int64) : CMi l (cW ad cI cC cZ cQ) D (cTy cI cC cZ cQ) yX4_put wsX4_put ({ frames := 2, cells := 0, slots := 0, locals := 50 } : Room) [.ref (ad 0), .long x] σ (fun r u => (q_putE x L = 0 → r = nI (L + (put9 x).1) ∧ L + (put9 x).1 ≤ 60 ∧ u = st9 (st9 σ 6 (ptF (σ 6) x L (put9 x).1 (put9 x).1)) 7 (upd (σ 7) 0 (nI (L + (put9 x).1)))) ∧ (¬ q_putE x L = 0 → r = q_putE x L ∧ u = σ)) := by
  refine v_starti (own := RX4) (cc := cX4_put) (nL := 3) rfl (by decide) rfl (Nat.le_of_ble_eq_true rfl) ?_
  intro p e s m args below meth c A Q C K hend
  refine v_lv (lv' := [(0, .ref (ad 0)), (1, .long x)]) [0, 1] rfl ?_
  refine v_aload_n C dX4_put_0 rfl 0 0 rfl rfl ?_
  refine v_get C K in_X4_put_X4 0 rfl rfl 2 (by decide) fl_X4_put_X4_2 rfl dX4_put_1 rfl ?_
  refine v_lload_n C dX4_put_4 rfl 1 1 rfl rfl ?_
  refine v_callVi C K (c_X3_append l D ad cI cC cZ cQ _ L hL hL6 x (cn9 x) (cn9_8 x) (cn9_e x)) gX4_put_X3_append rfl hd_X3_append ⟨rfl, rfl⟩ ⟨Nat.le_of_ble_eq_true rfl, Nat.le_of_ble_eq_true rfl⟩ 8 rfl rfl rfl rfl rfl (Nat.le_of_ble_eq_true rfl) ⟨Nat.le_refl _, Nat.le_refl _⟩ dX4_put_5 rfl (fun r5 u5 hc5 => ?_)
  have hp := put_pst hc5
  exact hend (hp) (rfl) dX4_put_8
set_option maxHeartbeats 4000000 in
set_option maxRecDepth 100000 in
theorem c_X4_fault (l : Launch) (D : va_G) (ad : Nat → Nat) (cI cC cZ cQ : ClassId) (σ : S9) (L : Nat) (hL : σ 7 0 = nI L) (hL6 : L ≤ 60) : CMi l (cW ad cI cC cZ cQ) D (cTy cI cC cZ cQ) yX4_fault wsX4_fault ({ frames := 4, cells := 0, slots := 0, locals := 85 } : Room) [.ref (ad 0)] σ (fun r u => r = ffl (σ 6) L 61 0 ∧ u = σ) := by
  refine v_starti (own := RX4) (cc := cX4_fault) (nL := 1) rfl (by decide) rfl (Nat.le_of_ble_eq_true rfl) ?_
  intro p e s m args below meth c A Q C K hend
  refine v_lv (lv' := [(0, .ref (ad 0))]) [0] rfl ?_
  refine v_aload_n C dX4_fault_0 rfl 0 0 rfl rfl ?_
  refine v_get C K in_X4_fault_X4 0 rfl rfl 2 (by decide) fl_X4_fault_X4_2 rfl dX4_fault_1 rfl ?_
  refine v_callVid C K (c_X3_firstFault l D ad cI cC cZ cQ _ L hL hL6) gX4_fault_X3_firstFault rfl hd_X3_firstFault ⟨rfl, rfl⟩ ⟨Nat.le_of_ble_eq_true rfl, Nat.le_of_ble_eq_true rfl⟩ 8 rfl rfl rfl rfl rfl (Nat.le_of_ble_eq_true rfl) ⟨Nat.le_refl _, Nat.le_refl _⟩ dX4_fault_4 rfl ?_
  exact hend (⟨rfl, rfl⟩) (rfl) dX4_fault_7
set_option maxHeartbeats 4000000 in
set_option maxRecDepth 100000 in
theorem c_X4_putInShowsOfPad (l : Launch) (D : va_G) (ad : Nat → Nat) (cI cC cZ cQ : ClassId) (σ : S9) (L : Nat) (hL : σ 7 0 = nI L) (hL6 : L ≤ 60) (hch : ∀ i, i < L → narrow .char (.int (σ 6 i)) = .int (σ 6 i)) (n : Nat) (hw : wfH (σ 0) n) (hno : ffl (σ 6) L 61 0 = -6) : CMi l (cW ad cI cC cZ cQ) D (cTy cI cC cZ cQ) yX4_putInShowsOfPad wsX4_putInShowsOfPad ({ frames := 4, cells := 0, slots := 0, locals := 86 } : Room) [.ref (ad 0)] σ (fun r u => r = nI (cy (σ 6) L 61 (σ 0) 0).1 ∧ u = st9 σ 0 (cy (σ 6) L 61 (σ 0) 0).2) := by
  refine v_starti (own := RX4) (cc := cX4_putInShowsOfPad) (nL := 7) rfl (by decide) rfl (Nat.le_of_ble_eq_true rfl) ?_
  intro p e s m args below meth c A Q C K hend
  refine v_lv (lv' := [(0, .ref (ad 0))]) [0] rfl ?_
  obtain ⟨M9, R9, hR9⟩ : ∃ M R, cy (σ 6) L 61 (σ 0) 0 = (M, R) := ⟨_, _, rfl⟩
  have J102 : ∀ (u9 : S9), (∀ i, i ≠ 0 → u9 i = σ i) → u9 0 = R9 → VV p l e ({ frames := 4, cells := 0, slots := 0, locals := 86 } : Room) s m args below meth c 0 0 Q (cW ad cI cC cZ cQ) D A s.heap 7 u9 102 [(0, .ref (ad 0)), (1, .int (nI M9))] [] := by
      intro u9 hu9 hr9
      refine v_iload_n C dX4_putInShowsOfPad_102 rfl 1 1 rfl rfl ?_
      exact hend ⟨by rw [hR9], by rw [hR9]; exact st9_of hu9 hr9⟩ rfl dX4_putInShowsOfPad_103
  refine v_iconst (v := 0) C dX4_putInShowsOfPad_0 rfl ic_0 ?_
  refine v_istore_n (lv' := [(1, _), (0, _)]) C dX4_putInShowsOfPad_1 rfl 1 rfl (by decide) rfl ?_
  refine v_iconst (v := 0) C dX4_putInShowsOfPad_2 rfl ic_0 ?_
  refine v_istore_n (lv' := [(2, _), (1, _), (0, _)]) C dX4_putInShowsOfPad_3 rfl 2 rfl (by decide) rfl ?_
  have LP4 : ∀ j, j ≤ 62 → ∀ (u9 : S9) (a k9 : Nat) (r9 : Nat → Int32), (∀ i, i ≠ 0 → u9 i = σ i) → u9 0 = r9 → wfH r9 n → a ≤ L + 1 → L + 1 < a + (62 - j) → (L ≤ a ∨ ffl (σ 6) L (62 - j) a = -6) → (k9 + (cy (σ 6) L (62 - j) r9 a).1 = M9 ∧ (cy (σ 6) L (62 - j) r9 a).2 = R9) → VV p l e ({ frames := 4, cells := 0, slots := 0, locals := 86 } : Room) s m args below meth c 0 0 Q (cW ad cI cC cZ cQ) D A s.heap 7 u9 4 [(0, .ref (ad 0)), (1, .int (nI k9)), (2, .int (nI a))] [] := by
    refine lpB9 (fun j => ∀ (u9 : S9) (a k9 : Nat) (r9 : Nat → Int32), (∀ i, i ≠ 0 → u9 i = σ i) → u9 0 = r9 → wfH r9 n → a ≤ L + 1 → L + 1 < a + (62 - j) → (L ≤ a ∨ ffl (σ 6) L (62 - j) a = -6) → (k9 + (cy (σ 6) L (62 - j) r9 a).1 = M9 ∧ (cy (σ 6) L (62 - j) r9 a).2 = R9) → VV p l e ({ frames := 4, cells := 0, slots := 0, locals := 86 } : Room) s m args below meth c 0 0 Q (cW ad cI cC cZ cQ) D A s.heap 7 u9 4 [(0, .ref (ad 0)), (1, .int (nI k9)), (2, .int (nI a))] []) 62 (fun j hj ih => ?_) ?_
    · intro u9 a k9 r9 hu9 h09 hw9 ha1 hfu hff hcy
      refine v_iload_n C dX4_putInShowsOfPad_4 rfl 2 2 rfl rfl ?_
      refine v_aload_n C dX4_putInShowsOfPad_5 rfl 0 0 rfl rfl ?_
      refine v_get C K in_X4_putInShowsOfPad_X4 0 rfl rfl 2 (by decide) fl_X4_putInShowsOfPad_X4_2 rfl dX4_putInShowsOfPad_6 rfl ?_
      refine v_callVid C K (c_X3_length l D ad cI cC cZ cQ _) gX4_putInShowsOfPad_X3_length rfl hd_X3_length ⟨rfl, rfl⟩ ⟨Nat.le_of_ble_eq_true rfl, Nat.le_of_ble_eq_true rfl⟩ 8 rfl rfl rfl rfl rfl (Nat.le_of_ble_eq_true rfl) ⟨Nat.le_refl _, Nat.le_refl _⟩ dX4_putInShowsOfPad_9 rfl ?_
      refine v_top (nI L) (by rw [hu9 7 (by decide)]; exact hL) ?_
      refine v_icmp_ge C 102 dX4_putInShowsOfPad_12 (by decide) rfl (fun h12 => ?_) (fun h12f => ?_)
      · skip
        have hge : L ≤ a := le_60x h12 (by omega) (by omega)
        have hce := cyc_end hge hcy
        first | exact v_lv (lv' := [(0, _), (1, _)]) [0, 1] rfl (v9cast (J102 u9 hu9 (h09.trans hce.2)) rfl (by rw [hce.1]) rfl) | exact v_lv (lv' := [(0, _), (1, _)]) [4, 5] rfl (v9cast (J102 u9 hu9 (h09.trans hce.2)) rfl (by rw [hce.1]) rfl)
      · skip
        have hlt : a < L := nle_60x h12f (by omega) (by omega)
        have hok := cyc_ok hL6 hj hlt hff
        have e6 : u9 6 = σ 6 := hu9 6 (by decide)
        have hL9 : u9 7 0 = nI L := by rw [hu9 7 (by decide)]; exact hL
        have hch9 : ∀ i, i < L → narrow .char (.int (u9 6 i)) = .int (u9 6 i) := fun i hi => by rw [e6]; exact hch i hi
        have l3 := rd3_le (σ 6) (Nat.le_of_lt hlt)
        obtain ⟨hok1, hok2, hok3, hok4, hok5⟩ := hok
        refine v_aload_n C dX4_putInShowsOfPad_15 rfl 0 0 rfl rfl ?_
        refine v_get C K in_X4_putInShowsOfPad_X4 0 rfl rfl 2 (by decide) fl_X4_putInShowsOfPad_X4_2 rfl dX4_putInShowsOfPad_16 rfl ?_
        refine v_iload_n C dX4_putInShowsOfPad_19 rfl 2 2 rfl rfl ?_
        refine v_callVid C K (c_X3_endOfShow l D ad cI cC cZ cQ _ L hL9 hL6 hch9 a (Nat.le_of_lt hlt)) gX4_putInShowsOfPad_X3_endOfShow rfl hd_X3_endOfShow ⟨rfl, rfl⟩ ⟨Nat.le_of_ble_eq_true rfl, Nat.le_of_ble_eq_true rfl⟩ 8 rfl rfl rfl rfl rfl (Nat.le_of_ble_eq_true rfl) ⟨Nat.le_refl _, Nat.le_refl _⟩ dX4_putInShowsOfPad_20 rfl ?_
        refine v_top (nI (rd3 (σ 6) L a)) (by rw [e6, hok2]) ?_
        refine v_istore_n (lv' := [(3, _), (0, _), (1, _), (2, _)]) C dX4_putInShowsOfPad_23 rfl 3 rfl (by decide) rfl ?_
        refine v_aload_n C dX4_putInShowsOfPad_24 rfl 0 1 rfl rfl ?_
        refine v_get C K in_X4_putInShowsOfPad_X4 0 rfl rfl 2 (by decide) fl_X4_putInShowsOfPad_X4_2 rfl dX4_putInShowsOfPad_25 rfl ?_
        refine v_iload_n C dX4_putInShowsOfPad_28 rfl 2 3 rfl rfl ?_
        refine v_callVid C K (c_X3_filmAt l D ad cI cC cZ cQ _ L hL9 hL6 hch9 a (by omega)) gX4_putInShowsOfPad_X3_filmAt rfl hd_X3_filmAt ⟨rfl, rfl⟩ ⟨Nat.le_of_ble_eq_true rfl, Nat.le_of_ble_eq_true rfl⟩ 8 rfl rfl rfl rfl rfl (Nat.le_of_ble_eq_true rfl) ⟨Nat.le_refl _, Nat.le_refl _⟩ dX4_putInShowsOfPad_29 rfl ?_
        refine v_top (rdf (σ 6) L a) (by rw [e6, hok3]) ?_
        refine v_istore (lv' := [(4, _), (3, _), (0, _), (1, _), (2, _)]) C dX4_putInShowsOfPad_32 rfl (by decide) rfl ?_
        refine v_aload_n C dX4_putInShowsOfPad_34 rfl 0 2 rfl rfl ?_
        refine v_get C K in_X4_putInShowsOfPad_X4 0 rfl rfl 2 (by decide) fl_X4_putInShowsOfPad_X4_2 rfl dX4_putInShowsOfPad_35 rfl ?_
        refine v_iload_n C dX4_putInShowsOfPad_38 rfl 2 4 rfl rfl ?_
        refine v_iconst (v := 1) C dX4_putInShowsOfPad_39 rfl ic_1 ?_
        refine v_iadd C dX4_putInShowsOfPad_40 rfl ?_
        refine v_top (nI (a + 1)) (nI_1 a) ?_
        refine v_callVid C K (c_X3_partAt l D ad cI cC cZ cQ _ L hL9 hL6 hch9 (a + 1) (by omega)) gX4_putInShowsOfPad_X3_partAt rfl hd_X3_partAt ⟨rfl, rfl⟩ ⟨Nat.le_of_ble_eq_true rfl, Nat.le_of_ble_eq_true rfl⟩ 8 rfl rfl rfl rfl rfl (Nat.le_of_ble_eq_true rfl) ⟨Nat.le_refl _, Nat.le_refl _⟩ dX4_putInShowsOfPad_41 rfl ?_
        refine v_top (rdq (σ 6) L a) (by rw [e6, hok4]) ?_
        refine v_istore (lv' := [(5, _), (4, _), (3, _), (0, _), (1, _), (2, _)]) C dX4_putInShowsOfPad_44 rfl (by decide) rfl ?_
        refine v_aload_n C dX4_putInShowsOfPad_46 rfl 0 3 rfl rfl ?_
        refine v_get C K in_X4_putInShowsOfPad_X4 0 rfl rfl 2 (by decide) fl_X4_putInShowsOfPad_X4_2 rfl dX4_putInShowsOfPad_47 rfl ?_
        refine v_iload_n C dX4_putInShowsOfPad_50 rfl 2 5 rfl rfl ?_
        refine v_iconst (v := 2) C dX4_putInShowsOfPad_51 rfl ic_2 ?_
        refine v_iadd C dX4_putInShowsOfPad_52 rfl ?_
        refine v_top (nI (a + 2)) (nI_add a 2) ?_
        refine v_iload_n C dX4_putInShowsOfPad_53 rfl 3 2 rfl rfl ?_
        refine v_top (nI (a + 2 + (rd3 (σ 6) L a - (a + 2)))) (by rw [show a + 2 + (rd3 (σ 6) L a - (a + 2)) = rd3 (σ 6) L a by omega]) ?_
        refine v_callVid C K (c_X3_dayAt l D ad cI cC cZ cQ _ L hL9 hL6 hch9 (a + 2) (rd3 (σ 6) L a - (a + 2)) (by omega)) gX4_putInShowsOfPad_X3_dayAt rfl hd_X3_dayAt ⟨rfl, rfl⟩ ⟨Nat.le_of_ble_eq_true rfl, Nat.le_of_ble_eq_true rfl⟩ 8 rfl rfl rfl rfl rfl (Nat.le_of_ble_eq_true rfl) ⟨Nat.le_refl _, Nat.le_refl _⟩ dX4_putInShowsOfPad_54 rfl ?_
        refine v_top (rdd (σ 6) L a) (by rw [e6, hok5]) ?_
        refine v_istore (lv' := [(6, _), (5, _), (4, _), (3, _), (0, _), (1, _), (2, _)]) C dX4_putInShowsOfPad_57 rfl (by decide) rfl ?_
        refine v_aload_n C dX4_putInShowsOfPad_59 rfl 0 4 rfl rfl ?_
        refine v_iload C dX4_putInShowsOfPad_60 rfl 2 rfl ?_
        refine v_iload C dX4_putInShowsOfPad_62 rfl 0 rfl ?_
        refine v_iload C dX4_putInShowsOfPad_64 rfl 1 rfl ?_
        refine v_callVid C K (c_X4_errorOfShow l D ad cI cC cZ cQ _ n (by rw [h09]; exact hw9) _ _ _) gX4_putInShowsOfPad_X4_errorOfShow rfl hd_X4_errorOfShow ⟨rfl, rfl⟩ ⟨Nat.le_of_ble_eq_true rfl, Nat.le_of_ble_eq_true rfl⟩ 0 rfl rfl rfl rfl rfl (Nat.le_of_ble_eq_true rfl) ⟨Nat.le_refl _, Nat.le_refl _⟩ dX4_putInShowsOfPad_66 rfl ?_
        refine v_top (p_why r9 (rdf (σ 6) L a) (rdd (σ 6) L a) (rdq (σ 6) L a)) (by rw [h09]) ?_
        refine v_if_eq C 75 dX4_putInShowsOfPad_69 (by decide) rfl (fun h66 => ?_) (fun h66f => ?_)
        · skip
          have hge : 0 ≤ p_why (r9 : Nat → Int32) (rdf (σ 6) L a) (rdd (σ 6) L a) (rdq (σ 6) L a) := by rw [h66]; decide
          obtain ⟨hz, f, d, q, hf, hd, hq, ef, ed, eq, hcs⟩ := p_why_ge hw9.1.1 hw9.1.2.1 hge
          have ecd : (nI d).toNatClampNeg = d := nI_cl (Nat.lt_trans hd (by decide))
          have ecq : (nI q).toNatClampNeg = q := nI_cl (Nat.lt_trans hq (by decide))
          have ekk : q_k (rdd (σ 6) L a) (rdq (σ 6) L a) = 2 * d + q := by rw [ed, eq, q_k, ecd, ecq]
          have hnx := cyc_next (r2 := upd r9 (46 + (2 * d + q)) (nI f)) hL6 hj hfu hlt h66 hff hcy (by rw [ekk, ef])
          clear hcy hff hfu
          refine v_aload_n C dX4_putInShowsOfPad_75 rfl 0 4 rfl rfl ?_
          refine v_get C K in_X4_putInShowsOfPad_X4 0 rfl rfl 0 (by decide) fl_X4_putInShowsOfPad_X4_0 rfl dX4_putInShowsOfPad_76 rfl ?_
          refine v_iload C dX4_putInShowsOfPad_79 rfl 0 rfl ?_
          refine v_top (nI d) (ed) ?_
          refine v_iload C dX4_putInShowsOfPad_81 rfl 1 rfl ?_
          refine v_top (nI q) (eq) ?_
          refine v_callSpd C (c_X4_placeOf l _ _) gX4_putInShowsOfPad_X4_placeOf rfl hd_X4_placeOf.2 ⟨rfl, rfl⟩ ⟨Nat.le_of_ble_eq_true rfl, Nat.le_of_ble_eq_true rfl⟩ rfl rfl (Nat.le_of_ble_eq_true rfl) ⟨Nat.le_refl _, Nat.le_refl _⟩ dX4_putInShowsOfPad_83 rfl ?_
          refine v_iload C dX4_putInShowsOfPad_86 rfl 2 rfl ?_
          refine v_top (nI f) (ef) ?_
          refine v_callVid C K (c_X1_replaceShow l D ad cI cC cZ cQ _ (2 * d + q) (k70 hd hq) _) gX4_putInShowsOfPad_X1_replaceShow rfl hd_X1_replaceShow ⟨rfl, rfl⟩ ⟨Nat.le_of_ble_eq_true rfl, Nat.le_of_ble_eq_true rfl⟩ 1 rfl rfl rfl rfl rfl (Nat.le_of_ble_eq_true rfl) ⟨Nat.le_refl _, Nat.le_refl _⟩ dX4_putInShowsOfPad_88 rfl ?_
          refine v_pop C dX4_putInShowsOfPad_91 rfl rfl ?_
          refine v_iinc (lv' := [(1, _), (6, _), (5, _), (4, _), (3, _), (0, _), (2, _)]) C dX4_putInShowsOfPad_92 rfl 5 rfl (inc9 _) (by decide) rfl ?_
          refine v_iload_n C dX4_putInShowsOfPad_95 rfl 3 4 rfl rfl ?_
          refine v_iconst (v := 1) C dX4_putInShowsOfPad_96 rfl ic_1 ?_
          refine v_iadd C dX4_putInShowsOfPad_97 rfl ?_
          refine v_top (nI (rd3 (σ 6) L a + 1)) (nI_1 _) ?_
          refine v_istore_n (lv' := [(2, _), (1, _), (6, _), (5, _), (4, _), (3, _), (0, _)]) C dX4_putInShowsOfPad_98 rfl 2 rfl (by decide) rfl ?_
          refine v_goto C 4 dX4_putInShowsOfPad_99 (by decide) ?_
          refine v_lv (lv' := [(0, _), (1, _), (2, _)]) [6, 1, 0] rfl ?_
          exact ih _ (rd3 (σ 6) L a + 1) (k9 + 1) (upd r9 (46 + (2 * d + q)) (nI f)) (fun i hi => (st9_n _ _ hi).trans (hu9 i hi)) (by rw [st9_s, h09]) (wfH_upd hw9 (k70 hd hq) (Or.inr ⟨f, hf, rfl⟩)) hnx.1 hnx.2.1 hnx.2.2.1 hnx.2.2.2
        · skip
          have hce := cyc_stop hj hlt h66f hcy
          refine v_goto C 102 dX4_putInShowsOfPad_72 (by decide) ?_
          first | exact v_lv (lv' := [(0, _), (1, _)]) [0, 1] rfl (v9cast (J102 u9 hu9 (h09.trans hce.2)) rfl (by rw [hce.1]) rfl) | exact v_lv (lv' := [(0, _), (1, _)]) [4, 5] rfl (v9cast (J102 u9 hu9 (h09.trans hce.2)) rfl (by rw [hce.1]) rfl)
    · intro u9 a k9 r9 hu9 h09 hw9 ha1 hfu hff hcy
      exact absurd hfu (by omega)
  refine v_lv (lv' := [(0, _), (1, _), (2, _)]) [2, 1, 0] rfl ?_
  exact LP4 0 (by decide) σ 0 0 (σ 0) (fun _ _ => rfl) rfl hw (Nat.zero_le _) (by omega) (Or.inr ((ffl_more 62 61 0 (Nat.zero_le _) (by omega) (by omega)).trans hno)) ⟨by rw [show 62 - 0 = 61 + 1 from rfl, ← cy_more 61 (σ 0) 0 (by omega), hR9]; exact Nat.zero_add _, by rw [show 62 - 0 = 61 + 1 from rfl, ← cy_more 61 (σ 0) 0 (by omega), hR9]⟩
set_option maxHeartbeats 4000000 in
set_option maxRecDepth 100000 in
theorem c_X4_carryOut (l : Launch) (D : va_G) (ad : Nat → Nat) (cI cC cZ cQ : ClassId) (σ : S9) (L : Nat) (hL : σ 7 0 = nI L) (hL6 : L ≤ 60) (hch : ∀ i, i < L → narrow .char (.int (σ 6 i)) = .int (σ 6 i)) (n : Nat) (hw : wfH (σ 0) n) (o : Nat) (ho : σ 8 0 = nI o) (ho6 : o < 6) (h : Nat) (hh : σ 8 1 = nI h) (hle : h ≤ 6) : CMi l (cW ad cI cC cZ cQ) D (cTy cI cC cZ cQ) yX4_carryOut wsX4_carryOut ({ frames := 5, cells := 0, slots := 0, locals := 112 } : Room) [.ref (ad 0)] σ (fun r u => (ffl (σ 6) L 61 0 = -6 → r = nI (cy (σ 6) L 61 (σ 0) 0).1 ∧ u = st9 (st9 (hsM σ o h) 0 (cy (σ 6) L 61 (σ 0) 0).2) 7 (upd (σ 7) 0 0)) ∧ (¬ ffl (σ 6) L 61 0 = -6 → r = -3 ∧ u = σ)) := by
  refine v_starti (own := RX4) (cc := cX4_carryOut) (nL := 2) rfl (by decide) rfl (Nat.le_of_ble_eq_true rfl) ?_
  intro p e s m args below meth c A Q C K hend
  refine v_lv (lv' := [(0, .ref (ad 0))]) [0] rfl ?_
  refine v_aload_n C dX4_carryOut_0 rfl 0 0 rfl rfl ?_
  refine v_get C K in_X4_carryOut_X4 0 rfl rfl 2 (by decide) fl_X4_carryOut_X4_2 rfl dX4_carryOut_1 rfl ?_
  refine v_callVid C K (c_X3_firstFault l D ad cI cC cZ cQ _ L hL hL6) gX4_carryOut_X3_firstFault rfl hd_X3_firstFault ⟨rfl, rfl⟩ ⟨Nat.le_of_ble_eq_true rfl, Nat.le_of_ble_eq_true rfl⟩ 8 rfl rfl rfl rfl rfl (Nat.le_of_ble_eq_true rfl) ⟨Nat.le_refl _, Nat.le_refl _⟩ dX4_carryOut_4 rfl ?_
  refine v_bipush (v := -6) C dX4_carryOut_7 rfl bp_m6 ?_
  refine v_icmp_eq C 15 dX4_carryOut_9 (by decide) rfl (fun h9t => ?_) (fun h9f => ?_)
  · skip
    have s7 : hsM σ o h 7 = σ 7 := hsM_i _ _ _ 7 (by decide) (by decide)
    have s6 : hsM σ o h 6 = σ 6 := hsM_i _ _ _ 6 (by decide) (by decide)
    have s0 : hsM σ o h 0 = σ 0 := hsM_0 _ _ _
    refine v_aload_n C dX4_carryOut_15 rfl 0 0 rfl rfl ?_
    refine v_get C K in_X4_carryOut_X4 0 rfl rfl 3 (by decide) fl_X4_carryOut_X4_3 rfl dX4_carryOut_16 rfl ?_
    refine v_aload_n C dX4_carryOut_19 rfl 0 0 rfl rfl ?_
    refine v_get C K in_X4_carryOut_X4 0 rfl rfl 0 (by decide) fl_X4_carryOut_X4_0 rfl dX4_carryOut_20 rfl ?_
    refine v_callVvd C K (c_X2_record l D ad cI cC cZ cQ _ o ho ho6 h hh hle) gX4_carryOut_X2_record rfl hd_X2_record ⟨rfl, rfl⟩ ⟨Nat.le_of_ble_eq_true rfl, Nat.le_of_ble_eq_true rfl⟩ 10 rfl rfl rfl rfl rfl (Nat.le_of_ble_eq_true rfl) ⟨Nat.le_refl _, Nat.le_refl _⟩ dX4_carryOut_23 rfl ?_
    refine v_aload_n C dX4_carryOut_26 rfl 0 0 rfl rfl ?_
    refine v_callVi C K (c_X4_putInShowsOfPad l D ad cI cC cZ cQ _ L (by rw [s7]; exact hL) hL6 (fun i hi => by rw [s6]; exact hch i hi) n (by rw [s0]; exact hw) (by rw [s6]; exact h9t)) gX4_carryOut_X4_putInShowsOfPad rfl hd_X4_putInShowsOfPad ⟨rfl, rfl⟩ ⟨Nat.le_of_ble_eq_true rfl, Nat.le_of_ble_eq_true rfl⟩ 0 rfl rfl rfl rfl rfl (Nat.le_of_ble_eq_true rfl) ⟨Nat.le_refl _, Nat.le_refl _⟩ dX4_carryOut_27 rfl (fun r27 u27 hc27 => ?_)
    rw [s6, s0] at hc27
    obtain ⟨rfl, rfl⟩ := hc27
    refine v_istore_n (lv' := [(1, _), (0, _)]) C dX4_carryOut_30 rfl 1 rfl (by decide) rfl ?_
    refine v_aload_n C dX4_carryOut_31 rfl 0 1 rfl rfl ?_
    refine v_get C K in_X4_carryOut_X4 0 rfl rfl 2 (by decide) fl_X4_carryOut_X4_2 rfl dX4_carryOut_32 rfl ?_
    refine v_callVvd C K (c_X3_empty l D ad cI cC cZ cQ _) gX4_carryOut_X3_empty rfl hd_X3_empty ⟨rfl, rfl⟩ ⟨Nat.le_of_ble_eq_true rfl, Nat.le_of_ble_eq_true rfl⟩ 8 rfl rfl rfl rfl rfl (Nat.le_of_ble_eq_true rfl) ⟨Nat.le_refl _, Nat.le_refl _⟩ dX4_carryOut_35 rfl ?_
    refine v_iload_n C dX4_carryOut_38 rfl 1 0 rfl rfl ?_
    exact hend (⟨fun _ => ⟨rfl, by rw [st9_n _ _ (show 7 ≠ 0 by decide), s7]⟩, fun q => absurd h9t q⟩) (rfl) dX4_carryOut_39
  · skip
    refine v_bipush (v := -3) C dX4_carryOut_12 rfl bp_m3 ?_
    exact hend (⟨fun q => absurd q h9f, fun _ => ⟨rfl, rfl⟩⟩) (rfl) dX4_carryOut_14

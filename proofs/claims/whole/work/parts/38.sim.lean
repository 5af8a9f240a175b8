/-! ===== what the class's rows and the reference's rows have in common, and that every call keeps it ===== -/
theorem wfH_congr {r r2 : Nat → Int32} {n : Nat} (hw : wfH r n) (h : ∀ k, k < 151 → r2 k = r k) : wfH r2 n := by
  have h8 := hw.1.2.1
  refine ⟨⟨by rw [h 5 (by decide)]; exact hw.1.1, h8, fun k hk => by rw [h _ (by omega)]; exact hw.1.2.2 k hk⟩, fun f hf => by rw [h _ (by omega)]; exact hw.2.1 f hf, fun d hd => by rw [h _ (by omega)]; exact hw.2.2 d hd⟩
theorem cpy_151 (f g : Nat → Int32) {k : Nat} (hk : k < 151) : va_cpy f g 0 0 151 k = f k := by rw [pk_cpy_in (by omega) (by omega), show 0 + (k - 0) = k by omega]
theorem cpy_mv {f g f2 g2 : Nat → Int32} {a : Nat} (h : ∀ k, k < 151 → f2 (a + k) = f k) (hg : g2 = g) : mvF f2 g2 a 0 151 = va_cpy f g 0 0 151 := by
  funext k
  by_cases hk : k < 151
  · rw [cpy_151 f g hk, ← h k hk]
    have := mvF_in f2 g2 a 0 151 k hk
    rwa [Nat.zero_add] at this
  · rw [mvF_out f2 g2 a 0 151 (by omega), pk_cpy_out (by omega), hg]
def SM (σ τ : S9) (n o h L : Nat) : Prop :=
  wfH (σ 0) n ∧ τ 0 = σ 0 ∧ (σ 8 0 = nI o ∧ o < 6) ∧ (σ 8 1 = nI h ∧ h ≤ 6 ∧ τ 12 0 = nI h) ∧ (∀ i, i < h → (∃ m, wfH (σ (10 + (o + i) % 6)) m) ∧ ∀ k, k < 151 → τ 1 (151 * i + k) = σ (10 + (o + i) % 6) k) ∧ (σ 7 0 = nI L ∧ L ≤ 60 ∧ τ 12 1 = nI L) ∧ (∀ i, i < L → τ 4 i = σ 6 i ∧ narrow .char (.int (σ 6 i)) = .int (σ 6 i)) ∧ (∀ t, t < 2 → (σ 9 t = 0 ∧ τ 3 t = 0) ∨ (¬ σ 9 t = 0 ∧ ¬ τ 3 t = 0 ∧ (∃ m, wfH (σ (16 + t)) m) ∧ ∀ k, k < 151 → τ 2 (151 * t + k) = σ (16 + t) k))
def ms9 (σ u : S9) : Prop := (∀ i, i < 5 → u i = σ i) ∧ u 12 0 = σ 12 0 ∧ u 12 1 = σ 12 1
theorem ms9_sc {σ u : S9} (h : sc9 σ u) : ms9 σ u := ⟨fun i hi => h i (Or.inl hi), by rw [sc9_12 h], by rw [sc9_12 h]⟩
theorem ms9_tx {σ u : S9} (h : tx9 σ u) : ms9 σ u := ⟨fun i hi => h.1 i (by omega), h.2.1, h.2.2⟩
theorem ms9_rf (σ : S9) : ms9 σ σ := ⟨fun _ _ => rfl, rfl, rfl⟩
theorem SM.fr {σ τ u v : S9} {n o h L : Nat} (hs : SM σ τ n o h L) (hc : cc9 σ u) (hm : ms9 τ v) : SM u v n o h L := by
  obtain ⟨a1, a2, a3, a4, a5, a6, a7, a8⟩ := hs
  have c0 : u 0 = σ 0 := hc 0 (Or.inl rfl)
  have cc : ∀ i, 5 < i → u i = σ i := fun i hi => hc i (Or.inr hi)
  unfold SM
  rw [c0, hm.1 0 (by decide), hm.1 1 (by decide), hm.1 2 (by decide), hm.1 3 (by decide), hm.1 4 (by decide), cc 6 (by decide), cc 7 (by decide), cc 8 (by decide), cc 9 (by decide), hm.2.1, hm.2.2]
  exact ⟨a1, a2, a3, a4, fun i hi => by rw [cc _ (by omega)]; exact a5 i hi, a6, a7, fun t ht => by rw [cc _ (by omega)]; exact a8 t ht⟩
theorem hsM_r (σ : S9) (o h : Nat) {i : Nat} (h8 : i ≠ 8) (hi : i ≠ 10 + (o + h) % 6) : hsM σ o h i = σ i := by rw [hsM, st9_n _ _ h8, st9_n _ _ hi]
theorem SM.rec {σ τ : S9} {n o h L n2 : Nat} {r2 : Nat → Int32} (hs : SM σ τ n o h L) (hw : wfH r2 n2) : ∃ o2 h2 : Nat, SM (st9 (hsM σ o h) 0 r2) (st9 (rcM τ h) 0 r2) n2 o2 h2 L := by
  obtain ⟨a1, a2, a3, a4, a5, a6, a7, a8⟩ := hs
  have ho := a3.2
  have e6 : st9 (hsM σ o h) 0 r2 6 = σ 6 := (st9_n _ _ (by decide)).trans (hsM_r σ o h (by decide) (by omega))
  have e7 : st9 (hsM σ o h) 0 r2 7 = σ 7 := (st9_n _ _ (by decide)).trans (hsM_r σ o h (by decide) (by omega))
  have e9 : st9 (hsM σ o h) 0 r2 9 = σ 9 := (st9_n _ _ (by decide)).trans (hsM_r σ o h (by decide) (by omega))
  have e16 : ∀ t, t < 2 → st9 (hsM σ o h) 0 r2 (16 + t) = σ (16 + t) := fun t ht => (st9_n _ _ (by omega)).trans (hsM_r σ o h (by omega) (by omega))
  have m2 : st9 (rcM τ h) 0 r2 2 = τ 2 := (st9_n _ _ (by decide)).trans (rcM_i τ h 2 (by decide) (by decide))
  have m3 : st9 (rcM τ h) 0 r2 3 = τ 3 := (st9_n _ _ (by decide)).trans (rcM_i τ h 3 (by decide) (by decide))
  have m4 : st9 (rcM τ h) 0 r2 4 = τ 4 := (st9_n _ _ (by decide)).trans (rcM_i τ h 4 (by decide) (by decide))
  have m12 : st9 (rcM τ h) 0 r2 12 = upd (τ 12) 0 (nI (rcN h + 1)) := (st9_n _ _ (by decide)).trans (by rw [rcM, st9_s])
  have m1 : st9 (rcM τ h) 0 r2 1 = rcH τ h := (st9_n _ _ (by decide)).trans (by rw [rcM, st9_n _ _ (by decide), st9_s])
  have e8 : st9 (hsM σ o h) 0 r2 8 = if h < 6 then upd (σ 8) 1 (nI (h + 1)) else upd (σ 8) 0 (nI ((o + 1) % 6)) := (st9_n _ _ (by decide)).trans (by rw [hsM, st9_s])
  have erow : st9 (hsM σ o h) 0 r2 (10 + (o + h) % 6) = va_cpy (σ 0) (σ (10 + (o + h) % 6)) 0 0 151 := (st9_n _ _ (by omega)).trans (by rw [hsM, st9_n _ _ (by omega), st9_s])
  have eold : ∀ j, j < 6 → j ≠ (o + h) % 6 → st9 (hsM σ o h) 0 r2 (10 + j) = σ (10 + j) := fun j hj hn => (st9_n _ _ (by omega)).trans (hsM_r σ o h (by omega) (by omega))
  by_cases h6 : h < 6
  · refine ⟨o, h + 1, ?_⟩
    have hN : rcN h = h := if_neg (by omega)
    have hH : rcH τ h = mvF (τ 0) (τ 1) 0 (h * 151) 151 := by rw [rcH, hN, if_neg (by omega)]
    rw [if_pos h6] at e8
    rw [hN] at m12
    rw [hH] at m1
    unfold SM
    rw [e6, e7, e8, e9, m1, m2, m3, m4, m12, st9_s, st9_s]
    refine ⟨hw, rfl, ⟨by rw [upd_n _ _ (by decide)]; exact a3.1, ho⟩, ⟨upd_s _ _ _, by omega, upd_s _ _ _⟩, fun i hi => ?_, ⟨a6.1, a6.2.1, by rw [upd_n _ _ (by decide)]; exact a6.2.2⟩, a7, fun t ht => by rw [e16 t ht]; exact a8 t ht⟩
    by_cases e : i = h
    · subst e
      rw [erow]
      refine ⟨⟨n, wfH_congr a1 (fun k hk => cpy_151 _ _ hk)⟩, fun k hk => ?_⟩
      rw [cpy_151 _ _ hk, ← a2, show 151 * i + k = i * 151 + k by omega, mvF_in _ _ _ _ _ _ hk, Nat.zero_add]
    · rw [eold _ (by omega) (by omega)]
      obtain ⟨b1, b2⟩ := a5 i (by omega)
      refine ⟨b1, fun k hk => ?_⟩
      rw [mvF_out _ _ _ _ _ (by omega)]
      exact b2 k hk
  · have h66 : h = 6 := by have := a4.2.1; omega
    subst h66
    refine ⟨(o + 1) % 6, 6, ?_⟩
    have hN : rcN 6 = 5 := if_pos rfl
    have hH : rcH τ 6 = mvF (τ 0) (shF (τ 1) 755) 0 (5 * 151) 151 := by rw [rcH, hN, if_pos rfl]
    rw [if_neg h6] at e8
    rw [hN] at m12
    rw [hH] at m1
    unfold SM
    rw [e6, e7, e8, e9, m1, m2, m3, m4, m12, st9_s, st9_s]
    refine ⟨hw, rfl, ⟨upd_s _ _ _, by omega⟩, ⟨by rw [upd_n _ _ (by decide)]; exact a4.1, by omega, upd_s _ _ _⟩, fun i hi => ?_, ⟨a6.1, a6.2.1, by rw [upd_n _ _ (by decide)]; exact a6.2.2⟩, a7, fun t ht => by rw [e16 t ht]; exact a8 t ht⟩
    by_cases e : i = 5
    · subst e
      rw [show ((o + 1) % 6 + 5) % 6 = (o + 6) % 6 by omega, erow]
      refine ⟨⟨n, wfH_congr a1 (fun k hk => cpy_151 _ _ hk)⟩, fun k hk => ?_⟩
      rw [cpy_151 _ _ hk, ← a2, show 151 * 5 + k = 5 * 151 + k by omega, mvF_in _ _ _ _ _ _ hk, Nat.zero_add]
    · rw [show ((o + 1) % 6 + i) % 6 = (o + (i + 1)) % 6 by omega, eold _ (by omega) (by omega)]
      obtain ⟨b1, b2⟩ := a5 (i + 1) (by omega)
      refine ⟨b1, fun k hk => ?_⟩
      rw [mvF_out _ _ _ _ _ (by omega), shF_spec, if_pos (by omega), show 151 * i + k + 151 = 151 * (i + 1) + k by omega]
      exact b2 k hk
theorem SM.undo {σ τ : S9} {n o h L : Nat} (hs : SM σ τ n o h L) (h0 : ¬ h = 0) : ∃ n2 : Nat, SM (tbM σ o (h - 1)) (un9 τ h) n2 o (h - 1) L := by
  obtain ⟨a1, a2, a3, a4, a5, a6, a7, a8⟩ := hs
  obtain ⟨⟨m, b1⟩, b2⟩ := a5 (h - 1) (by omega)
  refine ⟨m, ?_⟩
  have hr : un9 τ h 0 = tbM σ o (h - 1) 0 := by
    rw [un9, tbM, st9_s, st9_s]
    exact cpy_mv (fun k hk => by rw [← b2 k hk, Nat.mul_comm]) a2
  have hw : wfH (tbM σ o (h - 1) 0) m := by
    rw [tbM, st9_s]
    exact wfH_congr b1 (fun k hk => cpy_151 _ _ hk)
  have e8 : tbM σ o (h - 1) 8 = upd (σ 8) 1 (nI (h - 1)) := by rw [tbM, st9_n _ _ (by decide), st9_s]
  have ee : ∀ i, i ≠ 0 → i ≠ 8 → tbM σ o (h - 1) i = σ i := fun i h1 h2 => by rw [tbM, st9_n _ _ h1, st9_n _ _ h2]
  have m12 : un9 τ h 12 = upd (τ 12) 0 (nI (h - 1)) := by rw [un9, st9_n _ _ (by decide), st9_s]
  have mm : ∀ i, i ≠ 0 → i ≠ 12 → un9 τ h i = τ i := fun i h1 h2 => by rw [un9, st9_n _ _ h1, st9_n _ _ h2]
  unfold SM
  rw [hr, e8, m12, ee 6 (by decide) (by decide), ee 7 (by decide) (by decide), ee 9 (by decide) (by decide), mm 1 (by decide) (by decide), mm 2 (by decide) (by decide), mm 3 (by decide) (by decide), mm 4 (by decide) (by decide)]
  exact ⟨hw, rfl, ⟨by rw [upd_n _ _ (by decide)]; exact a3.1, a3.2⟩, ⟨upd_s _ _ _, by have := a4.2.1; omega, upd_s _ _ _⟩, fun i hi => by rw [ee _ (by omega) (by omega)]; exact a5 i (by omega), ⟨a6.1, a6.2.1, by rw [upd_n _ _ (by decide)]; exact a6.2.2⟩, a7, fun t ht => by rw [ee _ (by omega) (by omega)]; exact a8 t ht⟩
theorem SM.save {σ τ : S9} {n o h L s : Nat} (hs : SM σ τ n o h L) (hs2 : s < 2) : SM (c_savS σ s) (q_savS τ s) n o h L := by
  obtain ⟨a1, a2, a3, a4, a5, a6, a7, a8⟩ := hs
  have e9 : c_savS σ s 9 = upd (σ 9) s 1 := by rw [c_savS, st9_s]
  have es : c_savS σ s (16 + s) = va_cpy (σ 0) (σ (16 + s)) 0 0 151 := by
    rw [c_savS, st9_n _ _ (by omega), show 10 + (6 + s) = 16 + s by omega, st9_s]
  have ee : ∀ i, i ≠ 9 → i ≠ 16 + s → c_savS σ s i = σ i := fun i h1 h2 => by rw [c_savS, st9_n _ _ h1, st9_n _ _ (by omega)]
  have m2 : q_savS τ s 2 = mvF (τ 0) (τ 2) 0 (151 * s) 151 := by rw [q_savS, st9_n _ _ (by decide), st9_s]
  have m3 : q_savS τ s 3 = upd (τ 3) s 1 := by rw [q_savS, st9_s]
  have mm : ∀ i, i ≠ 2 → i ≠ 3 → q_savS τ s i = τ i := fun i h1 h2 => by rw [q_savS, st9_n _ _ h2, st9_n _ _ h1]
  unfold SM
  rw [e9, m2, m3, ee 0 (by decide) (by omega), ee 6 (by decide) (by omega), ee 7 (by decide) (by omega), ee 8 (by decide) (by omega), mm 0 (by decide) (by decide), mm 1 (by decide) (by decide), mm 4 (by decide) (by decide), mm 12 (by decide) (by decide)]
  refine ⟨a1, a2, a3, a4, fun i hi => by rw [ee _ (by omega) (by omega)]; exact a5 i hi, a6, a7, fun t ht => ?_⟩
  by_cases e : t = s
  · subst e
    rw [es, upd_s, upd_s]
    refine Or.inr ⟨by decide, by decide, ⟨n, wfH_congr a1 (fun k hk => cpy_151 _ _ hk)⟩, fun k hk => ?_⟩
    rw [cpy_151 _ _ hk, mvF_in _ _ _ _ _ _ hk, Nat.zero_add, a2]
  · rw [ee _ (by omega) (by omega), upd_n _ _ e, upd_n _ _ e]
    rcases a8 t ht with b | ⟨b1, b2, b3, b4⟩
    · exact Or.inl b
    · refine Or.inr ⟨b1, b2, b3, fun k hk => ?_⟩
      rw [mvF_out _ _ _ _ _ (by omega)]
      exact b4 k hk
theorem SM.res {σ τ : S9} {n o h L s : Nat} (hs : SM σ τ n o h L) (hs2 : s < 2) (hv : ¬ σ 9 s = 0) : mvF (τ 2) (τ 0) (151 * s) 0 151 = va_cpy (hsM σ o h (10 + (6 + s))) (σ 0) 0 0 151 ∧ ∃ m, wfH (va_cpy (hsM σ o h (10 + (6 + s))) (σ 0) 0 0 151) m := by
  obtain ⟨a1, a2, a3, a4, a5, a6, a7, a8⟩ := hs
  rcases a8 s hs2 with b | ⟨-, -, ⟨m, b3⟩, b4⟩
  · exact absurd b.1 hv
  · rw [show 10 + (6 + s) = 16 + s by omega, hsM_r σ o h (by omega) (by omega)]
    exact ⟨cpy_mv b4 a2, m, wfH_congr b3 (fun k hk => cpy_151 _ _ hk)⟩
theorem SM.resE {σ τ : S9} {n o h L : Nat} (hs : SM σ τ n o h L) (t : Int32) : q_resE τ t = c_resE σ t := by
  unfold q_resE c_resE
  by_cases ht : p_in t 0 1 = 0
  · rw [if_pos ht, if_pos ht]
  · rw [if_neg ht, if_neg ht]
    obtain ⟨s, hs2, rfl⟩ := p_in_nI (n := 1) (by decide) ht
    rw [nI_cl (by omega)]
    rcases hs.2.2.2.2.2.2.2 s (by omega) with b | ⟨b1, b2, -⟩
    · rw [if_pos b.1, if_pos b.2]
    · rw [if_neg b1, if_neg b2]
theorem SM.put {σ τ : S9} {n o h L c : Nat} {x : Int64} (hs : SM σ τ n o h L) (hc : L + c ≤ 60) : SM (st9 (st9 σ 6 (ptF (σ 6) x L c c)) 7 (upd (σ 7) 0 (nI (L + c)))) (st9 (st9 τ 4 (ptF (τ 4) x L c c)) 12 (upd (τ 12) 1 (nI (L + c)))) n o h (L + c) := by
  obtain ⟨a1, a2, a3, a4, a5, a6, a7, a8⟩ := hs
  have ee : ∀ i, i ≠ 6 → i ≠ 7 → st9 (st9 σ 6 (ptF (σ 6) x L c c)) 7 (upd (σ 7) 0 (nI (L + c))) i = σ i := fun i h1 h2 => by rw [st9_n _ _ h2, st9_n _ _ h1]
  have mm : ∀ i, i ≠ 4 → i ≠ 12 → st9 (st9 τ 4 (ptF (τ 4) x L c c)) 12 (upd (τ 12) 1 (nI (L + c))) i = τ i := fun i h1 h2 => by rw [st9_n _ _ h2, st9_n _ _ h1]
  unfold SM
  rw [ee 0 (by decide) (by decide), ee 8 (by decide) (by decide), ee 9 (by decide) (by decide), mm 0 (by decide) (by decide), mm 1 (by decide) (by decide), mm 2 (by decide) (by decide), mm 3 (by decide) (by decide), st9_s, st9_s, st9_n _ _ (show 6 ≠ 7 by decide), st9_s, st9_n _ _ (show 4 ≠ 12 by decide), st9_s]
  refine ⟨a1, a2, a3, ⟨a4.1, a4.2.1, by rw [upd_n _ _ (by decide)]; exact a4.2.2⟩, fun i hi => by rw [ee _ (by omega) (by omega)]; exact a5 i hi, ⟨upd_s _ _ _, hc, upd_s _ _ _⟩, fun i hi => ?_, fun t ht => by rw [ee _ (by omega) (by omega)]; exact a8 t ht⟩
  unfold ptF
  by_cases hl : L ≤ i ∧ i < L + c
  · rw [if_pos hl, if_pos hl]
    obtain ⟨z, hz⟩ := sb_by8 x (c - 1 - (i - L))
    exact ⟨rfl, by rw [hz]; exact sc_nar z⟩
  · rw [if_neg hl, if_neg hl]
    exact a7 i (by omega)
theorem SM.wipe {σ τ : S9} {n o h L : Nat} (hs : SM σ τ n o h L) : SM (st9 σ 7 (upd (σ 7) 0 0)) (st9 τ 12 (upd (τ 12) 1 0)) n o h 0 := by
  obtain ⟨a1, a2, a3, a4, a5, a6, a7, a8⟩ := hs
  have ee : ∀ i, i ≠ 7 → st9 σ 7 (upd (σ 7) 0 0) i = σ i := fun i h2 => st9_n _ _ h2
  have mm : ∀ i, i ≠ 12 → st9 τ 12 (upd (τ 12) 1 0) i = τ i := fun i h2 => st9_n _ _ h2
  unfold SM
  rw [ee 0 (by decide), ee 6 (by decide), ee 8 (by decide), ee 9 (by decide), mm 0 (by decide), mm 1 (by decide), mm 2 (by decide), mm 3 (by decide), mm 4 (by decide), st9_s, st9_s]
  exact ⟨a1, a2, a3, ⟨a4.1, a4.2.1, by rw [upd_n _ _ (by decide)]; exact a4.2.2⟩, fun i hi => by rw [ee _ (by omega)]; exact a5 i hi, ⟨upd_s _ _ _, by decide, upd_s _ _ _⟩, fun i hi => absurd hi (Nat.not_lt_zero i), fun t ht => by rw [ee _ (by omega)]; exact a8 t ht⟩
/-! texts: only what stands in them counts -/
theorem chr_cg {T T2 : Nat → Int32} {L : Nat} (h : ∀ i, i < L → T2 i = T i) : chr T2 L = chr T L := by
  funext a
  unfold chr
  by_cases ha : a < L
  · rw [if_pos ha, if_pos ha, h a ha]
  · rw [if_neg ha, if_neg ha]
theorem rd_cg {T T2 : Nat → Int32} {L : Nat} (h : chr T2 L = chr T L) (a : Nat) : rdf T2 L a = rdf T L a ∧ rdq T2 L a = rdq T L a ∧ rdd T2 L a = rdd T L a ∧ rd3 T2 L a = rd3 T L a := by
  have hdg : ∀ a m, dg T2 L a m = dg T L a m := fun a m => by unfold dg; rw [h]
  have hpt : ∀ a, ptv T2 L a = ptv T L a := fun a => by unfold ptv; rw [h]
  have h1 : rdf T2 L a = rdf T L a := hdg a 7
  have h2 : rd1 T2 L a = rd1 T L a := by unfold rd1; rw [h1]
  have h3 : rdq T2 L a = rdq T L a := by unfold rdq; rw [h1, h2, hpt]
  have h4 : rd2 T2 L a = rd2 T L a := by unfold rd2; rw [h1, h2, hpt]
  have h5 : ∀ a, dy1 T2 L a = dy1 T L a := fun a => by unfold dy1; rw [hdg]
  have h6 : ∀ a, dy2 T2 L a = dy2 T L a := fun a => by unfold dy2; rw [h5, h]
  have h7 : ∀ a, dyv T2 L a = dyv T L a := fun a => by unfold dyv dyc; rw [hdg, h6]
  have h8 : ∀ a, dya T2 L a = dya T L a := fun a => by unfold dya dyc; rw [hdg, h6, h5]
  exact ⟨h1, h3, by unfold rdd; rw [h3, h4, h7], by unfold rd3; rw [h3, h4, h8]⟩
theorem ffl_cg {T T2 : Nat → Int32} {L : Nat} (h : chr T2 L = chr T L) : ∀ n a, ffl T2 L n a = ffl T L n a
  | 0, a => rfl
  | n + 1, a => by
    obtain ⟨-, -, e3, e4⟩ := rd_cg h a
    rw [ffl, ffl, e3, e4, h, ffl_cg h n]
theorem cy_cg {T T2 : Nat → Int32} {L : Nat} (h : chr T2 L = chr T L) : ∀ n r a, cy T2 L n r a = cy T L n r a
  | 0, r, a => rfl
  | n + 1, r, a => by
    obtain ⟨e1, e2, e3, e4⟩ := rd_cg h a
    rw [cy, cy, e1, e2, e3, e4, cy_cg h n]
theorem cy_wf {T : Nat → Int32} {L n : Nat} : ∀ m r a, wfH r n → wfH (cy T L m r a).2 n
  | 0, r, a, hw => hw
  | m + 1, r, a, hw => by
    rw [cy]
    by_cases h1 : a < L
    · rw [if_pos h1]
      by_cases h2 : p_why r (rdf T L a) (rdd T L a) (rdq T L a) = 0
      · rw [if_pos h2]
        obtain ⟨hz, f, d, q, hf, hd, hq, ef, ed, eq, hcs⟩ := p_why_ge hw.1.1 hw.1.2.1 (show 0 ≤ p_why r (rdf T L a) (rdd T L a) (rdq T L a) by rw [h2]; decide)
        refine cy_wf m _ _ ?_
        rw [ef, ed, eq, q_k, nI_cl (by omega), nI_cl (by omega)]
        exact wfH_upd hw (k70 hd hq) (Or.inr ⟨f, hf, rfl⟩)
      · rw [if_neg h2]
        exact hw
    · rw [if_neg h1]
      exact hw
theorem SM.chr {σ τ : S9} {n o h L : Nat} (hs : SM σ τ n o h L) : chr (τ 4) L = chr (σ 6) L := chr_cg (fun i hi => (hs.2.2.2.2.2.2.1 i hi).1)
theorem SM.carry {σ τ v : S9} {n o h L : Nat} (hs : SM σ τ n o h L) (hv : cyE τ h L v) : ∃ o2 h2 : Nat, SM (st9 (st9 (hsM σ o h) 0 (cy (σ 6) L 61 (σ 0) 0).2) 7 (upd (σ 7) 0 0)) v n o2 h2 0 := by
  obtain ⟨o2, h2, hr⟩ := hs.rec (cy_wf (T := σ 6) (L := L) 61 (σ 0) 0 hs.1)
  have hwp := hr.wipe
  refine ⟨o2, h2, ?_⟩
  unfold cyE at hv
  rw [cy_cg hs.chr, hs.2.1] at hv
  have e7 : st9 (hsM σ o h) 0 (cy (σ 6) L 61 (σ 0) 0).2 7 = σ 7 := (st9_n _ _ (by decide)).trans (hsM_i σ o h 7 (by decide) (by decide))
  rw [e7, st9_n _ _ (show 12 ≠ 0 by decide)] at hwp
  exact hwp.fr (cc9_rf _) (ms9_tx hv)
/-! the rows that changes make -/
theorem wfH_film {r : Nat → Int32} {n : Nat} {d c m s f : Int32} (hw : wfH r n) (hn : n < 8) (hE : q_filmE r d c m s f = 0) : wfH (film9 r n d c m s f) (n + 1) := by
  have hs : ¬ p_in s 20 90 = 0 := fun e => by
    unfold q_filmE at hE
    rw [if_pos e] at hE
    by_cases h1 : p_in d 0 3 = 0
    · rw [if_pos h1] at hE
      exact absurd hE (by decide)
    · rw [if_neg h1] at hE
      by_cases h2 : p_in c 1 999 = 0
      · rw [if_pos h2] at hE
        exact absurd hE (by decide)
      · rw [if_neg h2] at hE
        by_cases h3 : p_in m 0 500 = 0
        · rw [if_pos h3] at hE
          exact absurd hE (by decide)
        · rw [if_neg h3] at hE
          exact absurd hE (by decide)
  have hsv : ∃ v : Nat, 20 ≤ v ∧ v ≤ 90 ∧ s = nI v := by
    have h1 := p_in_ne hs
    obtain ⟨j, hj, rfl⟩ := nI_of2 (x := s) (M := 90) (n := 90) rfl (fun q => absurd (Int32.lt_of_lt_of_le q (show (0 : Int32) ≤ 20 by decide)) (Int32.not_lt.mpr h1.1)) h1.2
    exact ⟨j, (nI_leI (a := 20) (by decide) (by omega)).mp h1.1, hj, rfl⟩
  have old : ∀ i, i ≠ 5 → (i < 6 + 5 * n ∨ 6 + 5 * n + 4 < i) → film9 r n d c m s f i = r i := fun i h1 h2 => by
    unfold film9
    rw [upd_n _ _ h1, upd_n _ _ (by omega), upd_n _ _ (by omega), upd_n _ _ (by omega), upd_n _ _ (by omega), upd_n _ _ (by omega)]
  refine ⟨⟨upd_s _ _ _, by omega, fun k hk => ?_⟩, fun f' hf' => ?_, fun d' hd' => ?_⟩
  · rw [old _ (by omega) (by omega)]
    rcases hw.1.2.2 k hk with e | ⟨g, hg, e⟩
    · exact Or.inl e
    · exact Or.inr ⟨g, by omega, e⟩
  · by_cases e : f' = n
    · subst e
      obtain ⟨v, v1, v2, ev⟩ := hsv
      refine ⟨v, v1, v2, ?_⟩
      unfold film9
      rw [upd_n _ _ (by omega), upd_n _ _ (by omega), upd_s, ev]
    · rw [old _ (by omega) (by omega)]
      exact hw.2.1 f' (by omega)
  · rw [old _ (by omega) (by omega)]
    exact hw.2.2 d' hd'
theorem wfH_set {r : Nat → Int32} {n i : Nat} {v : Int32} (hw : wfH r n) (hi : i < 5) : wfH (upd r i v) n := by
  refine ⟨⟨by rw [upd_n _ _ (by omega)]; exact hw.1.1, hw.1.2.1, fun k hk => by rw [upd_n _ _ (by omega)]; exact hw.1.2.2 k hk⟩, fun f hf => by rw [upd_n _ _ (by omega)]; exact hw.2.1 f hf, fun d hd => by rw [upd_n _ _ (by omega)]; exact hw.2.2 d hd⟩
theorem wfH_rent {r : Nat → Int32} {n d0 v : Nat} (hw : wfH r n) (hv : v ≤ 999) : wfH (upd r (116 + d0) (nI v)) n := by
  have h8 := hw.1.2.1
  refine ⟨⟨by rw [upd_n _ _ (by omega)]; exact hw.1.1, h8, fun k hk => by rw [upd_n _ _ (by omega)]; exact hw.1.2.2 k hk⟩, fun f hf => by rw [upd_n _ _ (by omega)]; exact hw.2.1 f hf, fun d hd => ?_⟩
  by_cases e : d = d0
  · subst e
    exact ⟨v, hv, upd_s _ _ _⟩
  · rw [upd_n _ _ (by omega)]
    exact hw.2.2 d hd
theorem wfH_ltF {r : Nat → Int32} {n d : Nat} (hw : wfH r n) (hd : d < 35) : wfH (ltF r d 2) n := by
  have h1 := wfH_upd (k := 2 * d + 0) (x := -6) hw (by omega) (Or.inl rfl)
  have h2 := wfH_upd (k := 2 * d + 1) (x := -6) h1 (by omega) (Or.inl rfl)
  have e : ltF r d 2 = upd (upd r (46 + (2 * d + 0)) (-6)) (46 + (2 * d + 1)) (-6) := by
    show upd (upd r (46 + 2 * d + 0) (-6)) (46 + 2 * d + 1) (-6) = _
    rw [show 46 + 2 * d + 0 = 46 + (2 * d + 0) by omega, show 46 + 2 * d + 1 = 46 + (2 * d + 1) by omega]
  rw [e]
  exact h2
theorem wfH_let {r : Nat → Int32} {n : Nat} {d v : Int32} (hw : wfH r n) (h1 : ¬ p_in d 0 34 = 0) (h2 : ¬ p_in v 0 999 = 0) : wfH (q_letR r d.toNatClampNeg v) n := by
  obtain ⟨d, hd, rfl⟩ := p_in_nI (n := 34) (by decide) h1
  obtain ⟨v, hv, rfl⟩ := p_in_nI (n := 999) (by decide) h2
  rw [nI_cl (by omega)]
  unfold q_letR
  by_cases e : nI v ≤ 0
  · rw [if_pos e]
    exact wfH_rent hw hv
  · rw [if_neg e]
    exact wfH_rent (wfH_ltF hw (by omega)) hv
def iM0 : S9 := fun k => if k = 0 then r0 else fun _ => 0
theorem SM_0 : SM iC0 iM0 0 0 0 0 := by
  have hr : ∀ k, r0 k = rF fsF 70 k := fun _ => rfl
  refine ⟨⟨⟨rfl, by decide, fun k hk => Or.inl ?_⟩, fun f hf => absurd hf (Nat.not_lt_zero f), fun d hd => ⟨0, by decide, ?_⟩⟩, rfl, ⟨rfl, by decide⟩, ⟨rfl, by decide, rfl⟩, fun i hi => absurd hi (Nat.not_lt_zero i), ⟨rfl, by decide, rfl⟩, fun i hi => absurd hi (Nat.not_lt_zero i), fun t ht => Or.inl ⟨rfl, rfl⟩⟩
  · show rF fsF 70 (46 + k) = -6
    rw [rF, if_pos (by omega)]
  · show rF fsF 70 (116 + d) = nI 0
    rw [rF, if_neg (by omega), show 116 + d = (111 + d) + 5 by omega]
    rfl

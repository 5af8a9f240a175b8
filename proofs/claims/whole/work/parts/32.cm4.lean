/-! ===== texts: what the class reads of a show is what the reference reads; characters of a long ===== -/
theorem rdd_ok {T : Nat → Int32} {L a : Nat} (h : ¬ rdd T L a < 0) : ∃ f p j : Nat, hQ T L a f p ∧ a < L ∧ a + 1 < L ∧ a + 2 < L ∧ j ≤ 9 ∧ chr T L (a + 2) - 48 = nI j := by
  by_cases hf : p_in (chr T L a - 48) 0 7 = 0
  · have e : rdf T L a = -1 := dgx (n := 7) hf
    have e2 : rdq T L a = -1 := by rw [rdq, e]; rfl
    have e4 : rdd T L a = -1 := by rw [rdd, e2]; rfl
    exact absurd (by rw [e4]; decide) h
  · obtain ⟨f, hf7, ef⟩ := p_in_nI (n := 7) (by decide) hf
    have ha : a < L := chr_lt (T := T) (fun q => hf (by rw [q]; decide))
    have hFh : hF T L a f := ⟨hf7, ef⟩
    obtain ⟨-, -, e2, e3⟩ := hF_rd hFh
    have hcs : ptv T L (a + 1) = -1 ∨ a + 1 < L ∧ ∃ p : Nat, p < 2 ∧ ptv T L (a + 1) = nI p := by
      rcases ptv_cs T L (a + 1) with ⟨n1, n2, ep⟩ | ⟨e1, hl, ep⟩ | ⟨n1, e1, hl, ep⟩
      · exact Or.inl ep
      · exact Or.inr ⟨hl, 0, by decide, ep⟩
      · exact Or.inr ⟨hl, 1, by decide, ep⟩
    rcases hcs with ep | ⟨hl, p, hp, ep⟩
    · rw [ep] at e2
      have e4 : rdd T L a = -1 := by rw [rdd, e2]; rfl
      exact absurd (by rw [e4]; decide) h
    · have hQh : hQ T L a f p := ⟨hFh, hp, ep⟩
      by_cases hd : p_in (chr T L (a + 2) - 48) 0 9 = 0
      · obtain ⟨-, -, e4, e5⟩ := hQ_rd hQh
        have ev : dg T L (a + 2) 9 = -1 := dgx (n := 9) hd
        have hc : ¬ dyc T L (a + 2) := fun q => q.1 (by rw [ev]; decide)
        rw [dyv, if_neg hc, ev] at e4
        exact absurd (by rw [e4]; decide) h
      · obtain ⟨j, hj, ej⟩ := p_in_nI (n := 9) (by decide) hd
        exact ⟨f, p, j, hQh, ha, hl, chr_lt (T := T) (fun q => hd (by rw [q]; decide)), hj, ej⟩
theorem ne44 {T : Nat → Int32} {L a j : Nat} (hj : j ≤ 9) (ha : a < L) (h : chr T L a - 48 = nI j) : ¬ T a = 44 := by
  have e := sub48 h
  rw [chr_in ha] at e
  rw [e]
  exact nI_b (b := 44) (by omega) (by decide) (by omega)
theorem cha_chr {T : Nat → Int32} {L a : Nat} (ha : a < L) : cha T L a = chr T L a := by rw [cha, if_pos ha, chr_in ha]
theorem eos_end {T : Nat → Int32} {L a : Nat} (hal : a ≤ L) (h : a = L ∨ chr T L a = 44) : eos T (L - a) a = a := by
  by_cases e : a = L
  · rw [e]
    exact eos_L T L
  · have h2 : a < L := by omega
    rw [chr_in h2] at h
    exact eos_a h2 (h.resolve_left e)
/-- a show that can stand at a: where it ends, its film, part and day, as the class reads them -/
theorem show_ok {T : Nat → Int32} {L n a : Nat} (hL6 : L ≤ 60) (hal : a ≤ L) (h : ffl T L (n + 1) a = -6) : a + 3 ≤ rd3 T L a ∧ eos T (L - a) a = rd3 T L a ∧ cha T L a - 48 = rdf T L a ∧ (if cha T L (a + 1) = 97 then 0 else 1) = rdq T L a ∧ da T L (rd3 T L a - (a + 2)) 0 (a + 2) = rdd T L a := by
  obtain ⟨hd0, hend⟩ := ffl_ok hL6 hal h
  have hend : rd3 T L a = L ∨ chr T L (rd3 T L a) = 44 := hend.elim Or.inl (fun q => Or.inr q.2.1)
  have hle := (rd3_le T hal).1
  obtain ⟨f, p, j, hQh, h0, h1, h2, hj, ej⟩ := rdd_ok hd0
  obtain ⟨ef, eq, ed, e3⟩ := hQ_rd hQh
  have n0 : ¬ T a = 44 := ne44 (by have := hQh.1.1; omega) h0 hQh.1.2
  have n1 : ¬ T (a + 1) = 44 := by
    rcases ptv_cs T L (a + 1) with ⟨-, -, ep⟩ | ⟨e1, -, -⟩ | ⟨-, e1, -, -⟩
    · rw [hQh.2.2] at ep
      exact absurd (show nI p < 0 by rw [ep]; decide) (nI_nneg (by have := hQh.2.1; omega))
    · rw [chr_in h1] at e1
      rw [e1]
      decide
    · rw [chr_in h1] at e1
      rw [e1]
      decide
  have n2 : ¬ T (a + 2) = 44 := ne44 hj h2 ej
  have e2 : eos T (L - a) a = eos T (L - (a + 3)) (a + 3) := by
    rw [eos_b h0 n0, eos_b h1 n1]
    exact eos_b h2 n2
  have eqq : (if cha T L (a + 1) = 97 then 0 else 1) = rdq T L a := by
    rw [eq, ← hQh.2.2, cha_chr h1, ptv]
    by_cases hx : chr T L (a + 1) = 97
    · rw [if_pos hx, if_pos hx]
    · rw [if_neg hx, if_neg hx]
      by_cases hy : chr T L (a + 1) = 101
      · rw [if_pos hy]
      · have : ptv T L (a + 1) = -1 := by rw [ptv, if_neg hx, if_neg hy]
        rw [hQh.2.2] at this
        exact absurd (show nI p < 0 by rw [this]; decide) (nI_nneg (by have := hQh.2.1; omega))
  have eff : cha T L a - 48 = rdf T L a := by rw [ef, cha_chr h0]; exact hQh.1.2
  by_cases hc : dyc T L (a + 2)
  · obtain ⟨j0, i, hi, ei, hlt⟩ := (dyc_iff hj ej).mp hc
    obtain ⟨e6, e7⟩ := day_2 hj ej ei hc
    have h3 : a + 3 < L := chr_lt (T := T) (fun q => absurd (show nI i < 0 by rw [← ei]; show chr T L (a + 3) - 48 < 0; rw [q]; decide) (nI_nneg (by omega)))
    rw [e6] at ed
    rw [e7] at e3
    refine ⟨by omega, ?_, eff, eqq, ?_⟩
    · rw [e2, eos_b h3 (ne44 hi h3 ei)]
      show eos T (L - (a + 4)) (a + 4) = _
      have e3 : rd3 T L a = a + 4 := e3
      rw [e3] at hend hle ⊢
      exact eos_end hle hend
    · rw [e3, ed, show a + 2 + 2 - (a + 2) = 2 by omega, da, da, da, cha_chr h2, cha_chr h3]
      have e1 : chr T L (a + 2) = nI j + 48 := by rw [← ej]; grind
      have e5 : chr T L (a + 2 + 1) = nI i + 48 := by rw [← ei]; grind
      have e9 : nI (10 * j + i) = 10 * nI j + nI i := by rw [← nI_add, ← pk_mul]; rfl
      rw [e1, e5, e9]
      grind
  · obtain ⟨e6, e7⟩ := day_1 hj ej hc
    rw [e6] at ed
    rw [e7] at e3
    refine ⟨by omega, ?_, eff, eqq, ?_⟩
    · rw [e2]
      have e3 : rd3 T L a = a + 3 := e3
      rw [e3] at hend hle ⊢
      exact eos_end hle hend
    · rw [e3, ed, show a + 2 + 1 - (a + 2) = 1 by omega, da, da, cha_chr h2, ← ej]
      grind
/-! fuel -/
theorem ffl_more {T : Nat → Int32} {L : Nat} (n m a : Nat) (hal : a ≤ L) (hn : L < a + n) (hm : L < a + m) : ffl T L n a = ffl T L m a := (df_J n a hal hn).symm.trans (df_J m a hal hm)
theorem cy_more {T : Nat → Int32} {L : Nat} : ∀ n r a, L ≤ a + n → cy T L n r a = cy T L (n + 1) r a := by
  intro n
  induction n with
  | zero => intro r a h; rw [cy_ge T (by omega), cy_ge T (by omega)]
  | succ n ih =>
    intro r a h
    by_cases hlt : a < L
    · have l3 := rd3_le T (Nat.le_of_lt hlt)
      rw [cy, cy, if_pos hlt, if_pos hlt, ih _ _ (show L ≤ rd3 T L a + 1 + n by omega)]
    · rw [cy_ge T (by omega), cy_ge T (by omega)]
theorem cyc_stop {T : Nat → Int32} {L a j N k9 M9 : Nat} {R9 r9 : Nat → Int32} (hj : j < N) (hlt : a < L) (hw : ¬ p_why r9 (rdf T L a) (rdd T L a) (rdq T L a) = 0) (hcy : k9 + (cy T L (N - j) r9 a).1 = M9 ∧ (cy T L (N - j) r9 a).2 = R9) : k9 = M9 ∧ r9 = R9 := by
  rw [show N - j = (N - (j + 1)) + 1 by omega, cy, if_pos hlt, if_neg hw] at hcy
  exact hcy
theorem cyc_end {T : Nat → Int32} {L a j N k9 M9 : Nat} {R9 r9 : Nat → Int32} (hge : L ≤ a) (hcy : k9 + (cy T L (N - j) r9 a).1 = M9 ∧ (cy T L (N - j) r9 a).2 = R9) : k9 = M9 ∧ r9 = R9 := by
  rw [cy_ge _ hge] at hcy
  exact hcy
theorem cyc_ok {T : Nat → Int32} {L a j N : Nat} (hL6 : L ≤ 60) (hj : j < N) (hlt : a < L) (hff : L ≤ a ∨ ffl T L (N - j) a = -6) : a + 3 ≤ rd3 T L a ∧ eos T (L - a) a = rd3 T L a ∧ cha T L a - 48 = rdf T L a ∧ (if cha T L (a + 1) = 97 then 0 else 1) = rdq T L a ∧ da T L (rd3 T L a - (a + 2)) 0 (a + 2) = rdd T L a := by
  have hff := hff.resolve_left (by omega)
  rw [show N - j = (N - (j + 1)) + 1 by omega] at hff
  exact show_ok hL6 (by omega) hff
theorem cyc_next {T : Nat → Int32} {L a j N k9 M9 : Nat} {R9 r9 r2 : Nat → Int32} (hL6 : L ≤ 60) (hj : j < N) (hfu : L + 1 < a + (N - j)) (hlt : a < L) (hw : p_why r9 (rdf T L a) (rdd T L a) (rdq T L a) = 0) (hff : L ≤ a ∨ ffl T L (N - j) a = -6) (hcy : k9 + (cy T L (N - j) r9 a).1 = M9 ∧ (cy T L (N - j) r9 a).2 = R9) (hr : r2 = upd r9 (46 + q_k (rdd T L a) (rdq T L a)) (rdf T L a)) : rd3 T L a + 1 ≤ L + 1 ∧ L + 1 < rd3 T L a + 1 + (N - (j + 1)) ∧ (L ≤ rd3 T L a + 1 ∨ ffl T L (N - (j + 1)) (rd3 T L a + 1) = -6) ∧ k9 + 1 + (cy T L (N - (j + 1)) r2 (rd3 T L a + 1)).1 = M9 ∧ (cy T L (N - (j + 1)) r2 (rd3 T L a + 1)).2 = R9 := by
  have l3 := rd3_le T (Nat.le_of_lt hlt)
  have hff := hff.resolve_left (by omega)
  have e61 : N - j = (N - (j + 1)) + 1 := by omega
  rw [e61] at hff
  have hok := (ffl_ok hL6 (Nat.le_of_lt hlt) hff).2
  rw [e61, cy, if_pos hlt, if_pos hw, ← hr] at hcy
  obtain ⟨h1, h2⟩ := hcy
  have h1 : k9 + ((cy T L (N - (j + 1)) r2 (rd3 T L a + 1)).1 + 1) = M9 := h1
  clear hff hr hw
  refine ⟨by omega, by omega, hok.elim (fun q => Or.inl (by omega)) (fun q => Or.inr q.2.2.2), ?_, h2⟩
  rw [← h1]
  omega
/-! the characters of a long: the class's count against the reference's -/
theorem and255 (y : Int64) : ∃ k : Nat, k < 256 ∧ y &&& 255 = lN k ∧ (y &&& 255).toInt32 = nI k := by
  have hz : (y &&& 255).toBitVec = y.toBitVec &&& 255#64 := rfl
  have hle : (y &&& 255).toBitVec.toNat ≤ 255 := by
    rw [hz, BitVec.toNat_and]
    exact Nat.and_le_right
  refine ⟨(y &&& 255).toBitVec.toNat, by omega, ?_, ?_⟩
  · apply Int64.toBitVec_inj.mp
    apply BitVec.eq_of_toNat_eq
    show _ = (Int64.ofNat (y &&& 255).toBitVec.toNat).toBitVec.toNat
    rw [Int64.toBitVec_ofNat']
    simp
  · apply Int32.toBitVec_inj.mp
    apply BitVec.eq_of_toNat_eq
    show (y &&& 255).toInt32.toBitVec.toNat = (Int32.ofNat (y &&& 255).toBitVec.toNat).toBitVec.toNat
    rw [Int32.toBitVec_ofNat', Int64.toBitVec_toInt32, BitVec.signExtend_eq_setWidth_of_le _ (by decide), BitVec.toNat_setWidth, BitVec.toNat_ofNat]
theorem cmp_lN {a b : Nat} (ha : a < 1000) (hb : b < 1000) : (lg_cmp (lN a) (lN b) < 0 ↔ a < b) ∧ (lg_cmp (lN a) (lN b) ≤ 0 ↔ a ≤ b) := by
  unfold lg_cmp
  by_cases h : b < a
  · rw [if_pos ((lN_lt (a := b) (b := a) (by omega) (by omega)).mpr h)]
    exact ⟨⟨fun q => absurd q (by decide), fun q => by omega⟩, ⟨fun q => absurd q (by decide), fun q => by omega⟩⟩
  · rw [if_neg (fun q => h ((lN_lt (a := b) (b := a) (by omega) (by omega)).mp q))]
    by_cases e : a = b
    · rw [e, if_pos rfl]
      exact ⟨⟨fun q => absurd q (by decide), fun q => by omega⟩, ⟨fun _ => by omega, fun _ => by decide⟩⟩
    · have hl : a < b := by omega
      rw [if_neg (fun q => absurd ((lN_lt (a := a) (b := b) (by omega) (by omega)).mpr hl) (by rw [q]; exact Int64.lt_irrefl))]
      exact ⟨⟨fun _ => hl, fun _ => by decide⟩, ⟨fun _ => by omega, fun _ => by decide⟩⟩
theorem re9_z : ∀ d k y, (re9 d k 0 y).2.1 = 0
  | 0, k, y => rfl
  | d + 1, k, y => by
    by_cases h : lg_cmp (y &&& 255) 0 = 0
    · rw [re9_a h]
    · rw [re9_b h, if_pos rfl]
      exact re9_z d (k + 1) (s8 y)
theorem ci_re : ∀ d k y, ci9 d k y = if (re9 d k 1 y).2.1 = 0 ∨ ¬ lg_cmp (re9 d k 1 y).2.2 0 = 0 then 0 else nI (re9 d k 1 y).1
  | 0, k, y => by
    rw [ci9, re9]
    by_cases h : lg_cmp y 0 = 0
    · rw [if_pos h, if_neg]
      rintro (q | q)
      · exact absurd q (show ¬ (1 : Int32) = 0 by decide)
      · exact q h
    · rw [if_neg h, if_pos (Or.inr h)]
  | d + 1, k, y => by
    by_cases h : lg_cmp (y &&& 255) 0 = 0
    · rw [ci9, if_pos h, re9_a h]
      by_cases h2 : lg_cmp y 0 = 0
      · rw [if_pos h2, if_neg]
        rintro (q | q)
        · exact absurd q (show ¬ (1 : Int32) = 0 by decide)
        · exact q h2
      · rw [if_neg h2, if_pos (Or.inr h2)]
    · rw [ci9, if_neg h, re9_b h, if_neg (show ¬ (1 : Int32) = 0 by decide)]
      obtain ⟨c, hc, e1, e2⟩ := and255 y
      have c33 := (cmp_lN (a := c) (b := 33) (by omega) (by decide)).1
      have c126 := (cmp_lN (a := c) (b := 126) (by omega) (by decide)).2
      rw [e2, e1]
      have hb := p_in_b (a := 33) (b := 126) (j := c) (by decide) (by decide) (by omega)
      by_cases h1 : c < 33
      · have e0 : p_in (nI c) 33 126 = 0 := by
          rcases p_in_01 (nI c) 33 126 with e | e
          · exact e
          · exact absurd (hb.mp (by show ¬ p_in (nI c) 33 126 = 0; rw [e]; decide)) (by omega)
        rw [show lg_cmp (lN c) 33 = lg_cmp (lN c) (lN 33) from rfl, if_pos (c33.mpr h1), e0, if_pos (Or.inl (re9_z _ _ _))]
      · rw [show lg_cmp (lN c) 33 = lg_cmp (lN c) (lN 33) from rfl, if_neg (fun q => h1 (c33.mp q))]
        by_cases h2 : c ≤ 126
        · rw [show lg_cmp (lN c) 126 = lg_cmp (lN c) (lN 126) from rfl, if_neg (fun q => q (c126.mpr h2)), show p_in (nI c) 33 126 = 1 from p_in_1 (hb.mpr ⟨by omega, h2⟩)]
          exact ci_re d (k + 1) (s8 y)
        · have e0 : p_in (nI c) 33 126 = 0 := by
            rcases p_in_01 (nI c) 33 126 with e | e
            · exact e
            · exact absurd (hb.mp (by show ¬ p_in (nI c) 33 126 = 0; rw [e]; decide)) (by omega)
          rw [show lg_cmp (lN c) 126 = lg_cmp (lN c) (lN 126) from rfl, if_pos (fun q => h2 (c126.mp q)), e0, if_pos (Or.inl (re9_z _ _ _))]
/-- the class's count of a long's characters -/
def cn9 (x : Int64) : Nat := if (put9 x).2.1 = 0 ∨ ¬ lg_cmp (put9 x).2.2 0 = 0 then 0 else (put9 x).1
theorem cn9_e (x : Int64) : ci9 8 0 x = nI (cn9 x) := by
  rw [ci_re, cn9]
  show (if (put9 x).2.1 = 0 ∨ ¬ lg_cmp (put9 x).2.2 0 = 0 then 0 else nI (put9 x).1) = _
  by_cases h : (put9 x).2.1 = 0 ∨ ¬ lg_cmp (put9 x).2.2 0 = 0
  · rw [if_pos h, if_pos h]
    rfl
  · rw [if_neg h, if_neg h]
theorem cn9_8 (x : Int64) : cn9 x ≤ 8 := by
  unfold cn9
  by_cases h : (put9 x).2.1 = 0 ∨ ¬ lg_cmp (put9 x).2.2 0 = 0
  · rw [if_pos h]
    exact Nat.zero_le _
  · rw [if_neg h]
    exact put9_8 x
theorem cn9_0 {x : Int64} {L : Nat} (h : cn9 x = 0) : q_putE x L = -2 := by
  refine putE_a ?_
  unfold cn9 at h
  by_cases h2 : (put9 x).2.1 = 0 ∨ ¬ lg_cmp (put9 x).2.2 0 = 0
  · exact Or.inr h2
  · rw [if_neg h2] at h
    exact Or.inl h
theorem cn9_n {x : Int64} (h : ¬ cn9 x = 0) : cn9 x = (put9 x).1 ∧ ¬ ((put9 x).1 = 0 ∨ (put9 x).2.1 = 0 ∨ ¬ lg_cmp (put9 x).2.2 0 = 0) := by
  unfold cn9 at h ⊢
  by_cases h2 : (put9 x).2.1 = 0 ∨ ¬ lg_cmp (put9 x).2.2 0 = 0
  · rw [if_pos h2] at h
    exact absurd rfl h
  · rw [if_neg h2] at h ⊢
    exact ⟨rfl, fun q => q.elim h h2⟩

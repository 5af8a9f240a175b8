/-! ===== texts: characters, a show's three parts, the first fault, as the reference reads them ===== -/
def chr (T : Nat → Int32) (L a : Nat) : Int32 := if a < L then T a else -1
def dg (T : Nat → Int32) (L a : Nat) (m : Int32) : Int32 := if p_in (chr T L a - 48) 0 m = 0 then -1 else chr T L a - 48
def nx (r : Int32) (a : Nat) : Nat := if r < 0 then a else a + 1
def ptv (T : Nat → Int32) (L a : Nat) : Int32 := if chr T L a = 97 then 0 else if chr T L a = 101 then 1 else -1
def dy1 (T : Nat → Int32) (L a : Nat) : Nat := nx (dg T L a 9) a
def dy2 (T : Nat → Int32) (L a : Nat) : Int32 := chr T L (dy1 T L a) - 48
abbrev dyc (T : Nat → Int32) (L a : Nat) : Prop := ¬ dg T L a 9 ≤ 0 ∧ ¬ p_in (dy2 T L a) 0 9 = 0 ∧ ¬ 35 ≤ 10 * dg T L a 9 + dy2 T L a
def dyv (T : Nat → Int32) (L a : Nat) : Int32 := if dyc T L a then 10 * dg T L a 9 + dy2 T L a else dg T L a 9
def dya (T : Nat → Int32) (L a : Nat) : Nat := if dyc T L a then dy1 T L a + 1 else dy1 T L a
def rdf (T : Nat → Int32) (L a : Nat) : Int32 := dg T L a 7
def rd1 (T : Nat → Int32) (L a : Nat) : Nat := nx (rdf T L a) a
def rdq (T : Nat → Int32) (L a : Nat) : Int32 := if 0 ≤ rdf T L a then ptv T L (rd1 T L a) else -1
def rd2 (T : Nat → Int32) (L a : Nat) : Nat := if 0 ≤ rdf T L a then nx (ptv T L (rd1 T L a)) (rd1 T L a) else rd1 T L a
def rdd (T : Nat → Int32) (L a : Nat) : Int32 := if 0 ≤ rdq T L a then dyv T L (rd2 T L a) else -1
def rd3 (T : Nat → Int32) (L a : Nat) : Nat := if 0 ≤ rdq T L a then dya T L (rd2 T L a) else rd2 T L a
def ffl (T : Nat → Int32) (L : Nat) : Nat → Nat → Int32
  | 0, a => nI a
  | n + 1, a => if rdd T L a < 0 then nI (rd3 T L a) else if rd3 T L a = L then -6 else if chr T L (rd3 T L a) = 44 then ffl T L n (rd3 T L a + 1) else nI (rd3 T L a)
def cy (T : Nat → Int32) (L : Nat) : Nat → (Nat → Int32) → Nat → Nat × (Nat → Int32)
  | 0, r, _ => (0, r)
  | n + 1, r, a => if a < L then (if p_why r (rdf T L a) (rdd T L a) (rdq T L a) = 0 then ((cy T L n (upd r (46 + q_k (rdd T L a) (rdq T L a)) (rdf T L a)) (rd3 T L a + 1)).1 + 1, (cy T L n (upd r (46 + q_k (rdd T L a) (rdq T L a)) (rdf T L a)) (rd3 T L a + 1)).2) else (0, r)) else (0, r)
theorem cy_ge (T : Nat → Int32) {L a : Nat} (h : L ≤ a) (n : Nat) (r : Nat → Int32) : cy T L n r a = (0, r) := by
  cases n with
  | zero => rfl
  | succ n => rw [cy, if_neg (by omega)]
theorem chr_lt {T : Nat → Int32} {L a : Nat} (h : ¬ chr T L a = -1) : a < L := by
  rcases Nat.lt_or_ge a L with q | q
  · exact q
  · exact absurd (if_neg (by omega)) h
theorem dg_cs (T : Nat → Int32) (L a : Nat) {n : Nat} (hn : n < 100) : (p_in (chr T L a - 48) 0 (nI n) = 0 ∧ dg T L a (nI n) = -1) ∨ (¬ p_in (chr T L a - 48) 0 (nI n) = 0 ∧ a < L ∧ ∃ j : Nat, j ≤ n ∧ chr T L a - 48 = nI j ∧ dg T L a (nI n) = nI j) := by
  by_cases h : p_in (chr T L a - 48) 0 (nI n) = 0
  · exact Or.inl ⟨h, if_pos h⟩
  · obtain ⟨j, hj, e⟩ := p_in_nI (n := n) (by omega) h
    refine Or.inr ⟨h, chr_lt (T := T) ?_, j, hj, e, (if_neg h).trans e⟩
    intro q
    rw [q] at h
    exact h (if_pos (by decide))
theorem nI_nneg {n : Nat} (h : n < 100000) : ¬ nI n < 0 := nI_pos (by omega)
theorem nx_m (a : Nat) : nx (-1) a = a := rfl
theorem nx_n {j : Nat} (hj : j < 100000) (a : Nat) : nx (nI j) a = a + 1 := if_neg (nI_nneg hj)
theorem nx_dg (T : Nat → Int32) {L a : Nat} {n : Nat} (hn : n < 100) (hal : a ≤ L) : nx (dg T L a (nI n)) a ≤ L ∧ a ≤ nx (dg T L a (nI n)) a := by
  rcases dg_cs T L a hn with ⟨-, e⟩ | ⟨-, h, j, hj, -, e⟩
  · rw [e, nx_m]
    exact ⟨hal, Nat.le_refl _⟩
  · rw [e, nx_n (by omega)]
    omega
theorem ptv_cs (T : Nat → Int32) (L a : Nat) : (¬ chr T L a = 97 ∧ ¬ chr T L a = 101 ∧ ptv T L a = -1) ∨ (chr T L a = 97 ∧ a < L ∧ ptv T L a = nI 0) ∨ (¬ chr T L a = 97 ∧ chr T L a = 101 ∧ a < L ∧ ptv T L a = nI 1) := by
  by_cases h : chr T L a = 97
  · exact Or.inr (Or.inl ⟨h, chr_lt (by rw [h]; decide), if_pos h⟩)
  · by_cases h2 : chr T L a = 101
    · exact Or.inr (Or.inr ⟨h, h2, chr_lt (by rw [h2]; decide), by rw [ptv, if_neg h, if_pos h2]; rfl⟩)
    · exact Or.inl ⟨h, h2, by rw [ptv, if_neg h, if_neg h2]⟩
theorem nx_pt (T : Nat → Int32) {L a : Nat} (hal : a ≤ L) : nx (ptv T L a) a ≤ L ∧ a ≤ nx (ptv T L a) a := by
  rcases ptv_cs T L a with ⟨-, -, e⟩ | ⟨-, h, e⟩ | ⟨-, -, h, e⟩ <;> rw [e]
  · exact ⟨hal, Nat.le_refl _⟩
  · rw [nx_n (by decide)]
    omega
  · rw [nx_n (by decide)]
    omega
theorem dy1_le (T : Nat → Int32) {L a : Nat} (hal : a ≤ L) : dy1 T L a ≤ L ∧ a ≤ dy1 T L a := nx_dg (n := 9) T (by decide) hal
theorem dya_le (T : Nat → Int32) {L a : Nat} (hal : a ≤ L) : dya T L a ≤ L ∧ a ≤ dya T L a := by
  have h1 := dy1_le T hal
  unfold dya
  by_cases h : dyc T L a
  · rw [if_pos h]
    have h2 : dy1 T L a < L := by
      refine chr_lt (T := T) (fun q => h.2.1 ?_)
      rw [dy2, q]
      decide
    omega
  · rw [if_neg h]
    exact h1
theorem rd1_le (T : Nat → Int32) {L a : Nat} (hal : a ≤ L) : rd1 T L a ≤ L ∧ a ≤ rd1 T L a := nx_dg (n := 7) T (by decide) hal
theorem rd2_le (T : Nat → Int32) {L a : Nat} (hal : a ≤ L) : rd2 T L a ≤ L ∧ a ≤ rd2 T L a := by
  have h1 := rd1_le T hal
  have h2 := nx_pt T h1.1
  unfold rd2
  by_cases h : 0 ≤ rdf T L a
  · rw [if_pos h]
    omega
  · rw [if_neg h]
    exact h1
theorem rd3_le (T : Nat → Int32) {L a : Nat} (hal : a ≤ L) : rd3 T L a ≤ L ∧ a ≤ rd3 T L a := by
  have h1 := rd2_le T hal
  have h2 := dya_le T h1.1
  unfold rd3
  by_cases h : 0 ≤ rdq T L a
  · rw [if_pos h]
    omega
  · rw [if_neg h]
    exact h1
/-! the reference's place in the text, and the show that it has read -/
def atS (σ : S9) (a : Nat) : S9 := st9 σ 12 (upd (σ 12) 2 (nI a))
theorem atS_12 (σ : S9) (a : Nat) : atS σ a 12 = upd (σ 12) 2 (nI a) := st9_s σ 12 _
theorem atS_id {σ : S9} {a : Nat} (h : σ 12 2 = nI a) : atS σ a = σ := by
  rw [atS, ← h, upd_id, st9_id]
theorem atS_pt (σ : S9) (a : Nat) (x : Int32) : st9 (atS σ a) 12 (upd (atS σ a 12) 2 x) = st9 σ 12 (upd (σ 12) 2 x) := by
  rw [atS_12, upd_tw, atS, st9_tw]
def rS1 (σ : S9) (a : Nat) (f : Int32) : S9 := st9 σ 12 (upd (upd (σ 12) 2 (nI a)) 3 f)
def rS2 (σ : S9) (a : Nat) (f q : Int32) : S9 := st9 σ 12 (upd (upd (upd (σ 12) 2 (nI a)) 3 f) 4 q)
def rS3 (σ : S9) (a : Nat) (f q d : Int32) : S9 := st9 σ 12 (upd (upd (upd (upd (σ 12) 2 (nI a)) 3 f) 4 q) 5 d)
theorem rS1_of (σ : S9) (a : Nat) (f : Int32) : st9 (atS σ a) 12 (upd (atS σ a 12) 3 f) = rS1 σ a f := by rw [atS_12, atS, st9_tw, rS1]
theorem upd_sw (f : Nat → Int32) {i j : Nat} (x y : Int32) (h : i ≠ j) : upd (upd f i x) j y = upd (upd f j y) i x := by
  funext k
  by_cases e : k = i
  · subst e
    rw [upd_n _ _ h, upd_s, upd_s]
  · rw [upd_n _ _ e]
    by_cases e2 : k = j
    · subst e2
      rw [upd_s, upd_s]
    · rw [upd_n _ _ e2, upd_n _ _ e2, upd_n _ _ e]
theorem rS1_at (σ : S9) (a b : Nat) (f : Int32) : atS (rS1 σ a f) b = rS1 σ b f := by
  rw [atS, rS1, st9_s, st9_tw, upd_sw _ _ _ (show 3 ≠ 2 by decide), upd_tw, rS1]
theorem rS2_of (σ : S9) (a : Nat) (f q : Int32) : st9 (rS1 σ a f) 12 (upd (rS1 σ a f 12) 4 q) = rS2 σ a f q := by rw [rS1, st9_s, st9_tw, rS2]
theorem rS2_at (σ : S9) (a b : Nat) (f q : Int32) : atS (rS2 σ a f q) b = rS2 σ b f q := by
  rw [atS, rS2, st9_s, st9_tw, upd_sw _ _ _ (show 4 ≠ 2 by decide), upd_sw _ _ _ (show 3 ≠ 2 by decide), upd_tw, rS2]
theorem rS3_of (σ : S9) (a : Nat) (f q d : Int32) : st9 (rS2 σ a f q) 12 (upd (rS2 σ a f q 12) 5 d) = rS3 σ a f q d := by rw [rS2, st9_s, st9_tw, rS3]
/-- all but the reference's place and what it has read -/
def tx9 (σ u : S9) : Prop := (∀ i, i ≠ 12 → u i = σ i) ∧ u 12 0 = σ 12 0 ∧ u 12 1 = σ 12 1
theorem tx9_rf (σ : S9) : tx9 σ σ := ⟨fun _ _ => rfl, rfl, rfl⟩
theorem tx9_tr {a b c : S9} (h : tx9 a b) (k : tx9 b c) : tx9 a c := ⟨fun i hi => (k.1 i hi).trans (h.1 i hi), k.2.1.trans h.2.1, k.2.2.trans h.2.2⟩
theorem tx9_at (σ : S9) (a : Nat) : tx9 σ (atS σ a) := ⟨fun i hi => st9_n _ _ hi, by rw [atS_12, upd_n _ _ (by decide)], by rw [atS_12, upd_n _ _ (by decide)]⟩
theorem tx9_r3 (σ : S9) (a : Nat) (f q d : Int32) : tx9 σ (rS3 σ a f q d) ∧ rS3 σ a f q d 12 2 = nI a ∧ rS3 σ a f q d 12 3 = f ∧ rS3 σ a f q d 12 4 = q ∧ rS3 σ a f q d 12 5 = d := by
  refine ⟨⟨fun i hi => st9_n _ _ hi, ?_, ?_⟩, ?_, ?_, ?_, ?_⟩ <;> rw [rS3, st9_s]
  · rw [upd_n _ _ (by decide), upd_n _ _ (by decide), upd_n _ _ (by decide), upd_n _ _ (by decide)]
  · rw [upd_n _ _ (by decide), upd_n _ _ (by decide), upd_n _ _ (by decide), upd_n _ _ (by decide)]
  · rw [upd_n _ _ (by decide), upd_n _ _ (by decide), upd_n _ _ (by decide), upd_s]
  · rw [upd_n _ _ (by decide), upd_n _ _ (by decide), upd_s]
  · rw [upd_n _ _ (by decide), upd_s]
  · rw [upd_s]
def isn (T : Nat → Int32) (L a : Nat) : Int32 := if chr T L a = 44 then 1 else 0
set_option maxHeartbeats 4000000 in
set_option maxRecDepth 100000 in
theorem c_X5_character (l : Launch) (D : va_G) (ad : Nat → Nat) (cI : ClassId) (σ : S9) (L : Nat) (hL : σ 12 1 = nI L) (hL6 : L ≤ 60) (a : Nat) (hal : a ≤ L) : CMi l (mW ad cI) D [(cI, .int)] yX5_character wsX5_character ({ frames := 0, cells := 0, slots := 0, locals := 0 } : Room) [.ref (ad 0), .int (nI a)] σ (fun r u => r = chr (σ 4) L a ∧ u = σ) := by
  refine v_starti (own := RX5) (cc := cX5_character) (nL := 2) rfl (by decide) rfl (Nat.le_of_ble_eq_true rfl) ?_
  intro p e s m args below meth c A Q C K hend
  refine v_lv (lv' := [(0, .ref (ad 0)), (1, .int (nI a))]) [0, 1] rfl ?_
  refine v_iload_n C dX5_character_0 rfl 1 1 rfl rfl ?_
  refine v_aload_n C dX5_character_1 rfl 0 0 rfl rfl ?_
  refine v_get C K in_X5_character_X5 0 rfl rfl 6 (by decide) fl_X5_character_X5_6 rfl dX5_character_2 rfl ?_
  refine v_top (nI L) (hL) ?_
  refine v_icmp_ge C 17 dX5_character_5 (by decide) rfl (fun h5 => ?_) (fun h5f => ?_)
  · skip
    have hx : ¬ a < L := by have := (nI_leI (by omega) (by omega)).mp h5; omega
    refine v_iconst (v := -1) C dX5_character_17 rfl ic_m1 ?_
    exact hend (⟨(if_neg hx).symm, rfl⟩) (rfl) dX5_character_18
  · skip
    have hx : a < L := by
      rcases Nat.lt_or_ge a L with q | q
      · exact q
      · exact absurd (nI_le q (by omega)) h5f
    refine v_aload_n C dX5_character_8 rfl 0 0 rfl rfl ?_
    refine v_get C K in_X5_character_X5 0 rfl rfl 5 (by decide) fl_X5_character_X5_5 rfl dX5_character_9 rfl ?_
    refine v_iload_n C dX5_character_12 rfl 1 1 rfl rfl ?_
    refine v_iald C K 5 0 rfl rfl (a) (rfl) (by omega) (by decide) dX5_character_13 rfl ?_
    refine v_goto C 18 dX5_character_14 (by decide) ?_
    exact hend (⟨(if_pos hx).symm, rfl⟩) (rfl) dX5_character_18
set_option maxHeartbeats 4000000 in
set_option maxRecDepth 100000 in
theorem c_X5_takeDigit (l : Launch) (D : va_G) (ad : Nat → Nat) (cI : ClassId) (σ : S9) (L : Nat) (hL : σ 12 1 = nI L) (hL6 : L ≤ 60) (a : Nat) (ha : σ 12 2 = nI a) (hal : a ≤ L) (mo : Nat) (hmo : mo < 100) : CMi l (mW ad cI) D [(cI, .int)] yX5_takeDigit wsX5_takeDigit ({ frames := 1, cells := 0, slots := 0, locals := 22 } : Room) [.ref (ad 0), .int (nI mo)] σ (fun r u => r = dg (σ 4) L a (nI mo) ∧ u = atS σ (nx (dg (σ 4) L a (nI mo)) a)) := by
  refine v_starti (own := RX5) (cc := cX5_takeDigit) (nL := 3) rfl (by decide) rfl (Nat.le_of_ble_eq_true rfl) ?_
  intro p e s m args below meth c A Q C K hend
  refine v_lv (lv' := [(0, .ref (ad 0)), (1, .int (nI mo))]) [0, 1] rfl ?_
  refine v_aload_n C dX5_takeDigit_0 rfl 0 0 rfl rfl ?_
  refine v_aload_n C dX5_takeDigit_1 rfl 0 0 rfl rfl ?_
  refine v_get C K in_X5_takeDigit_X5 0 rfl rfl 14 (by decide) fl_X5_takeDigit_X5_14 rfl dX5_takeDigit_2 rfl ?_
  refine v_top (nI a) (ha) ?_
  refine v_callVid C K (c_X5_character l D ad cI _ L hL hL6 a hal) gX5_takeDigit_X5_character rfl hd_X5_character ⟨rfl, rfl⟩ ⟨Nat.le_of_ble_eq_true rfl, Nat.le_of_ble_eq_true rfl⟩ 0 rfl rfl rfl rfl rfl (Nat.le_of_ble_eq_true rfl) ⟨Nat.le_refl _, Nat.le_refl _⟩ dX5_takeDigit_5 rfl ?_
  refine v_bipush (v := 48) C dX5_takeDigit_8 rfl bp_48 ?_
  refine v_isub C dX5_takeDigit_10 rfl ?_
  refine v_istore_n (lv' := [(2, _), (0, _), (1, _)]) C dX5_takeDigit_11 rfl 2 rfl (by decide) rfl ?_
  refine v_iload_n C dX5_takeDigit_12 rfl 2 0 rfl rfl ?_
  refine v_iconst (v := 0) C dX5_takeDigit_13 rfl ic_0 ?_
  refine v_iload_n C dX5_takeDigit_14 rfl 1 2 rfl rfl ?_
  refine v_callSpd C (c_X5_within l _ _ _) gX5_takeDigit_X5_within rfl hd_X5_within.2 ⟨rfl, rfl⟩ ⟨Nat.le_of_ble_eq_true rfl, Nat.le_of_ble_eq_true rfl⟩ rfl rfl (Nat.le_of_ble_eq_true rfl) ⟨Nat.le_refl _, Nat.le_refl _⟩ dX5_takeDigit_15 rfl ?_
  refine v_if_ne C 23 dX5_takeDigit_18 (by decide) rfl (fun h18 => ?_) (fun h18f => ?_)
  · skip
    obtain ⟨hx, j, hj, ej, e⟩ := ((dg_cs (σ 4) L a hmo).resolve_left (fun q => h18 q.1)).2
    refine v_aload_n C dX5_takeDigit_23 rfl 0 1 rfl rfl ?_
    refine v_dup C dX5_takeDigit_24 rfl rfl ?_
    refine v_get C K in_X5_takeDigit_X5 0 rfl rfl 14 (by decide) fl_X5_takeDigit_X5_14 rfl dX5_takeDigit_25 rfl ?_
    refine v_iconst (v := 1) C dX5_takeDigit_28 rfl ic_1 ?_
    refine v_iadd C dX5_takeDigit_29 rfl ?_
    refine v_top (nI (a + 1)) (by rw [ha]; exact nI_1 a) ?_
    refine v_put (ty := .int) C K _ in_X5_takeDigit_X5 tyX5_ok nmX5 0 rfl rfl 14 (by decide) fl_X5_takeDigit_X5_14 rfl (by decide +kernel) rfl rfl (Nat.le_of_ble_eq_true rfl) (mW_f2 ad cI _ _) dX5_takeDigit_30 rfl ?_
    refine v_iload_n C dX5_takeDigit_33 rfl 2 0 rfl rfl ?_
    exact hend (⟨(if_neg h18).symm, by rw [e, nx_n (by omega), atS]⟩) (rfl) dX5_takeDigit_34
  · skip
    have e : dg (σ 4) L a (nI mo) = -1 := if_pos h18f
    refine v_iconst (v := -1) C dX5_takeDigit_21 rfl ic_m1 ?_
    exact hend (⟨e.symm, by rw [e, nx_m, atS_id ha]⟩) (rfl) dX5_takeDigit_22
set_option maxHeartbeats 4000000 in
set_option maxRecDepth 100000 in
theorem c_X5_takePart (l : Launch) (D : va_G) (ad : Nat → Nat) (cI : ClassId) (σ : S9) (L : Nat) (hL : σ 12 1 = nI L) (hL6 : L ≤ 60) (a : Nat) (ha : σ 12 2 = nI a) (hal : a ≤ L) : CMi l (mW ad cI) D [(cI, .int)] yX5_takePart wsX5_takePart ({ frames := 1, cells := 0, slots := 0, locals := 21 } : Room) [.ref (ad 0)] σ (fun r u => r = ptv (σ 4) L a ∧ u = atS σ (nx (ptv (σ 4) L a) a)) := by
  refine v_starti (own := RX5) (cc := cX5_takePart) (nL := 2) rfl (by decide) rfl (Nat.le_of_ble_eq_true rfl) ?_
  intro p e s m args below meth c A Q C K hend
  refine v_lv (lv' := [(0, .ref (ad 0))]) [0] rfl ?_
  refine v_aload_n C dX5_takePart_0 rfl 0 0 rfl rfl ?_
  refine v_aload_n C dX5_takePart_1 rfl 0 0 rfl rfl ?_
  refine v_get C K in_X5_takePart_X5 0 rfl rfl 14 (by decide) fl_X5_takePart_X5_14 rfl dX5_takePart_2 rfl ?_
  refine v_top (nI a) (ha) ?_
  refine v_callVid C K (c_X5_character l D ad cI _ L hL hL6 a hal) gX5_takePart_X5_character rfl hd_X5_character ⟨rfl, rfl⟩ ⟨Nat.le_of_ble_eq_true rfl, Nat.le_of_ble_eq_true rfl⟩ 0 rfl rfl rfl rfl rfl (Nat.le_of_ble_eq_true rfl) ⟨Nat.le_refl _, Nat.le_refl _⟩ dX5_takePart_5 rfl ?_
  refine v_istore_n (lv' := [(1, _), (0, _)]) C dX5_takePart_8 rfl 1 rfl (by decide) rfl ?_
  refine v_iload_n C dX5_takePart_9 rfl 1 0 rfl rfl ?_
  refine v_bipush (v := 97) C dX5_takePart_10 rfl bp_97 ?_
  refine v_icmp_eq C 23 dX5_takePart_12 (by decide) rfl (fun h12 => ?_) (fun h12f => ?_)
  · skip
    refine v_aload_n C dX5_takePart_23 rfl 0 1 rfl rfl ?_
    refine v_dup C dX5_takePart_24 rfl rfl ?_
    refine v_get C K in_X5_takePart_X5 0 rfl rfl 14 (by decide) fl_X5_takePart_X5_14 rfl dX5_takePart_25 rfl ?_
    refine v_iconst (v := 1) C dX5_takePart_28 rfl ic_1 ?_
    refine v_iadd C dX5_takePart_29 rfl ?_
    refine v_top (nI (a + 1)) (by rw [ha]; exact nI_1 a) ?_
    refine v_put (ty := .int) C K _ in_X5_takePart_X5 tyX5_ok nmX5 0 rfl rfl 14 (by decide) fl_X5_takePart_X5_14 rfl (by decide +kernel) rfl rfl (Nat.le_of_ble_eq_true rfl) (mW_f2 ad cI _ _) dX5_takePart_30 rfl ?_
    refine v_iload_n C dX5_takePart_33 rfl 1 0 rfl rfl ?_
    refine v_bipush (v := 97) C dX5_takePart_34 rfl bp_97 ?_
    refine v_icmp_ne C 43 dX5_takePart_36 (by decide) rfl (fun h9 => absurd h9 (fun q => q h12)) (fun _ => ?_)
    refine v_iconst (v := 0) C dX5_takePart_39 rfl ic_0 ?_
    refine v_goto C 44 dX5_takePart_40 (by decide) ?_
    exact hend (⟨by rw [ptv, if_pos h12], by rw [ptv, if_pos h12, show (0 : Int32) = nI 0 from rfl, nx_n (by decide), atS]⟩) (rfl) dX5_takePart_44
  · skip
    refine v_iload_n C dX5_takePart_15 rfl 1 0 rfl rfl ?_
    refine v_bipush (v := 101) C dX5_takePart_16 rfl bp_101 ?_
    refine v_icmp_eq C 23 dX5_takePart_18 (by decide) rfl (fun h18 => ?_) (fun h18f => ?_)
    · skip
      refine v_aload_n C dX5_takePart_23 rfl 0 1 rfl rfl ?_
      refine v_dup C dX5_takePart_24 rfl rfl ?_
      refine v_get C K in_X5_takePart_X5 0 rfl rfl 14 (by decide) fl_X5_takePart_X5_14 rfl dX5_takePart_25 rfl ?_
      refine v_iconst (v := 1) C dX5_takePart_28 rfl ic_1 ?_
      refine v_iadd C dX5_takePart_29 rfl ?_
      refine v_top (nI (a + 1)) (by rw [ha]; exact nI_1 a) ?_
      refine v_put (ty := .int) C K _ in_X5_takePart_X5 tyX5_ok nmX5 0 rfl rfl 14 (by decide) fl_X5_takePart_X5_14 rfl (by decide +kernel) rfl rfl (Nat.le_of_ble_eq_true rfl) (mW_f2 ad cI _ _) dX5_takePart_30 rfl ?_
      refine v_iload_n C dX5_takePart_33 rfl 1 0 rfl rfl ?_
      refine v_bipush (v := 97) C dX5_takePart_34 rfl bp_97 ?_
      refine v_icmp_ne C 43 dX5_takePart_36 (by decide) rfl (fun _ => ?_) (fun h9 => absurd h9 (h12f))
      refine v_iconst (v := 1) C dX5_takePart_43 rfl ic_1 ?_
      exact hend (⟨by rw [ptv, if_neg h12f, if_pos h18], by rw [ptv, if_neg h12f, if_pos h18, show (1 : Int32) = nI 1 from rfl, nx_n (by decide), atS]⟩) (rfl) dX5_takePart_44
    · skip
      refine v_iconst (v := -1) C dX5_takePart_21 rfl ic_m1 ?_
      exact hend (⟨by rw [ptv, if_neg h12f, if_neg h18f], by rw [ptv, if_neg h12f, if_neg h18f, nx_m, atS_id ha]⟩) (rfl) dX5_takePart_22
set_option maxHeartbeats 4000000 in
set_option maxRecDepth 100000 in
theorem c_X5_takeDay (l : Launch) (D : va_G) (ad : Nat → Nat) (cI : ClassId) (σ : S9) (L : Nat) (hL : σ 12 1 = nI L) (hL6 : L ≤ 60) (a : Nat) (ha : σ 12 2 = nI a) (hal : a ≤ L) : CMi l (mW ad cI) D [(cI, .int)] yX5_takeDay wsX5_takeDay ({ frames := 2, cells := 0, slots := 0, locals := 44 } : Room) [.ref (ad 0)] σ (fun r u => r = dyv (σ 4) L a ∧ u = atS σ (dya (σ 4) L a)) := by
  refine v_starti (own := RX5) (cc := cX5_takeDay) (nL := 3) rfl (by decide) rfl (Nat.le_of_ble_eq_true rfl) ?_
  intro p e s m args below meth c A Q C K hend
  refine v_lv (lv' := [(0, .ref (ad 0))]) [0] rfl ?_
  refine v_aload_n C dX5_takeDay_0 rfl 0 0 rfl rfl ?_
  refine v_bipush (v := 9) C dX5_takeDay_1 rfl bp_9 ?_
  have h1 := dy1_le (σ 4) hal
  refine v_callVid C K (c_X5_takeDigit l D ad cI σ L hL hL6 a ha hal 9 (by decide)) gX5_takeDay_X5_takeDigit rfl hd_X5_takeDigit ⟨rfl, rfl⟩ ⟨Nat.le_of_ble_eq_true rfl, Nat.le_of_ble_eq_true rfl⟩ 0 rfl rfl rfl rfl rfl (Nat.le_of_ble_eq_true rfl) ⟨Nat.le_refl _, Nat.le_refl _⟩ dX5_takeDay_3 rfl ?_
  refine v_istore_n (lv' := [(1, _), (0, _)]) C dX5_takeDay_6 rfl 1 rfl (by decide) rfl ?_
  refine v_aload_n C dX5_takeDay_7 rfl 0 1 rfl rfl ?_
  refine v_aload_n C dX5_takeDay_8 rfl 0 1 rfl rfl ?_
  refine v_get C K in_X5_takeDay_X5 0 rfl rfl 14 (by decide) fl_X5_takeDay_X5_14 rfl dX5_takeDay_9 rfl ?_
  refine v_top (nI (dy1 (σ 4) L a)) (by rw [atS_12, upd_s]; rfl) ?_
  refine v_callVid C K (c_X5_character l D ad cI _ L (by rw [atS_12, upd_n _ _ (by decide)]; exact hL) hL6 (dy1 (σ 4) L a) h1.1) gX5_takeDay_X5_character rfl hd_X5_character ⟨rfl, rfl⟩ ⟨Nat.le_of_ble_eq_true rfl, Nat.le_of_ble_eq_true rfl⟩ 0 rfl rfl rfl rfl rfl (Nat.le_of_ble_eq_true rfl) ⟨Nat.le_refl _, Nat.le_refl _⟩ dX5_takeDay_12 rfl ?_
  refine v_top (chr (σ 4) L (dy1 (σ 4) L a)) (rfl) ?_
  refine v_bipush (v := 48) C dX5_takeDay_15 rfl bp_48 ?_
  refine v_isub C dX5_takeDay_17 rfl ?_
  refine v_istore_n (lv' := [(2, _), (1, _), (0, _)]) C dX5_takeDay_18 rfl 2 rfl (by decide) rfl ?_
  refine v_iload_n C dX5_takeDay_19 rfl 1 1 rfl rfl ?_
  refine v_if_le C 61 dX5_takeDay_20 (by decide) rfl (fun h20 => ?_) (fun h20f => ?_)
  · skip
    refine v_iload_n C dX5_takeDay_61 rfl 1 1 rfl rfl ?_
    exact hend (⟨(if_neg (fun q => q.1 h20)).symm, by rw [dya, if_neg (fun q => q.1 h20)]; rfl⟩) (rfl) dX5_takeDay_62
  · skip
    refine v_iload_n C dX5_takeDay_23 rfl 2 0 rfl rfl ?_
    refine v_iconst (v := 0) C dX5_takeDay_24 rfl ic_0 ?_
    refine v_bipush (v := 9) C dX5_takeDay_25 rfl bp_9 ?_
    refine v_callSpd C (c_X5_within l _ _ _) gX5_takeDay_X5_within rfl hd_X5_within.2 ⟨rfl, rfl⟩ ⟨Nat.le_of_ble_eq_true rfl, Nat.le_of_ble_eq_true rfl⟩ rfl rfl (Nat.le_of_ble_eq_true rfl) ⟨Nat.le_refl _, Nat.le_refl _⟩ dX5_takeDay_27 rfl ?_
    refine v_if_eq C 61 dX5_takeDay_30 (by decide) rfl (fun h30 => ?_) (fun h30f => ?_)
    · skip
      refine v_iload_n C dX5_takeDay_61 rfl 1 1 rfl rfl ?_
      exact hend (⟨(if_neg (fun q => q.2.1 h30)).symm, by rw [dya, if_neg (fun q => q.2.1 h30)]; rfl⟩) (rfl) dX5_takeDay_62
    · skip
      refine v_bipush (v := 10) C dX5_takeDay_33 rfl bp_10 ?_
      refine v_iload_n C dX5_takeDay_35 rfl 1 1 rfl rfl ?_
      refine v_imul C dX5_takeDay_36 rfl ?_
      refine v_iload_n C dX5_takeDay_37 rfl 2 0 rfl rfl ?_
      refine v_iadd C dX5_takeDay_38 rfl ?_
      refine v_bipush (v := 35) C dX5_takeDay_39 rfl bp_35 ?_
      refine v_icmp_ge C 61 dX5_takeDay_41 (by decide) rfl (fun h41 => ?_) (fun h41f => ?_)
      · skip
        refine v_iload_n C dX5_takeDay_61 rfl 1 1 rfl rfl ?_
        exact hend (⟨(if_neg (fun q => q.2.2 h41)).symm, by rw [dya, if_neg (fun q => q.2.2 h41)]; rfl⟩) (rfl) dX5_takeDay_62
      · skip
        refine v_aload_n C dX5_takeDay_44 rfl 0 2 rfl rfl ?_
        refine v_dup C dX5_takeDay_45 rfl rfl ?_
        refine v_get C K in_X5_takeDay_X5 0 rfl rfl 14 (by decide) fl_X5_takeDay_X5_14 rfl dX5_takeDay_46 rfl ?_
        refine v_iconst (v := 1) C dX5_takeDay_49 rfl ic_1 ?_
        refine v_iadd C dX5_takeDay_50 rfl ?_
        refine v_top (nI (dy1 (σ 4) L a + 1)) (by rw [atS_12, upd_s]; exact nI_1 _) ?_
        refine v_put (ty := .int) C K _ in_X5_takeDay_X5 tyX5_ok nmX5 0 rfl rfl 14 (by decide) fl_X5_takeDay_X5_14 rfl (by decide +kernel) rfl rfl (Nat.le_of_ble_eq_true rfl) (mW_f2 ad cI _ _) dX5_takeDay_51 rfl ?_
        refine v_bipush (v := 10) C dX5_takeDay_54 rfl bp_10 ?_
        refine v_iload_n C dX5_takeDay_56 rfl 1 1 rfl rfl ?_
        refine v_imul C dX5_takeDay_57 rfl ?_
        refine v_iload_n C dX5_takeDay_58 rfl 2 0 rfl rfl ?_
        refine v_iadd C dX5_takeDay_59 rfl ?_
        refine v_istore_n (lv' := [(1, _), (2, _), (0, _)]) C dX5_takeDay_60 rfl 1 rfl (by decide) rfl ?_
        refine v_iload_n C dX5_takeDay_61 rfl 1 0 rfl rfl ?_
        exact hend (⟨(if_pos (show dyc (σ 4) L a from ⟨h20f, h30f, h41f⟩)).symm, by rw [dya, if_pos (show dyc (σ 4) L a from ⟨h20f, h30f, h41f⟩), atS_pt]; rfl⟩) (rfl) dX5_takeDay_62
set_option maxHeartbeats 4000000 in
set_option maxRecDepth 100000 in
theorem c_X5_readsShow (l : Launch) (D : va_G) (ad : Nat → Nat) (cI : ClassId) (σ : S9) (L : Nat) (hL : σ 12 1 = nI L) (hL6 : L ≤ 60) (a : Nat) (ha : σ 12 2 = nI a) (hal : a ≤ L) : CMi l (mW ad cI) D [(cI, .int)] yX5_readsShow wsX5_readsShow ({ frames := 3, cells := 0, slots := 0, locals := 66 } : Room) [.ref (ad 0)] σ (fun r u => r = (if rdd (σ 4) L a < 0 then 0 else 1) ∧ u = rS3 σ (rd3 (σ 4) L a) (rdf (σ 4) L a) (rdq (σ 4) L a) (rdd (σ 4) L a)) := by
  refine v_starti (own := RX5) (cc := cX5_readsShow) (nL := 1) rfl (by decide) rfl (Nat.le_of_ble_eq_true rfl) ?_
  intro p e s m args below meth c A Q C K hend
  refine v_lv (lv' := [(0, .ref (ad 0))]) [0] rfl ?_
  refine v_aload_n C dX5_readsShow_0 rfl 0 0 rfl rfl ?_
  refine v_aload_n C dX5_readsShow_1 rfl 0 0 rfl rfl ?_
  refine v_bipush (v := 7) C dX5_readsShow_2 rfl bp_7 ?_
  have l1 := rd1_le (σ 4) hal
  have l2 := rd2_le (σ 4) hal
  refine v_callVid C K (c_X5_takeDigit l D ad cI σ L hL hL6 a ha hal 7 (by decide)) gX5_readsShow_X5_takeDigit rfl hd_X5_takeDigit ⟨rfl, rfl⟩ ⟨Nat.le_of_ble_eq_true rfl, Nat.le_of_ble_eq_true rfl⟩ 0 rfl rfl rfl rfl rfl (Nat.le_of_ble_eq_true rfl) ⟨Nat.le_refl _, Nat.le_refl _⟩ dX5_readsShow_4 rfl ?_
  refine v_put (ty := .int) C K _ in_X5_readsShow_X5 tyX5_ok nmX5 0 rfl rfl 15 (by decide) fl_X5_readsShow_X5_15 rfl (by decide +kernel) rfl rfl (Nat.le_of_ble_eq_true rfl) (mW_f3 ad cI _ _) dX5_readsShow_7 rfl ?_
  refine v_st (rS1 σ (rd1 (σ 4) L a) (rdf (σ 4) L a)) (rS1_of _ _ _) ?_
  refine v_aload_n C dX5_readsShow_10 rfl 0 0 rfl rfl ?_
  refine v_aload_n C dX5_readsShow_11 rfl 0 0 rfl rfl ?_
  refine v_get C K in_X5_readsShow_X5 0 rfl rfl 15 (by decide) fl_X5_readsShow_X5_15 rfl dX5_readsShow_12 rfl ?_
  have J26 : VV p l e ({ frames := 3, cells := 0, slots := 0, locals := 66 } : Room) s m args below meth c 0 0 Q (mW ad cI) D A s.heap 1 (rS1 σ (rd2 (σ 4) L a) (rdf (σ 4) L a)) 26 [(0, .ref (ad 0))] [.int (rdq (σ 4) L a), .ref (ad 0)] := by
    refine v_put (ty := .int) C K _ in_X5_readsShow_X5 tyX5_ok nmX5 0 rfl rfl 16 (by decide) fl_X5_readsShow_X5_16 rfl (by decide +kernel) rfl rfl (Nat.le_of_ble_eq_true rfl) (mW_f4 ad cI _ _) dX5_readsShow_26 rfl ?_
    refine v_st (rS2 σ (rd2 (σ 4) L a) (rdf (σ 4) L a) (rdq (σ 4) L a)) (rS2_of _ _ _ _) ?_
    refine v_aload_n C dX5_readsShow_29 rfl 0 0 rfl rfl ?_
    refine v_aload_n C dX5_readsShow_30 rfl 0 0 rfl rfl ?_
    refine v_get C K in_X5_readsShow_X5 0 rfl rfl 16 (by decide) fl_X5_readsShow_X5_16 rfl dX5_readsShow_31 rfl ?_
    have J45 : VV p l e ({ frames := 3, cells := 0, slots := 0, locals := 66 } : Room) s m args below meth c 0 0 Q (mW ad cI) D A s.heap 1 (rS2 σ (rd3 (σ 4) L a) (rdf (σ 4) L a) (rdq (σ 4) L a)) 45 [(0, .ref (ad 0))] [.int (rdd (σ 4) L a), .ref (ad 0)] := by
      refine v_put (ty := .int) C K _ in_X5_readsShow_X5 tyX5_ok nmX5 0 rfl rfl 17 (by decide) fl_X5_readsShow_X5_17 rfl (by decide +kernel) rfl rfl (Nat.le_of_ble_eq_true rfl) (mW_f5 ad cI _ _) dX5_readsShow_45 rfl ?_
      refine v_st (rS3 σ (rd3 (σ 4) L a) (rdf (σ 4) L a) (rdq (σ 4) L a) (rdd (σ 4) L a)) (rS3_of _ _ _ _ _) ?_
      refine v_aload_n C dX5_readsShow_48 rfl 0 0 rfl rfl ?_
      refine v_get C K in_X5_readsShow_X5 0 rfl rfl 17 (by decide) fl_X5_readsShow_X5_17 rfl dX5_readsShow_49 rfl ?_
      refine v_top ((rdd (σ 4) L a)) (by rw [rS3, st9_s, upd_s]) ?_
      refine v_if_lt C 59 dX5_readsShow_52 (by decide) rfl (fun h52 => ?_) (fun h52f => ?_)
      · skip
        refine v_iconst (v := 0) C dX5_readsShow_59 rfl ic_0 ?_
        exact hend (⟨(if_pos h52).symm, rfl⟩) (rfl) dX5_readsShow_60
      · skip
        refine v_iconst (v := 1) C dX5_readsShow_55 rfl ic_1 ?_
        refine v_goto C 60 dX5_readsShow_56 (by decide) ?_
        exact hend (⟨(if_neg h52f).symm, rfl⟩) (rfl) dX5_readsShow_60
    refine v_top ((rdq (σ 4) L a)) (by rw [rS2, st9_s, upd_s]) ?_
    refine v_if_ge C 41 dX5_readsShow_34 (by decide) rfl (fun h34 => ?_) (fun h34f => ?_)
    · skip
      refine v_aload_n C dX5_readsShow_41 rfl 0 0 rfl rfl ?_
      refine v_callVid C K (c_X5_takeDay l D ad cI _ L (by rw [rS2, st9_s, upd_n _ _ (by decide), upd_n _ _ (by decide), upd_n _ _ (by decide)]; exact hL) hL6 (rd2 (σ 4) L a) (by rw [rS2, st9_s, upd_n _ _ (by decide), upd_n _ _ (by decide), upd_s]) l2.1) gX5_readsShow_X5_takeDay rfl hd_X5_takeDay ⟨rfl, rfl⟩ ⟨Nat.le_of_ble_eq_true rfl, Nat.le_of_ble_eq_true rfl⟩ 0 rfl rfl rfl rfl rfl (Nat.le_of_ble_eq_true rfl) ⟨Nat.le_refl _, Nat.le_refl _⟩ dX5_readsShow_42 rfl ?_
      exact v9cast J45 (by first | rw [rd3, if_pos h34]; exact rS2_at _ _ _ _ _ | rw [rd3, if_neg h34f]) rfl (by first | rw [rdd, if_pos h34]; rfl | rw [rdd, if_neg h34f])
    · skip
      refine v_iconst (v := -1) C dX5_readsShow_37 rfl ic_m1 ?_
      refine v_goto C 45 dX5_readsShow_38 (by decide) ?_
      exact v9cast J45 (by first | rw [rd3, if_pos h34]; exact rS2_at _ _ _ _ _ | rw [rd3, if_neg h34f]) rfl (by first | rw [rdd, if_pos h34]; rfl | rw [rdd, if_neg h34f])
  refine v_top ((rdf (σ 4) L a)) (by rw [rS1, st9_s, upd_s]) ?_
  refine v_if_ge C 22 dX5_readsShow_15 (by decide) rfl (fun h15 => ?_) (fun h15f => ?_)
  · skip
    refine v_aload_n C dX5_readsShow_22 rfl 0 0 rfl rfl ?_
    refine v_callVid C K (c_X5_takePart l D ad cI _ L (by rw [rS1, st9_s, upd_n _ _ (by decide), upd_n _ _ (by decide)]; exact hL) hL6 (rd1 (σ 4) L a) (by rw [rS1, st9_s, upd_n _ _ (by decide), upd_s]) l1.1) gX5_readsShow_X5_takePart rfl hd_X5_takePart ⟨rfl, rfl⟩ ⟨Nat.le_of_ble_eq_true rfl, Nat.le_of_ble_eq_true rfl⟩ 0 rfl rfl rfl rfl rfl (Nat.le_of_ble_eq_true rfl) ⟨Nat.le_refl _, Nat.le_refl _⟩ dX5_readsShow_23 rfl ?_
    exact v9cast J26 (by first | rw [rd2, if_pos h15]; exact rS1_at _ _ _ _ | rw [rd2, if_neg h15f]) rfl (by first | rw [rdq, if_pos h15]; rfl | rw [rdq, if_neg h15f])
  · skip
    refine v_iconst (v := -1) C dX5_readsShow_18 rfl ic_m1 ?_
    refine v_goto C 26 dX5_readsShow_19 (by decide) ?_
    exact v9cast J26 (by first | rw [rd2, if_pos h15]; exact rS1_at _ _ _ _ | rw [rd2, if_neg h15f]) rfl (by first | rw [rdq, if_pos h15]; rfl | rw [rdq, if_neg h15f])
set_option maxHeartbeats 4000000 in
set_option maxRecDepth 100000 in
theorem c_X5_isNext (l : Launch) (D : va_G) (ad : Nat → Nat) (cI : ClassId) (σ : S9) (L : Nat) (hL : σ 12 1 = nI L) (hL6 : L ≤ 60) (a : Nat) (ha : σ 12 2 = nI a) (hal : a ≤ L) : CMi l (mW ad cI) D [(cI, .int)] yX5_isNext wsX5_isNext ({ frames := 1, cells := 0, slots := 0, locals := 21 } : Room) [.ref (ad 0)] σ (fun r u => r = isn (σ 4) L a ∧ u = atS σ (if chr (σ 4) L a = 44 then a + 1 else a)) := by
  refine v_starti (own := RX5) (cc := cX5_isNext) (nL := 2) rfl (by decide) rfl (Nat.le_of_ble_eq_true rfl) ?_
  intro p e s m args below meth c A Q C K hend
  refine v_lv (lv' := [(0, .ref (ad 0))]) [0] rfl ?_
  refine v_aload_n C dX5_isNext_0 rfl 0 0 rfl rfl ?_
  refine v_aload_n C dX5_isNext_1 rfl 0 0 rfl rfl ?_
  refine v_get C K in_X5_isNext_X5 0 rfl rfl 14 (by decide) fl_X5_isNext_X5_14 rfl dX5_isNext_2 rfl ?_
  refine v_top (nI a) (ha) ?_
  refine v_callVid C K (c_X5_character l D ad cI _ L hL hL6 a hal) gX5_isNext_X5_character rfl hd_X5_character ⟨rfl, rfl⟩ ⟨Nat.le_of_ble_eq_true rfl, Nat.le_of_ble_eq_true rfl⟩ 0 rfl rfl rfl rfl rfl (Nat.le_of_ble_eq_true rfl) ⟨Nat.le_refl _, Nat.le_refl _⟩ dX5_isNext_5 rfl ?_
  refine v_bipush (v := 44) C dX5_isNext_8 rfl bp_44 ?_
  refine v_icmp_ne C 17 dX5_isNext_10 (by decide) rfl (fun h10 => ?_) (fun h10f => ?_)
  · skip
    refine v_iconst (v := 0) C dX5_isNext_17 rfl ic_0 ?_
    refine v_istore_n (lv' := [(1, _), (0, _)]) C dX5_isNext_18 rfl 1 rfl (by decide) rfl ?_
    refine v_aload_n C dX5_isNext_19 rfl 0 1 rfl rfl ?_
    refine v_dup C dX5_isNext_20 rfl rfl ?_
    refine v_get C K in_X5_isNext_X5 0 rfl rfl 14 (by decide) fl_X5_isNext_X5_14 rfl dX5_isNext_21 rfl ?_
    refine v_iload_n C dX5_isNext_24 rfl 1 0 rfl rfl ?_
    refine v_if_eq C 32 dX5_isNext_25 (by decide) rfl (fun _ => ?_) (fun h9 => absurd (rfl) h9)
    refine v_iconst (v := 0) C dX5_isNext_32 rfl ic_0 ?_
    refine v_iadd C dX5_isNext_33 rfl ?_
    refine v_top (nI a) (by rw [ha]; exact Int32.add_zero _) ?_
    refine v_put (ty := .int) C K _ in_X5_isNext_X5 tyX5_ok nmX5 0 rfl rfl 14 (by decide) fl_X5_isNext_X5_14 rfl (by decide +kernel) rfl rfl (Nat.le_of_ble_eq_true rfl) (mW_f2 ad cI _ _) dX5_isNext_34 rfl ?_
    refine v_iload_n C dX5_isNext_37 rfl 1 0 rfl rfl ?_
    exact hend (⟨(if_neg h10).symm, by rw [if_neg h10, atS]⟩) (rfl) dX5_isNext_38
  · skip
    refine v_iconst (v := 1) C dX5_isNext_13 rfl ic_1 ?_
    refine v_goto C 18 dX5_isNext_14 (by decide) ?_
    refine v_istore_n (lv' := [(1, _), (0, _)]) C dX5_isNext_18 rfl 1 rfl (by decide) rfl ?_
    refine v_aload_n C dX5_isNext_19 rfl 0 1 rfl rfl ?_
    refine v_dup C dX5_isNext_20 rfl rfl ?_
    refine v_get C K in_X5_isNext_X5 0 rfl rfl 14 (by decide) fl_X5_isNext_X5_14 rfl dX5_isNext_21 rfl ?_
    refine v_iload_n C dX5_isNext_24 rfl 1 0 rfl rfl ?_
    refine v_if_eq C 32 dX5_isNext_25 (by decide) rfl (fun h9 => absurd h9 (by decide)) (fun _ => ?_)
    refine v_iconst (v := 1) C dX5_isNext_28 rfl ic_1 ?_
    refine v_goto C 33 dX5_isNext_29 (by decide) ?_
    refine v_iadd C dX5_isNext_33 rfl ?_
    refine v_top (nI (a + 1)) (by rw [ha]; exact nI_1 a) ?_
    refine v_put (ty := .int) C K _ in_X5_isNext_X5 tyX5_ok nmX5 0 rfl rfl 14 (by decide) fl_X5_isNext_X5_14 rfl (by decide +kernel) rfl rfl (Nat.le_of_ble_eq_true rfl) (mW_f2 ad cI _ _) dX5_isNext_34 rfl ?_
    refine v_iload_n C dX5_isNext_37 rfl 1 0 rfl rfl ?_
    exact hend (⟨(if_pos h10f).symm, by rw [if_pos h10f, atS]⟩) (rfl) dX5_isNext_38

/-! ===== texts: characters, a show's three parts, the first fault, as the reference reads them ===== -/
def chr (T : Nat → Int32) (L a : Nat) : Int32 := if a < L then T a else -1
def dg (T : Nat → Int32) (L a : Nat) (m : Int32) : Int32 := if p_in (chr T L a - 48) 0 m = 0 then -1 else chr T L a - 48
def nx (r : Int32) (a : Nat) : Nat := if r < 0 then a else a + 1
def ptv (T : Nat → Int32) (L a : Nat) : Int32 := if chr T L a = 97 then 0 else if chr T L a = 101 then 1 else -1
def dy1 (T : Nat → Int32) (L a : Nat) : Nat := nx (dg T L a 9) a
def dy2 (T : Nat → Int32) (L a : Nat) : Int32 := chr T L (dy1 T L a) - 48
abbrev dyc (T : Nat → Int32) (L a : Nat) : Prop := ¬ dg T L a 9 ≤ 0 ∧ ¬ p_in (dy2 T L a) 0 9 = 0 ∧ ¬ 35 ≤ 10 * dg T L a 9 + dy2 T L a
def dyv (T : Nat → Int32) (L a : Nat) : Int32 := if dyc T L a then 10 * dg T L a 9 + dy2 T L a else dg T L a 9
def dya (T : Nat → Int32) (L a : Nat) : Nat := if dyc T L a then dy1 T L a + 1 else dy1 T L a
def rdf (T : Nat → Int32) (L a : Nat) : Int32 := dg T L a 7
def rd1 (T : Nat → Int32) (L a : Nat) : Nat := nx (rdf T L a) a
def rdq (T : Nat → Int32) (L a : Nat) : Int32 := if 0 ≤ rdf T L a then ptv T L (rd1 T L a) else -1
def rd2 (T : Nat → Int32) (L a : Nat) : Nat := if 0 ≤ rdf T L a then nx (ptv T L (rd1 T L a)) (rd1 T L a) else rd1 T L a
def rdd (T : Nat → Int32) (L a : Nat) : Int32 := if 0 ≤ rdq T L a then dyv T L (rd2 T L a) else -1
def rd3 (T : Nat → Int32) (L a : Nat) : Nat := if 0 ≤ rdq T L a then dya T L (rd2 T L a) else rd2 T L a
def ffl (T : Nat → Int32) (L : Nat) : Nat → Nat → Int32
  | 0, a => nI a
  | n + 1, a => if rdd T L a < 0 then nI (rd3 T L a) else if rd3 T L a = L then -6 else if chr T L (rd3 T L a) = 44 then ffl T L n (rd3 T L a + 1) else nI (rd3 T L a)
def cy (T : Nat → Int32) (L : Nat) : Nat → (Nat → Int32) → Nat → Nat × (Nat → Int32)
  | 0, r, _ => (0, r)
  | n + 1, r, a => if a < L then (if p_why r (rdf T L a) (rdd T L a) (rdq T L a) = 0 then ((cy T L n (upd r (46 + q_k (rdd T L a) (rdq T L a)) (rdf T L a)) (rd3 T L a + 1)).1 + 1, (cy T L n (upd r (46 + q_k (rdd T L a) (rdq T L a)) (rdf T L a)) (rd3 T L a + 1)).2) else (0, r)) else (0, r)
theorem cy_ge (T : Nat → Int32) {L a : Nat} (h : L ≤ a) (n : Nat) (r : Nat → Int32) : cy T L n r a = (0, r) := by
  cases n with
  | zero => rfl
  | succ n => rw [cy, if_neg (by omega)]
theorem chr_lt {T : Nat → Int32} {L a : Nat} (h : ¬ chr T L a = -1) : a < L := by
  rcases Nat.lt_or_ge a L with q | q
  · exact q
  · exact absurd (if_neg (by omega)) h
theorem dg_cs (T : Nat → Int32) (L a : Nat) {n : Nat} (hn : n < 100) : (p_in (chr T L a - 48) 0 (nI n) = 0 ∧ dg T L a (nI n) = -1) ∨ (¬ p_in (chr T L a - 48) 0 (nI n) = 0 ∧ a < L ∧ ∃ j : Nat, j ≤ n ∧ chr T L a - 48 = nI j ∧ dg T L a (nI n) = nI j) := by
  by_cases h : p_in (chr T L a - 48) 0 (nI n) = 0
  · exact Or.inl ⟨h, if_pos h⟩
  · obtain ⟨j, hj, e⟩ := p_in_nI (n := n) (by omega) h
    refine Or.inr ⟨h, chr_lt (T := T) ?_, j, hj, e, (if_neg h).trans e⟩
    intro q
    rw [q] at h
    exact h (if_pos (by decide))
theorem nI_nneg {n : Nat} (h : n < 100000) : ¬ nI n < 0 := nI_pos (by omega)
theorem nx_m (a : Nat) : nx (-1) a = a := rfl
theorem nx_n {j : Nat} (hj : j < 100000) (a : Nat) : nx (nI j) a = a + 1 := if_neg (nI_nneg hj)
theorem nx_dg (T : Nat → Int32) {L a : Nat} {n : Nat} (hn : n < 100) (hal : a ≤ L) : nx (dg T L a (nI n)) a ≤ L ∧ a ≤ nx (dg T L a (nI n)) a := by
  rcases dg_cs T L a hn with ⟨-, e⟩ | ⟨-, h, j, hj, -, e⟩
  · rw [e, nx_m]
    exact ⟨hal, Nat.le_refl _⟩
  · rw [e, nx_n (by omega)]
    omega
theorem ptv_cs (T : Nat → Int32) (L a : Nat) : (¬ chr T L a = 97 ∧ ¬ chr T L a = 101 ∧ ptv T L a = -1) ∨ (chr T L a = 97 ∧ a < L ∧ ptv T L a = nI 0) ∨ (¬ chr T L a = 97 ∧ chr T L a = 101 ∧ a < L ∧ ptv T L a = nI 1) := by
  by_cases h : chr T L a = 97
  · exact Or.inr (Or.inl ⟨h, chr_lt (by rw [h]; decide), if_pos h⟩)
  · by_cases h2 : chr T L a = 101
    · exact Or.inr (Or.inr ⟨h, h2, chr_lt (by rw [h2]; decide), by rw [ptv, if_neg h, if_pos h2]; rfl⟩)
    · exact Or.inl ⟨h, h2, by rw [ptv, if_neg h, if_neg h2]⟩
theorem nx_pt (T : Nat → Int32) {L a : Nat} (hal : a ≤ L) : nx (ptv T L a) a ≤ L ∧ a ≤ nx (ptv T L a) a := by
  rcases ptv_cs T L a with ⟨-, -, e⟩ | ⟨-, h, e⟩ | ⟨-, -, h, e⟩ <;> rw [e]
  · exact ⟨hal, Nat.le_refl _⟩
  · rw [nx_n (by decide)]
    omega
  · rw [nx_n (by decide)]
    omega
theorem dy1_le (T : Nat → Int32) {L a : Nat} (hal : a ≤ L) : dy1 T L a ≤ L ∧ a ≤ dy1 T L a := nx_dg (n := 9) T (by decide) hal
theorem dya_le (T : Nat → Int32) {L a : Nat} (hal : a ≤ L) : dya T L a ≤ L ∧ a ≤ dya T L a := by
  have h1 := dy1_le T hal
  unfold dya
  by_cases h : dyc T L a
  · rw [if_pos h]
    have h2 : dy1 T L a < L := by
      refine chr_lt (T := T) (fun q => h.2.1 ?_)
      rw [dy2, q]
      decide
    omega
  · rw [if_neg h]
    exact h1
theorem rd1_le (T : Nat → Int32) {L a : Nat} (hal : a ≤ L) : rd1 T L a ≤ L ∧ a ≤ rd1 T L a := nx_dg (n := 7) T (by decide) hal
theorem rd2_le (T : Nat → Int32) {L a : Nat} (hal : a ≤ L) : rd2 T L a ≤ L ∧ a ≤ rd2 T L a := by
  have h1 := rd1_le T hal
  have h2 := nx_pt T h1.1
  unfold rd2
  by_cases h : 0 ≤ rdf T L a
  · rw [if_pos h]
    omega
  · rw [if_neg h]
    exact h1
theorem rd3_le (T : Nat → Int32) {L a : Nat} (hal : a ≤ L) : rd3 T L a ≤ L ∧ a ≤ rd3 T L a := by
  have h1 := rd2_le T hal
  have h2 := dya_le T h1.1
  unfold rd3
  by_cases h : 0 ≤ rdq T L a
  · rw [if_pos h]
    omega
  · rw [if_neg h]
    exact h1
/-! the reference's place in the text, and the show that it has read -/
def atS (σ : S9) (a : Nat) : S9 := st9 σ 12 (upd (σ 12) 2 (nI a))
theorem atS_12 (σ : S9) (a : Nat) : atS σ a 12 = upd (σ 12) 2 (nI a) := st9_s σ 12 _
theorem atS_id {σ : S9} {a : Nat} (h : σ 12 2 = nI a) : atS σ a = σ := by
  rw [atS, ← h, upd_id, st9_id]
theorem atS_pt (σ : S9) (a : Nat) (x : Int32) : st9 (atS σ a) 12 (upd (atS σ a 12) 2 x) = st9 σ 12 (upd (σ 12) 2 x) := by
  rw [atS_12, upd_tw, atS, st9_tw]
def rS1 (σ : S9) (a : Nat) (f : Int32) : S9 := st9 σ 12 (upd (upd (σ 12) 2 (nI a)) 3 f)
def rS2 (σ : S9) (a : Nat) (f q : Int32) : S9 := st9 σ 12 (upd (upd (upd (σ 12) 2 (nI a)) 3 f) 4 q)
def rS3 (σ : S9) (a : Nat) (f q d : Int32) : S9 := st9 σ 12 (upd (upd (upd (upd (σ 12) 2 (nI a)) 3 f) 4 q) 5 d)
theorem rS1_of (σ : S9) (a : Nat) (f : Int32) : st9 (atS σ a) 12 (upd (atS σ a 12) 3 f) = rS1 σ a f := by rw [atS_12, atS, st9_tw, rS1]
theorem upd_sw (f : Nat → Int32) {i j : Nat} (x y : Int32) (h : i ≠ j) : upd (upd f i x) j y = upd (upd f j y) i x := by
  funext k
  by_cases e : k = i
  · subst e
    rw [upd_n _ _ h, upd_s, upd_s]
  · rw [upd_n _ _ e]
    by_cases e2 : k = j
    · subst e2
      rw [upd_s, upd_s]
    · rw [upd_n _ _ e2, upd_n _ _ e2, upd_n _ _ e]
theorem rS1_at (σ : S9) (a b : Nat) (f : Int32) : atS (rS1 σ a f) b = rS1 σ b f := by
  rw [atS, rS1, st9_s, st9_tw, upd_sw _ _ _ (show 3 ≠ 2 by decide), upd_tw, rS1]
theorem rS2_of (σ : S9) (a : Nat) (f q : Int32) : st9 (rS1 σ a f) 12 (upd (rS1 σ a f 12) 4 q) = rS2 σ a f q := by rw [rS1, st9_s, st9_tw, rS2]
theorem rS2_at (σ : S9) (a b : Nat) (f q : Int32) : atS (rS2 σ a f q) b = rS2 σ b f q := by
  rw [atS, rS2, st9_s, st9_tw, upd_sw _ _ _ (show 4 ≠ 2 by decide), upd_sw _ _ _ (show 3 ≠ 2 by decide), upd_tw, rS2]
theorem rS3_of (σ : S9) (a : Nat) (f q d : Int32) : st9 (rS2 σ a f q) 12 (upd (rS2 σ a f q 12) 5 d) = rS3 σ a f q d := by rw [rS2, st9_s, st9_tw, rS3]
/-- all but the reference's place and what it has read -/
def tx9 (σ u : S9) : Prop := (∀ i, i ≠ 12 → u i = σ i) ∧ u 12 0 = σ 12 0 ∧ u 12 1 = σ 12 1
theorem tx9_rf (σ : S9) : tx9 σ σ := ⟨fun _ _ => rfl, rfl, rfl⟩
theorem tx9_tr {a b c : S9} (h : tx9 a b) (k : tx9 b c) : tx9 a c := ⟨fun i hi => (k.1 i hi).trans (h.1 i hi), k.2.1.trans h.2.1, k.2.2.trans h.2.2⟩
theorem tx9_at (σ : S9) (a : Nat) : tx9 σ (atS σ a) := ⟨fun i hi => st9_n _ _ hi, by rw [atS_12, upd_n _ _ (by decide)], by rw [atS_12, upd_n _ _ (by decide)]⟩
theorem tx9_r3 (σ : S9) (a : Nat) (f q d : Int32) : tx9 σ (rS3 σ a f q d) ∧ rS3 σ a f q d 12 2 = nI a ∧ rS3 σ a f q d 12 3 = f ∧ rS3 σ a f q d 12 4 = q ∧ rS3 σ a f q d 12 5 = d := by
  refine ⟨⟨fun i hi => st9_n _ _ hi, ?_, ?_⟩, ?_, ?_, ?_, ?_⟩ <;> rw [rS3, st9_s]
  · rw [upd_n _ _ (by decide), upd_n _ _ (by decide), upd_n _ _ (by decide), upd_n _ _ (by decide)]
  · rw [upd_n _ _ (by decide), upd_n _ _ (by decide), upd_n _ _ (by decide), upd_n _ _ (by decide)]
  · rw [upd_n _ _ (by decide), upd_n _ _ (by decide), upd_n _ _ (by decide), upd_s]
  · rw [upd_n _ _ (by decide), upd_n _ _ (by decide), upd_s]
  · rw [upd_n _ _ (by decide), upd_s]
  · rw [upd_s]
def isn (T : Nat → Int32) (L a : Nat) : Int32 := if chr T L a = 44 then 1 else 0

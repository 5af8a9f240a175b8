/-! ===== texts: the class's way from character to character, and the reference's way from show to show ===== -/
def bD (c : Int32) : Int32 := if c = 44 then 0 else 6
def bF (c : Int32) : Int32 := if c = 49 then 3 else if c = 50 then 3 else if c = 51 then 4 else if p_in c 48 57 = 0 then 6 else 5
def bh (q c : Int32) : Int32 := if q = 0 then (if p_in c 48 55 = 0 then 6 else 1) else if q = 1 then (if c = 97 then 2 else if c = 101 then 2 else 6) else if q = 2 then bF c else if q = 3 then (if p_in c 48 57 = 0 then bD c else 5) else if q = 4 then (if p_in c 48 52 = 0 then bD c else 5) else bD c
def df (T : Nat → Int32) : Nat → Int32 → Nat → Int32
  | 0, q, i => if q < 3 then nI i else -6
  | n + 1, q, i => if bh q (T i) = 6 then nI i else df T n (bh q (T i)) (i + 1)
theorem p_in_01 (v lo hi : Int32) : p_in v lo hi = 0 ∨ p_in v lo hi = 1 := by
  by_cases h : p_in v lo hi = 0
  · exact Or.inl h
  · exact Or.inr (p_in_1 h)
theorem sub48 {c : Int32} {j : Nat} (h : c - 48 = nI j) : c = nI (48 + j) := by
  have e : nI (48 + j) = 48 + nI j := (nI_add 48 j).symm
  rw [e, ← h]
  grind
theorem p_in_b {a b j : Nat} (ha : a < 1000) (hb : b < 1000) (hj : j < 1000) : ¬ p_in (nI j) (nI a) (nI b) = 0 ↔ a ≤ j ∧ j ≤ b := by
  unfold p_in
  by_cases h1 : j < a
  · rw [if_pos (nI_lt h1 (by omega))]
    exact ⟨fun q => absurd rfl q, fun q => by omega⟩
  · rw [if_neg (nI_nlt (by omega) (by omega))]
    by_cases h2 : b < j
    · rw [if_pos (nI_lt h2 (by omega))]
      exact ⟨fun q => absurd rfl q, fun q => by omega⟩
    · rw [if_neg (nI_nlt (by omega) (by omega))]
      exact ⟨fun _ => by omega, fun _ => by decide⟩
theorem p_sh (c : Int32) {k : Nat} (hk : k ≤ 9) : p_in c 48 (nI (48 + k)) = p_in (c - 48) 0 (nI k) := by
  by_cases h : p_in (c - 48) 0 (nI k) = 0
  · rw [h]
    rcases p_in_01 c 48 (nI (48 + k)) with e | e
    · exact e
    · have h1 := p_in_ne (v := c) (lo := 48) (hi := nI (48 + k)) (by rw [e]; decide)
      obtain ⟨j, hj, rfl⟩ := nI_of2 (x := c) (M := nI (48 + k)) (n := 48 + k) (nI_toInt (by omega)) (fun q => absurd (Int32.lt_of_lt_of_le q (show (0 : Int32) ≤ 48 by decide)) (Int32.not_lt.mpr h1.1)) h1.2
      have h2 : 48 ≤ j := (nI_leI (a := 48) (by decide) (by omega)).mp h1.1
      obtain ⟨i, rfl⟩ : ∃ i, j = 48 + i := ⟨j - 48, by omega⟩
      have e2 : nI (48 + i) - 48 = nI i := by rw [show (48 : Int32) = nI 48 from rfl, pk_sub (by omega), show 48 + i - 48 = i by omega]
      rw [e2] at h
      exact absurd h ((p_in_b (a := 0) (by omega) (by omega) (by omega)).mpr ⟨by omega, by omega⟩)
  · obtain ⟨j, hj, e⟩ := p_in_nI (n := k) (by omega) h
    rw [p_in_1 h, sub48 e]
    exact p_in_1 ((p_in_b (a := 48) (by omega) (by omega) (by omega)).mpr ⟨by omega, by omega⟩)
theorem nI_b {a b : Nat} (ha : a < 1000) (hb : b < 1000) (h : ¬ a = b) : ¬ nI a = nI b := fun q => h (nI_inj (by omega) (by omega) q)
theorem chr_in {T : Nat → Int32} {L a : Nat} (h : a < L) : chr T L a = T a := if_pos h
theorem chr_out {T : Nat → Int32} {L : Nat} : chr T L L = -1 := if_neg (Nat.lt_irrefl L)
/-- how a text goes on behind a day -/
def t9 (T : Nat → Int32) (L n i : Nat) : Int32 := if i = L then -6 else if chr T L i = 44 then ffl T L n (i + 1) else nI i
theorem ffl_t9 {T : Nat → Int32} {L n a : Nat} (h : ¬ rdd T L a < 0) : ffl T L (n + 1) a = t9 T L n (rd3 T L a) := by rw [ffl, if_neg h, t9]
theorem df_t9 {T : Nat → Int32} {L n i : Nat} {q : Int32} (hi : i ≤ L) (hq : ¬ q < 3) (hb : i < L → bh q (T i) = bD (T i)) (ih : i < L → df T (L - (i + 1)) 0 (i + 1) = ffl T L n (i + 1)) : df T (L - i) q i = t9 T L n i := by
  unfold t9
  by_cases e : i = L
  · subst e
    rw [if_pos rfl, Nat.sub_self, df, if_neg hq]
  · rw [if_neg e, show L - i = (L - (i + 1)) + 1 by omega, df, hb (by omega), chr_in (by omega)]
    unfold bD
    by_cases h : T i = 44
    · rw [if_pos h, if_pos h, if_neg (by decide), ih (by omega)]
    · rw [if_neg h, if_neg h, if_pos rfl]
/-- the class goes a character on -/
theorem df_s {T : Nat → Int32} {L i : Nat} {q q2 : Int32} (hi : i < L) (hb : bh q (T i) = q2) (h6 : ¬ q2 = 6) : df T (L - i) q i = df T (L - (i + 1)) q2 (i + 1) := by
  rw [show L - i = (L - (i + 1)) + 1 by omega, df, hb, if_neg h6]
theorem df_x {T : Nat → Int32} {L i : Nat} {q : Int32} (hi : i < L) (hb : bh q (T i) = 6) : df T (L - i) q i = nI i := by
  rw [show L - i = (L - (i + 1)) + 1 by omega, df, if_pos hb]
theorem df_e {T : Nat → Int32} {L : Nat} {q : Int32} (hq : q < 3) : df T (L - L) q L = nI L := by
  rw [Nat.sub_self, df, if_pos hq]
theorem dgx {T : Nat → Int32} {L a n : Nat} (h : p_in (chr T L a - 48) 0 (nI n) = 0) : dg T L a (nI n) = -1 := if_pos h
theorem dgv {T : Nat → Int32} {L a n j : Nat} (hj : j ≤ n) (hn : n < 100) (h : chr T L a - 48 = nI j) : dg T L a (nI n) = nI j := by
  rw [dg, h, if_neg (show ¬ p_in (nI j) 0 (nI n) = 0 from (p_in_b (a := 0) (by omega) (by omega) (by omega)).mpr ⟨by omega, hj⟩)]
theorem ffl_f {T : Nat → Int32} {L n a : Nat} (h : p_in (chr T L a - 48) 0 7 = 0) : ffl T L (n + 1) a = nI a := by
  have e : rdf T L a = -1 := dgx (n := 7) h
  have e1 : rd1 T L a = a := by rw [rd1, e]; rfl
  have e2 : rdq T L a = -1 := by rw [rdq, e]; rfl
  have e3 : rd2 T L a = a := by rw [rd2, e]; exact e1
  have e4 : rdd T L a = -1 := by rw [rdd, e2]; rfl
  have e5 : rd3 T L a = a := by rw [rd3, e2]; exact e3
  rw [ffl_a (by rw [e4]; decide), e5]
/-- a film at a -/
def hF (T : Nat → Int32) (L a f : Nat) : Prop := f ≤ 7 ∧ chr T L a - 48 = nI f
theorem hF_rd {T : Nat → Int32} {L a f : Nat} (h : hF T L a f) : rdf T L a = nI f ∧ rd1 T L a = a + 1 ∧ rdq T L a = ptv T L (a + 1) ∧ rd2 T L a = nx (ptv T L (a + 1)) (a + 1) := by
  have e : rdf T L a = nI f := dgv (n := 7) h.1 (by decide) h.2
  have e1 : rd1 T L a = a + 1 := by rw [rd1, e, nx_n (by have := h.1; omega)]
  have h0 : 0 ≤ nI f := nI_pos' (by have := h.1; omega)
  exact ⟨e, e1, by rw [rdq, e, if_pos h0, e1], by rw [rd2, e, if_pos h0, e1]⟩
theorem ffl_p {T : Nat → Int32} {L n a f : Nat} (h : hF T L a f) (hp : ptv T L (a + 1) = -1) : ffl T L (n + 1) a = nI (a + 1) := by
  obtain ⟨-, -, e2, e3⟩ := hF_rd h
  rw [hp] at e2 e3
  have e4 : rdd T L a = -1 := by rw [rdd, e2]; rfl
  have e5 : rd3 T L a = a + 1 := by rw [rd3, e2]; exact e3
  rw [ffl_a (by rw [e4]; decide), e5]
/-- a film at a, a part behind it -/
def hQ (T : Nat → Int32) (L a f p : Nat) : Prop := hF T L a f ∧ p < 2 ∧ ptv T L (a + 1) = nI p
theorem hQ_rd {T : Nat → Int32} {L a f p : Nat} (h : hQ T L a f p) : rdf T L a = nI f ∧ rdq T L a = nI p ∧ rdd T L a = dyv T L (a + 2) ∧ rd3 T L a = dya T L (a + 2) := by
  obtain ⟨e, -, e2, e3⟩ := hF_rd h.1
  have hp := h.2.1
  rw [h.2.2] at e2 e3
  rw [nx_n (by omega)] at e3
  have h0 : 0 ≤ nI p := nI_pos' (by omega)
  exact ⟨e, e2, by rw [rdd, e2, if_pos h0, e3], by rw [rd3, e2, if_pos h0, e3]⟩
theorem ffl_y {T : Nat → Int32} {L n a f p : Nat} (h : hQ T L a f p) (hd : p_in (chr T L (a + 2) - 48) 0 9 = 0) : ffl T L (n + 1) a = nI (a + 2) := by
  obtain ⟨-, -, e4, e5⟩ := hQ_rd h
  have ev : dg T L (a + 2) 9 = -1 := dgx (n := 9) hd
  have hc : ¬ dyc T L (a + 2) := fun q => q.1 (by rw [ev]; decide)
  rw [dyv, if_neg hc, ev] at e4
  rw [dya, if_neg hc, dy1, ev] at e5
  rw [ffl_a (by rw [e4]; decide), e5]
  rfl
/-- a day's first digit at b; whether a second one goes with it -/
theorem day_1 {T : Nat → Int32} {L b j : Nat} (hj : j ≤ 9) (h : chr T L b - 48 = nI j) (hc : ¬ dyc T L b) : dyv T L b = nI j ∧ dya T L b = b + 1 := by
  have ev : dg T L b 9 = nI j := dgv (n := 9) hj (by decide) h
  exact ⟨by rw [dyv, if_neg hc, ev], by rw [dya, if_neg hc, dy1, ev, nx_n (by omega)]⟩
theorem dy2_e {T : Nat → Int32} {L b j : Nat} (hj : j ≤ 9) (h : chr T L b - 48 = nI j) : dy2 T L b = chr T L (b + 1) - 48 := by
  have ev : dg T L b 9 = nI j := dgv (n := 9) hj (by decide) h
  rw [dy2, dy1, ev, nx_n (by omega)]
theorem dyc_iff {T : Nat → Int32} {L b j : Nat} (hj : j ≤ 9) (h : chr T L b - 48 = nI j) : dyc T L b ↔ 0 < j ∧ ∃ i : Nat, i ≤ 9 ∧ chr T L (b + 1) - 48 = nI i ∧ 10 * j + i < 35 := by
  have ev : dg T L b 9 = nI j := dgv (n := 9) hj (by decide) h
  have e2 := dy2_e hj h
  unfold dyc
  rw [ev, e2]
  have e10 : (10 : Int32) * nI j = nI (10 * j) := by rw [show (10 : Int32) = nI 10 from rfl, pk_mul]
  rw [e10]
  constructor
  · rintro ⟨h1, h2, h3⟩
    obtain ⟨i, hi, ei⟩ := p_in_nI (n := 9) (by decide) h2
    rw [ei, nI_add] at h3
    refine ⟨?_, i, hi, ei, ?_⟩
    · rcases Nat.eq_zero_or_pos j with q | q
      · exact absurd (by rw [q]; decide) h1
      · exact q
    · rcases Nat.lt_or_ge (10 * j + i) 35 with q | q
      · exact q
      · exact absurd (nI_le (a := 35) q (by omega)) h3
  · rintro ⟨h1, i, hi, ei, h3⟩
    rw [ei, nI_add]
    exact ⟨nI_nle h1 (by omega), (p_in_b (a := 0) (b := 9) (by omega) (by omega) (by omega)).mpr ⟨by omega, hi⟩, fun q => absurd ((nI_leI (a := 35) (by decide) (by omega)).mp q) (by omega)⟩
theorem day_2 {T : Nat → Int32} {L b j i : Nat} (hj : j ≤ 9) (h : chr T L b - 48 = nI j) (hi : chr T L (b + 1) - 48 = nI i) (hc : dyc T L b) : dyv T L b = nI (10 * j + i) ∧ dya T L b = b + 2 := by
  have ev : dg T L b 9 = nI j := dgv (n := 9) hj (by decide) h
  exact ⟨by rw [dyv, if_pos hc, ev, dy2_e hj h, hi, show (10 : Int32) = nI 10 from rfl, pk_mul, nI_add], by rw [dya, if_pos hc, dy1, ev, nx_n (by omega)]⟩
theorem bh_0 (c : Int32) : bh 0 c = if p_in c 48 55 = 0 then 6 else 1 := if_pos rfl
theorem bh_1 (c : Int32) : bh 1 c = if c = 97 then 2 else if c = 101 then 2 else 6 := by rw [bh, if_neg (by decide), if_pos rfl]
theorem bh_2 (c : Int32) : bh 2 c = bF c := by rw [bh, if_neg (by decide), if_neg (by decide), if_pos rfl]
theorem bh_3 (c : Int32) : bh 3 c = if p_in c 48 57 = 0 then bD c else 5 := by rw [bh, if_neg (by decide), if_neg (by decide), if_neg (by decide), if_pos rfl]
theorem bh_4 (c : Int32) : bh 4 c = if p_in c 48 52 = 0 then bD c else 5 := by rw [bh, if_neg (by decide), if_neg (by decide), if_neg (by decide), if_neg (by decide), if_pos rfl]
theorem bh_5 (c : Int32) : bh 5 c = bD c := by rw [bh, if_neg (by decide), if_neg (by decide), if_neg (by decide), if_neg (by decide), if_neg (by decide)]
theorem bF_5 {j : Nat} (hj : j ≤ 9) (h : j = 0 ∨ 4 ≤ j) : bF (nI (48 + j)) = 5 := by
  rcases (show j = 0 ∨ j = 4 ∨ j = 5 ∨ j = 6 ∨ j = 7 ∨ j = 8 ∨ j = 9 by omega) with rfl | rfl | rfl | rfl | rfl | rfl | rfl <;> decide
theorem bF_3 {j : Nat} (h : j = 1 ∨ j = 2) : bF (nI (48 + j)) = 3 := by
  rcases h with rfl | rfl <;> decide
theorem bF_6 {c : Int32} (h : p_in c 48 57 = 0) : bF c = 6 := by
  unfold bF
  rw [if_neg (fun q => by rw [q] at h; exact absurd h (by decide)), if_neg (fun q => by rw [q] at h; exact absurd h (by decide)), if_neg (fun q => by rw [q] at h; exact absurd h (by decide)), if_pos h]
/-- a digit's place: the two ways to say that there is none -/
theorem no_dig {T : Nat → Int32} {L b k : Nat} (hk : k ≤ 9) (hb : b < L) (h : ¬ ∃ i : Nat, i ≤ k ∧ chr T L b - 48 = nI i) : p_in (T b) 48 (nI (48 + k)) = 0 := by
  rw [p_sh _ hk]
  rcases p_in_01 (T b - 48) 0 (nI k) with e | e
  · exact e
  · refine absurd ?_ h
    rw [chr_in hb]
    exact p_in_nI (by omega) (by rw [e]; decide)
theorem df_J {T : Nat → Int32} {L : Nat} : ∀ n a, a ≤ L → L < a + n → df T (L - a) 0 a = ffl T L n a := by
  intro n
  induction n with
  | zero => intro a h1 h2; omega
  | succ n ih =>
    intro a hal hfu
    have IH : ∀ b, a < b → b ≤ L → df T (L - b) 0 b = ffl T L n b := fun b h1 h2 => ih b h2 (by omega)
    clear ih
    by_cases hf : p_in (chr T L a - 48) 0 7 = 0
    · rw [ffl_f hf]
      by_cases e : a = L
      · rw [e]
        exact df_e (by decide)
      · refine df_x (by omega) ?_
        rw [chr_in (by omega)] at hf
        rw [bh_0, if_pos (show p_in (T a) 48 55 = 0 from (p_sh (T a) (k := 7) (by decide)).trans hf)]
    · have ha : a < L := chr_lt (T := T) (fun q => hf (by rw [q]; decide))
      have b0 : bh 0 (T a) = 1 := by
        rw [chr_in ha] at hf
        rw [bh_0, if_neg (show ¬ p_in (T a) 48 55 = 0 from fun q => hf ((p_sh (T a) (k := 7) (by decide)).symm.trans q))]
      obtain ⟨f, hf7, ef⟩ := p_in_nI (n := 7) (by decide) hf
      have hFh : hF T L a f := ⟨hf7, ef⟩
      rw [df_s ha b0 (by decide)]
      have hcs : ptv T L (a + 1) = -1 ∧ (a + 1 < L → bh 1 (T (a + 1)) = 6) ∨ a + 1 < L ∧ bh 1 (T (a + 1)) = 2 ∧ ∃ p : Nat, p < 2 ∧ ptv T L (a + 1) = nI p := by
        rcases ptv_cs T L (a + 1) with ⟨n1, n2, ep⟩ | ⟨e1, hl, ep⟩ | ⟨n1, e1, hl, ep⟩
        · refine Or.inl ⟨ep, fun hl => ?_⟩
          rw [chr_in hl] at n1 n2
          rw [bh_1, if_neg n1, if_neg n2]
        · rw [chr_in hl] at e1
          exact Or.inr ⟨hl, by rw [bh_1, if_pos e1], 0, by decide, ep⟩
        · rw [chr_in hl] at n1 e1
          exact Or.inr ⟨hl, by rw [bh_1, if_neg n1, if_pos e1], 1, by decide, ep⟩
      rcases hcs with ⟨ep, h6⟩ | ⟨hl, b1, p, hp, ep⟩
      · rw [ffl_p hFh ep]
        by_cases e : a + 1 = L
        · rw [e]
          exact df_e (by decide)
        · exact df_x (by omega) (h6 (by omega))
      · have hQh : hQ T L a f p := ⟨hFh, hp, ep⟩
        rw [df_s hl b1 (by decide)]
        show df T (L - (a + 2)) 2 (a + 2) = _
        by_cases hd : p_in (chr T L (a + 2) - 48) 0 9 = 0
        · rw [ffl_y hQh hd]
          by_cases e : a + 2 = L
          · rw [e]
            exact df_e (by decide)
          · have h2 : a + 2 < L := by omega
            rw [chr_in h2] at hd
            exact df_x h2 (by rw [bh_2, bF_6 ((p_sh (T (a + 2)) (k := 9) (by decide)).trans hd)])
        · have h2 : a + 2 < L := chr_lt (T := T) (fun q => hd (by rw [q]; decide))
          obtain ⟨j, hj, ej⟩ := p_in_nI (n := 9) (by decide) hd
          have ec : T (a + 2) = nI (48 + j) := by
            have := sub48 ej
            rwa [chr_in h2] at this
          obtain ⟨-, -, e4, e5⟩ := hQ_rd hQh
          have hdy := dyc_iff hj ej
          by_cases hc : dyc T L (a + 2)
          · obtain ⟨j0, i, hi, ei, hlt⟩ := hdy.mp hc
            obtain ⟨e6, e7⟩ := day_2 hj ej ei hc
            have h3 : a + 3 < L := chr_lt (T := T) (fun q => absurd (show nI i < 0 by rw [← ei]; show chr T L (a + 3) - 48 < 0; rw [q]; decide) (nI_nneg (by omega)))
            have ec3 : T (a + 3) = nI (48 + i) := by
              have := sub48 ei
              rwa [chr_in h3] at this
            rw [e6] at e4
            rw [e7] at e5
            rw [ffl_t9 (by rw [e4]; exact nI_nneg (by omega)), e5]
            have key : ∃ q : Int32, bh 2 (T (a + 2)) = q ∧ bh q (T (a + 3)) = 5 ∧ ¬ q = 6 := by
              by_cases e3 : j = 3
              · subst e3
                refine ⟨4, by rw [bh_2, ec]; decide, ?_, by decide⟩
                rw [bh_4, ec3, if_neg (show ¬ p_in (nI (48 + i)) 48 52 = 0 from (p_in_b (a := 48) (b := 52) (j := 48 + i) (by omega) (by omega) (by omega)).mpr ⟨by omega, by omega⟩)]
              · refine ⟨3, by rw [bh_2, ec]; exact bF_3 (by omega), ?_, by decide⟩
                rw [bh_3, ec3, if_neg (show ¬ p_in (nI (48 + i)) 48 57 = 0 from (p_in_b (a := 48) (b := 57) (j := 48 + i) (by omega) (by omega) (by omega)).mpr ⟨by omega, by omega⟩)]
            obtain ⟨q, hq1, hq2, hq3⟩ := key
            rw [df_s h2 hq1 hq3]
            show df T (L - (a + 3)) q (a + 3) = _
            rw [df_s h3 hq2 (by decide)]
            exact df_t9 (by omega) (by decide) (fun _ => bh_5 _) (fun h => IH _ (by omega) (by omega))
          · obtain ⟨e6, e7⟩ := day_1 hj ej hc
            rw [e6] at e4
            rw [e7] at e5
            rw [ffl_t9 (by rw [e4]; exact nI_nneg (by omega)), e5]
            have key : ∃ q : Int32, bh 2 (T (a + 2)) = q ∧ (a + 3 < L → bh q (T (a + 3)) = bD (T (a + 3))) ∧ ¬ q = 6 ∧ ¬ q < 3 := by
              by_cases e3 : j = 3
              · subst e3
                refine ⟨4, by rw [bh_2, ec]; decide, fun hl3 => ?_, by decide, by decide⟩
                rw [bh_4, if_pos (show p_in (T (a + 3)) 48 52 = 0 from no_dig (k := 4) (by decide) hl3 (fun ⟨i, hi, ei⟩ => hc (hdy.mpr ⟨by decide, i, by omega, ei, by omega⟩)))]
              · by_cases e12 : j = 1 ∨ j = 2
                · refine ⟨3, by rw [bh_2, ec]; exact bF_3 e12, fun hl3 => ?_, by decide, by decide⟩
                  rw [bh_3, if_pos (show p_in (T (a + 3)) 48 57 = 0 from no_dig (k := 9) (by decide) hl3 (fun ⟨i, hi, ei⟩ => hc (hdy.mpr ⟨by omega, i, by omega, ei, by omega⟩)))]
                · exact ⟨5, by rw [bh_2, ec]; exact bF_5 hj (by omega), fun _ => bh_5 _, by decide, by decide⟩
            obtain ⟨q, hq1, hq2, hq3, hq4⟩ := key
            rw [df_s h2 hq1 hq3]
            exact df_t9 (by omega) hq4 hq2 (fun h => IH _ (by omega) (by omega))

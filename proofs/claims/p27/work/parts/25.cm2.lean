/-! ===== the class's sums over its films, and the reference's over its places ===== -/
def c_X (r : Nat → Int32) (c f w : Nat) : Int32 := if c = 0 then q_S r f w else if c = 1 then q_ps r f w else if c = 2 then q_T r f w else if c = 3 then q_D r f w else q_T r f w - q_D r f w - q_S r f w * r 2
theorem FS_c {r : Nat → Int32} {f v c : Nat} {u : S9} (h : FS r f v u) (hc : c < 5) : u 3 (5 * v + c) = c_X r c f v := by
  obtain ⟨h0, h1, h2, h3, h4, -⟩ := h
  rcases (show c = 0 ∨ c = 1 ∨ c = 2 ∨ c = 3 ∨ c = 4 by omega) with rfl | rfl | rfl | rfl | rfl
  · exact h0
  · exact h1
  · exact h2
  · exact h3
  · exact h4
theorem sm9_add (a b : Nat → Int32) : ∀ n, sm9 (fun k => a k + b k) n = sm9 a n + sm9 b n
  | 0 => by show (0 : Int32) = 0 + 0; rfl
  | n + 1 => by rw [sm9, sm9, sm9, sm9_add a b n]; grind
theorem sm9_sub (a b : Nat → Int32) : ∀ n, sm9 (fun k => a k - b k) n = sm9 a n - sm9 b n
  | 0 => by show (0 : Int32) = 0 - 0; rfl
  | n + 1 => by rw [sm9, sm9, sm9, sm9_sub a b n]; grind
theorem sm9_mulr (a : Nat → Int32) (c : Int32) : ∀ n, sm9 (fun k => a k * c) n = sm9 a n * c
  | 0 => by show (0 : Int32) = 0 * c; grind
  | n + 1 => by rw [sm9, sm9, sm9_mulr a c n]; grind
theorem sm9_swap (a : Nat → Nat → Int32) (m : Nat) : ∀ n, sm9 (fun k => sm9 (fun f => a f k) n) m = sm9 (fun f => sm9 (fun k => a f k) m) n
  | 0 => by
    show sm9 (fun _ => 0) m = 0
    exact sm9_zero (fun _ _ => rfl)
  | n + 1 => by
    show sm9 (fun k => sm9 (fun f => a f k) n + a n k) m = sm9 (fun f => sm9 (fun k => a f k) m) n + sm9 (fun k => a n k) m
    rw [sm9_add (fun k => sm9 (fun f => a f k) n) (fun k => a n k) m, sm9_swap a m n]
theorem sm9_one {g : Nat → Int32} {a n : Nat} (ha : a < n) (h : ∀ k, k < n → k ≠ a → g k = 0) : sm9 g n = g a := by
  rw [show n = a + (1 + (n - a - 1)) by omega, sm9_split, sm9_split, sm9_zero (fun k hk => h k (by omega) (by omega)), sm9_zero (n := n - a - 1) (fun k hk => h _ (by omega) (by omega))]
  show 0 + (0 + g (a + 0) + 0) = g a
  rw [Nat.add_zero]
  grind
theorem sm9_more {g : Nat → Int32} {n m : Nat} (hm : n ≤ m) (h : ∀ k, n ≤ k → k < m → g k = 0) : sm9 g m = sm9 g n := by
  rw [show m = n + (m - n) by omega, sm9_split, sm9_zero (n := m - n) (fun k hk => h _ (by omega) (by omega)), Int32.add_zero]
theorem nof {r : Nat → Int32} {n f k : Nat} (hw : wfS r n) (hf : n ≤ f) (hf8 : f < 8) (hk : k < 70) : ¬ r (46 + k) = nI f := by
  intro e
  rcases hw.2.2 k hk with h | ⟨g, hg, h⟩
  · exact nI_ne6 (f := f) (by omega) (e.symm.trans h)
  · have := nI_inj (a := f) (b := g) (by omega) (by omega) (e.symm.trans h)
    omega
theorem q_S_0 {r : Nat → Int32} {n f : Nat} (hw : wfS r n) (hf : n ≤ f) (hf8 : f < 8) (w : Nat) : q_S r f w = 0 := sm9_zero (fun k hk => if_neg (fun q => nof hw hf hf8 hk q.1))
theorem q_T_0 {r : Nat → Int32} {n f : Nat} (hw : wfS r n) (hf : n ≤ f) (hf8 : f < 8) (w : Nat) : q_T r f w = 0 := sm9_zero (fun k hk => if_neg (fun q => nof hw hf hf8 hk q.1))
theorem q_D_0 {r : Nat → Int32} {n f : Nat} (hw : wfS r n) (hf : n ≤ f) (hf8 : f < 8) (w : Nat) : q_D r f w = 0 := if_pos (q_S_0 hw hf hf8 w)
theorem q_W_all {X : Nat → Nat → Int32} {n : Nat} (h8 : n ≤ 8) (h0 : ∀ f, n ≤ f → f < 8 → ∀ w, X f w = 0) : q_W X (-1) = sm9 (fun f => sm9 (X f) 5) n := by
  unfold q_W
  rw [sm9_more h8 (fun f hf hf8 => sm9_zero (fun w _ => by rw [h0 f hf hf8 w]; simp))]
  exact sm9_congr (fun f _ => sm9_congr (fun w _ => if_pos (Or.inl (by decide))))
theorem q_W_week {X : Nat → Nat → Int32} {n w : Nat} (h8 : n ≤ 8) (hw5 : w < 5) (h0 : ∀ f, n ≤ f → f < 8 → ∀ w, X f w = 0) : q_W X (nI w) = sm9 (fun f => X f w) n := by
  unfold q_W
  rw [sm9_more h8 (fun f hf hf8 => sm9_zero (fun w _ => by rw [h0 f hf hf8 w]; simp))]
  exact sm9_congr (fun f _ => by
    rw [sm9_one hw5 (fun v hv hne => if_neg (fun q => q.elim (nI_pos (by omega)) (fun e => hne (nI_inj (by omega) (by omega) e)))), if_pos (Or.inr rfl)])
/-- what is left by a film -/
def LF (r : Nat → Int32) (f : Nat) : Int32 := sm9 (c_X r 4 f) 5
theorem q_left_all {r : Nat → Int32} {n : Nat} (hw : wfS r n) : q_left r (-1) = sm9 (LF r) n + sm9 (fun j => r (116 + (0 + j))) (35 - 0) := by
  unfold q_left
  rw [q_W_all hw.2.1 (fun f a b w => q_T_0 hw a b w), q_W_all hw.2.1 (fun f a b w => q_D_0 hw a b w), q_W_all hw.2.1 (fun f a b w => q_S_0 hw a b w)]
  have e : sm9 (LF r) n = sm9 (fun f => sm9 (q_T r f) 5) n - sm9 (fun f => sm9 (q_D r f) 5) n - sm9 (fun f => sm9 (q_S r f) 5) n * r 2 := by
    rw [← sm9_mulr, ← sm9_sub, ← sm9_sub]
    exact sm9_congr (fun f _ => by
      show sm9 (fun w => q_T r f w - q_D r f w - q_S r f w * r 2) 5 = _
      rw [sm9_sub (fun w => q_T r f w - q_D r f w) (fun w => q_S r f w * r 2), sm9_sub (q_T r f) (q_D r f), sm9_mulr (q_S r f)])
  have e2 : sm9 (rnT r (-1)) 35 = sm9 (fun j => r (116 + (0 + j))) (35 - 0) := sm9_congr (fun j _ => by rw [Nat.zero_add]; exact if_pos (Or.inl (by decide)))
  rw [e, e2]
  grind
theorem q_left_week {r : Nat → Int32} {n w : Nat} (hw : wfS r n) (hw5 : w < 5) : q_left r (nI w) = sm9 (fun f => c_X r 4 f w) n + sm9 (fun j => r (116 + (7 * w + j))) (7 * w + 7 - 7 * w) := by
  unfold q_left
  rw [q_W_week hw.2.1 hw5 (fun f a b w => q_T_0 hw a b w), q_W_week hw.2.1 hw5 (fun f a b w => q_D_0 hw a b w), q_W_week hw.2.1 hw5 (fun f a b w => q_S_0 hw a b w)]
  have e : sm9 (fun f => c_X r 4 f w) n = sm9 (fun f => q_T r f w) n - sm9 (fun f => q_D r f w) n - sm9 (fun f => q_S r f w) n * r 2 := by
    rw [← sm9_mulr, ← sm9_sub, ← sm9_sub]
    rfl
  have e2 : sm9 (rnT r (nI w)) 35 = sm9 (fun j => r (116 + (7 * w + j))) (7 * w + 7 - 7 * w) := by
    have h0 : ∀ d, d < 35 → rnT r (nI w) d = if d / 7 = w then r (116 + d) else 0 := fun d hd => by
      unfold rnT
      by_cases q : d / 7 = w
      · rw [if_pos q, if_pos (Or.inr (by rw [q]))]
      · rw [if_neg q, if_neg]
        rintro (z | z)
        · exact nI_pos (by omega) z
        · exact q (nI_inj (by omega) (by omega) z)
    rw [sm9_congr h0, show (35 : Nat) = 7 * w + (7 + (35 - 7 * (w + 1))) by omega, sm9_split, sm9_split, sm9_zero (fun k hk => if_neg (fun q => by omega)), sm9_zero (n := 35 - 7 * (w + 1)) (fun k hk => if_neg (fun q => by omega)), Int32.zero_add, Int32.add_zero, show 7 * w + 7 - 7 * w = 7 by omega]
    exact sm9_congr (fun j hj => if_pos (by omega))
  rw [e, e2]
  grind
/-! people, and full shows: places summed by films -/
theorem by_films {r : Nat → Int32} {n k : Nat} (hw : wfS r n) (hk : k < 70) (t : Nat → Int32) (z : Int32) (hz : r (46 + k) = -6 → z = 0) (ht : ∀ f, f < n → r (46 + k) = nI f → z = t f) : z = sm9 (fun f => if r (46 + k) = nI f then t f else 0) n := by
  rcases hw.2.2 k hk with h | ⟨g, hg, h⟩
  · rw [hz h, sm9_zero (fun f hf => if_neg (fun q => nI_ne6 (f := f) (by have := hw.2.1; omega) (q.symm.trans h)))]
  · rw [sm9_one hg (fun f hf hne => if_neg (fun q => hne (nI_inj (by have := hw.2.1; omega) (by have := hw.2.1; omega) (q.symm.trans h)))), if_pos h]
    exact ht g hg h
theorem q_ppa_f {r : Nat → Int32} {n k : Nat} (hw : wfS r n) (hk : k < 70) : q_ppa r k = sm9 (fun f => if r (46 + k) = nI f then q_P r f k else 0) n :=
  by_films hw hk (fun f => q_P r f k) _ (fun h => if_pos h) (fun f hf h => q_ppa_nI (by have := hw.2.1; omega) h)
theorem q_ps_w (r : Nat → Int32) (f : Nat) {w : Nat} (hw : w < 5) : sm9 (fun k => if r (46 + k) = nI f ∧ k / 14 = w then q_P r f k else 0) 70 = q_ps r f w := by
  rw [sm9_week (P := fun k => r (46 + k) = nI f) (fun k => q_P r f k) hw, tele r f w 14 (Nat.le_refl _), Z_14]
  rfl
theorem ppl_week {r : Nat → Int32} {n w : Nat} (hw : wfS r n) (hw5 : w < 5) : sm9 (ppT (q_ppa r) (nI w)) 70 = sm9 (fun f => q_ps r f w) n := by
  have e : sm9 (ppT (q_ppa r) (nI w)) 70 = sm9 (fun k => sm9 (fun f => if r (46 + k) = nI f ∧ k / 14 = w then q_P r f k else 0) n) 70 := sm9_congr (fun k hk => by
    unfold ppT
    by_cases q : k / 14 = w
    · rw [if_pos (Or.inr (by rw [q])), q_ppa_f hw hk]
      exact sm9_congr (fun f _ => by
        by_cases z : r (46 + k) = nI f
        · rw [if_pos z, if_pos ⟨z, q⟩]
        · rw [if_neg z, if_neg (fun y => z y.1)])
    · rw [if_neg, sm9_zero (fun f _ => if_neg (fun y => q y.2))]
      rintro (z | z)
      · exact nI_pos (by omega) z
      · exact q (nI_inj (by omega) (by omega) z))
  rw [e, sm9_swap (fun f k => if r (46 + k) = nI f ∧ k / 14 = w then q_P r f k else 0)]
  exact sm9_congr (fun f _ => q_ps_w r f hw5)
theorem sm9_blocks (g : Nat → Int32) : ∀ m, sm9 g (14 * m) = sm9 (fun w => sm9 (fun j => g (14 * w + j)) 14) m
  | 0 => rfl
  | m + 1 => by rw [show 14 * (m + 1) = 14 * m + 14 by omega, sm9_split, sm9_blocks g m]; rfl
theorem film_ps (r : Nat → Int32) (f : Nat) : sm9 (fun k => if r (46 + k) = nI f then q_P r f k else 0) 70 = sm9 (q_ps r f) 5 := by
  rw [show (70 : Nat) = 14 * 5 from rfl, sm9_blocks]
  exact sm9_congr (fun w hw => by
    rw [tele r f w 14 (Nat.le_refl _), Z_14]
    rfl)
theorem q_po_ps (r : Nat → Int32) {f : Nat} (hf : f < 8) : sm9 (q_po r f) 70 = sm9 (q_ps r f) 5 := by
  rw [← film_ps]
  exact sm9_congr (fun k _ => by
    unfold q_po
    by_cases e : r (46 + k) = nI f
    · rw [if_pos e, if_pos e, q_ppa_nI (by omega) e]
    · rw [if_neg e, if_neg e])
theorem ppl_all {r : Nat → Int32} {n : Nat} (hw : wfS r n) : sm9 (ppT (q_ppa r) (-1)) 70 = sm9 (fun f => sm9 (q_ps r f) 5) n := by
  rw [sm9_congr (g := fun k => sm9 (fun f => if r (46 + k) = nI f then q_P r f k else 0) n) (fun k hk => by
    rw [← q_ppa_f hw hk]
    exact if_pos (Or.inl (by decide))), sm9_swap (fun f k => if r (46 + k) = nI f then q_P r f k else 0)]
  exact sm9_congr (fun f _ => film_ps r f)
theorem full_all {r : Nat → Int32} {n : Nat} (hw : wfS r n) : sm9 (q_fs r) 70 = sm9 (fun f => sm9 (q_ff r f) 70) n := by
  rw [← sm9_swap (fun f k => q_ff r f k)]
  exact sm9_congr (fun k hk => by
    rw [by_films hw hk (fun f => if q_P r f k = r 0 then 1 else 0) (q_fs r k) (fun h => if_neg (fun q => q.1 h)) (fun f hf h => by
      have hf8 := hw.2.1
      unfold q_fs
      rw [q_ppa_nI (by omega) h, h]
      by_cases q : q_P r f k = r 0
      · rw [if_pos ⟨nI_ne6 (by omega), q⟩, if_pos q]
      · rw [if_neg (fun y => q y.2), if_neg q])]
    exact sm9_congr (fun f _ => by
      unfold q_ff
      by_cases z : r (46 + k) = nI f
      · by_cases q : q_P r f k = r 0
        · rw [if_pos z, if_pos q, if_pos ⟨z, q⟩]
        · rw [if_pos z, if_neg q, if_neg (fun y => q y.2)]
      · rw [if_neg z, if_neg (fun y => z y.1)]))
/-! how much more would be left: only the films concerned count -/
def sameF (r r2 : Nat → Int32) (f : Nat) : Prop := (∀ i, i < 46 → r2 i = r i) ∧ ∀ k, k < 70 → (r2 (46 + k) = nI f ↔ r (46 + k) = nI f)
theorem same_L {r r2 : Nat → Int32} {f : Nat} (hf : f < 8) (h : sameF r r2 f) : ∀ k, k ≤ 70 → q_L r2 f k = q_L r f k
  | 0, _ => h.1 _ (by omega)
  | k + 1, hk => by
    have ih := same_L hf h k (by omega)
    have eY : q_Y r2 f k = q_Y r f k := by
      unfold q_Y q_pre q_fade
      rw [ih, h.1 (6 + 5 * f + 4) (by omega)]
    have eP : q_P r2 f k = q_P r f k := by
      unfold q_P q_ppl q_c
      rw [eY, h.1 0 (by omega), h.1 3 (by omega), h.1 4 (by omega)]
    rw [q_L_s, q_L_s, eY, eP]
    by_cases e : r (46 + k) = nI f
    · rw [if_pos e, if_pos ((h.2 k (by omega)).mpr e)]
    · rw [if_neg e, if_neg (fun q => e ((h.2 k (by omega)).mp q))]
theorem same_S {r r2 : Nat → Int32} {f : Nat} (h : sameF r r2 f) (w : Nat) : q_S r2 f w = q_S r f w := sm9_congr (fun k hk => by
  unfold q_ct
  by_cases e : r (46 + k) = nI f
  · by_cases q : k / 14 = w
    · rw [if_pos ⟨(h.2 k hk).mpr e, q⟩, if_pos ⟨e, q⟩]
    · rw [if_neg (fun y => q y.2), if_neg (fun y => q y.2)]
  · rw [if_neg (fun y => e ((h.2 k hk).mp y.1)), if_neg (fun y => e y.1)])
theorem same_T {r r2 : Nat → Int32} {f w : Nat} (hf : f < 8) (hw : w < 5) (h : sameF r r2 f) : q_T r2 f w = q_T r f w := by
  rw [q_T_w r2 hf hw, q_T_w r hf hw]
  unfold q_ps q_Y q_pre q_fade
  rw [same_L hf h (14 * w) (by omega), same_L hf h (14 * w + 14) (by omega), h.1 1 (by omega), h.1 (6 + 5 * f + 4) (by omega)]
theorem same_sh {r r2 : Nat → Int32} {f : Nat} (hf : f < 8) (h : sameF r r2 f) (w : Nat) : q_sh r2 f w = q_sh r f w := by
  have e : q_S r2 f = q_S r f := funext (same_S h)
  unfold q_sh p_share
  rw [e, h.1 (6 + 5 * f + 3) (by omega)]
theorem same_LF {r r2 : Nat → Int32} {f : Nat} (hf : f < 8) (h : sameF r r2 f) : LF r2 f = LF r f := sm9_congr (fun w hw => by
  show q_T r2 f w - q_D r2 f w - q_S r2 f w * r2 2 = q_T r f w - q_D r f w - q_S r f w * r 2
  unfold q_D q_so
  rw [same_T hf hw h, same_S h w, same_sh hf h w, h.1 2 (by omega), h.1 (6 + 5 * f + 2) (by omega)])
def c_lf (r : Nat → Int32) (x : Int32) : Int32 := if c_has r x = 0 then 0 else LF r x.toNatClampNeg
def c_gain (r : Nat → Int32) (k : Nat) (x : Int32) : Int32 := (c_lf (upd r (46 + k) x) (r (46 + k)) + c_lf (upd r (46 + k) x) x) - (c_lf r (r (46 + k)) + c_lf r x)
theorem c_has_upd (r : Nat → Int32) (k : Nat) (x y : Int32) : c_has (upd r (46 + k) x) y = c_has r y := by
  unfold c_has
  rw [upd_n _ _ (by omega)]
theorem c_lf_nI {r : Nat → Int32} {n : Nat} (hn : r 5 = nI n) (h8 : n ≤ 8) {f : Nat} (hf : f < n) : c_lf r (nI f) = LF r f := by
  unfold c_lf
  rw [c_has_nI hn h8 hf, if_neg (by decide), nI_cl (by omega)]
theorem c_lf_6 (r : Nat → Int32) : c_lf r (-6) = 0 := by
  unfold c_lf
  rw [c_has_6, if_pos rfl]
theorem c_gain_J {r : Nat → Int32} {n k : Nat} {x : Int32} (hw : wfS r n) (hk : k < 70) (hx : x = -6 ∨ ∃ f : Nat, f < n ∧ x = nI f) : c_gain r k x = q_more r k x := by
  have hn8 := hw.2.1
  have hw2 := wfS_upd hw hk hx
  unfold q_more
  rw [q_left_all hw, q_left_all hw2]
  have er : sm9 (fun j => upd r (46 + k) x (116 + (0 + j))) (35 - 0) = sm9 (fun j => r (116 + (0 + j))) (35 - 0) := sm9_congr (fun j _ => upd_n _ _ (by omega))
  rw [er]
  generalize hR : upd r (46 + k) x = R at hw2
  have hsub : sm9 (LF R) n - sm9 (LF r) n = sm9 (fun f => LF R f - LF r f) n := (sm9_sub (LF R) (LF r) n).symm
  have same : ∀ f, f < n → r (46 + k) ≠ nI f → x ≠ nI f → LF R f - LF r f = 0 := fun f hf h1 h2 => by
    rw [same_LF (r := r) (r2 := R) (by omega) ⟨fun i hi => by rw [← hR]; exact upd_n _ _ (by omega), fun j hj => by
      rw [← hR]
      by_cases e : j = k
      · subst e
        rw [upd_s]
        exact ⟨fun q => absurd q h2, fun q => absurd q h1⟩
      · rw [upd_n _ _ (by omega)]⟩]
    grind
  have g1 : c_gain r k x = (c_lf R (r (46 + k)) + c_lf R x) - (c_lf r (r (46 + k)) + c_lf r x) := by rw [c_gain, hR]
  rw [g1]
  have fin : ∀ a b c : Int32, a - b = c → a + sm9 (fun j => r (116 + (0 + j))) (35 - 0) - (b + sm9 (fun j => r (116 + (0 + j))) (35 - 0)) = c := fun a b c h => by rw [← h]; grind
  symm
  apply fin
  rw [hsub]
  rcases hw.2.2 k hk with ht | ⟨g, hg, ht⟩
  · rw [ht, c_lf_6, c_lf_6]
    rcases hx with rfl | ⟨f, hf, rfl⟩
    · rw [c_lf_6, c_lf_6, sm9_zero (fun f hf => same f hf (by rw [ht]; exact fun q => nI_ne6 (f := f) (by omega) q.symm) (fun q => nI_ne6 (f := f) (by omega) q.symm))]
      rfl
    · rw [c_lf_nI hw.1 hn8 hf, c_lf_nI hw2.1 hn8 hf, sm9_one hf (fun f2 hf2 hne => same f2 hf2 (by rw [ht]; exact fun q => nI_ne6 (f := f2) (by omega) q.symm) (fun q => hne (nI_inj (by omega) (by omega) q).symm))]
      grind
  · rw [ht, c_lf_nI hw.1 hn8 hg, c_lf_nI hw2.1 hn8 hg]
    rcases hx with rfl | ⟨f, hf, rfl⟩
    · rw [c_lf_6, c_lf_6, sm9_one hg (fun f2 hf2 hne => same f2 hf2 (by rw [ht]; exact fun q => hne (nI_inj (by omega) (by omega) q).symm) (fun q => nI_ne6 (f := f2) (by omega) q.symm))]
      grind
    · rw [c_lf_nI hw.1 hn8 hf, c_lf_nI hw2.1 hn8 hf]
      by_cases e : f = g
      · subst e
        have eR : R = r := by rw [← hR, ← ht, upd_id]
        rw [eR, sm9_zero (fun f2 _ => by grind)]
        grind
      · have key : sm9 (fun f2 => LF R f2 - LF r f2) n = sm9 (fun f2 => (if f2 = g then LF R g - LF r g else 0) + (if f2 = f then LF R f - LF r f else 0)) n := sm9_congr (fun f2 hf2 => by
          by_cases e1 : f2 = g
          · subst e1
            rw [if_pos rfl, if_neg (fun q => e q.symm)]
            grind
          · by_cases e2 : f2 = f
            · subst e2
              rw [if_neg e1, if_pos rfl]
              grind
            · rw [if_neg e1, if_neg e2, same f2 hf2 (by rw [ht]; exact fun q => e1 (nI_inj (by omega) (by omega) q).symm) (fun q => e2 (nI_inj (by omega) (by omega) q).symm)]
              rfl)
        rw [key, sm9_add, sm9_one hg (fun j _ hne => if_neg hne), sm9_one hf (fun j _ hne => if_neg hne), if_pos rfl, if_pos rfl]
        grind

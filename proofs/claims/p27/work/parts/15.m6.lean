theorem sm9_congr {f g : Nat → Int32} : ∀ {n : Nat}, (∀ k, k < n → f k = g k) → sm9 f n = sm9 g n
  | 0, _ => rfl
  | n + 1, h => by rw [sm9, sm9, sm9_congr (fun k hk => h k (by omega)), h n (by omega)]
/-- a sum over films and weeks, of one week or (below 0) of all -/
def q_W (X : Nat → Nat → Int32) (wk : Int32) : Int32 := sm9 (fun f => sm9 (fun w => if wk < 0 ∨ nI w = wk then X f w else 0) 5) 8
theorem q_W_J {g : Nat → Int32} {X : Nat → Nat → Int32} (h : ∀ f w, f < 8 → w < 5 → g (5 * f + w) = X f w) (wk : Int32) : sm9 (swT g wk) 40 = q_W X wk := by
  have key : ∀ f, f ≤ 8 → sm9 (swT g wk) (5 * f) = sm9 (fun f => sm9 (fun w => if wk < 0 ∨ nI w = wk then X f w else 0) 5) f := by
    intro f
    induction f with
    | zero => exact fun _ => rfl
    | succ f ih =>
      intro hf
      have t : ∀ w, w < 5 → swT g wk (5 * f + w) = if wk < 0 ∨ nI w = wk then X f w else 0 := by
        intro w hw
        unfold swT
        rw [show (5 * f + w) % 5 = w by omega, h f w (by omega) hw]
      rw [show 5 * (f + 1) = 5 * f + 4 + 1 by omega, sm9, show 5 * f + 4 = 5 * f + 3 + 1 by omega, sm9, show 5 * f + 3 = 5 * f + 2 + 1 by omega, sm9, show 5 * f + 2 = 5 * f + 1 + 1 by omega, sm9, sm9]
      rw [ih (by omega), show 5 * f + 1 + 1 + 1 + 1 = 5 * f + 4 from rfl, show 5 * f + 1 + 1 + 1 = 5 * f + 3 from rfl, show 5 * f + 1 + 1 = 5 * f + 2 from rfl]
      have t0 := t 0 (by decide)
      rw [Nat.add_zero] at t0
      rw [t 4 (by decide), t 3 (by decide), t 2 (by decide), t 1 (by decide), t0, sm9]
      simp only [sm9, Int32.zero_add, Int32.add_assoc]
  have h8 := key 8 (Nat.le_refl _)
  rw [show 5 * 8 = 40 from rfl] at h8
  exact h8
def q_left (r : Nat → Int32) (wk : Int32) : Int32 := q_W (q_T r) wk - q_W (q_D r) wk - r 2 * q_W (q_S r) wk + sm9 (rnT r wk) 35
theorem p_left_J {σ : S9} {n : Nat} (hw : wfS (σ 0) n) (wk : Int32) : p_left (rkM n σ) wk = q_left (σ 0) wk := by
  obtain ⟨-, -, h⟩ := rkM_J hw
  unfold p_left q_left
  rw [q_W_J (fun f w hf hw => (h f w hf hw).1) wk, q_W_J (fun f w hf hw => (h f w hf hw).2.1) wk, q_W_J (fun f w hf hw => (h f w hf hw).2.2.2) wk, rkM_i n 0 (by decide)]
/-- but for what is reckoned, nothing is different -/
def sc9 (σ u : S9) : Prop := ∀ i, (i < 5 ∨ 11 < i) → u i = σ i
theorem sc9_rf (σ : S9) : sc9 σ σ := fun _ _ => rfl
theorem sc9_tr {a b c : S9} (h : sc9 a b) (k : sc9 b c) : sc9 a c := fun i hi => (k i hi).trans (h i hi)
theorem sc9_rk (n : Nat) (σ : S9) : sc9 σ (rkM n σ) := fun i hi => rkM_i n i hi σ
theorem sc9_0 {σ u : S9} (h : sc9 σ u) : u 0 = σ 0 := h 0 (by decide)
theorem sc9_12 {σ u : S9} (h : sc9 σ u) : u 12 = σ 12 := h 12 (by decide)
def q_at (r : Nat → Int32) (k : Nat) (what : Int32) : Int32 := if what = 0 then r (46 + k) else if what = 1 then q_ppa r k else if what = 2 then q_ppa r k * r 1 else if what = 3 then q_bhd r k else -2
def q_k (d q : Int32) : Nat := 2 * d.toNatClampNeg + q.toNatClampNeg
def q_po (r : Nat → Int32) (f k : Nat) : Int32 := if r (46 + k) = nI f then q_ppa r k else 0
def q_of (r : Nat → Int32) (f : Nat) (what : Int32) : Int32 := if what = 0 then r (6 + 5 * f + 0) else if what = 1 then r (6 + 5 * f + 1) else if what = 2 then r (6 + 5 * f + 2) else if what = 3 then r (6 + 5 * f + 3) else if what = 4 then r (6 + 5 * f + 4) else if what = 5 then sm9 (q_S r f) 5 else if what = 6 then sm9 (q_po r f) 70 else if what = 7 then sm9 (q_T r f) 5 else if what = 8 then sm9 (q_D r f) 5 else if what = 9 then q_L r f 70 else if what = 10 then fsh r (nI f) 70 else -2
theorem w5 {w : Int32} (h : ¬ p_in w 0 4 = 0) : ∃ j : Nat, j < 5 ∧ w = nI j := by
  obtain ⟨j, hj, e⟩ := p_in_nI (n := 4) (by decide) h
  exact ⟨j, by omega, e⟩
def q_iw (r : Nat → Int32) (f w : Nat) (what : Int32) : Int32 := if what = 0 then q_T r f w else if what = 1 then q_sh r f w else if what = 2 then q_D r f w else if what = 3 then q_D r f w - q_so r f w else -2
def q_wk (r : Nat → Int32) (wk what : Int32) : Int32 := if what = 0 then q_W (q_S r) wk else if what = 1 then sm9 (ppT (q_ppa r) wk) 70 else if what = 2 then q_W (q_T r) wk else if what = 3 then q_W (q_D r) wk else if what = 4 then q_left r wk + 1000000 else -2
def q_fs (r : Nat → Int32) (k : Nat) : Int32 := if ¬ r (46 + k) = -6 ∧ q_ppa r k = r 0 then 1 else 0
def q_cnt (r : Nat → Int32) (pl rc what : Int32) : Int32 := if what = 0 then r 5 else if what = 1 then q_W (q_S r) (-1) else if what = 2 then sm9 (ppT (q_ppa r) (-1)) 70 else if what = 3 then q_W (q_T r) (-1) else if what = 4 then q_W (q_D r) (-1) else if what = 5 then q_left r (-1) + 1000000 else if what = 6 then sm9 (rnT r (-1)) 35 else if what = 7 then sm9 (q_fs r) 70 else if what = 8 then r 0 else if what = 9 then r 1 else if what = 10 then r 2 else if what = 11 then r 3 else if what = 12 then r 4 else if what = 13 then pl else if what = 14 then rc else -2

theorem wfS_upd {r : Nat → Int32} {n k : Nat} {x : Int32} (hw : wfS r n) (hk : k < 70) (hx : x = -6 ∨ ∃ f : Nat, f < n ∧ x = nI f) : wfS (upd r (46 + k) x) n := by
  refine ⟨by rw [upd_n _ _ (by omega)]; exact hw.1, hw.2.1, fun j hj => ?_⟩
  by_cases e : j = k
  · subst e
    rw [upd_s]
    exact hx
  · rw [upd_n _ _ (by omega)]
    exact hw.2.2 j hj
def q_more (r : Nat → Int32) (k : Nat) (x : Int32) : Int32 := q_left (upd r (46 + k) x) (-1) - q_left r (-1)
theorem sc9_of {n : Nat} {σ u : S9} (h : u = rkM n σ) : sc9 σ u := by
  rw [h]
  exact sc9_rk n σ
theorem p_why_ge {r : Nat → Int32} {n : Nat} (h5 : r 5 = nI n) (h8 : n ≤ 8) {f d q : Int32} (h : 0 ≤ p_why r f d q) : p_why r f d q = 0 ∧ ∃ (f' d' q' : Nat), f' < n ∧ d' < 35 ∧ q' < 2 ∧ f = nI f' ∧ d = nI d' ∧ q = nI q' ∧ ¬ p_canShow r f' d' = 0 := by
  unfold p_why at h ⊢
  by_cases h1 : p_in f 0 (r 5 - 1) = 0
  · rw [if_pos h1] at h
    exact absurd h (by decide)
  · rw [if_neg h1] at h ⊢
    by_cases h2 : p_part d q = 0
    · rw [if_pos h2] at h
      exact absurd h (by decide)
    · rw [if_neg h2] at h ⊢
      by_cases h3 : p_canShow r f.toNatClampNeg d.toNatClampNeg = 0
      · rw [if_pos h3] at h
        exact absurd h (by decide)
      · rw [if_neg h3]
        obtain ⟨f', hf, rfl⟩ := p_film_ne h5 h8 h1
        obtain ⟨d', q', hd, hq, rfl, rfl⟩ := p_part_ne h2
        rw [nI_cl (by omega), nI_cl (by omega)] at h3
        exact ⟨rfl, f', d', q', hf, hd, hq, rfl, rfl, rfl, h3⟩
/-- the best film of the first f, and how much more would be left -/
def q_bb (r : Nat → Int32) (dd k : Nat) : Nat → Int32 × Int32
  | 0 => (-6, 0)
  | f + 1 => if p_canShow r f dd = 0 then q_bb r dd k f else if (q_bb r dd k f).1 = -6 ∨ ¬ q_more r k (nI f) ≤ (q_bb r dd k f).2 then (nI f, q_more r k (nI f)) else q_bb r dd k f
def q_bf (p : Int32 × Int32) (what : Int32) : Int32 := if p.1 = -6 then -6 else if what = 0 then p.1 else p.2 + 1000000
/-- the worst show of the first k places -/
def q_ww (r : Nat → Int32) : Nat → Int32 × Int32
  | 0 => (-6, 0)
  | k + 1 => if r (46 + k) = -6 then q_ww r k else if (q_ww r k).1 = -6 ∨ ¬ q_more r k (-6) ≤ (q_ww r k).2 then (nI k, q_more r k (-6)) else q_ww r k
def q_ws (p : Int32 × Int32) (what : Int32) : Int32 := if p.1 = -6 then -6 else if what = 0 then p.1 / 2 else if what = 1 then p.1 - p.1 / 2 * 2 else p.2 + 1000000
def q_pf (x t : Int32) : Nat → Int32
  | 0 => -6
  | d + 1 => if x * nI (20 - d) < t then q_pf x t d else nI (20 - d)
def q_dv (r : Nat → Int32) (what : Int32) (f : Nat) : Int32 := if what = 0 then 1 else if what = 1 then sm9 (q_S r f) 5 else sm9 (q_D r f) 5
def q_di (r : Nat → Int32) (x what : Int32) (f : Nat) : Int32 := if r (6 + 5 * f + 0) = x then q_dv r what f else 0

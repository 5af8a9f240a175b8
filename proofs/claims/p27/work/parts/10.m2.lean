theorem st9_tw (σ : S9) (i : Nat) (g h : Nat → Int32) : st9 (st9 σ i g) i h = st9 σ i h := by
  funext k
  by_cases e : k = i <;> simp [st9, e]
theorem st9_sw (σ : S9) {i j : Nat} (g h : Nat → Int32) (n : i ≠ j) : st9 (st9 σ i g) j h = st9 (st9 σ j h) i g := by
  funext k
  by_cases e : k = i
  · subst e
    simp [st9, n]
  · by_cases e2 : k = j
    · subst e2
      simp [st9, e]
    · simp [st9, e, e2]
theorem st9_id (σ : S9) (i : Nat) : st9 σ i (σ i) = σ := by
  funext k
  by_cases e : k = i <;> simp [st9, e]
theorem upd_tw (f : Nat → Int32) (k : Nat) (x y : Int32) : upd (upd f k x) k y = upd f k y := by
  funext j
  by_cases e : j = k <;> simp [upd, e]
theorem upd_id (f : Nat → Int32) (k : Nat) : upd f k (f k) = f := by
  funext j
  by_cases e : j = k <;> simp [upd, e]
theorem upd_s (f : Nat → Int32) (k : Nat) (x : Int32) : upd f k x k = x := if_pos rfl
theorem upd_n (f : Nat → Int32) {j k : Nat} (x : Int32) (h : j ≠ k) : upd f k x j = f j := if_neg h
def sm9 (t : Nat → Int32) : Nat → Int32
  | 0 => 0
  | d + 1 => sm9 t d + t d
def it9 (g : Nat → S9 → S9) : Nat → S9 → S9
  | 0, u => u
  | k + 1, u => g k (it9 g k u)
def p_part (d q : Int32) : Int32 := if p_in d 0 34 = 0 then 0 else if p_in q 0 1 = 0 then 0 else 1
theorem p_part_nar (d q : Int32) : narrow .boolean (.int (p_part d q)) = .int (p_part d q) := by
  unfold p_part
  split
  · rfl
  · split <;> rfl
def p_let (r : Nat → Int32) (d : Nat) : Int32 := if r (116 + d) ≤ 0 then 0 else 1
def p_canShow (r : Nat → Int32) (f d : Nat) : Int32 := if ¬ p_let r d = 0 then 0 else if nI d < r (6 + 5 * f + 4) then 0 else 1
def p_why (r : Nat → Int32) (f d q : Int32) : Int32 := if p_in f 0 (r 5 - 1) = 0 then -1 else if p_part d q = 0 then -2 else if p_canShow r f.toNatClampNeg d.toNatClampNeg = 0 then -5 else 0
theorem p_in_ne {v lo hi : Int32} (h : ¬ p_in v lo hi = 0) : lo ≤ v ∧ v ≤ hi := by
  unfold p_in at h
  by_cases h1 : v < lo
  · simp [h1] at h
  · by_cases h2 : hi < v
    · simp [h1, h2] at h
    · exact ⟨Int32.not_lt.mp h1, Int32.not_lt.mp h2⟩
theorem p_in_nI {v : Int32} {n : Nat} (hn : n < 2 ^ 31) (h : ¬ p_in v 0 (nI n) = 0) : ∃ j : Nat, j ≤ n ∧ v = nI j := by
  obtain ⟨h1, h2⟩ := p_in_ne h
  exact nI_of2 (M := nI n) (nI_toInt hn) (Int32.not_lt.mpr h1) h2
theorem p_part_ne {d q : Int32} (h : ¬ p_part d q = 0) : ∃ (i j : Nat), i < 35 ∧ j < 2 ∧ d = nI i ∧ q = nI j := by
  unfold p_part at h
  by_cases h1 : p_in d 0 34 = 0
  · simp [h1] at h
  · by_cases h2 : p_in q 0 1 = 0
    · simp [h1, h2] at h
    · obtain ⟨i, hi, rfl⟩ := p_in_nI (n := 34) (by decide) h1
      obtain ⟨j, hj, rfl⟩ := p_in_nI (n := 1) (by decide) h2
      exact ⟨i, j, by omega, by omega, rfl, rfl⟩
theorem p_film_ne {f : Int32} {r : Nat → Int32} {n : Nat} (hn : r 5 = nI n) (h8 : n ≤ 8) (h : ¬ p_in f 0 (r 5 - 1) = 0) : ∃ i : Nat, i < n ∧ f = nI i := by
  rcases Nat.eq_zero_or_pos n with h0 | h0
  · subst h0
    obtain ⟨h1, h2⟩ := p_in_ne h
    rw [hn] at h2
    have h3 := Int32.le_trans h1 h2
    exact absurd h3 (by decide)
  · rw [hn, show nI n - 1 = nI (n - 1) by have := nI_pred (n - 1); rwa [Nat.sub_add_cancel h0] at this] at h
    obtain ⟨i, hi, rfl⟩ := p_in_nI (by omega) h
    exact ⟨i, by omega, rfl⟩
theorem nI_cl {n : Nat} (h : n < 100000) : (nI n).toNatClampNeg = n := nI_clamp (by omega)
def p_canBe (r : Nat → Int32) (x : Int32) (d : Nat) : Int32 := if ¬ p_let r d = 0 then 0 else if x = -6 then 1 else if nI d < r (6 + 5 * x.toNatClampNeg + 4) then 0 else 1
def mvF (g h : Nat → Int32) (fo t : Nat) : Nat → (Nat → Int32)
  | 0 => h
  | k + 1 => upd (mvF g h fo t k) (t + k) (g (fo + k))
theorem mvF_in (g h : Nat → Int32) (fo t : Nat) : ∀ (n k : Nat), k < n → mvF g h fo t n (t + k) = g (fo + k)
  | 0, k, hk => absurd hk (Nat.not_lt_zero k)
  | n + 1, k, hk => by
    by_cases e : k = n
    · subst e
      exact upd_s _ _ _
    · rw [mvF, upd_n _ _ (by omega)]
      exact mvF_in g h fo t n k (by omega)
theorem mvF_out (g h : Nat → Int32) (fo t : Nat) {j : Nat} : ∀ (n : Nat), (j < t ∨ t + n ≤ j) → mvF g h fo t n j = h j
  | 0, _ => rfl
  | n + 1, hj => by
    rw [mvF, upd_n _ _ (by omega)]
    exact mvF_out g h fo t n (by omega)
def shF (g : Nat → Int32) : Nat → (Nat → Int32)
  | 0 => g
  | k + 1 => upd (shF g k) k (shF g k (k + 151))
theorem shF_spec (g : Nat → Int32) : ∀ (n j : Nat), shF g n j = if j < n then g (j + 151) else g j
  | 0, j => by simp [shF]
  | n + 1, j => by
    rw [shF]
    by_cases e : j = n
    · subst e
      rw [upd_s, shF_spec g j (j + 151), if_neg (by omega), if_pos (by omega)]
    · rw [upd_n _ _ e, shF_spec g n j]
      by_cases h : j < n
      · rw [if_pos h, if_pos (by omega)]
      · rw [if_neg h, if_neg (by omega)]
def rcN (n : Nat) : Nat := if n = 6 then 5 else n
def rcH (σ : S9) (n : Nat) : Nat → Int32 := mvF (σ 0) (if n = 6 then shF (σ 1) 755 else σ 1) 0 (rcN n * 151) 151
def rcM (σ : S9) (n : Nat) : S9 := st9 (st9 σ 1 (rcH σ n)) 12 (upd (σ 12) 0 (nI (rcN n + 1)))

theorem sw9 {x : Int32} {n : Nat} (hn : n < 100) (h : ∀ j, j ≤ n → ¬ x = nI j) : x.toInt < 0 ∨ (n : Int) < x.toInt := by
  by_cases h0 : x < 0
  · left
    have := Int32.lt_iff_toInt_lt.mp h0
    simpa using this
  · right
    by_cases h1 : x ≤ nI n
    · obtain ⟨j, hj, e⟩ := nI_of2 (M := nI n) (nI_toInt (by omega)) h0 h1
      exact absurd e (h j hj)
    · have h2 := Int32.lt_iff_toInt_lt.mp (Int32.not_le.mp h1)
      rwa [nI_toInt (by omega)] at h2
/-- a row of the hall as it must be: n films, every show a film's or none -/
def wfS (r : Nat → Int32) (n : Nat) : Prop := r 5 = nI n ∧ n ≤ 8 ∧ ∀ k, k < 70 → r (46 + k) = -6 ∨ ∃ f : Nat, f < n ∧ r (46 + k) = nI f
def fdS (wk : Int32) (f : Nat) (u : S9) : S9 := st9 u 7 (upd (u 7) f (u 7 f - (if wk ≤ u 0 (6 + 5 * f + 4) / 7 then 0 else u 7 f / 4)))
theorem fd_i (wk : Int32) (i : Nat) (h : i ≠ 7) (u : S9) : ∀ n, it9 (fdS wk) n u i = u i
  | 0 => rfl
  | n + 1 => by rw [it9, fdS, st9_n _ _ h]; exact fd_i wk i h u n
theorem st9_five (U : S9) (a b c d e : Nat → Int32) : st9 (st9 (st9 (st9 (st9 U 5 a) 6 b) 5 c) 7 d) 6 e = st9 (st9 (st9 U 5 c) 7 d) 6 e := by
  funext i
  by_cases h5 : i = 5
  · subst h5
    simp [st9]
  · by_cases h6 : i = 6
    · subst h6
      simp [st9]
    · simp [st9, h5, h6]
def fp0 (f : Nat) (u : S9) : S9 := st9 u 7 (upd (u 7) f (u 0 (6 + 5 * f + 1)))
def fpS (n k : Nat) (u : S9) : S9 :=
  if u 0 (46 + k) = -6 then st9 (st9 (if k % 14 = 0 then it9 (fdS (nI (k / 14))) n u else u) 5 (upd (u 5) k 0)) 6 (upd (u 6) k (-6))
  else (fun (u1 : S9) (f : Nat) => (fun (c : Int32) => (fun (q : Int32) => st9 (st9 (st9 u1 5 (upd (u 5) k q)) 7 (upd (u1 7) f (u1 7 f - q))) 6 (upd (u 6) k (u1 7 f - q))) (if u 0 0 ≤ c then u 0 0 else c)) (u1 7 f * (if k % 2 = 0 then u 0 4 else u 0 3) / 100)) (if k % 14 = 0 then it9 (fdS (nI (k / 14))) n u else u) (u 0 (46 + k)).toNatClampNeg
theorem fp_i0 (i : Nat) (h : i ≠ 7) (u : S9) : ∀ n, it9 fp0 n u i = u i
  | 0 => rfl
  | n + 1 => by rw [it9, fp0, st9_n _ _ h]; exact fp_i0 i h u n
theorem fpS_i (n k i : Nat) (h5 : i ≠ 5) (h6 : i ≠ 6) (h7 : i ≠ 7) (u : S9) : fpS n k u i = u i := by
  have e : (if k % 14 = 0 then it9 (fdS (nI (k / 14))) n u else u) i = u i := by
    split
    · exact fd_i _ _ h7 _ _
    · rfl
  unfold fpS
  split
  · rw [st9_n _ _ h6, st9_n _ _ h5, e]
  · show st9 _ _ _ i = _
    rw [st9_n _ _ h6, st9_n _ _ h7, st9_n _ _ h5, e]
theorem fp_i (n i : Nat) (h5 : i ≠ 5) (h6 : i ≠ 6) (h7 : i ≠ 7) (u : S9) : ∀ k, it9 (fpS n) k u i = u i
  | 0 => rfl
  | k + 1 => by rw [it9, fpS_i n k i h5 h6 h7, fp_i n i h5 h6 h7 u k]
def fpM (n : Nat) (σ : S9) : S9 := it9 (fpS n) 70 (it9 fp0 8 σ)
theorem fpM_i (n i : Nat) (h5 : i ≠ 5) (h6 : i ≠ 6) (h7 : i ≠ 7) (σ : S9) : fpM n σ i = σ i := (fp_i n i h5 h6 h7 _ 70).trans (fp_i0 i h7 σ 8)

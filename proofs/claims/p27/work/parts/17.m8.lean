theorem rcM_i (σ : S9) (h i : Nat) (h1 : i ≠ 1) (h12 : i ≠ 12) : rcM σ h i = σ i := by rw [rcM, st9_n _ _ h12, st9_n _ _ h1]
theorem rcM_0 (σ : S9) (h : Nat) : rcM σ h 0 = σ 0 := rcM_i σ h 0 (by decide) (by decide)
theorem p_val_ne {x v : Int32} (h : ¬ p_val x v = 0) : ∃ i : Nat, i < 5 ∧ x = nI i := by
  unfold p_val at h
  by_cases h0 : x = 0
  · exact ⟨0, by decide, h0⟩
  · by_cases h1 : x = 1
    · exact ⟨1, by decide, h1⟩
    · by_cases h2 : x = 2
      · exact ⟨2, by decide, h2⟩
      · by_cases h3 : x = 3
        · exact ⟨3, by decide, h3⟩
        · by_cases h4 : x = 4
          · exact ⟨4, by decide, h4⟩
          · simp [h0, h1, h2, h3, h4] at h
def q_setE (x v : Int32) : Int32 := if p_val x v = 0 then -2 else 0
def q_filmE (r : Nat → Int32) (d c m s f : Int32) : Int32 := if p_in d 0 3 = 0 then -2 else if p_in c 1 999 = 0 then -2 else if p_in m 0 500 = 0 then -2 else if p_in s 20 90 = 0 then -2 else if p_in f 0 34 = 0 then -2 else if r 5 = 8 then -4 else 0
def film9 (r : Nat → Int32) (n : Nat) (d c m s f : Int32) : Nat → Int32 := upd (upd (upd (upd (upd (upd r (6 + 5 * n + 0) d) (6 + 5 * n + 1) c) (6 + 5 * n + 2) m) (6 + 5 * n + 3) s) (6 + 5 * n + 4) f) 5 (nI (n + 1))
def q_dropE (r : Nat → Int32) (d q : Int32) : Int32 := if p_part d q = 0 then -2 else if r (46 + q_k d q) = -6 then -5 else 0
def q_exE (r : Nat → Int32) (d q d2 q2 : Int32) : Int32 := if p_part d q = 0 then -2 else if p_part d2 q2 = 0 then -2 else if p_canBe r (r (46 + q_k d2 q2)) d.toNatClampNeg = 0 then -5 else if p_canBe r (r (46 + q_k d q)) d2.toNatClampNeg = 0 then -5 else 0
def q_exR (r : Nat → Int32) (k k2 : Nat) : Nat → Int32 := upd (upd r (46 + k) (r (46 + k2))) (46 + k2) (r (46 + k))
theorem wfS_x {r : Nat → Int32} {n k : Nat} (hw : wfS r n) (hk : k < 70) : r (46 + k) = -6 ∨ ∃ f : Nat, f < 8 ∧ r (46 + k) = nI f := by
  rcases hw.2.2 k hk with h | ⟨f, hf, h⟩
  · exact Or.inl h
  · exact Or.inr ⟨f, Nat.lt_of_lt_of_le hf hw.2.1, h⟩
theorem wfS_ex {r : Nat → Int32} {n k k2 : Nat} (hw : wfS r n) (hk : k < 70) (hk2 : k2 < 70) : wfS (q_exR r k k2) n := wfS_upd (wfS_upd hw hk (hw.2.2 k2 hk2)) hk2 (hw.2.2 k hk)
def q_letE (d v : Int32) : Int32 := if p_in d 0 34 = 0 then -2 else if p_in v 0 999 = 0 then -2 else 0
def ltF (r : Nat → Int32) (d : Nat) : Nat → (Nat → Int32)
  | 0 => r
  | j + 1 => upd (ltF r d j) (46 + 2 * d + j) (-6)
theorem ltF_n (r : Nat → Int32) (d i : Nat) : ∀ j, 46 + 2 * d + j ≤ i → ltF r d j i = r i
  | 0, _ => rfl
  | j + 1, h => by rw [ltF, upd_n _ _ (by omega)]; exact ltF_n r d i j (by omega)
def q_lt (r : Nat → Int32) (d j : Nat) : Int32 := if r (46 + 2 * d + j) = -6 then 0 else 1
def q_letR (r : Nat → Int32) (d : Nat) (v : Int32) : Nat → Int32 := upd (if v ≤ 0 then r else ltF r d 2) (116 + d) v
def un9 (σ : S9) (h : Nat) : S9 := st9 (st9 σ 12 (upd (σ 12) 0 (nI (h - 1)))) 0 (mvF (σ 1) (σ 0) ((h - 1) * 151) 0 151)
theorem s1 {s : Int32} (h : ¬ p_in s 0 1 = 0) : ∃ j : Nat, j < 2 ∧ s = nI j := by
  obtain ⟨j, hj, e⟩ := p_in_nI (n := 1) (by decide) h
  exact ⟨j, by omega, e⟩
def q_savS (σ : S9) (s : Nat) : S9 := st9 (st9 σ 2 (mvF (σ 0) (σ 2) 0 (151 * s) 151)) 3 (upd (σ 3) s 1)
def q_resE (σ : S9) (s : Int32) : Int32 := if p_in s 0 1 = 0 then -2 else if σ 3 s.toNatClampNeg = 0 then -5 else 0

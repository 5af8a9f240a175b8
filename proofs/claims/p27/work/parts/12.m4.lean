def ft0 (k : Nat) (u : S9) : S9 := st9 (st9 u 8 (upd (u 8) k 0)) 9 (upd (u 9) k 0)
theorem ft0_i (k i : Nat) (h8 : i ≠ 8) (h9 : i ≠ 9) (u : S9) : ft0 k u i = u i := by rw [ft0, st9_n _ _ h9, st9_n _ _ h8]
theorem ft0_m (i : Nat) (h8 : i ≠ 8) (h9 : i ≠ 9) (u : S9) : ∀ n, it9 ft0 n u i = u i
  | 0 => rfl
  | n + 1 => by rw [it9, ft0_i n i h8 h9, ft0_m i h8 h9 u n]
def ftI (u : S9) (k : Nat) : Nat := 5 * (u 0 (46 + k)).toNatClampNeg + k / 14
def ftS (k : Nat) (u : S9) : S9 := if u 0 (46 + k) = -6 then u else st9 (st9 u 8 (upd (u 8) (ftI u k) (u 8 (ftI u k) + 1))) 9 (upd (u 9) (ftI u k) (u 9 (ftI u k) + u 5 k * u 0 1))
theorem ftS_i (k i : Nat) (h8 : i ≠ 8) (h9 : i ≠ 9) (u : S9) : ftS k u i = u i := by
  unfold ftS
  split
  · rfl
  · rw [st9_n _ _ h9, st9_n _ _ h8]
theorem ftS_m (i : Nat) (h8 : i ≠ 8) (h9 : i ≠ 9) (u : S9) : ∀ n, it9 ftS n u i = u i
  | 0 => rfl
  | n + 1 => by rw [it9, ftS_i n i h8 h9, ftS_m i h8 h9 u n]
def ftM (σ : S9) : S9 := it9 ftS 70 (it9 ft0 40 σ)
theorem ftM_i (i : Nat) (h8 : i ≠ 8) (h9 : i ≠ 9) (σ : S9) : ftM σ i = σ i := (ftS_m i h8 h9 _ 70).trans (ft0_m i h8 h9 σ 40)
def p_share (r : Nat → Int32) (f : Nat) (x : Int32) : Int32 := if r (6 + 5 * f + 3) - 10 * x ≤ 20 then 20 else r (6 + 5 * f + 3) - 10 * x
def p_sot (u : S9) (k : Nat) : Int32 := if u 10 k = -6 then 0 else u 9 k * u 10 k / 100
def duF (f w : Nat) (p : Int32 × S9) : Int32 := if p.1 = -6 ∧ ¬ p.2 8 (5 * f + w) ≤ 0 then nI w else p.1
def duH (f w : Nat) (p : Int32 × S9) : Int32 := if duF f w p = -6 then -6 else p_share (p.2 0) f (nI w - duF f w p)
def duV (u : S9) (f k : Nat) : Int32 := if u 8 k = 0 then 0 else if p_sot u k ≤ u 0 (6 + 5 * f + 2) then u 0 (6 + 5 * f + 2) else p_sot u k
def duU (f w : Nat) (p : Int32 × S9) : S9 := st9 p.2 10 (upd (p.2 10) (5 * f + w) (duH f w p))
def duS (f w : Nat) (p : Int32 × S9) : Int32 × S9 := (duF f w p, st9 (duU f w p) 11 (upd ((duU f w p) 11) (5 * f + w) (duV (duU f w p) f (5 * f + w))))
def duI (f : Nat) (u : S9) : Nat → Int32 × S9
  | 0 => (-6, u)
  | w + 1 => duS f w (duI f u w)
def duT (f : Nat) (u : S9) : S9 := (duI f u 5).2
def duM (σ : S9) : S9 := it9 duT 8 σ
theorem duS_i (f w i : Nat) (h10 : i ≠ 10) (h11 : i ≠ 11) (p : Int32 × S9) : (duS f w p).2 i = p.2 i := by
  show st9 _ 11 _ i = _
  rw [st9_n _ _ h11, duU, st9_n _ _ h10]
theorem duI_i (f i : Nat) (h10 : i ≠ 10) (h11 : i ≠ 11) (u : S9) : ∀ n, (duI f u n).2 i = u i
  | 0 => rfl
  | n + 1 => by rw [duI, duS_i f n i h10 h11, duI_i f i h10 h11 u n]
theorem duT_m (i : Nat) (h10 : i ≠ 10) (h11 : i ≠ 11) (u : S9) : ∀ n, it9 duT n u i = u i
  | 0 => rfl
  | n + 1 => by rw [it9, duT, duI_i _ i h10 h11, duT_m i h10 h11 u n]

def rkM (n : Nat) (σ : S9) : S9 := duM (ftM (fpM n σ))
theorem fpM_0 (n : Nat) (σ : S9) : fpM n σ 0 = σ 0 := fpM_i n 0 (by decide) (by decide) (by decide) σ
theorem ftM_0 (σ : S9) : ftM σ 0 = σ 0 := ftM_i 0 (by decide) (by decide) σ
theorem duM_i (i : Nat) (h10 : i ≠ 10) (h11 : i ≠ 11) (σ : S9) : duM σ i = σ i := duT_m i h10 h11 σ 8
theorem rkM_i (n i : Nat) (h : i < 5 ∨ 11 < i) (σ : S9) : rkM n σ i = σ i := by
  unfold rkM
  rw [duM_i i (by omega) (by omega), ftM_i i (by omega) (by omega), fpM_i n i (by omega) (by omega) (by omega)]
def swT (g : Nat → Int32) (wk : Int32) (d : Nat) : Int32 := if wk < 0 ∨ nI (d % 5) = wk then g d else 0
def rnT (r : Nat → Int32) (wk : Int32) (d : Nat) : Int32 := if wk < 0 ∨ nI (d / 7) = wk then r (116 + d) else 0
def ppT (g : Nat → Int32) (wk : Int32) (d : Nat) : Int32 := if wk < 0 ∨ nI (d / 14) = wk then g d else 0
def p_left (σ : S9) (wk : Int32) : Int32 := sm9 (swT (σ 9) wk) 40 - sm9 (swT (σ 11) wk) 40 - σ 0 2 * sm9 (swT (σ 8) wk) 40 + sm9 (rnT (σ 0) wk) 35
def p_val (x v : Int32) : Int32 := if x = 0 then p_in v 10 300 else if x = 1 then p_in v 1 20 else if x = 2 then p_in v 0 200 else if x = 3 then p_in v 1 100 else if x = 4 then p_in v 1 100 else 0
def poT (u : S9) (x : Int32) (d : Nat) : Int32 := if u 0 (46 + d) = x then u 5 d else 0
def fsT (u : S9) (d : Nat) : Int32 := if ¬ u 0 (46 + d) = -6 ∧ u 5 d = u 0 0 then 1 else 0
def shT (r : Nat → Int32) (d : Nat) : Int32 := if r (46 + d) = -6 then 0 else 1
/-- the first show of a film, found from behind: down from n -/
def fsh (r : Nat → Int32) (x : Int32) : Nat → Int32
  | 0 => -6
  | n + 1 => if r (46 + (69 - n)) = x then nI ((69 - n) / 2) else fsh r x n

def p_in (v lo hi : Int32) : Int32 := if v < lo then 0 else if hi < v then 0 else 1
theorem p_in_nar (v lo hi : Int32) : narrow .boolean (.int (p_in v lo hi)) = .int (p_in v lo hi) := by
  unfold p_in
  split
  · rfl
  · split <;> rfl

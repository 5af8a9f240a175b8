theorem lit9 (n : Nat) : (OfNat.ofNat n : Int32) = nI n := rfl
/-! the reference: its object at ad 0, its arrays at ad 1 .. ad 12 (σ 0 .. σ 11), its whole numbers σ 12 0 .. σ 12 5 -/
def mFs (ad : Nat → Nat) (σ : S9) : List Value := [.ref (ad 1), .ref (ad 2), .int (σ 12 0), .ref (ad 3), .ref (ad 4), .ref (ad 5), .int (σ 12 1), .ref (ad 6), .ref (ad 7), .ref (ad 8), .ref (ad 9), .ref (ad 10), .ref (ad 11), .ref (ad 12), .int (σ 12 2), .int (σ 12 3), .int (σ 12 4), .int (σ 12 5)]
def mW (ad : Nat → Nat) (cI : ClassId) (σ : S9) : va_W := [(ad 0, .inr (5, mFs ad σ)), (ad 1, .inl (cI, 151, .inl (σ 0))), (ad 2, .inl (cI, 906, .inl (σ 1))), (ad 3, .inl (cI, 302, .inl (σ 2))), (ad 4, .inl (cI, 2, .inl (σ 3))), (ad 5, .inl (cI, 60, .inl (σ 4))), (ad 6, .inl (cI, 70, .inl (σ 5))), (ad 7, .inl (cI, 70, .inl (σ 6))), (ad 8, .inl (cI, 8, .inl (σ 7))), (ad 9, .inl (cI, 40, .inl (σ 8))), (ad 10, .inl (cI, 40, .inl (σ 9))), (ad 11, .inl (cI, 40, .inl (σ 10))), (ad 12, .inl (cI, 40, .inl (σ 11)))]
theorem mW_a0 (ad : Nat → Nat) (cI : ClassId) (σ : S9) (g : Nat → Int32) : (mW ad cI σ).set 1 (ad 1, .inl (cI, 151, .inl g)) = mW ad cI (st9 σ 0 g) := by simp [mW, mFs, st9]
theorem mW_a1 (ad : Nat → Nat) (cI : ClassId) (σ : S9) (g : Nat → Int32) : (mW ad cI σ).set 2 (ad 2, .inl (cI, 906, .inl g)) = mW ad cI (st9 σ 1 g) := by simp [mW, mFs, st9]
theorem mW_a2 (ad : Nat → Nat) (cI : ClassId) (σ : S9) (g : Nat → Int32) : (mW ad cI σ).set 3 (ad 3, .inl (cI, 302, .inl g)) = mW ad cI (st9 σ 2 g) := by simp [mW, mFs, st9]
theorem mW_a3 (ad : Nat → Nat) (cI : ClassId) (σ : S9) (g : Nat → Int32) : (mW ad cI σ).set 4 (ad 4, .inl (cI, 2, .inl g)) = mW ad cI (st9 σ 3 g) := by simp [mW, mFs, st9]
theorem mW_a4 (ad : Nat → Nat) (cI : ClassId) (σ : S9) (g : Nat → Int32) : (mW ad cI σ).set 5 (ad 5, .inl (cI, 60, .inl g)) = mW ad cI (st9 σ 4 g) := by simp [mW, mFs, st9]
theorem mW_a5 (ad : Nat → Nat) (cI : ClassId) (σ : S9) (g : Nat → Int32) : (mW ad cI σ).set 6 (ad 6, .inl (cI, 70, .inl g)) = mW ad cI (st9 σ 5 g) := by simp [mW, mFs, st9]
theorem mW_a6 (ad : Nat → Nat) (cI : ClassId) (σ : S9) (g : Nat → Int32) : (mW ad cI σ).set 7 (ad 7, .inl (cI, 70, .inl g)) = mW ad cI (st9 σ 6 g) := by simp [mW, mFs, st9]
theorem mW_a7 (ad : Nat → Nat) (cI : ClassId) (σ : S9) (g : Nat → Int32) : (mW ad cI σ).set 8 (ad 8, .inl (cI, 8, .inl g)) = mW ad cI (st9 σ 7 g) := by simp [mW, mFs, st9]
theorem mW_a8 (ad : Nat → Nat) (cI : ClassId) (σ : S9) (g : Nat → Int32) : (mW ad cI σ).set 9 (ad 9, .inl (cI, 40, .inl g)) = mW ad cI (st9 σ 8 g) := by simp [mW, mFs, st9]
theorem mW_a9 (ad : Nat → Nat) (cI : ClassId) (σ : S9) (g : Nat → Int32) : (mW ad cI σ).set 10 (ad 10, .inl (cI, 40, .inl g)) = mW ad cI (st9 σ 9 g) := by simp [mW, mFs, st9]
theorem mW_a10 (ad : Nat → Nat) (cI : ClassId) (σ : S9) (g : Nat → Int32) : (mW ad cI σ).set 11 (ad 11, .inl (cI, 40, .inl g)) = mW ad cI (st9 σ 10 g) := by simp [mW, mFs, st9]
theorem mW_a11 (ad : Nat → Nat) (cI : ClassId) (σ : S9) (g : Nat → Int32) : (mW ad cI σ).set 12 (ad 12, .inl (cI, 40, .inl g)) = mW ad cI (st9 σ 11 g) := by simp [mW, mFs, st9]
theorem mW_f0 (ad : Nat → Nat) (cI : ClassId) (σ : S9) (x : Int32) : (mW ad cI σ).set 0 (ad 0, .inr (5, (mFs ad σ).set 2 (.int x))) = mW ad cI (st9 σ 12 (upd (σ 12) 0 x)) := by simp [mW, mFs, st9, upd]
theorem mW_f1 (ad : Nat → Nat) (cI : ClassId) (σ : S9) (x : Int32) : (mW ad cI σ).set 0 (ad 0, .inr (5, (mFs ad σ).set 6 (.int x))) = mW ad cI (st9 σ 12 (upd (σ 12) 1 x)) := by simp [mW, mFs, st9, upd]
theorem mW_f2 (ad : Nat → Nat) (cI : ClassId) (σ : S9) (x : Int32) : (mW ad cI σ).set 0 (ad 0, .inr (5, (mFs ad σ).set 14 (.int x))) = mW ad cI (st9 σ 12 (upd (σ 12) 2 x)) := by simp [mW, mFs, st9, upd]
theorem mW_f3 (ad : Nat → Nat) (cI : ClassId) (σ : S9) (x : Int32) : (mW ad cI σ).set 0 (ad 0, .inr (5, (mFs ad σ).set 15 (.int x))) = mW ad cI (st9 σ 12 (upd (σ 12) 3 x)) := by simp [mW, mFs, st9, upd]
theorem mW_f4 (ad : Nat → Nat) (cI : ClassId) (σ : S9) (x : Int32) : (mW ad cI σ).set 0 (ad 0, .inr (5, (mFs ad σ).set 16 (.int x))) = mW ad cI (st9 σ 12 (upd (σ 12) 4 x)) := by simp [mW, mFs, st9, upd]
theorem mW_f5 (ad : Nat → Nat) (cI : ClassId) (σ : S9) (x : Int32) : (mW ad cI σ).set 0 (ad 0, .inr (5, (mFs ad σ).set 17 (.int x))) = mW ad cI (st9 σ 12 (upd (σ 12) 5 x)) := by simp [mW, mFs, st9, upd]
def mLen (a : Nat) : Nat := ([151, 906, 302, 2, 60, 70, 70, 8, 40, 40, 40, 40] : List Nat).getD a 0
theorem mW_get (ad : Nat → Nat) (cI : ClassId) (σ : S9) {a : Nat} (h : a < 12) : (mW ad cI σ)[a + 1]? = some (ad (a + 1), .inl (cI, mLen a, .inl (σ a))) := by
  rcases (show a = 0 ∨ a = 1 ∨ a = 2 ∨ a = 3 ∨ a = 4 ∨ a = 5 ∨ a = 6 ∨ a = 7 ∨ a = 8 ∨ a = 9 ∨ a = 10 ∨ a = 11 by omega) with rfl | rfl | rfl | rfl | rfl | rfl | rfl | rfl | rfl | rfl | rfl | rfl <;> rfl
theorem mW_ax (ad : Nat → Nat) (cI : ClassId) (σ : S9) (g : Nat → Int32) {a : Nat} (h : a < 12) : (mW ad cI σ).set (a + 1) (ad (a + 1), .inl (cI, mLen a, .inl g)) = mW ad cI (st9 σ a g) := by
  rcases (show a = 0 ∨ a = 1 ∨ a = 2 ∨ a = 3 ∨ a = 4 ∨ a = 5 ∨ a = 6 ∨ a = 7 ∨ a = 8 ∨ a = 9 ∨ a = 10 ∨ a = 11 by omega) with rfl | rfl | rfl | rfl | rfl | rfl | rfl | rfl | rfl | rfl | rfl | rfl
  · exact mW_a0 ad cI σ g
  · exact mW_a1 ad cI σ g
  · exact mW_a2 ad cI σ g
  · exact mW_a3 ad cI σ g
  · exact mW_a4 ad cI σ g
  · exact mW_a5 ad cI σ g
  · exact mW_a6 ad cI σ g
  · exact mW_a7 ad cI σ g
  · exact mW_a8 ad cI σ g
  · exact mW_a9 ad cI σ g
  · exact mW_a10 ad cI σ g
  · exact mW_a11 ad cI σ g

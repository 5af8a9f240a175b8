/-! ===== the law's beginning: the tables' words ===== -/
theorem wT {i : Nat} {w : Cond} (h : tables_1[i]? = some w) : w ∈ lw_tbl := List.mem_append_right _ (List.mem_of_getElem? h)
theorem arr_k {args : Array Value} {s : State} {ty : FieldType} (h : (Cond.arrayClass ty).before args s = true) : ∃ cA : ClassId, ArrOfT s cA ty ∧ s.vm.findClass ("[" ++ ty.toString) = some cA := by
  obtain ⟨cA, kA, comp, h1, h2, h3⟩ := Cond.arrayClass_spec h
  exact ⟨cA, fun n z => ⟨fun k h => (by cases h), kA, h2, comp, h3⟩, h1⟩
theorem arr_q {args : Array Value} {s : State} (h : (Cond.arrayOver (.array .int)).before args s = true) : ∃ cA : ClassId, ArrOfT s cA (.array .int) ∧ s.vm.findClass ("[" ++ (FieldType.array .int).toString) = some cA := by
  obtain ⟨comp, cA, kA, -, -, h2, h3, h4⟩ := arrayOverA_spec h
  exact ⟨cA, fun n z => ⟨fun k h => (by cases h), kA, h2, comp, h3⟩, h4⟩
theorem law_K {args : Array Value} {s : State} (hts : ∀ w ∈ lw_tbl, w.before args s = true) : ∃ (D : va_G) (cI cC cZ cQ : ClassId), va_K D vwCl (cTy cI cC cZ cQ) s := by
  obtain ⟨cI, a1, a2⟩ := arr_k (hts (.arrayClass .int) (wT (i := 31) (by decide +kernel)))
  obtain ⟨cC, b1, b2⟩ := arr_k (hts (.arrayClass .char) (wT (i := 70) (by decide +kernel)))
  obtain ⟨cZ, z1, z2⟩ := arr_k (hts (.arrayClass .boolean) (wT (i := 109) (by decide +kernel)))
  obtain ⟨cQ, q1, q2⟩ := arr_q (hts (.arrayOver (.array .int)) (wT (i := 78) (by decide +kernel)))
  obtain ⟨c0, i0, k0⟩ := u_known (C := RX0) (T := TX0) (N := 6) (n := 6) hts inX0 (hts (.instantiable RX0 6) (wT (i := 33) (by decide +kernel)))
  obtain ⟨c1, i1, k1⟩ := u_known (C := RX1) (T := TX1) (N := 1) (n := 1) hts inX1 (hts (.instantiable RX1 1) (wT (i := 17) (by decide +kernel)))
  obtain ⟨c2, i2, k2⟩ := u_known (C := RX2) (T := TX2) (N := 3) (n := 3) hts inX2 (hts (.instantiable RX2 3) (wT (i := 72) (by decide +kernel)))
  obtain ⟨c3, i3, k3⟩ := u_known (C := RX3) (T := TX3) (N := 2) (n := 2) hts inX3 (hts (.instantiable RX3 2) (wT (i := 58) (by decide +kernel)))
  obtain ⟨c4, i4, k4⟩ := u_known (C := RX4) (T := TX4) (N := 6) (n := 6) hts inX4 (hts (.instantiable RX4 6) (wT (i := 9) (by decide +kernel)))
  refine ⟨(fun k => match k with | 0 => c0 | 1 => c1 | 2 => c2 | 3 => c3 | _ => c4, fun k => match k with | 0 => i0 | 1 => i1 | 2 => i2 | 3 => i3 | _ => i4), cI, cC, cZ, cQ, ?_, ?_⟩
  · intro k q hq
    match k, hq with
    | 0, hq => cases hq; exact k0
    | 1, hq => cases hq; exact k1
    | 2, hq => cases hq; exact k2
    | 3, hq => cases hq; exact k3
    | 4, hq => cases hq; exact k4
    | k + 5, hq => simp [vwCl] at hq
  · intro k q hq
    match k, hq with
    | 0, hq => cases hq; exact ⟨a1, a2⟩
    | 1, hq => cases hq; exact ⟨b1, b2⟩
    | 2, hq => cases hq; exact ⟨z1, z2⟩
    | 3, hq => cases hq; exact ⟨q1, q2⟩
    | k + 4, hq => simp [cTy] at hq
theorem z_sz {args : Array Value} {s : State} {t : Term} {b : Nat} {cell : Cell} {n : Value} (hv : (Term.length t).eval args s none [] s = some n) (ht : t.eval args s none [] s = some (.ref b)) (hc : s.heap[b]? = some cell) : cell.slots.size < 2 ^ 31 := by
  obtain ⟨b', cell', ht', harr, -⟩ := Term.length_spec hv
  cases ht.symm.trans ht'
  obtain ⟨hcell, -, -, -⟩ := State.arrayAt?_spec harr
  cases hc.symm.trans hcell
  simp only [Term.eval, ht, harr, Option.bind_eq_bind, Option.bind_some] at hv
  by_cases hlt : cell.slots.size < 2147483648
  · exact hlt
  · simp [hlt] at hv
theorem z_of {args : Array Value} {s : State} {nm : String} {f : Nat → Int32} {A : Nat → Prop} (hl : (Cond.laysStatic "VillageCinema" nm "[I").before args s = true) (hini : (Cond.initialized "VillageCinema").before args s = true) (harr : (Cond.arrayOf (.static "VillageCinema" nm "[I") .int).before args s = true) (hlen : (Cond.eq (.length (.static "VillageCinema" nm "[I")) (.int 5)).before args s = true) (hel : ∀ j : Nat, j < 5 → (Cond.eq (.elem (.static "VillageCinema" nm "[I") (.int (Int32.ofNat j))) (.int (f j))).before args s = true) (hA : ∀ a : Nat, a < s.heap.size → ¬ A a) : ∃ t : Nat, z9 "VillageCinema" nm "[I" t 5 f A s s.heap := by
  obtain ⟨t, ht, hT⟩ := va_Tof (N := 5) (f := fun j => .int (f j)) (by decide) harr (va_eqt hlen) (fun j hj => va_eqt (hel j hj)) hA
  refine ⟨t, va_Zref hl hini ht hA, hT, ?_⟩
  obtain ⟨cell, h1, h2, h3, h4, h5, h6, h7⟩ := hT
  refine ⟨cell, h1, h2, h3, ?_, h6⟩
  exact (nI_eq (z_sz (va_eqt hlen) ht h1) (by decide)).mp h5
theorem law_z {args : Array Value} {s : State} (hts : ∀ w ∈ lw_tbl, w.before args s = true) (hgv : (Jvm.Cond.and given_1 narrow_1).before args s = true) {A : Nat → Prop} (hA : ∀ a : Nat, a < s.heap.size → ¬ A a) : ∃ tl tm tf : Nat, zS tl tm tf A s s.heap := by
  have hs := flat_of_before _ hgv
  have hi := hts (.initialized "VillageCinema") (wT (i := 1) (by decide +kernel))
  obtain ⟨tl, h1⟩ := z_of (nm := "LEAST_SETTING") (f := lsF) (hts (.laysStatic "VillageCinema" "LEAST_SETTING" "[I") (wT (i := 118) (by decide +kernel))) hi (hs _ (by decide +kernel)) (hs _ (by decide +kernel)) (fun j hj => by rcases (show j = 0 ∨ j = 1 ∨ j = 2 ∨ j = 3 ∨ j = 4 by omega) with rfl | rfl | rfl | rfl | rfl <;> exact hs _ (by decide +kernel)) hA
  obtain ⟨tm, h2⟩ := z_of (nm := "MOST_SETTING") (f := msF) (hts (.laysStatic "VillageCinema" "MOST_SETTING" "[I") (wT (i := 120) (by decide +kernel))) hi (hs _ (by decide +kernel)) (hs _ (by decide +kernel)) (fun j hj => by rcases (show j = 0 ∨ j = 1 ∨ j = 2 ∨ j = 3 ∨ j = 4 by omega) with rfl | rfl | rfl | rfl | rfl <;> exact hs _ (by decide +kernel)) hA
  obtain ⟨tf, h3⟩ := z_of (nm := "FIRST_SETTING") (f := fsF) (hts (.laysStatic "VillageCinema" "FIRST_SETTING" "[I") (wT (i := 23) (by decide +kernel))) hi (hs _ (by decide +kernel)) (hs _ (by decide +kernel)) (fun j hj => by rcases (show j = 0 ∨ j = 1 ∨ j = 2 ∨ j = 3 ∨ j = 4 by omega) with rfl | rfl | rfl | rfl | rfl <;> exact hs _ (by decide +kernel)) hA
  exact ⟨tl, tm, tf, h1, h2, h3⟩
theorem law_iE {b : Nat} {s : State} (hts : ∀ w ∈ lw_tbl, w.before #[Value.ref b] s = true) {A : Nat → Prop} {tl tm tf : Nat} (hz : zS tl tm tf A s s.heap) : iE tl tm tf A s :=
  ⟨hz, over_moved (Vm.Alike.refl s.vm) (hts (.arrayOver (.array .int)) (wT (i := 78) (by decide +kernel))), va_Nw.of rfl (hts (.fieldLinkNest RX1 15 "VillageCinema" "FIRST_SETTING" "[I" "VillageCinema") (wT (i := 22) (by decide +kernel))), va_Nw.of rfl (hts (.methodLinkNest RX4 18 yX0_init RX4) (wT (i := 34) (by decide +kernel))), va_Nw.of rfl (hts (.methodLinkNest RX4 25 yX3_init RX4) (wT (i := 59) (by decide +kernel))), va_Nw.of rfl (hts (.methodLinkNest RX4 32 yX2_init RX4) (wT (i := 73) (by decide +kernel)))⟩

set_option maxHeartbeats 4000000 in
set_option maxRecDepth 100000 in
theorem lc_rent {p : Program} {l : Launch} {e : Env} {s : State} {m : MethodId} {below : List Frame} {meth : Method} {c : Code} {Q : State → Prop} {D : va_G} {cI cC cZ cQ : ClassId} {ad1 ad2 : Nat → Nat} {tl tm tf b Ls : Nat} {xs : Nat → Int32} (C : CX p m c cL_law 4 s #[Value.ref b] wsL_law RL (fun q => s.heap.size ≤ q) s.heap) (K : va_K D vwCl (cTy cI cC cZ cQ) s) (hE : zS tl tm tf (fun q => s.heap.size ≤ q) s s.heap) (hX : va_X b Ls xs s s.heap) (hbl : b < s.heap.size) (hL : Ls ≤ 3072) {k : Nat} (hk : k + 6 ≤ Ls) {σ τ : S9} (hx : SMx σ τ) (kk : ∀ u v : S9, SMx u v → VV p l e room_1 s m #[Value.ref b] below meth c 600000 7302250 Q (fun u : S9 × S9 => cW ad1 cI cC cZ cQ u.1 ++ mW ad2 cI u.2) D (fun q => s.heap.size ≤ q) s.heap 4 (u, v) 936 [(3, .int (nI k)), (2, .ref (ad2 0)), (1, .ref (ad1 0)), (0, .ref b)] []) : VV p l e room_1 s m #[Value.ref b] below meth c 600000 7302250 Q (fun u : S9 × S9 => cW ad1 cI cC cZ cQ u.1 ++ mW ad2 cI u.2) D (fun q => s.heap.size ≤ q) s.heap 4 (σ, τ) 600 [(3, .int (nI k)), (2, .ref (ad2 0)), (1, .ref (ad1 0)), (0, .ref b)] [] := by
  obtain ⟨n, o, h, L, hs⟩ := hx
  obtain ⟨-, e0, a3, a4, -, a6, a7, -⟩ := id hs
  have hw2 : wfS (τ 0) n := by rw [e0]; exact hs.1.1
  have hbA : ¬ (fun q : Nat => s.heap.size ≤ q) b := Nat.not_le.mpr hbl
  refine v_aload_n C dL_law_600 rfl 1 2 rfl rfl ?_
  refine v_aload_n C dL_law_601 rfl 0 3 rfl rfl ?_
  refine v_iload_n C dL_law_602 rfl 3 0 rfl rfl ?_
  refine v_iconst (v := 1) C dL_law_603 rfl ic_1 ?_
  refine v_iadd C dL_law_604 rfl ?_
  refine v_sld C hX hbl hbA (k + 1) (nI_add k 1) (by omega) (by omega) dL_law_605 rfl ?_
  refine v_callVL (w1 := cW ad1 cI cC cZ cQ) (w2 := mW ad2 cI) C K (c_X4_rent l D ad1 cI cC cZ cQ σ  (xs (k + 1))) gL_law_X4_rent rfl hd_X4_rent ⟨rfl, rfl⟩ ⟨Nat.le_of_ble_eq_true rfl, Nat.le_of_ble_eq_true rfl⟩ 0 rfl rfl rfl rfl rfl (Nat.le_of_ble_eq_true rfl) ⟨Nat.le_of_ble_eq_true rfl, Nat.le_of_ble_eq_true rfl⟩ dL_law_606 rfl (fun r1 u h1 => ?_)
  refine v_aload_n C dL_law_609 rfl 2 1 rfl rfl ?_
  refine v_aload_n C dL_law_610 rfl 0 3 rfl rfl ?_
  refine v_iload_n C dL_law_611 rfl 3 0 rfl rfl ?_
  refine v_iconst (v := 1) C dL_law_612 rfl ic_1 ?_
  refine v_iadd C dL_law_613 rfl ?_
  refine v_sld C hX hbl hbA (k + 1) (nI_add k 1) (by omega) (by omega) dL_law_614 rfl ?_
  refine v_callVR (w1 := cW ad1 cI cC cZ cQ) (w2 := mW ad2 cI) C (K.sub (tys' := [(cI, .int)]) [0] rfl) (c_X5_rent l D ad2 cI τ  (xs (k + 1))) gL_law_X5_rent rfl hd_X5_rent ⟨rfl, rfl⟩ ⟨Nat.le_of_ble_eq_true rfl, Nat.le_of_ble_eq_true rfl⟩ 0 rfl rfl rfl rfl rfl (Nat.le_of_ble_eq_true rfl) ⟨Nat.le_of_ble_eq_true rfl, Nat.le_of_ble_eq_true rfl⟩ dL_law_615 rfl (fun r2 v h2 => ?_)
  try rw [e0] at h2
  have hr : r1 = r2 ∧ SMx u v := sm_same hs h1 h2
  exact v_icmp_eq C 936 dL_law_618 (by decide) rfl (fun _ => kk u v hr.2) (fun h9 => absurd hr.1 h9)
set_option maxHeartbeats 4000000 in
set_option maxRecDepth 100000 in
theorem lc_count {p : Program} {l : Launch} {e : Env} {s : State} {m : MethodId} {below : List Frame} {meth : Method} {c : Code} {Q : State → Prop} {D : va_G} {cI cC cZ cQ : ClassId} {ad1 ad2 : Nat → Nat} {tl tm tf b Ls : Nat} {xs : Nat → Int32} (C : CX p m c cL_law 4 s #[Value.ref b] wsL_law RL (fun q => s.heap.size ≤ q) s.heap) (K : va_K D vwCl (cTy cI cC cZ cQ) s) (hE : zS tl tm tf (fun q => s.heap.size ≤ q) s s.heap) (hX : va_X b Ls xs s s.heap) (hbl : b < s.heap.size) (hL : Ls ≤ 3072) {k : Nat} (hk : k + 6 ≤ Ls) {σ τ : S9} (hx : SMx σ τ) (kk : ∀ u v : S9, SMx u v → VV p l e room_1 s m #[Value.ref b] below meth c 600000 7302250 Q (fun u : S9 × S9 => cW ad1 cI cC cZ cQ u.1 ++ mW ad2 cI u.2) D (fun q => s.heap.size ≤ q) s.heap 4 (u, v) 936 [(3, .int (nI k)), (2, .ref (ad2 0)), (1, .ref (ad1 0)), (0, .ref b)] []) : VV p l e room_1 s m #[Value.ref b] below meth c 600000 7302250 Q (fun u : S9 × S9 => cW ad1 cI cC cZ cQ u.1 ++ mW ad2 cI u.2) D (fun q => s.heap.size ≤ q) s.heap 4 (σ, τ) 623 [(3, .int (nI k)), (2, .ref (ad2 0)), (1, .ref (ad1 0)), (0, .ref b)] [] := by
  obtain ⟨n, o, h, L, hs⟩ := hx
  obtain ⟨-, e0, a3, a4, -, a6, a7, -⟩ := id hs
  have hw2 : wfS (τ 0) n := by rw [e0]; exact hs.1.1
  have hbA : ¬ (fun q : Nat => s.heap.size ≤ q) b := Nat.not_le.mpr hbl
  refine v_aload_n C dL_law_623 rfl 1 2 rfl rfl ?_
  refine v_aload_n C dL_law_624 rfl 0 3 rfl rfl ?_
  refine v_iload_n C dL_law_625 rfl 3 0 rfl rfl ?_
  refine v_iconst (v := 1) C dL_law_626 rfl ic_1 ?_
  refine v_iadd C dL_law_627 rfl ?_
  refine v_sld C hX hbl hbA (k + 1) (nI_add k 1) (by omega) (by omega) dL_law_628 rfl ?_
  refine v_callVL (w1 := cW ad1 cI cC cZ cQ) (w2 := mW ad2 cI) C K (c_X4_count l D ad1 cI cC cZ cQ σ n hs.1 (xs (k + 1))) gL_law_X4_count rfl hd_X4_count ⟨rfl, rfl⟩ ⟨Nat.le_of_ble_eq_true rfl, Nat.le_of_ble_eq_true rfl⟩ 0 rfl rfl rfl rfl rfl (Nat.le_of_ble_eq_true rfl) ⟨Nat.le_of_ble_eq_true rfl, Nat.le_of_ble_eq_true rfl⟩ dL_law_629 rfl (fun r1 u h1 => ?_)
  refine v_aload_n C dL_law_632 rfl 2 1 rfl rfl ?_
  refine v_aload_n C dL_law_633 rfl 0 3 rfl rfl ?_
  refine v_iload_n C dL_law_634 rfl 3 0 rfl rfl ?_
  refine v_iconst (v := 1) C dL_law_635 rfl ic_1 ?_
  refine v_iadd C dL_law_636 rfl ?_
  refine v_sld C hX hbl hbA (k + 1) (nI_add k 1) (by omega) (by omega) dL_law_637 rfl ?_
  refine v_callVR (w1 := cW ad1 cI cC cZ cQ) (w2 := mW ad2 cI) C (K.sub (tys' := [(cI, .int)]) [0] rfl) (c_X5_count l D ad2 cI τ n hw2 (xs (k + 1))) gL_law_X5_count rfl hd_X5_count ⟨rfl, rfl⟩ ⟨Nat.le_of_ble_eq_true rfl, Nat.le_of_ble_eq_true rfl⟩ 0 rfl rfl rfl rfl rfl (Nat.le_of_ble_eq_true rfl) ⟨Nat.le_of_ble_eq_true rfl, Nat.le_of_ble_eq_true rfl⟩ dL_law_638 rfl (fun r2 v h2 => ?_)
  try rw [e0] at h2
  rw [a6.2.2, a4.2.2] at h2
  rw [a6.1, a4.1] at h1
  have hr : r1 = r2 ∧ SMx u v := sm_read hs h1 ⟨h2.1, ms9_sc h2.2⟩
  exact v_icmp_eq C 936 dL_law_641 (by decide) rfl (fun _ => kk u v hr.2) (fun h9 => absurd hr.1 h9)
set_option maxHeartbeats 4000000 in
set_option maxRecDepth 100000 in
theorem lc_ifShown {p : Program} {l : Launch} {e : Env} {s : State} {m : MethodId} {below : List Frame} {meth : Method} {c : Code} {Q : State → Prop} {D : va_G} {cI cC cZ cQ : ClassId} {ad1 ad2 : Nat → Nat} {tl tm tf b Ls : Nat} {xs : Nat → Int32} (C : CX p m c cL_law 4 s #[Value.ref b] wsL_law RL (fun q => s.heap.size ≤ q) s.heap) (K : va_K D vwCl (cTy cI cC cZ cQ) s) (hE : zS tl tm tf (fun q => s.heap.size ≤ q) s s.heap) (hX : va_X b Ls xs s s.heap) (hbl : b < s.heap.size) (hL : Ls ≤ 3072) {k : Nat} (hk : k + 6 ≤ Ls) {σ τ : S9} (hx : SMx σ τ) (kk : ∀ u v : S9, SMx u v → VV p l e room_1 s m #[Value.ref b] below meth c 600000 7302250 Q (fun u : S9 × S9 => cW ad1 cI cC cZ cQ u.1 ++ mW ad2 cI u.2) D (fun q => s.heap.size ≤ q) s.heap 4 (u, v) 936 [(3, .int (nI k)), (2, .ref (ad2 0)), (1, .ref (ad1 0)), (0, .ref b)] []) : VV p l e room_1 s m #[Value.ref b] below meth c 600000 7302250 Q (fun u : S9 × S9 => cW ad1 cI cC cZ cQ u.1 ++ mW ad2 cI u.2) D (fun q => s.heap.size ≤ q) s.heap 4 (σ, τ) 646 [(3, .int (nI k)), (2, .ref (ad2 0)), (1, .ref (ad1 0)), (0, .ref b)] [] := by
  obtain ⟨n, o, h, L, hs⟩ := hx
  obtain ⟨-, e0, a3, a4, -, a6, a7, -⟩ := id hs
  have hw2 : wfS (τ 0) n := by rw [e0]; exact hs.1.1
  have hbA : ¬ (fun q : Nat => s.heap.size ≤ q) b := Nat.not_le.mpr hbl
  refine v_aload_n C dL_law_646 rfl 1 2 rfl rfl ?_
  refine v_aload_n C dL_law_647 rfl 0 3 rfl rfl ?_
  refine v_iload_n C dL_law_648 rfl 3 0 rfl rfl ?_
  refine v_iconst (v := 1) C dL_law_649 rfl ic_1 ?_
  refine v_iadd C dL_law_650 rfl ?_
  refine v_sld C hX hbl hbA (k + 1) (nI_add k 1) (by omega) (by omega) dL_law_651 rfl ?_
  refine v_aload_n C dL_law_652 rfl 0 3 rfl rfl ?_
  refine v_iload_n C dL_law_653 rfl 3 0 rfl rfl ?_
  refine v_iconst (v := 2) C dL_law_654 rfl ic_2 ?_
  refine v_iadd C dL_law_655 rfl ?_
  refine v_sld C hX hbl hbA (k + 2) (nI_add k 2) (by omega) (by omega) dL_law_656 rfl ?_
  refine v_aload_n C dL_law_657 rfl 0 3 rfl rfl ?_
  refine v_iload_n C dL_law_658 rfl 3 0 rfl rfl ?_
  refine v_iconst (v := 3) C dL_law_659 rfl ic_3 ?_
  refine v_iadd C dL_law_660 rfl ?_
  refine v_sld C hX hbl hbA (k + 3) (nI_add k 3) (by omega) (by omega) dL_law_661 rfl ?_
  refine v_callVL (w1 := cW ad1 cI cC cZ cQ) (w2 := mW ad2 cI) C K (c_X4_ifShown l D ad1 cI cC cZ cQ σ n hs.1 (xs (k + 1)) (xs (k + 2)) (xs (k + 3))) gL_law_X4_ifShown rfl hd_X4_ifShown ⟨rfl, rfl⟩ ⟨Nat.le_of_ble_eq_true rfl, Nat.le_of_ble_eq_true rfl⟩ 0 rfl rfl rfl rfl rfl (Nat.le_of_ble_eq_true rfl) ⟨Nat.le_of_ble_eq_true rfl, Nat.le_of_ble_eq_true rfl⟩ dL_law_662 rfl (fun r1 u h1 => ?_)
  refine v_aload_n C dL_law_665 rfl 2 1 rfl rfl ?_
  refine v_aload_n C dL_law_666 rfl 0 3 rfl rfl ?_
  refine v_iload_n C dL_law_667 rfl 3 0 rfl rfl ?_
  refine v_iconst (v := 1) C dL_law_668 rfl ic_1 ?_
  refine v_iadd C dL_law_669 rfl ?_
  refine v_sld C hX hbl hbA (k + 1) (nI_add k 1) (by omega) (by omega) dL_law_670 rfl ?_
  refine v_aload_n C dL_law_671 rfl 0 3 rfl rfl ?_
  refine v_iload_n C dL_law_672 rfl 3 0 rfl rfl ?_
  refine v_iconst (v := 2) C dL_law_673 rfl ic_2 ?_
  refine v_iadd C dL_law_674 rfl ?_
  refine v_sld C hX hbl hbA (k + 2) (nI_add k 2) (by omega) (by omega) dL_law_675 rfl ?_
  refine v_aload_n C dL_law_676 rfl 0 3 rfl rfl ?_
  refine v_iload_n C dL_law_677 rfl 3 0 rfl rfl ?_
  refine v_iconst (v := 3) C dL_law_678 rfl ic_3 ?_
  refine v_iadd C dL_law_679 rfl ?_
  refine v_sld C hX hbl hbA (k + 3) (nI_add k 3) (by omega) (by omega) dL_law_680 rfl ?_
  refine v_callVR (w1 := cW ad1 cI cC cZ cQ) (w2 := mW ad2 cI) C (K.sub (tys' := [(cI, .int)]) [0] rfl) (c_X5_ifShown l D ad2 cI τ n hw2 (xs (k + 1)) (xs (k + 2)) (xs (k + 3))) gL_law_X5_ifShown rfl hd_X5_ifShown ⟨rfl, rfl⟩ ⟨Nat.le_of_ble_eq_true rfl, Nat.le_of_ble_eq_true rfl⟩ 0 rfl rfl rfl rfl rfl (Nat.le_of_ble_eq_true rfl) ⟨Nat.le_of_ble_eq_true rfl, Nat.le_of_ble_eq_true rfl⟩ dL_law_681 rfl (fun r2 v h2 => ?_)
  try rw [e0] at h2
  have hr : r1 = r2 ∧ SMx u v := sm_read hs h1 ⟨h2.1, ms9_sc h2.2⟩
  exact v_icmp_eq C 936 dL_law_684 (by decide) rfl (fun _ => kk u v hr.2) (fun h9 => absurd hr.1 h9)
set_option maxHeartbeats 4000000 in
set_option maxRecDepth 100000 in
theorem lc_bestFilm {p : Program} {l : Launch} {e : Env} {s : State} {m : MethodId} {below : List Frame} {meth : Method} {c : Code} {Q : State → Prop} {D : va_G} {cI cC cZ cQ : ClassId} {ad1 ad2 : Nat → Nat} {tl tm tf b Ls : Nat} {xs : Nat → Int32} (C : CX p m c cL_law 4 s #[Value.ref b] wsL_law RL (fun q => s.heap.size ≤ q) s.heap) (K : va_K D vwCl (cTy cI cC cZ cQ) s) (hE : zS tl tm tf (fun q => s.heap.size ≤ q) s s.heap) (hX : va_X b Ls xs s s.heap) (hbl : b < s.heap.size) (hL : Ls ≤ 3072) {k : Nat} (hk : k + 6 ≤ Ls) {σ τ : S9} (hx : SMx σ τ) (kk : ∀ u v : S9, SMx u v → VV p l e room_1 s m #[Value.ref b] below meth c 600000 7302250 Q (fun u : S9 × S9 => cW ad1 cI cC cZ cQ u.1 ++ mW ad2 cI u.2) D (fun q => s.heap.size ≤ q) s.heap 4 (u, v) 936 [(3, .int (nI k)), (2, .ref (ad2 0)), (1, .ref (ad1 0)), (0, .ref b)] []) : VV p l e room_1 s m #[Value.ref b] below meth c 600000 7302250 Q (fun u : S9 × S9 => cW ad1 cI cC cZ cQ u.1 ++ mW ad2 cI u.2) D (fun q => s.heap.size ≤ q) s.heap 4 (σ, τ) 689 [(3, .int (nI k)), (2, .ref (ad2 0)), (1, .ref (ad1 0)), (0, .ref b)] [] := by
  obtain ⟨n, o, h, L, hs⟩ := hx
  obtain ⟨-, e0, a3, a4, -, a6, a7, -⟩ := id hs
  have hw2 : wfS (τ 0) n := by rw [e0]; exact hs.1.1
  have hbA : ¬ (fun q : Nat => s.heap.size ≤ q) b := Nat.not_le.mpr hbl
  refine v_aload_n C dL_law_689 rfl 1 2 rfl rfl ?_
  refine v_aload_n C dL_law_690 rfl 0 3 rfl rfl ?_
  refine v_iload_n C dL_law_691 rfl 3 0 rfl rfl ?_
  refine v_iconst (v := 1) C dL_law_692 rfl ic_1 ?_
  refine v_iadd C dL_law_693 rfl ?_
  refine v_sld C hX hbl hbA (k + 1) (nI_add k 1) (by omega) (by omega) dL_law_694 rfl ?_
  refine v_aload_n C dL_law_695 rfl 0 3 rfl rfl ?_
  refine v_iload_n C dL_law_696 rfl 3 0 rfl rfl ?_
  refine v_iconst (v := 2) C dL_law_697 rfl ic_2 ?_
  refine v_iadd C dL_law_698 rfl ?_
  refine v_sld C hX hbl hbA (k + 2) (nI_add k 2) (by omega) (by omega) dL_law_699 rfl ?_
  refine v_aload_n C dL_law_700 rfl 0 3 rfl rfl ?_
  refine v_iload_n C dL_law_701 rfl 3 0 rfl rfl ?_
  refine v_iconst (v := 3) C dL_law_702 rfl ic_3 ?_
  refine v_iadd C dL_law_703 rfl ?_
  refine v_sld C hX hbl hbA (k + 3) (nI_add k 3) (by omega) (by omega) dL_law_704 rfl ?_
  refine v_callVL (w1 := cW ad1 cI cC cZ cQ) (w2 := mW ad2 cI) C K (c_X4_bestFilm l D ad1 cI cC cZ cQ σ n hs.1 (xs (k + 1)) (xs (k + 2)) (xs (k + 3))) gL_law_X4_bestFilm rfl hd_X4_bestFilm ⟨rfl, rfl⟩ ⟨Nat.le_of_ble_eq_true rfl, Nat.le_of_ble_eq_true rfl⟩ 0 rfl rfl rfl rfl rfl (Nat.le_of_ble_eq_true rfl) ⟨Nat.le_of_ble_eq_true rfl, Nat.le_of_ble_eq_true rfl⟩ dL_law_705 rfl (fun r1 u h1 => ?_)
  refine v_aload_n C dL_law_708 rfl 2 1 rfl rfl ?_
  refine v_aload_n C dL_law_709 rfl 0 3 rfl rfl ?_
  refine v_iload_n C dL_law_710 rfl 3 0 rfl rfl ?_
  refine v_iconst (v := 1) C dL_law_711 rfl ic_1 ?_
  refine v_iadd C dL_law_712 rfl ?_
  refine v_sld C hX hbl hbA (k + 1) (nI_add k 1) (by omega) (by omega) dL_law_713 rfl ?_
  refine v_aload_n C dL_law_714 rfl 0 3 rfl rfl ?_
  refine v_iload_n C dL_law_715 rfl 3 0 rfl rfl ?_
  refine v_iconst (v := 2) C dL_law_716 rfl ic_2 ?_
  refine v_iadd C dL_law_717 rfl ?_
  refine v_sld C hX hbl hbA (k + 2) (nI_add k 2) (by omega) (by omega) dL_law_718 rfl ?_
  refine v_aload_n C dL_law_719 rfl 0 3 rfl rfl ?_
  refine v_iload_n C dL_law_720 rfl 3 0 rfl rfl ?_
  refine v_iconst (v := 3) C dL_law_721 rfl ic_3 ?_
  refine v_iadd C dL_law_722 rfl ?_
  refine v_sld C hX hbl hbA (k + 3) (nI_add k 3) (by omega) (by omega) dL_law_723 rfl ?_
  refine v_callVR (w1 := cW ad1 cI cC cZ cQ) (w2 := mW ad2 cI) C (K.sub (tys' := [(cI, .int)]) [0] rfl) (c_X5_bestFilm l D ad2 cI τ n hw2 (xs (k + 1)) (xs (k + 2)) (xs (k + 3))) gL_law_X5_bestFilm rfl hd_X5_bestFilm ⟨rfl, rfl⟩ ⟨Nat.le_of_ble_eq_true rfl, Nat.le_of_ble_eq_true rfl⟩ 0 rfl rfl rfl rfl rfl (Nat.le_of_ble_eq_true rfl) ⟨Nat.le_of_ble_eq_true rfl, Nat.le_of_ble_eq_true rfl⟩ dL_law_724 rfl (fun r2 v h2 => ?_)
  try rw [e0] at h2
  have hr : r1 = r2 ∧ SMx u v := sm_read hs h1 ⟨h2.1, ms9_sc h2.2⟩
  exact v_icmp_eq C 936 dL_law_727 (by decide) rfl (fun _ => kk u v hr.2) (fun h9 => absurd hr.1 h9)
set_option maxHeartbeats 4000000 in
set_option maxRecDepth 100000 in
theorem lc_worstShow {p : Program} {l : Launch} {e : Env} {s : State} {m : MethodId} {below : List Frame} {meth : Method} {c : Code} {Q : State → Prop} {D : va_G} {cI cC cZ cQ : ClassId} {ad1 ad2 : Nat → Nat} {tl tm tf b Ls : Nat} {xs : Nat → Int32} (C : CX p m c cL_law 4 s #[Value.ref b] wsL_law RL (fun q => s.heap.size ≤ q) s.heap) (K : va_K D vwCl (cTy cI cC cZ cQ) s) (hE : zS tl tm tf (fun q => s.heap.size ≤ q) s s.heap) (hX : va_X b Ls xs s s.heap) (hbl : b < s.heap.size) (hL : Ls ≤ 3072) {k : Nat} (hk : k + 6 ≤ Ls) {σ τ : S9} (hx : SMx σ τ) (kk : ∀ u v : S9, SMx u v → VV p l e room_1 s m #[Value.ref b] below meth c 600000 7302250 Q (fun u : S9 × S9 => cW ad1 cI cC cZ cQ u.1 ++ mW ad2 cI u.2) D (fun q => s.heap.size ≤ q) s.heap 4 (u, v) 936 [(3, .int (nI k)), (2, .ref (ad2 0)), (1, .ref (ad1 0)), (0, .ref b)] []) : VV p l e room_1 s m #[Value.ref b] below meth c 600000 7302250 Q (fun u : S9 × S9 => cW ad1 cI cC cZ cQ u.1 ++ mW ad2 cI u.2) D (fun q => s.heap.size ≤ q) s.heap 4 (σ, τ) 732 [(3, .int (nI k)), (2, .ref (ad2 0)), (1, .ref (ad1 0)), (0, .ref b)] [] := by
  obtain ⟨n, o, h, L, hs⟩ := hx
  obtain ⟨-, e0, a3, a4, -, a6, a7, -⟩ := id hs
  have hw2 : wfS (τ 0) n := by rw [e0]; exact hs.1.1
  have hbA : ¬ (fun q : Nat => s.heap.size ≤ q) b := Nat.not_le.mpr hbl
  refine v_aload_n C dL_law_732 rfl 1 2 rfl rfl ?_
  refine v_aload_n C dL_law_733 rfl 0 3 rfl rfl ?_
  refine v_iload_n C dL_law_734 rfl 3 0 rfl rfl ?_
  refine v_iconst (v := 1) C dL_law_735 rfl ic_1 ?_
  refine v_iadd C dL_law_736 rfl ?_
  refine v_sld C hX hbl hbA (k + 1) (nI_add k 1) (by omega) (by omega) dL_law_737 rfl ?_
  refine v_callVL (w1 := cW ad1 cI cC cZ cQ) (w2 := mW ad2 cI) C K (c_X4_worstShow l D ad1 cI cC cZ cQ σ n hs.1 (xs (k + 1))) gL_law_X4_worstShow rfl hd_X4_worstShow ⟨rfl, rfl⟩ ⟨Nat.le_of_ble_eq_true rfl, Nat.le_of_ble_eq_true rfl⟩ 0 rfl rfl rfl rfl rfl (Nat.le_of_ble_eq_true rfl) ⟨Nat.le_of_ble_eq_true rfl, Nat.le_of_ble_eq_true rfl⟩ dL_law_738 rfl (fun r1 u h1 => ?_)
  refine v_aload_n C dL_law_741 rfl 2 1 rfl rfl ?_
  refine v_aload_n C dL_law_742 rfl 0 3 rfl rfl ?_
  refine v_iload_n C dL_law_743 rfl 3 0 rfl rfl ?_
  refine v_iconst (v := 1) C dL_law_744 rfl ic_1 ?_
  refine v_iadd C dL_law_745 rfl ?_
  refine v_sld C hX hbl hbA (k + 1) (nI_add k 1) (by omega) (by omega) dL_law_746 rfl ?_
  refine v_callVR (w1 := cW ad1 cI cC cZ cQ) (w2 := mW ad2 cI) C (K.sub (tys' := [(cI, .int)]) [0] rfl) (c_X5_worstShow l D ad2 cI τ n hw2 (xs (k + 1))) gL_law_X5_worstShow rfl hd_X5_worstShow ⟨rfl, rfl⟩ ⟨Nat.le_of_ble_eq_true rfl, Nat.le_of_ble_eq_true rfl⟩ 0 rfl rfl rfl rfl rfl (Nat.le_of_ble_eq_true rfl) ⟨Nat.le_of_ble_eq_true rfl, Nat.le_of_ble_eq_true rfl⟩ dL_law_747 rfl (fun r2 v h2 => ?_)
  try rw [e0] at h2
  have hr : r1 = r2 ∧ SMx u v := sm_read hs h1 ⟨h2.1, ms9_sc h2.2⟩
  exact v_icmp_eq C 936 dL_law_750 (by decide) rfl (fun _ => kk u v hr.2) (fun h9 => absurd hr.1 h9)
set_option maxHeartbeats 4000000 in
set_option maxRecDepth 100000 in
theorem lc_priceFor {p : Program} {l : Launch} {e : Env} {s : State} {m : MethodId} {below : List Frame} {meth : Method} {c : Code} {Q : State → Prop} {D : va_G} {cI cC cZ cQ : ClassId} {ad1 ad2 : Nat → Nat} {tl tm tf b Ls : Nat} {xs : Nat → Int32} (C : CX p m c cL_law 4 s #[Value.ref b] wsL_law RL (fun q => s.heap.size ≤ q) s.heap) (K : va_K D vwCl (cTy cI cC cZ cQ) s) (hE : zS tl tm tf (fun q => s.heap.size ≤ q) s s.heap) (hX : va_X b Ls xs s s.heap) (hbl : b < s.heap.size) (hL : Ls ≤ 3072) {k : Nat} (hk : k + 6 ≤ Ls) {σ τ : S9} (hx : SMx σ τ) (kk : ∀ u v : S9, SMx u v → VV p l e room_1 s m #[Value.ref b] below meth c 600000 7302250 Q (fun u : S9 × S9 => cW ad1 cI cC cZ cQ u.1 ++ mW ad2 cI u.2) D (fun q => s.heap.size ≤ q) s.heap 4 (u, v) 936 [(3, .int (nI k)), (2, .ref (ad2 0)), (1, .ref (ad1 0)), (0, .ref b)] []) : VV p l e room_1 s m #[Value.ref b] below meth c 600000 7302250 Q (fun u : S9 × S9 => cW ad1 cI cC cZ cQ u.1 ++ mW ad2 cI u.2) D (fun q => s.heap.size ≤ q) s.heap 4 (σ, τ) 755 [(3, .int (nI k)), (2, .ref (ad2 0)), (1, .ref (ad1 0)), (0, .ref b)] [] := by
  obtain ⟨n, o, h, L, hs⟩ := hx
  obtain ⟨-, e0, a3, a4, -, a6, a7, -⟩ := id hs
  have hw2 : wfS (τ 0) n := by rw [e0]; exact hs.1.1
  have hbA : ¬ (fun q : Nat => s.heap.size ≤ q) b := Nat.not_le.mpr hbl
  refine v_aload_n C dL_law_755 rfl 1 2 rfl rfl ?_
  refine v_aload_n C dL_law_756 rfl 0 3 rfl rfl ?_
  refine v_iload_n C dL_law_757 rfl 3 0 rfl rfl ?_
  refine v_iconst (v := 1) C dL_law_758 rfl ic_1 ?_
  refine v_iadd C dL_law_759 rfl ?_
  refine v_sld C hX hbl hbA (k + 1) (nI_add k 1) (by omega) (by omega) dL_law_760 rfl ?_
  refine v_aload_n C dL_law_761 rfl 0 3 rfl rfl ?_
  refine v_iload_n C dL_law_762 rfl 3 0 rfl rfl ?_
  refine v_iconst (v := 2) C dL_law_763 rfl ic_2 ?_
  refine v_iadd C dL_law_764 rfl ?_
  refine v_sld C hX hbl hbA (k + 2) (nI_add k 2) (by omega) (by omega) dL_law_765 rfl ?_
  refine v_aload_n C dL_law_766 rfl 0 3 rfl rfl ?_
  refine v_iload_n C dL_law_767 rfl 3 0 rfl rfl ?_
  refine v_iconst (v := 3) C dL_law_768 rfl ic_3 ?_
  refine v_iadd C dL_law_769 rfl ?_
  refine v_sld C hX hbl hbA (k + 3) (nI_add k 3) (by omega) (by omega) dL_law_770 rfl ?_
  refine v_callVLE (w1 := cW ad1 cI cC cZ cQ) (w2 := mW ad2 cI) C K hE (c_X4_priceFor l D ad1 cI cC cZ cQ σ n hs.1 tl tm tf (xs (k + 1)) (xs (k + 2)) (xs (k + 3))) gL_law_X4_priceFor rfl hd_X4_priceFor ⟨rfl, rfl⟩ ⟨Nat.le_of_ble_eq_true rfl, Nat.le_of_ble_eq_true rfl⟩ 0 rfl rfl rfl rfl rfl (Nat.le_of_ble_eq_true rfl) ⟨Nat.le_of_ble_eq_true rfl, Nat.le_of_ble_eq_true rfl⟩ dL_law_771 rfl (fun r1 u h1 => ?_)
  refine v_aload_n C dL_law_774 rfl 2 1 rfl rfl ?_
  refine v_aload_n C dL_law_775 rfl 0 3 rfl rfl ?_
  refine v_iload_n C dL_law_776 rfl 3 0 rfl rfl ?_
  refine v_iconst (v := 1) C dL_law_777 rfl ic_1 ?_
  refine v_iadd C dL_law_778 rfl ?_
  refine v_sld C hX hbl hbA (k + 1) (nI_add k 1) (by omega) (by omega) dL_law_779 rfl ?_
  refine v_aload_n C dL_law_780 rfl 0 3 rfl rfl ?_
  refine v_iload_n C dL_law_781 rfl 3 0 rfl rfl ?_
  refine v_iconst (v := 2) C dL_law_782 rfl ic_2 ?_
  refine v_iadd C dL_law_783 rfl ?_
  refine v_sld C hX hbl hbA (k + 2) (nI_add k 2) (by omega) (by omega) dL_law_784 rfl ?_
  refine v_aload_n C dL_law_785 rfl 0 3 rfl rfl ?_
  refine v_iload_n C dL_law_786 rfl 3 0 rfl rfl ?_
  refine v_iconst (v := 3) C dL_law_787 rfl ic_3 ?_
  refine v_iadd C dL_law_788 rfl ?_
  refine v_sld C hX hbl hbA (k + 3) (nI_add k 3) (by omega) (by omega) dL_law_789 rfl ?_
  refine v_callVR (w1 := cW ad1 cI cC cZ cQ) (w2 := mW ad2 cI) C (K.sub (tys' := [(cI, .int)]) [0] rfl) (c_X5_priceFor l D ad2 cI τ n hw2 (xs (k + 1)) (xs (k + 2)) (xs (k + 3))) gL_law_X5_priceFor rfl hd_X5_priceFor ⟨rfl, rfl⟩ ⟨Nat.le_of_ble_eq_true rfl, Nat.le_of_ble_eq_true rfl⟩ 0 rfl rfl rfl rfl rfl (Nat.le_of_ble_eq_true rfl) ⟨Nat.le_of_ble_eq_true rfl, Nat.le_of_ble_eq_true rfl⟩ dL_law_790 rfl (fun r2 v h2 => ?_)
  try rw [e0] at h2
  have hr : r1 = r2 ∧ SMx u v := sm_read hs h1 ⟨h2.1, ms9_sc h2.2⟩
  exact v_icmp_eq C 936 dL_law_793 (by decide) rfl (fun _ => kk u v hr.2) (fun h9 => absurd hr.1 h9)
set_option maxHeartbeats 4000000 in
set_option maxRecDepth 100000 in
theorem lc_put {p : Program} {l : Launch} {e : Env} {s : State} {m : MethodId} {below : List Frame} {meth : Method} {c : Code} {Q : State → Prop} {D : va_G} {cI cC cZ cQ : ClassId} {ad1 ad2 : Nat → Nat} {tl tm tf b Ls : Nat} {xs : Nat → Int32} (C : CX p m c cL_law 4 s #[Value.ref b] wsL_law RL (fun q => s.heap.size ≤ q) s.heap) (K : va_K D vwCl (cTy cI cC cZ cQ) s) (hE : zS tl tm tf (fun q => s.heap.size ≤ q) s s.heap) (hX : va_X b Ls xs s s.heap) (hbl : b < s.heap.size) (hL : Ls ≤ 3072) {k : Nat} (hk : k + 6 ≤ Ls) {σ τ : S9} (hx : SMx σ τ) (kk : ∀ u v : S9, SMx u v → VV p l e room_1 s m #[Value.ref b] below meth c 600000 7302250 Q (fun u : S9 × S9 => cW ad1 cI cC cZ cQ u.1 ++ mW ad2 cI u.2) D (fun q => s.heap.size ≤ q) s.heap 4 (u, v) 936 [(3, .int (nI k)), (2, .ref (ad2 0)), (1, .ref (ad1 0)), (0, .ref b)] []) : VV p l e room_1 s m #[Value.ref b] below meth c 600000 7302250 Q (fun u : S9 × S9 => cW ad1 cI cC cZ cQ u.1 ++ mW ad2 cI u.2) D (fun q => s.heap.size ≤ q) s.heap 4 (σ, τ) 798 [(3, .int (nI k)), (2, .ref (ad2 0)), (1, .ref (ad1 0)), (0, .ref b)] [] := by
  obtain ⟨n, o, h, L, hs⟩ := hx
  obtain ⟨-, e0, a3, a4, -, a6, a7, -⟩ := id hs
  have hw2 : wfS (τ 0) n := by rw [e0]; exact hs.1.1
  have hbA : ¬ (fun q : Nat => s.heap.size ≤ q) b := Nat.not_le.mpr hbl
  refine v_aload_n C dL_law_798 rfl 1 2 rfl rfl ?_
  refine v_aload_n C dL_law_799 rfl 0 3 rfl rfl ?_
  refine v_iload_n C dL_law_800 rfl 3 0 rfl rfl ?_
  refine v_iconst (v := 1) C dL_law_801 rfl ic_1 ?_
  refine v_iadd C dL_law_802 rfl ?_
  refine v_sld C hX hbl hbA (k + 1) (nI_add k 1) (by omega) (by omega) dL_law_803 rfl ?_
  refine v_i2l C dL_law_804 rfl rfl ?_
  refine v_bipush (v := 32) C dL_law_805 rfl (by decide) ?_
  refine v_lshl C dL_law_807 rfl rfl ?_
  refine v_aload_n C dL_law_808 rfl 0 3 rfl rfl ?_
  refine v_iload_n C dL_law_809 rfl 3 0 rfl rfl ?_
  refine v_iconst (v := 2) C dL_law_810 rfl ic_2 ?_
  refine v_iadd C dL_law_811 rfl ?_
  refine v_sld C hX hbl hbA (k + 2) (nI_add k 2) (by omega) (by omega) dL_law_812 rfl ?_
  refine v_i2l C dL_law_813 rfl rfl ?_
  refine v_ldc2 (v := 4294967295) C dL_law_814 rfl ctL_law_91 ?_
  refine v_land C dL_law_817 rfl ?_
  refine v_lor C dL_law_818 rfl ?_
  refine v_callVL (w1 := cW ad1 cI cC cZ cQ) (w2 := mW ad2 cI) C K (c_X4_put l D ad1 cI cC cZ cQ σ L a6.1 a6.2.1 (((xs (k + 1)).toInt64 <<< ((32 : Int32).toInt64 &&& 63)) ||| ((xs (k + 2)).toInt64 &&& 4294967295))) gL_law_X4_put rfl hd_X4_put ⟨rfl, rfl⟩ ⟨Nat.le_of_ble_eq_true rfl, Nat.le_of_ble_eq_true rfl⟩ 0 rfl rfl rfl rfl rfl (Nat.le_of_ble_eq_true rfl) ⟨Nat.le_of_ble_eq_true rfl, Nat.le_of_ble_eq_true rfl⟩ dL_law_819 rfl (fun r1 u h1 => ?_)
  refine v_aload_n C dL_law_822 rfl 2 1 rfl rfl ?_
  refine v_aload_n C dL_law_823 rfl 0 3 rfl rfl ?_
  refine v_iload_n C dL_law_824 rfl 3 0 rfl rfl ?_
  refine v_iconst (v := 1) C dL_law_825 rfl ic_1 ?_
  refine v_iadd C dL_law_826 rfl ?_
  refine v_sld C hX hbl hbA (k + 1) (nI_add k 1) (by omega) (by omega) dL_law_827 rfl ?_
  refine v_i2l C dL_law_828 rfl rfl ?_
  refine v_bipush (v := 32) C dL_law_829 rfl (by decide) ?_
  refine v_lshl C dL_law_831 rfl rfl ?_
  refine v_aload_n C dL_law_832 rfl 0 3 rfl rfl ?_
  refine v_iload_n C dL_law_833 rfl 3 0 rfl rfl ?_
  refine v_iconst (v := 2) C dL_law_834 rfl ic_2 ?_
  refine v_iadd C dL_law_835 rfl ?_
  refine v_sld C hX hbl hbA (k + 2) (nI_add k 2) (by omega) (by omega) dL_law_836 rfl ?_
  refine v_i2l C dL_law_837 rfl rfl ?_
  refine v_ldc2 (v := 4294967295) C dL_law_838 rfl ctL_law_91 ?_
  refine v_land C dL_law_841 rfl ?_
  refine v_lor C dL_law_842 rfl ?_
  refine v_callVR (w1 := cW ad1 cI cC cZ cQ) (w2 := mW ad2 cI) C (K.sub (tys' := [(cI, .int)]) [0] rfl) (c_X5_put l D ad2 cI τ L a6.2.2 a6.2.1 (((xs (k + 1)).toInt64 <<< ((32 : Int32).toInt64 &&& 63)) ||| ((xs (k + 2)).toInt64 &&& 4294967295))) gL_law_X5_put rfl hd_X5_put ⟨rfl, rfl⟩ ⟨Nat.le_of_ble_eq_true rfl, Nat.le_of_ble_eq_true rfl⟩ 0 rfl rfl rfl rfl rfl (Nat.le_of_ble_eq_true rfl) ⟨Nat.le_of_ble_eq_true rfl, Nat.le_of_ble_eq_true rfl⟩ dL_law_843 rfl (fun r2 v h2 => ?_)
  have hr : r1 = r2 ∧ SMx u v := sm_put hs h1 h2
  exact v_icmp_eq C 936 dL_law_846 (by decide) rfl (fun _ => kk u v hr.2) (fun h9 => absurd hr.1 h9)
set_option maxHeartbeats 4000000 in
set_option maxRecDepth 100000 in
theorem lc_wipe {p : Program} {l : Launch} {e : Env} {s : State} {m : MethodId} {below : List Frame} {meth : Method} {c : Code} {Q : State → Prop} {D : va_G} {cI cC cZ cQ : ClassId} {ad1 ad2 : Nat → Nat} {tl tm tf b Ls : Nat} {xs : Nat → Int32} (C : CX p m c cL_law 4 s #[Value.ref b] wsL_law RL (fun q => s.heap.size ≤ q) s.heap) (K : va_K D vwCl (cTy cI cC cZ cQ) s) (hE : zS tl tm tf (fun q => s.heap.size ≤ q) s s.heap) (hX : va_X b Ls xs s s.heap) (hbl : b < s.heap.size) (hL : Ls ≤ 3072) {k : Nat} (hk : k + 6 ≤ Ls) {σ τ : S9} (hx : SMx σ τ) (kk : ∀ u v : S9, SMx u v → VV p l e room_1 s m #[Value.ref b] below meth c 600000 7302250 Q (fun u : S9 × S9 => cW ad1 cI cC cZ cQ u.1 ++ mW ad2 cI u.2) D (fun q => s.heap.size ≤ q) s.heap 4 (u, v) 936 [(3, .int (nI k)), (2, .ref (ad2 0)), (1, .ref (ad1 0)), (0, .ref b)] []) : VV p l e room_1 s m #[Value.ref b] below meth c 600000 7302250 Q (fun u : S9 × S9 => cW ad1 cI cC cZ cQ u.1 ++ mW ad2 cI u.2) D (fun q => s.heap.size ≤ q) s.heap 4 (σ, τ) 851 [(3, .int (nI k)), (2, .ref (ad2 0)), (1, .ref (ad1 0)), (0, .ref b)] [] := by
  obtain ⟨n, o, h, L, hs⟩ := hx
  obtain ⟨-, e0, a3, a4, -, a6, a7, -⟩ := id hs
  have hw2 : wfS (τ 0) n := by rw [e0]; exact hs.1.1
  have hbA : ¬ (fun q : Nat => s.heap.size ≤ q) b := Nat.not_le.mpr hbl
  refine v_aload_n C dL_law_851 rfl 1 2 rfl rfl ?_
  refine v_callVL (w1 := cW ad1 cI cC cZ cQ) (w2 := mW ad2 cI) C K (c_X4_wipe l D ad1 cI cC cZ cQ σ  ) gL_law_X4_wipe rfl hd_X4_wipe ⟨rfl, rfl⟩ ⟨Nat.le_of_ble_eq_true rfl, Nat.le_of_ble_eq_true rfl⟩ 0 rfl rfl rfl rfl rfl (Nat.le_of_ble_eq_true rfl) ⟨Nat.le_of_ble_eq_true rfl, Nat.le_of_ble_eq_true rfl⟩ dL_law_852 rfl (fun r1 u h1 => ?_)
  refine v_aload_n C dL_law_855 rfl 2 1 rfl rfl ?_
  refine v_callVR (w1 := cW ad1 cI cC cZ cQ) (w2 := mW ad2 cI) C (K.sub (tys' := [(cI, .int)]) [0] rfl) (c_X5_wipe l D ad2 cI τ  ) gL_law_X5_wipe rfl hd_X5_wipe ⟨rfl, rfl⟩ ⟨Nat.le_of_ble_eq_true rfl, Nat.le_of_ble_eq_true rfl⟩ 0 rfl rfl rfl rfl rfl (Nat.le_of_ble_eq_true rfl) ⟨Nat.le_of_ble_eq_true rfl, Nat.le_of_ble_eq_true rfl⟩ dL_law_856 rfl (fun r2 v h2 => ?_)
  have hr : r1 = r2 ∧ SMx u v := sm_wipe hs h1 h2
  exact v_icmp_eq C 936 dL_law_859 (by decide) rfl (fun _ => kk u v hr.2) (fun h9 => absurd hr.1 h9)
set_option maxHeartbeats 4000000 in
set_option maxRecDepth 100000 in
theorem lc_fault {p : Program} {l : Launch} {e : Env} {s : State} {m : MethodId} {below : List Frame} {meth : Method} {c : Code} {Q : State → Prop} {D : va_G} {cI cC cZ cQ : ClassId} {ad1 ad2 : Nat → Nat} {tl tm tf b Ls : Nat} {xs : Nat → Int32} (C : CX p m c cL_law 4 s #[Value.ref b] wsL_law RL (fun q => s.heap.size ≤ q) s.heap) (K : va_K D vwCl (cTy cI cC cZ cQ) s) (hE : zS tl tm tf (fun q => s.heap.size ≤ q) s s.heap) (hX : va_X b Ls xs s s.heap) (hbl : b < s.heap.size) (hL : Ls ≤ 3072) {k : Nat} (hk : k + 6 ≤ Ls) {σ τ : S9} (hx : SMx σ τ) (kk : ∀ u v : S9, SMx u v → VV p l e room_1 s m #[Value.ref b] below meth c 600000 7302250 Q (fun u : S9 × S9 => cW ad1 cI cC cZ cQ u.1 ++ mW ad2 cI u.2) D (fun q => s.heap.size ≤ q) s.heap 4 (u, v) 936 [(3, .int (nI k)), (2, .ref (ad2 0)), (1, .ref (ad1 0)), (0, .ref b)] []) : VV p l e room_1 s m #[Value.ref b] below meth c 600000 7302250 Q (fun u : S9 × S9 => cW ad1 cI cC cZ cQ u.1 ++ mW ad2 cI u.2) D (fun q => s.heap.size ≤ q) s.heap 4 (σ, τ) 864 [(3, .int (nI k)), (2, .ref (ad2 0)), (1, .ref (ad1 0)), (0, .ref b)] [] := by
  obtain ⟨n, o, h, L, hs⟩ := hx
  obtain ⟨-, e0, a3, a4, -, a6, a7, -⟩ := id hs
  have hw2 : wfS (τ 0) n := by rw [e0]; exact hs.1.1
  have hbA : ¬ (fun q : Nat => s.heap.size ≤ q) b := Nat.not_le.mpr hbl
  refine v_aload_n C dL_law_864 rfl 1 2 rfl rfl ?_
  refine v_callVL (w1 := cW ad1 cI cC cZ cQ) (w2 := mW ad2 cI) C K (c_X4_fault l D ad1 cI cC cZ cQ σ L a6.1 a6.2.1 ) gL_law_X4_fault rfl hd_X4_fault ⟨rfl, rfl⟩ ⟨Nat.le_of_ble_eq_true rfl, Nat.le_of_ble_eq_true rfl⟩ 0 rfl rfl rfl rfl rfl (Nat.le_of_ble_eq_true rfl) ⟨Nat.le_of_ble_eq_true rfl, Nat.le_of_ble_eq_true rfl⟩ dL_law_865 rfl (fun r1 u h1 => ?_)
  refine v_aload_n C dL_law_868 rfl 2 1 rfl rfl ?_
  refine v_callVR (w1 := cW ad1 cI cC cZ cQ) (w2 := mW ad2 cI) C (K.sub (tys' := [(cI, .int)]) [0] rfl) (c_X5_fault l D ad2 cI τ L a6.2.2 a6.2.1 ) gL_law_X5_fault rfl hd_X5_fault ⟨rfl, rfl⟩ ⟨Nat.le_of_ble_eq_true rfl, Nat.le_of_ble_eq_true rfl⟩ 0 rfl rfl rfl rfl rfl (Nat.le_of_ble_eq_true rfl) ⟨Nat.le_of_ble_eq_true rfl, Nat.le_of_ble_eq_true rfl⟩ dL_law_869 rfl (fun r2 v h2 => ?_)
  have hr : r1 = r2 ∧ SMx u v := sm_fault hs h1 h2
  exact v_icmp_eq C 936 dL_law_872 (by decide) rfl (fun _ => kk u v hr.2) (fun h9 => absurd hr.1 h9)
set_option maxHeartbeats 4000000 in
set_option maxRecDepth 100000 in
theorem lc_undo {p : Program} {l : Launch} {e : Env} {s : State} {m : MethodId} {below : List Frame} {meth : Method} {c : Code} {Q : State → Prop} {D : va_G} {cI cC cZ cQ : ClassId} {ad1 ad2 : Nat → Nat} {tl tm tf b Ls : Nat} {xs : Nat → Int32} (C : CX p m c cL_law 4 s #[Value.ref b] wsL_law RL (fun q => s.heap.size ≤ q) s.heap) (K : va_K D vwCl (cTy cI cC cZ cQ) s) (hE : zS tl tm tf (fun q => s.heap.size ≤ q) s s.heap) (hX : va_X b Ls xs s s.heap) (hbl : b < s.heap.size) (hL : Ls ≤ 3072) {k : Nat} (hk : k + 6 ≤ Ls) {σ τ : S9} (hx : SMx σ τ) (kk : ∀ u v : S9, SMx u v → VV p l e room_1 s m #[Value.ref b] below meth c 600000 7302250 Q (fun u : S9 × S9 => cW ad1 cI cC cZ cQ u.1 ++ mW ad2 cI u.2) D (fun q => s.heap.size ≤ q) s.heap 4 (u, v) 936 [(3, .int (nI k)), (2, .ref (ad2 0)), (1, .ref (ad1 0)), (0, .ref b)] []) : VV p l e room_1 s m #[Value.ref b] below meth c 600000 7302250 Q (fun u : S9 × S9 => cW ad1 cI cC cZ cQ u.1 ++ mW ad2 cI u.2) D (fun q => s.heap.size ≤ q) s.heap 4 (σ, τ) 877 [(3, .int (nI k)), (2, .ref (ad2 0)), (1, .ref (ad1 0)), (0, .ref b)] [] := by
  obtain ⟨n, o, h, L, hs⟩ := hx
  obtain ⟨-, e0, a3, a4, -, a6, a7, -⟩ := id hs
  have hw2 : wfS (τ 0) n := by rw [e0]; exact hs.1.1
  have hbA : ¬ (fun q : Nat => s.heap.size ≤ q) b := Nat.not_le.mpr hbl
  refine v_aload_n C dL_law_877 rfl 1 2 rfl rfl ?_
  refine v_callVL (w1 := cW ad1 cI cC cZ cQ) (w2 := mW ad2 cI) C K (c_X4_undo l D ad1 cI cC cZ cQ σ o a3.1 a3.2 h a4.1 a4.2.1 ) gL_law_X4_undo rfl hd_X4_undo ⟨rfl, rfl⟩ ⟨Nat.le_of_ble_eq_true rfl, Nat.le_of_ble_eq_true rfl⟩ 0 rfl rfl rfl rfl rfl (Nat.le_of_ble_eq_true rfl) ⟨Nat.le_of_ble_eq_true rfl, Nat.le_of_ble_eq_true rfl⟩ dL_law_878 rfl (fun r1 u h1 => ?_)
  refine v_aload_n C dL_law_881 rfl 2 1 rfl rfl ?_
  refine v_callVR (w1 := cW ad1 cI cC cZ cQ) (w2 := mW ad2 cI) C (K.sub (tys' := [(cI, .int)]) [0] rfl) (c_X5_undo l D ad2 cI τ h a4.2.2 a4.2.1 ) gL_law_X5_undo rfl hd_X5_undo ⟨rfl, rfl⟩ ⟨Nat.le_of_ble_eq_true rfl, Nat.le_of_ble_eq_true rfl⟩ 0 rfl rfl rfl rfl rfl (Nat.le_of_ble_eq_true rfl) ⟨Nat.le_of_ble_eq_true rfl, Nat.le_of_ble_eq_true rfl⟩ dL_law_882 rfl (fun r2 v h2 => ?_)
  have hr : r1 = r2 ∧ SMx u v := sm_undo hs h1 h2
  exact v_icmp_eq C 936 dL_law_885 (by decide) rfl (fun _ => kk u v hr.2) (fun h9 => absurd hr.1 h9)
set_option maxHeartbeats 4000000 in
set_option maxRecDepth 100000 in
theorem lc_save {p : Program} {l : Launch} {e : Env} {s : State} {m : MethodId} {below : List Frame} {meth : Method} {c : Code} {Q : State → Prop} {D : va_G} {cI cC cZ cQ : ClassId} {ad1 ad2 : Nat → Nat} {tl tm tf b Ls : Nat} {xs : Nat → Int32} (C : CX p m c cL_law 4 s #[Value.ref b] wsL_law RL (fun q => s.heap.size ≤ q) s.heap) (K : va_K D vwCl (cTy cI cC cZ cQ) s) (hE : zS tl tm tf (fun q => s.heap.size ≤ q) s s.heap) (hX : va_X b Ls xs s s.heap) (hbl : b < s.heap.size) (hL : Ls ≤ 3072) {k : Nat} (hk : k + 6 ≤ Ls) {σ τ : S9} (hx : SMx σ τ) (kk : ∀ u v : S9, SMx u v → VV p l e room_1 s m #[Value.ref b] below meth c 600000 7302250 Q (fun u : S9 × S9 => cW ad1 cI cC cZ cQ u.1 ++ mW ad2 cI u.2) D (fun q => s.heap.size ≤ q) s.heap 4 (u, v) 936 [(3, .int (nI k)), (2, .ref (ad2 0)), (1, .ref (ad1 0)), (0, .ref b)] []) : VV p l e room_1 s m #[Value.ref b] below meth c 600000 7302250 Q (fun u : S9 × S9 => cW ad1 cI cC cZ cQ u.1 ++ mW ad2 cI u.2) D (fun q => s.heap.size ≤ q) s.heap 4 (σ, τ) 890 [(3, .int (nI k)), (2, .ref (ad2 0)), (1, .ref (ad1 0)), (0, .ref b)] [] := by
  obtain ⟨n, o, h, L, hs⟩ := hx
  obtain ⟨-, e0, a3, a4, -, a6, a7, -⟩ := id hs
  have hw2 : wfS (τ 0) n := by rw [e0]; exact hs.1.1
  have hbA : ¬ (fun q : Nat => s.heap.size ≤ q) b := Nat.not_le.mpr hbl
  refine v_aload_n C dL_law_890 rfl 1 2 rfl rfl ?_
  refine v_aload_n C dL_law_891 rfl 0 3 rfl rfl ?_
  refine v_iload_n C dL_law_892 rfl 3 0 rfl rfl ?_
  refine v_iconst (v := 1) C dL_law_893 rfl ic_1 ?_
  refine v_iadd C dL_law_894 rfl ?_
  refine v_sld C hX hbl hbA (k + 1) (nI_add k 1) (by omega) (by omega) dL_law_895 rfl ?_
  refine v_callVL (w1 := cW ad1 cI cC cZ cQ) (w2 := mW ad2 cI) C K (c_X4_save l D ad1 cI cC cZ cQ σ  (xs (k + 1))) gL_law_X4_save rfl hd_X4_save ⟨rfl, rfl⟩ ⟨Nat.le_of_ble_eq_true rfl, Nat.le_of_ble_eq_true rfl⟩ 0 rfl rfl rfl rfl rfl (Nat.le_of_ble_eq_true rfl) ⟨Nat.le_of_ble_eq_true rfl, Nat.le_of_ble_eq_true rfl⟩ dL_law_896 rfl (fun r1 u h1 => ?_)
  refine v_aload_n C dL_law_899 rfl 2 1 rfl rfl ?_
  refine v_aload_n C dL_law_900 rfl 0 3 rfl rfl ?_
  refine v_iload_n C dL_law_901 rfl 3 0 rfl rfl ?_
  refine v_iconst (v := 1) C dL_law_902 rfl ic_1 ?_
  refine v_iadd C dL_law_903 rfl ?_
  refine v_sld C hX hbl hbA (k + 1) (nI_add k 1) (by omega) (by omega) dL_law_904 rfl ?_
  refine v_callVR (w1 := cW ad1 cI cC cZ cQ) (w2 := mW ad2 cI) C (K.sub (tys' := [(cI, .int)]) [0] rfl) (c_X5_save l D ad2 cI τ  (xs (k + 1))) gL_law_X5_save rfl hd_X5_save ⟨rfl, rfl⟩ ⟨Nat.le_of_ble_eq_true rfl, Nat.le_of_ble_eq_true rfl⟩ 0 rfl rfl rfl rfl rfl (Nat.le_of_ble_eq_true rfl) ⟨Nat.le_of_ble_eq_true rfl, Nat.le_of_ble_eq_true rfl⟩ dL_law_905 rfl (fun r2 v h2 => ?_)
  have hr : r1 = r2 ∧ SMx u v := sm_save hs h1 h2
  exact v_icmp_eq C 936 dL_law_908 (by decide) rfl (fun _ => kk u v hr.2) (fun h9 => absurd hr.1 h9)
set_option maxHeartbeats 4000000 in
set_option maxRecDepth 100000 in
theorem lc_restore {p : Program} {l : Launch} {e : Env} {s : State} {m : MethodId} {below : List Frame} {meth : Method} {c : Code} {Q : State → Prop} {D : va_G} {cI cC cZ cQ : ClassId} {ad1 ad2 : Nat → Nat} {tl tm tf b Ls : Nat} {xs : Nat → Int32} (C : CX p m c cL_law 4 s #[Value.ref b] wsL_law RL (fun q => s.heap.size ≤ q) s.heap) (K : va_K D vwCl (cTy cI cC cZ cQ) s) (hE : zS tl tm tf (fun q => s.heap.size ≤ q) s s.heap) (hX : va_X b Ls xs s s.heap) (hbl : b < s.heap.size) (hL : Ls ≤ 3072) {k : Nat} (hk : k + 6 ≤ Ls) {σ τ : S9} (hx : SMx σ τ) (kk : ∀ u v : S9, SMx u v → VV p l e room_1 s m #[Value.ref b] below meth c 600000 7302250 Q (fun u : S9 × S9 => cW ad1 cI cC cZ cQ u.1 ++ mW ad2 cI u.2) D (fun q => s.heap.size ≤ q) s.heap 4 (u, v) 936 [(3, .int (nI k)), (2, .ref (ad2 0)), (1, .ref (ad1 0)), (0, .ref b)] []) : VV p l e room_1 s m #[Value.ref b] below meth c 600000 7302250 Q (fun u : S9 × S9 => cW ad1 cI cC cZ cQ u.1 ++ mW ad2 cI u.2) D (fun q => s.heap.size ≤ q) s.heap 4 (σ, τ) 913 [(3, .int (nI k)), (2, .ref (ad2 0)), (1, .ref (ad1 0)), (0, .ref b)] [] := by
  obtain ⟨n, o, h, L, hs⟩ := hx
  obtain ⟨-, e0, a3, a4, -, a6, a7, -⟩ := id hs
  have hw2 : wfS (τ 0) n := by rw [e0]; exact hs.1.1
  have hbA : ¬ (fun q : Nat => s.heap.size ≤ q) b := Nat.not_le.mpr hbl
  refine v_aload_n C dL_law_913 rfl 1 2 rfl rfl ?_
  refine v_aload_n C dL_law_914 rfl 0 3 rfl rfl ?_
  refine v_iload_n C dL_law_915 rfl 3 0 rfl rfl ?_
  refine v_iconst (v := 1) C dL_law_916 rfl ic_1 ?_
  refine v_iadd C dL_law_917 rfl ?_
  refine v_sld C hX hbl hbA (k + 1) (nI_add k 1) (by omega) (by omega) dL_law_918 rfl ?_
  refine v_callVL (w1 := cW ad1 cI cC cZ cQ) (w2 := mW ad2 cI) C K (c_X4_restore l D ad1 cI cC cZ cQ σ o a3.1 a3.2 h a4.1 a4.2.1 (xs (k + 1))) gL_law_X4_restore rfl hd_X4_restore ⟨rfl, rfl⟩ ⟨Nat.le_of_ble_eq_true rfl, Nat.le_of_ble_eq_true rfl⟩ 0 rfl rfl rfl rfl rfl (Nat.le_of_ble_eq_true rfl) ⟨Nat.le_of_ble_eq_true rfl, Nat.le_of_ble_eq_true rfl⟩ dL_law_919 rfl (fun r1 u h1 => ?_)
  refine v_aload_n C dL_law_922 rfl 2 1 rfl rfl ?_
  refine v_aload_n C dL_law_923 rfl 0 3 rfl rfl ?_
  refine v_iload_n C dL_law_924 rfl 3 0 rfl rfl ?_
  refine v_iconst (v := 1) C dL_law_925 rfl ic_1 ?_
  refine v_iadd C dL_law_926 rfl ?_
  refine v_sld C hX hbl hbA (k + 1) (nI_add k 1) (by omega) (by omega) dL_law_927 rfl ?_
  refine v_callVR (w1 := cW ad1 cI cC cZ cQ) (w2 := mW ad2 cI) C (K.sub (tys' := [(cI, .int)]) [0] rfl) (c_X5_restore l D ad2 cI τ h a4.2.2 a4.2.1 (xs (k + 1))) gL_law_X5_restore rfl hd_X5_restore ⟨rfl, rfl⟩ ⟨Nat.le_of_ble_eq_true rfl, Nat.le_of_ble_eq_true rfl⟩ 0 rfl rfl rfl rfl rfl (Nat.le_of_ble_eq_true rfl) ⟨Nat.le_of_ble_eq_true rfl, Nat.le_of_ble_eq_true rfl⟩ dL_law_928 rfl (fun r2 v h2 => ?_)
  have hr : r1 = r2 ∧ SMx u v := sm_res hs h1 h2
  exact v_icmp_eq C 936 dL_law_931 (by decide) rfl (fun _ => kk u v hr.2) (fun h9 => absurd hr.1 h9)

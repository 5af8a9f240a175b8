/-! ===== the law: its acts: shows exchanged, a day let, a setting ===== -/
set_option maxHeartbeats 4000000 in
set_option maxRecDepth 100000 in
theorem lc_exN {p : Program} {l : Launch} {e : Env} {s : State} {m : MethodId} {below : List Frame} {meth : Method} {c : Code} {Q : State → Prop} {D : va_G} {cI cC cZ cQ : ClassId} {ad la : Nat → Nat} {b : Nat} (C : CX p m c cL_law 19 s #[Value.ref b] wsL_law RL (fun q => s.heap.size ≤ q) s.heap) (K : va_K D vwCl (cTy cI cC cZ cQ) s) {T : Nat} {x : Int32} {g : Nat → Int32} {n : Nat} {u t : S9} (hI : IC g n u) (hR : LR g n t) {d q d2 q2 : Nat} (hd : d < 35) (hq : q < 2) (hd2 : d2 < 35) (hq2 : q2 < 2) (hc : p_canBe g (g (46 + (2 * d2 + q2))) d = 0 ∨ p_canBe g (g (46 + (2 * d + q))) d2 = 0) (kk : ∀ (g : Nat → Int32) (u t : S9), IC g n u → LR g n t → VV p l e room_1 s m #[Value.ref b] below meth c 600000 7302250 Q (PW ad la cI cC cZ cQ) D (fun q => s.heap.size ≤ q) s.heap 19 (u, t) 1073 [(0, .ref b), (1, .ref (ad 0)), (2, .ref (la 0)), (3, .ref (la 1)), (4, .ref (la 2)), (5, .ref (la 3)), (6, .ref (la 4)), (7, .int (nI T)), (8, .int x)] []) : VV p l e room_1 s m #[Value.ref b] below meth c 600000 7302250 Q (PW ad la cI cC cZ cQ) D (fun q => s.heap.size ≤ q) s.heap 19 (u, t) 703 [(0, .ref b), (1, .ref (ad 0)), (2, .ref (la 0)), (3, .ref (la 1)), (4, .ref (la 2)), (5, .ref (la 3)), (6, .ref (la 4)), (7, .int (nI T)), (8, .int x), (10, .int (nI d)), (11, .int (nI q)), (12, .int (nI d2)), (13, .int (nI q2)), (14, .int (fl0 (g (46 + (2 * d + q))))), (15, .int (fl0 (g (46 + (2 * d2 + q2))))), (16, .int 0)] [] := by
  have hn8 := hR.n8
  refine v_aload_n C dL_law_703 rfl 2 2 rfl rfl ?_
  refine v_aload_n C dL_law_704 rfl 3 3 rfl rfl ?_
  refine v_aload C dL_law_705 rfl 4 rfl ?_
  refine v_aload C dL_law_707 rfl 5 rfl ?_
  refine v_aload C dL_law_709 rfl 6 rfl ?_
  refine v_cR C K (c_L_left l D la cI cC cZ cQ _ g n hR) gL_law_L_left rfl hd_L_left.2 ⟨rfl, rfl⟩ ⟨Nat.le_of_ble_eq_true rfl, Nat.le_of_ble_eq_true rfl⟩ rfl rfl (Nat.le_of_ble_eq_true rfl) ⟨Nat.le_of_ble_eq_true rfl, Nat.le_of_ble_eq_true rfl⟩ dL_law_711 rfl ?_
  refine v_istore (lv' := [(17, _), (0, _), (1, _), (2, _), (3, _), (4, _), (5, _), (6, _), (7, _), (8, _), (10, _), (11, _), (12, _), (13, _), (14, _), (15, _), (16, _)]) C dL_law_714 rfl (by decide) rfl ?_
  refine v_iload C dL_law_716 rfl 16 rfl ?_
  refine v_if_eq C 735 dL_law_718 (by decide) rfl (fun _ => ?_) (fun h9 => absurd (rfl) h9)
  refine v_iload C dL_law_735 rfl 16 rfl ?_
  refine v_if_eq C 755 dL_law_737 (by decide) rfl (fun _ => ?_) (fun h9 => absurd (rfl) h9)
  refine v_iload C dL_law_755 rfl 16 rfl ?_
  refine v_if_eq C 774 dL_law_757 (by decide) rfl (fun _ => ?_) (fun h9 => absurd (rfl) h9)
  refine v_iload C dL_law_774 rfl 16 rfl ?_
  refine v_if_eq C 794 dL_law_776 (by decide) rfl (fun _ => ?_) (fun h9 => absurd (rfl) h9)
  obtain ⟨o, h8, ho, ho6, hh, hle⟩ := id hI.2.2
  refine v_aload_n C dL_law_794 rfl 1 2 rfl rfl ?_
  refine v_iload C dL_law_795 rfl 10 rfl ?_
  refine v_iload C dL_law_797 rfl 11 rfl ?_
  refine v_iload C dL_law_799 rfl 12 rfl ?_
  refine v_iload C dL_law_801 rfl 13 rfl ?_
  refine v_cI C K (-5) (IC g n) (c_X4_exchange l D ad cI cC cZ cQ u n hI.w o ho ho6 h8 hh hle (nI d) (nI q) (nI d2) (nI q2)) gL_law_X4_exchange rfl hd_X4_exchange ⟨rfl, rfl⟩ ⟨Nat.le_of_ble_eq_true rfl, Nat.le_of_ble_eq_true rfl⟩ 0 rfl rfl rfl rfl rfl (Nat.le_of_ble_eq_true rfl) ⟨Nat.le_of_ble_eq_true rfl, Nat.le_of_ble_eq_true rfl⟩ dL_law_803 rfl (fun r v h => ip_exN hI hd hq hd2 hq2 hc h) (fun u hI => ?_)
  refine v_iload C dL_law_806 rfl 16 rfl ?_
  refine v_if_eq C 831 dL_law_808 (by decide) rfl (fun _ => ?_) (fun h9 => absurd (rfl) h9)
  refine v_bipush (v := -5) C dL_law_831 rfl bp_m5 ?_
  refine v_icmp_eq C 838 dL_law_833 (by decide) rfl (fun _ => ?_) (fun h9 => absurd (rfl) h9)
  refine v_goto C 1073 dL_law_838 (by decide) ?_
  refine v_lv (lv' := [(0, _), (1, _), (2, _), (3, _), (4, _), (5, _), (6, _), (7, _), (8, _)]) [1, 2, 3, 4, 5, 6, 7, 8, 9] rfl ?_
  exact kk _ _ _ hI hR
set_option maxHeartbeats 4000000 in
set_option maxRecDepth 100000 in
theorem lc_ex {p : Program} {l : Launch} {e : Env} {s : State} {m : MethodId} {below : List Frame} {meth : Method} {c : Code} {Q : State → Prop} {D : va_G} {cI cC cZ cQ : ClassId} {ad la : Nat → Nat} {b : Nat} (C : CX p m c cL_law 19 s #[Value.ref b] wsL_law RL (fun q => s.heap.size ≤ q) s.heap) (K : va_K D vwCl (cTy cI cC cZ cQ) s) {T : Nat} {x : Int32} {g : Nat → Int32} {n : Nat} {u t : S9} (hI : IC g n u) (hR : LR g n t) {d q d2 q2 : Nat} (hd : d < 35) (hq : q < 2) (hd2 : d2 < 35) (hq2 : q2 < 2) (hc1 : ¬ p_canBe g (g (46 + (2 * d2 + q2))) d = 0) (hc2 : ¬ p_canBe g (g (46 + (2 * d + q))) d2 = 0) (kk : ∀ (g : Nat → Int32) (u t : S9), IC g n u → LR g n t → VV p l e room_1 s m #[Value.ref b] below meth c 600000 7302250 Q (PW ad la cI cC cZ cQ) D (fun q => s.heap.size ≤ q) s.heap 19 (u, t) 1073 [(0, .ref b), (1, .ref (ad 0)), (2, .ref (la 0)), (3, .ref (la 1)), (4, .ref (la 2)), (5, .ref (la 3)), (6, .ref (la 4)), (7, .int (nI T)), (8, .int x)] []) : VV p l e room_1 s m #[Value.ref b] below meth c 600000 7302250 Q (PW ad la cI cC cZ cQ) D (fun q => s.heap.size ≤ q) s.heap 19 (u, t) 703 [(0, .ref b), (1, .ref (ad 0)), (2, .ref (la 0)), (3, .ref (la 1)), (4, .ref (la 2)), (5, .ref (la 3)), (6, .ref (la 4)), (7, .int (nI T)), (8, .int x), (10, .int (nI d)), (11, .int (nI q)), (12, .int (nI d2)), (13, .int (nI q2)), (14, .int (fl0 (g (46 + (2 * d + q))))), (15, .int (fl0 (g (46 + (2 * d2 + q2))))), (16, .int 1)] [] := by
  have hn8 := hR.n8
  refine v_aload_n C dL_law_703 rfl 2 2 rfl rfl ?_
  refine v_aload_n C dL_law_704 rfl 3 3 rfl rfl ?_
  refine v_aload C dL_law_705 rfl 4 rfl ?_
  refine v_aload C dL_law_707 rfl 5 rfl ?_
  refine v_aload C dL_law_709 rfl 6 rfl ?_
  refine v_cR C K (c_L_left l D la cI cC cZ cQ _ g n hR) gL_law_L_left rfl hd_L_left.2 ⟨rfl, rfl⟩ ⟨Nat.le_of_ble_eq_true rfl, Nat.le_of_ble_eq_true rfl⟩ rfl rfl (Nat.le_of_ble_eq_true rfl) ⟨Nat.le_of_ble_eq_true rfl, Nat.le_of_ble_eq_true rfl⟩ dL_law_711 rfl ?_
  refine v_istore (lv' := [(17, _), (0, _), (1, _), (2, _), (3, _), (4, _), (5, _), (6, _), (7, _), (8, _), (10, _), (11, _), (12, _), (13, _), (14, _), (15, _), (16, _)]) C dL_law_714 rfl (by decide) rfl ?_
  refine v_iload C dL_law_716 rfl 16 rfl ?_
  refine v_if_eq C 735 dL_law_718 (by decide) rfl (fun h9 => absurd h9 (by decide)) (fun _ => ?_)
  refine v_iload C dL_law_721 rfl 11 rfl ?_
  refine v_if_ne C 735 dL_law_723 (by decide) rfl (fun h723 => ?_) (fun h723f => ?_)
  · skip
    have hq1 := q01 hq h723
    refine v_iload C dL_law_735 rfl 16 rfl ?_
    refine v_if_eq C 755 dL_law_737 (by decide) rfl (fun h9 => absurd h9 (by decide)) (fun _ => ?_)
    refine v_iload C dL_law_740 rfl 11 rfl ?_
    refine v_iconst (v := 1) C dL_law_742 rfl ic_1 ?_
    refine v_icmp_ne C 755 dL_law_743 (by decide) rfl (fun h9 => absurd h9 (fun z => z (by rw [hq1]; rfl))) (fun _ => ?_)
    refine v_aload C dL_law_746 rfl 6 rfl ?_
    refine v_iload C dL_law_748 rfl 10 rfl ?_
    refine v_iload C dL_law_750 rfl 15 rfl ?_
    refine v_iconst (v := 1) C dL_law_752 rfl ic_1 ?_
    refine v_iadd C dL_law_753 rfl ?_
    refine v_top (sh0 (g (46 + (2 * d2 + q2)))) (fl0_1 _) ?_
    refine v_astL C K 3 35 rfl (lW_a3 la cI _) (d) (rfl) (by omega) (by decide) dL_law_754 rfl ?_
    refine v_iload C dL_law_755 rfl 16 rfl ?_
    refine v_if_eq C 774 dL_law_757 (by decide) rfl (fun h9 => absurd h9 (by decide)) (fun _ => ?_)
    refine v_iload C dL_law_760 rfl 13 rfl ?_
    refine v_if_ne C 774 dL_law_762 (by decide) rfl (fun h762 => ?_) (fun h762f => ?_)
    · skip
      have hp1 := q01 hq2 h762
      refine v_iload C dL_law_774 rfl 16 rfl ?_
      refine v_if_eq C 794 dL_law_776 (by decide) rfl (fun h9 => absurd h9 (by decide)) (fun _ => ?_)
      refine v_iload C dL_law_779 rfl 13 rfl ?_
      refine v_iconst (v := 1) C dL_law_781 rfl ic_1 ?_
      refine v_icmp_ne C 794 dL_law_782 (by decide) rfl (fun h9 => absurd h9 (fun z => z (by rw [hp1]; rfl))) (fun _ => ?_)
      refine v_aload C dL_law_785 rfl 6 rfl ?_
      refine v_iload C dL_law_787 rfl 12 rfl ?_
      refine v_iload C dL_law_789 rfl 14 rfl ?_
      refine v_iconst (v := 1) C dL_law_791 rfl ic_1 ?_
      refine v_iadd C dL_law_792 rfl ?_
      refine v_top (sh0 (g (46 + (2 * d + q)))) (fl0_1 _) ?_
      refine v_astL C K 3 35 rfl (lW_a3 la cI _) (d2) (rfl) (by omega) (by decide) dL_law_793 rfl ?_
      obtain ⟨o, h8, ho, ho6, hh, hle⟩ := id hI.2.2
      refine v_aload_n C dL_law_794 rfl 1 2 rfl rfl ?_
      refine v_iload C dL_law_795 rfl 10 rfl ?_
      refine v_iload C dL_law_797 rfl 11 rfl ?_
      refine v_iload C dL_law_799 rfl 12 rfl ?_
      refine v_iload C dL_law_801 rfl 13 rfl ?_
      refine v_cI C K (q_left (q_exR g (2 * d + q) (2 * d2 + q2)) (-1) - q_left g (-1) + 1000000) (IC (q_exR g (2 * d + q) (2 * d2 + q2)) n) (c_X4_exchange l D ad cI cC cZ cQ u n hI.w o ho ho6 h8 hh hle (nI d) (nI q) (nI d2) (nI q2)) gL_law_X4_exchange rfl hd_X4_exchange ⟨rfl, rfl⟩ ⟨Nat.le_of_ble_eq_true rfl, Nat.le_of_ble_eq_true rfl⟩ 0 rfl rfl rfl rfl rfl (Nat.le_of_ble_eq_true rfl) ⟨Nat.le_of_ble_eq_true rfl, Nat.le_of_ble_eq_true rfl⟩ dL_law_803 rfl (fun r v h => ip_ex hI ho ho6 hh hle hd hq hd2 hq2 hc1 hc2 h) (fun u hI => ?_)
      refine v_iload C dL_law_806 rfl 16 rfl ?_
      refine v_if_eq C 831 dL_law_808 (by decide) rfl (fun h9 => absurd h9 (by decide)) (fun _ => ?_)
      have hR2 := (hR.pe hd hq1 (hR.w.1.2.2 _ (k70 hd2 hq2))).pe hd2 hp1 (hR.w.1.2.2 _ (k70 hd hq))
      refine v_aload_n C dL_law_811 rfl 2 3 rfl rfl ?_
      refine v_aload_n C dL_law_812 rfl 3 4 rfl rfl ?_
      refine v_aload C dL_law_813 rfl 5 rfl ?_
      refine v_aload C dL_law_815 rfl 6 rfl ?_
      refine v_aload C dL_law_817 rfl 7 rfl ?_
      refine v_cR C K (c_L_left l D la cI cC cZ cQ _ (q_exR g (2 * d + q) (2 * d2 + q2)) n hR2) gL_law_L_left rfl hd_L_left.2 ⟨rfl, rfl⟩ ⟨Nat.le_of_ble_eq_true rfl, Nat.le_of_ble_eq_true rfl⟩ rfl rfl (Nat.le_of_ble_eq_true rfl) ⟨Nat.le_of_ble_eq_true rfl, Nat.le_of_ble_eq_true rfl⟩ dL_law_819 rfl ?_
      refine v_iload C dL_law_822 rfl 0 rfl ?_
      refine v_isub C dL_law_824 rfl ?_
      refine v_ldc C dL_law_825 rfl ct_L_law_63 ?_
      refine v_iadd C dL_law_827 rfl ?_
      refine v_goto C 833 dL_law_828 (by decide) ?_
      refine v_icmp_eq C 838 dL_law_833 (by decide) rfl (fun _ => ?_) (fun h9 => absurd (rfl) h9)
      refine v_goto C 1073 dL_law_838 (by decide) ?_
      refine v_lv (lv' := [(0, _), (1, _), (2, _), (3, _), (4, _), (5, _), (6, _), (7, _), (8, _)]) [1, 2, 3, 4, 5, 6, 7, 8, 9] rfl ?_
      exact kk _ _ _ hI hR2
    · skip
      have hp0 := q00 hq2 h762f
      refine v_aload C dL_law_765 rfl 5 rfl ?_
      refine v_iload C dL_law_767 rfl 12 rfl ?_
      refine v_iload C dL_law_769 rfl 14 rfl ?_
      refine v_iconst (v := 1) C dL_law_771 rfl ic_1 ?_
      refine v_iadd C dL_law_772 rfl ?_
      refine v_top (sh0 (g (46 + (2 * d + q)))) (fl0_1 _) ?_
      refine v_astL C K 2 35 rfl (lW_a2 la cI _) (d2) (rfl) (by omega) (by decide) dL_law_773 rfl ?_
      refine v_iload C dL_law_774 rfl 16 rfl ?_
      refine v_if_eq C 794 dL_law_776 (by decide) rfl (fun h9 => absurd h9 (by decide)) (fun _ => ?_)
      refine v_iload C dL_law_779 rfl 13 rfl ?_
      refine v_iconst (v := 1) C dL_law_781 rfl ic_1 ?_
      refine v_icmp_ne C 794 dL_law_782 (by decide) rfl (fun _ => ?_) (fun h9 => absurd h9 (by rw [hp0]; decide))
      obtain ⟨o, h8, ho, ho6, hh, hle⟩ := id hI.2.2
      refine v_aload_n C dL_law_794 rfl 1 2 rfl rfl ?_
      refine v_iload C dL_law_795 rfl 10 rfl ?_
      refine v_iload C dL_law_797 rfl 11 rfl ?_
      refine v_iload C dL_law_799 rfl 12 rfl ?_
      refine v_iload C dL_law_801 rfl 13 rfl ?_
      refine v_cI C K (q_left (q_exR g (2 * d + q) (2 * d2 + q2)) (-1) - q_left g (-1) + 1000000) (IC (q_exR g (2 * d + q) (2 * d2 + q2)) n) (c_X4_exchange l D ad cI cC cZ cQ u n hI.w o ho ho6 h8 hh hle (nI d) (nI q) (nI d2) (nI q2)) gL_law_X4_exchange rfl hd_X4_exchange ⟨rfl, rfl⟩ ⟨Nat.le_of_ble_eq_true rfl, Nat.le_of_ble_eq_true rfl⟩ 0 rfl rfl rfl rfl rfl (Nat.le_of_ble_eq_true rfl) ⟨Nat.le_of_ble_eq_true rfl, Nat.le_of_ble_eq_true rfl⟩ dL_law_803 rfl (fun r v h => ip_ex hI ho ho6 hh hle hd hq hd2 hq2 hc1 hc2 h) (fun u hI => ?_)
      refine v_iload C dL_law_806 rfl 16 rfl ?_
      refine v_if_eq C 831 dL_law_808 (by decide) rfl (fun h9 => absurd h9 (by decide)) (fun _ => ?_)
      have hR2 := (hR.pe hd hq1 (hR.w.1.2.2 _ (k70 hd2 hq2))).pa hd2 hp0 (hR.w.1.2.2 _ (k70 hd hq))
      refine v_aload_n C dL_law_811 rfl 2 3 rfl rfl ?_
      refine v_aload_n C dL_law_812 rfl 3 4 rfl rfl ?_
      refine v_aload C dL_law_813 rfl 5 rfl ?_
      refine v_aload C dL_law_815 rfl 6 rfl ?_
      refine v_aload C dL_law_817 rfl 7 rfl ?_
      refine v_cR C K (c_L_left l D la cI cC cZ cQ _ (q_exR g (2 * d + q) (2 * d2 + q2)) n hR2) gL_law_L_left rfl hd_L_left.2 ⟨rfl, rfl⟩ ⟨Nat.le_of_ble_eq_true rfl, Nat.le_of_ble_eq_true rfl⟩ rfl rfl (Nat.le_of_ble_eq_true rfl) ⟨Nat.le_of_ble_eq_true rfl, Nat.le_of_ble_eq_true rfl⟩ dL_law_819 rfl ?_
      refine v_iload C dL_law_822 rfl 0 rfl ?_
      refine v_isub C dL_law_824 rfl ?_
      refine v_ldc C dL_law_825 rfl ct_L_law_63 ?_
      refine v_iadd C dL_law_827 rfl ?_
      refine v_goto C 833 dL_law_828 (by decide) ?_
      refine v_icmp_eq C 838 dL_law_833 (by decide) rfl (fun _ => ?_) (fun h9 => absurd (rfl) h9)
      refine v_goto C 1073 dL_law_838 (by decide) ?_
      refine v_lv (lv' := [(0, _), (1, _), (2, _), (3, _), (4, _), (5, _), (6, _), (7, _), (8, _)]) [1, 2, 3, 4, 5, 6, 7, 8, 9] rfl ?_
      exact kk _ _ _ hI hR2
  · skip
    have hq0 := q00 hq h723f
    refine v_aload C dL_law_726 rfl 5 rfl ?_
    refine v_iload C dL_law_728 rfl 10 rfl ?_
    refine v_iload C dL_law_730 rfl 15 rfl ?_
    refine v_iconst (v := 1) C dL_law_732 rfl ic_1 ?_
    refine v_iadd C dL_law_733 rfl ?_
    refine v_top (sh0 (g (46 + (2 * d2 + q2)))) (fl0_1 _) ?_
    refine v_astL C K 2 35 rfl (lW_a2 la cI _) (d) (rfl) (by omega) (by decide) dL_law_734 rfl ?_
    refine v_iload C dL_law_735 rfl 16 rfl ?_
    refine v_if_eq C 755 dL_law_737 (by decide) rfl (fun h9 => absurd h9 (by decide)) (fun _ => ?_)
    refine v_iload C dL_law_740 rfl 11 rfl ?_
    refine v_iconst (v := 1) C dL_law_742 rfl ic_1 ?_
    refine v_icmp_ne C 755 dL_law_743 (by decide) rfl (fun _ => ?_) (fun h9 => absurd h9 (by rw [hq0]; decide))
    refine v_iload C dL_law_755 rfl 16 rfl ?_
    refine v_if_eq C 774 dL_law_757 (by decide) rfl (fun h9 => absurd h9 (by decide)) (fun _ => ?_)
    refine v_iload C dL_law_760 rfl 13 rfl ?_
    refine v_if_ne C 774 dL_law_762 (by decide) rfl (fun h762 => ?_) (fun h762f => ?_)
    · skip
      have hp1 := q01 hq2 h762
      refine v_iload C dL_law_774 rfl 16 rfl ?_
      refine v_if_eq C 794 dL_law_776 (by decide) rfl (fun h9 => absurd h9 (by decide)) (fun _ => ?_)
      refine v_iload C dL_law_779 rfl 13 rfl ?_
      refine v_iconst (v := 1) C dL_law_781 rfl ic_1 ?_
      refine v_icmp_ne C 794 dL_law_782 (by decide) rfl (fun h9 => absurd h9 (fun z => z (by rw [hp1]; rfl))) (fun _ => ?_)
      refine v_aload C dL_law_785 rfl 6 rfl ?_
      refine v_iload C dL_law_787 rfl 12 rfl ?_
      refine v_iload C dL_law_789 rfl 14 rfl ?_
      refine v_iconst (v := 1) C dL_law_791 rfl ic_1 ?_
      refine v_iadd C dL_law_792 rfl ?_
      refine v_top (sh0 (g (46 + (2 * d + q)))) (fl0_1 _) ?_
      refine v_astL C K 3 35 rfl (lW_a3 la cI _) (d2) (rfl) (by omega) (by decide) dL_law_793 rfl ?_
      obtain ⟨o, h8, ho, ho6, hh, hle⟩ := id hI.2.2
      refine v_aload_n C dL_law_794 rfl 1 2 rfl rfl ?_
      refine v_iload C dL_law_795 rfl 10 rfl ?_
      refine v_iload C dL_law_797 rfl 11 rfl ?_
      refine v_iload C dL_law_799 rfl 12 rfl ?_
      refine v_iload C dL_law_801 rfl 13 rfl ?_
      refine v_cI C K (q_left (q_exR g (2 * d + q) (2 * d2 + q2)) (-1) - q_left g (-1) + 1000000) (IC (q_exR g (2 * d + q) (2 * d2 + q2)) n) (c_X4_exchange l D ad cI cC cZ cQ u n hI.w o ho ho6 h8 hh hle (nI d) (nI q) (nI d2) (nI q2)) gL_law_X4_exchange rfl hd_X4_exchange ⟨rfl, rfl⟩ ⟨Nat.le_of_ble_eq_true rfl, Nat.le_of_ble_eq_true rfl⟩ 0 rfl rfl rfl rfl rfl (Nat.le_of_ble_eq_true rfl) ⟨Nat.le_of_ble_eq_true rfl, Nat.le_of_ble_eq_true rfl⟩ dL_law_803 rfl (fun r v h => ip_ex hI ho ho6 hh hle hd hq hd2 hq2 hc1 hc2 h) (fun u hI => ?_)
      refine v_iload C dL_law_806 rfl 16 rfl ?_
      refine v_if_eq C 831 dL_law_808 (by decide) rfl (fun h9 => absurd h9 (by decide)) (fun _ => ?_)
      have hR2 := (hR.pa hd hq0 (hR.w.1.2.2 _ (k70 hd2 hq2))).pe hd2 hp1 (hR.w.1.2.2 _ (k70 hd hq))
      refine v_aload_n C dL_law_811 rfl 2 3 rfl rfl ?_
      refine v_aload_n C dL_law_812 rfl 3 4 rfl rfl ?_
      refine v_aload C dL_law_813 rfl 5 rfl ?_
      refine v_aload C dL_law_815 rfl 6 rfl ?_
      refine v_aload C dL_law_817 rfl 7 rfl ?_
      refine v_cR C K (c_L_left l D la cI cC cZ cQ _ (q_exR g (2 * d + q) (2 * d2 + q2)) n hR2) gL_law_L_left rfl hd_L_left.2 ⟨rfl, rfl⟩ ⟨Nat.le_of_ble_eq_true rfl, Nat.le_of_ble_eq_true rfl⟩ rfl rfl (Nat.le_of_ble_eq_true rfl) ⟨Nat.le_of_ble_eq_true rfl, Nat.le_of_ble_eq_true rfl⟩ dL_law_819 rfl ?_
      refine v_iload C dL_law_822 rfl 0 rfl ?_
      refine v_isub C dL_law_824 rfl ?_
      refine v_ldc C dL_law_825 rfl ct_L_law_63 ?_
      refine v_iadd C dL_law_827 rfl ?_
      refine v_goto C 833 dL_law_828 (by decide) ?_
      refine v_icmp_eq C 838 dL_law_833 (by decide) rfl (fun _ => ?_) (fun h9 => absurd (rfl) h9)
      refine v_goto C 1073 dL_law_838 (by decide) ?_
      refine v_lv (lv' := [(0, _), (1, _), (2, _), (3, _), (4, _), (5, _), (6, _), (7, _), (8, _)]) [1, 2, 3, 4, 5, 6, 7, 8, 9] rfl ?_
      exact kk _ _ _ hI hR2
    · skip
      have hp0 := q00 hq2 h762f
      refine v_aload C dL_law_765 rfl 5 rfl ?_
      refine v_iload C dL_law_767 rfl 12 rfl ?_
      refine v_iload C dL_law_769 rfl 14 rfl ?_
      refine v_iconst (v := 1) C dL_law_771 rfl ic_1 ?_
      refine v_iadd C dL_law_772 rfl ?_
      refine v_top (sh0 (g (46 + (2 * d + q)))) (fl0_1 _) ?_
      refine v_astL C K 2 35 rfl (lW_a2 la cI _) (d2) (rfl) (by omega) (by decide) dL_law_773 rfl ?_
      refine v_iload C dL_law_774 rfl 16 rfl ?_
      refine v_if_eq C 794 dL_law_776 (by decide) rfl (fun h9 => absurd h9 (by decide)) (fun _ => ?_)
      refine v_iload C dL_law_779 rfl 13 rfl ?_
      refine v_iconst (v := 1) C dL_law_781 rfl ic_1 ?_
      refine v_icmp_ne C 794 dL_law_782 (by decide) rfl (fun _ => ?_) (fun h9 => absurd h9 (by rw [hp0]; decide))
      obtain ⟨o, h8, ho, ho6, hh, hle⟩ := id hI.2.2
      refine v_aload_n C dL_law_794 rfl 1 2 rfl rfl ?_
      refine v_iload C dL_law_795 rfl 10 rfl ?_
      refine v_iload C dL_law_797 rfl 11 rfl ?_
      refine v_iload C dL_law_799 rfl 12 rfl ?_
      refine v_iload C dL_law_801 rfl 13 rfl ?_
      refine v_cI C K (q_left (q_exR g (2 * d + q) (2 * d2 + q2)) (-1) - q_left g (-1) + 1000000) (IC (q_exR g (2 * d + q) (2 * d2 + q2)) n) (c_X4_exchange l D ad cI cC cZ cQ u n hI.w o ho ho6 h8 hh hle (nI d) (nI q) (nI d2) (nI q2)) gL_law_X4_exchange rfl hd_X4_exchange ⟨rfl, rfl⟩ ⟨Nat.le_of_ble_eq_true rfl, Nat.le_of_ble_eq_true rfl⟩ 0 rfl rfl rfl rfl rfl (Nat.le_of_ble_eq_true rfl) ⟨Nat.le_of_ble_eq_true rfl, Nat.le_of_ble_eq_true rfl⟩ dL_law_803 rfl (fun r v h => ip_ex hI ho ho6 hh hle hd hq hd2 hq2 hc1 hc2 h) (fun u hI => ?_)
      refine v_iload C dL_law_806 rfl 16 rfl ?_
      refine v_if_eq C 831 dL_law_808 (by decide) rfl (fun h9 => absurd h9 (by decide)) (fun _ => ?_)
      have hR2 := (hR.pa hd hq0 (hR.w.1.2.2 _ (k70 hd2 hq2))).pa hd2 hp0 (hR.w.1.2.2 _ (k70 hd hq))
      refine v_aload_n C dL_law_811 rfl 2 3 rfl rfl ?_
      refine v_aload_n C dL_law_812 rfl 3 4 rfl rfl ?_
      refine v_aload C dL_law_813 rfl 5 rfl ?_
      refine v_aload C dL_law_815 rfl 6 rfl ?_
      refine v_aload C dL_law_817 rfl 7 rfl ?_
      refine v_cR C K (c_L_left l D la cI cC cZ cQ _ (q_exR g (2 * d + q) (2 * d2 + q2)) n hR2) gL_law_L_left rfl hd_L_left.2 ⟨rfl, rfl⟩ ⟨Nat.le_of_ble_eq_true rfl, Nat.le_of_ble_eq_true rfl⟩ rfl rfl (Nat.le_of_ble_eq_true rfl) ⟨Nat.le_of_ble_eq_true rfl, Nat.le_of_ble_eq_true rfl⟩ dL_law_819 rfl ?_
      refine v_iload C dL_law_822 rfl 0 rfl ?_
      refine v_isub C dL_law_824 rfl ?_
      refine v_ldc C dL_law_825 rfl ct_L_law_63 ?_
      refine v_iadd C dL_law_827 rfl ?_
      refine v_goto C 833 dL_law_828 (by decide) ?_
      refine v_icmp_eq C 838 dL_law_833 (by decide) rfl (fun _ => ?_) (fun h9 => absurd (rfl) h9)
      refine v_goto C 1073 dL_law_838 (by decide) ?_
      refine v_lv (lv' := [(0, _), (1, _), (2, _), (3, _), (4, _), (5, _), (6, _), (7, _), (8, _)]) [1, 2, 3, 4, 5, 6, 7, 8, 9] rfl ?_
      exact kk _ _ _ hI hR2
set_option maxHeartbeats 4000000 in
set_option maxRecDepth 100000 in
theorem lc_exch {p : Program} {l : Launch} {e : Env} {s : State} {m : MethodId} {below : List Frame} {meth : Method} {c : Code} {Q : State → Prop} {D : va_G} {cI cC cZ cQ : ClassId} {ad la : Nat → Nat} {b : Nat} (C : CX p m c cL_law 19 s #[Value.ref b] wsL_law RL (fun q => s.heap.size ≤ q) s.heap) (K : va_K D vwCl (cTy cI cC cZ cQ) s) {T : Nat} {x : Int32} {g : Nat → Int32} {n : Nat} {u t : S9} (hI : IC g n u) (hR : LR g n t) {d q : Nat} (hd : d < 35) (hq : q < 2) (kk : ∀ (g : Nat → Int32) (u t : S9), IC g n u → LR g n t → VV p l e room_1 s m #[Value.ref b] below meth c 600000 7302250 Q (PW ad la cI cC cZ cQ) D (fun q => s.heap.size ≤ q) s.heap 19 (u, t) 1073 [(0, .ref b), (1, .ref (ad 0)), (2, .ref (la 0)), (3, .ref (la 1)), (4, .ref (la 2)), (5, .ref (la 3)), (6, .ref (la 4)), (7, .int (nI T)), (8, .int x)] []) : VV p l e room_1 s m #[Value.ref b] below meth c 600000 7302250 Q (PW ad la cI cC cZ cQ) D (fun q => s.heap.size ≤ q) s.heap 19 (u, t) 595 [(0, .ref b), (1, .ref (ad 0)), (2, .ref (la 0)), (3, .ref (la 1)), (4, .ref (la 2)), (5, .ref (la 3)), (6, .ref (la 4)), (7, .int (nI T)), (8, .int x), (10, .int (nI d)), (11, .int (nI q))] [] := by
  have hn8 := hR.n8
  refine v_iload C dL_law_595 rfl 8 rfl ?_
  refine v_bipush (v := 9) C dL_law_597 rfl bp_9 ?_
  refine v_ishr C dL_law_599 rfl ?_
  refine v_bipush (v := 35) C dL_law_600 rfl bp_35 ?_
  refine v_callSpd C (c_L_low l _ 35 (by decide) (by decide)) gL_law_L_low rfl hd_L_low.2 ⟨rfl, rfl⟩ ⟨Nat.le_of_ble_eq_true rfl, Nat.le_of_ble_eq_true rfl⟩ rfl rfl (Nat.le_of_ble_eq_true rfl) ⟨Nat.le_of_ble_eq_true rfl, Nat.le_of_ble_eq_true rfl⟩ dL_law_602 rfl ?_
  obtain ⟨d2, hd2, ed2⟩ : ∃ z : Nat, z < 35 ∧ nI (lw9 (x >>> ((9 : Int32) &&& 31)) 35) = nI z := ⟨lw9 (x >>> ((9 : Int32) &&& 31)) 35, lw9_lt _ (by decide), rfl⟩
  refine v_top (nI d2) (ed2) ?_
  refine v_istore (lv' := [(12, _), (0, _), (1, _), (2, _), (3, _), (4, _), (5, _), (6, _), (7, _), (8, _), (10, _), (11, _)]) C dL_law_605 rfl (by decide) rfl ?_
  refine v_iload C dL_law_607 rfl 9 rfl ?_
  refine v_bipush (v := 12) C dL_law_609 rfl bp_12 ?_
  refine v_ishr C dL_law_611 rfl ?_
  refine v_iconst (v := 2) C dL_law_612 rfl ic_2 ?_
  refine v_callSpd C (c_L_low l _ 2 (by decide) (by decide)) gL_law_L_low rfl hd_L_low.2 ⟨rfl, rfl⟩ ⟨Nat.le_of_ble_eq_true rfl, Nat.le_of_ble_eq_true rfl⟩ rfl rfl (Nat.le_of_ble_eq_true rfl) ⟨Nat.le_of_ble_eq_true rfl, Nat.le_of_ble_eq_true rfl⟩ dL_law_613 rfl ?_
  obtain ⟨q2, hq2, eq2⟩ : ∃ z : Nat, z < 2 ∧ nI (lw9 (x >>> ((12 : Int32) &&& 31)) 2) = nI z := ⟨lw9 (x >>> ((12 : Int32) &&& 31)) 2, lw9_lt _ (by decide), rfl⟩
  have hk1 : 2 * d + q < 70 := by omega
  have hk2 : 2 * d2 + q2 < 70 := by omega
  refine v_top (nI q2) (eq2) ?_
  refine v_istore (lv' := [(13, _), (12, _), (0, _), (1, _), (2, _), (3, _), (4, _), (5, _), (6, _), (7, _), (8, _), (10, _), (11, _)]) C dL_law_616 rfl (by decide) rfl ?_
  refine v_iload C dL_law_618 rfl 11 rfl ?_
  refine v_iload C dL_law_620 rfl 12 rfl ?_
  refine v_aload C dL_law_622 rfl 6 rfl ?_
  refine v_aload C dL_law_624 rfl 7 rfl ?_
  refine v_cR C K (c_L_film l D la cI cC cZ cQ _ g n hR d q hd hq) gL_law_L_film rfl hd_L_film.2 ⟨rfl, rfl⟩ ⟨Nat.le_of_ble_eq_true rfl, Nat.le_of_ble_eq_true rfl⟩ rfl rfl (Nat.le_of_ble_eq_true rfl) ⟨Nat.le_of_ble_eq_true rfl, Nat.le_of_ble_eq_true rfl⟩ dL_law_626 rfl ?_
  refine v_istore (lv' := [(14, _), (13, _), (12, _), (0, _), (1, _), (2, _), (3, _), (4, _), (5, _), (6, _), (7, _), (8, _), (10, _), (11, _)]) C dL_law_629 rfl (by decide) rfl ?_
  refine v_iload C dL_law_631 rfl 2 rfl ?_
  refine v_iload C dL_law_633 rfl 1 rfl ?_
  refine v_aload C dL_law_635 rfl 7 rfl ?_
  refine v_aload C dL_law_637 rfl 8 rfl ?_
  refine v_cR C K (c_L_film l D la cI cC cZ cQ _ g n hR d2 q2 hd2 hq2) gL_law_L_film rfl hd_L_film.2 ⟨rfl, rfl⟩ ⟨Nat.le_of_ble_eq_true rfl, Nat.le_of_ble_eq_true rfl⟩ rfl rfl (Nat.le_of_ble_eq_true rfl) ⟨Nat.le_of_ble_eq_true rfl, Nat.le_of_ble_eq_true rfl⟩ dL_law_639 rfl ?_
  refine v_istore (lv' := [(15, _), (14, _), (13, _), (12, _), (0, _), (1, _), (2, _), (3, _), (4, _), (5, _), (6, _), (7, _), (8, _), (10, _), (11, _)]) C dL_law_642 rfl (by decide) rfl ?_
  refine v_aload C dL_law_644 rfl 10 rfl ?_
  refine v_iload C dL_law_646 rfl 13 rfl ?_
  refine v_aldL C K 4 35 rfl (d) (rfl) (by omega) (by decide) dL_law_648 rfl ?_
  refine v_top (g (116 + d)) (hR.r hd) ?_
  refine v_if_ne C 700 dL_law_649 (by decide) rfl (fun h649 => ?_) (fun h649f => ?_)
  · skip
    refine v_iconst (v := 0) C dL_law_700 rfl ic_0 ?_
    refine v_istore (lv' := [(16, _), (15, _), (14, _), (13, _), (12, _), (0, _), (1, _), (2, _), (3, _), (4, _), (5, _), (6, _), (7, _), (8, _), (10, _), (11, _)]) C dL_law_701 rfl (by decide) rfl ?_
    refine v_lv (lv' := [(0, _), (1, _), (2, _), (3, _), (4, _), (5, _), (6, _), (7, _), (8, _), (10, _), (11, _), (12, _), (13, _), (14, _), (15, _), (16, _)]) [5, 6, 7, 8, 9, 10, 11, 12, 13, 14, 15, 4, 3, 2, 1, 0] rfl ?_
    exact lc_exN C K hI hR hd hq hd2 hq2 (Or.inl (cb_let hR.w hd h649 _)) kk
  · skip
    refine v_aload C dL_law_652 rfl 10 rfl ?_
    refine v_iload C dL_law_654 rfl 3 rfl ?_
    refine v_aldL C K 4 35 rfl (d2) (rfl) (by omega) (by decide) dL_law_656 rfl ?_
    refine v_top (g (116 + d2)) (hR.r hd2) ?_
    refine v_if_ne C 700 dL_law_657 (by decide) rfl (fun h657 => ?_) (fun h657f => ?_)
    · skip
      refine v_iconst (v := 0) C dL_law_700 rfl ic_0 ?_
      refine v_istore (lv' := [(16, _), (15, _), (14, _), (13, _), (12, _), (0, _), (1, _), (2, _), (3, _), (4, _), (5, _), (6, _), (7, _), (8, _), (10, _), (11, _)]) C dL_law_701 rfl (by decide) rfl ?_
      refine v_lv (lv' := [(0, _), (1, _), (2, _), (3, _), (4, _), (5, _), (6, _), (7, _), (8, _), (10, _), (11, _), (12, _), (13, _), (14, _), (15, _), (16, _)]) [5, 6, 7, 8, 9, 10, 11, 12, 13, 14, 15, 4, 3, 2, 1, 0] rfl ?_
      exact lc_exN C K hI hR hd hq hd2 hq2 (Or.inr (cb_let hR.w hd2 h657 _)) kk
    · skip
      refine v_iload C dL_law_660 rfl 1 rfl ?_
      refine v_if_lt C 678 dL_law_662 (by decide) rfl (fun h662 => ?_) (fun h662f => ?_)
      · skip
        have e6 := fl0_n hR.w hk1 (Int32.not_le.mpr h662)
        refine v_iload C dL_law_678 rfl 0 rfl ?_
        refine v_if_lt C 696 dL_law_680 (by decide) rfl (fun h680 => ?_) (fun h680f => ?_)
        · skip
          have e62 := fl0_n hR.w hk2 (Int32.not_le.mpr h680)
          refine v_iconst (v := 1) C dL_law_696 rfl ic_1 ?_
          refine v_goto C 701 dL_law_697 (by decide) ?_
          refine v_istore (lv' := [(16, _), (15, _), (14, _), (13, _), (12, _), (0, _), (1, _), (2, _), (3, _), (4, _), (5, _), (6, _), (7, _), (8, _), (10, _), (11, _)]) C dL_law_701 rfl (by decide) rfl ?_
          refine v_lv (lv' := [(0, _), (1, _), (2, _), (3, _), (4, _), (5, _), (6, _), (7, _), (8, _), (10, _), (11, _), (12, _), (13, _), (14, _), (15, _), (16, _)]) [5, 6, 7, 8, 9, 10, 11, 12, 13, 14, 15, 4, 3, 2, 1, 0] rfl ?_
          exact lc_ex C K hI hR hd hq hd2 hq2 (cb_n h649f e62) (cb_n h657f e6) kk
        · skip
          obtain ⟨f2, hf2, ef2, e62⟩ := fl0_ge hR.w hk2 (Int32.not_lt.mp h680f)
          refine v_iload C dL_law_683 rfl 13 rfl ?_
          refine v_aload_n C dL_law_685 rfl 3 7 rfl rfl ?_
          refine v_iconst (v := 5) C dL_law_686 rfl ic_5 ?_
          refine v_iload C dL_law_687 rfl 0 rfl ?_
          refine v_top (nI f2) (e62) ?_
          refine v_imul C dL_law_689 rfl ?_
          refine v_iconst (v := 4) C dL_law_690 rfl ic_4 ?_
          refine v_iadd C dL_law_691 rfl ?_
          refine v_aldL C K 1 40 rfl (5 * f2 + 4) (ix5 f2 4) (by omega) (by decide) dL_law_692 rfl ?_
          refine v_top (g (6 + 5 * f2 + 4)) (hR.f 4 hf2 (by decide)) ?_
          refine v_icmp_lt C 700 dL_law_693 (by decide) rfl (fun h693 => ?_) (fun h693f => ?_)
          · skip
            refine v_iconst (v := 0) C dL_law_700 rfl ic_0 ?_
            refine v_istore (lv' := [(16, _), (15, _), (14, _), (13, _), (12, _), (0, _), (1, _), (2, _), (3, _), (4, _), (5, _), (6, _), (7, _), (8, _), (10, _), (11, _)]) C dL_law_701 rfl (by decide) rfl ?_
            refine v_lv (lv' := [(0, _), (1, _), (2, _), (3, _), (4, _), (5, _), (6, _), (7, _), (8, _), (10, _), (11, _), (12, _), (13, _), (14, _), (15, _), (16, _)]) [5, 6, 7, 8, 9, 10, 11, 12, 13, 14, 15, 4, 3, 2, 1, 0] rfl ?_
            exact lc_exN C K hI hR hd hq hd2 hq2 (Or.inl (cb_lt (by omega) ef2 h693)) kk
          · skip
            refine v_iconst (v := 1) C dL_law_696 rfl ic_1 ?_
            refine v_goto C 701 dL_law_697 (by decide) ?_
            refine v_istore (lv' := [(16, _), (15, _), (14, _), (13, _), (12, _), (0, _), (1, _), (2, _), (3, _), (4, _), (5, _), (6, _), (7, _), (8, _), (10, _), (11, _)]) C dL_law_701 rfl (by decide) rfl ?_
            refine v_lv (lv' := [(0, _), (1, _), (2, _), (3, _), (4, _), (5, _), (6, _), (7, _), (8, _), (10, _), (11, _), (12, _), (13, _), (14, _), (15, _), (16, _)]) [5, 6, 7, 8, 9, 10, 11, 12, 13, 14, 15, 4, 3, 2, 1, 0] rfl ?_
            exact lc_ex C K hI hR hd hq hd2 hq2 (cb_g h649f (by omega) ef2 h693f) (cb_n h657f e6) kk
      · skip
        obtain ⟨f, hf, ef, e6⟩ := fl0_ge hR.w hk1 (Int32.not_lt.mp h662f)
        refine v_iload C dL_law_665 rfl 3 rfl ?_
        refine v_aload_n C dL_law_667 rfl 3 7 rfl rfl ?_
        refine v_iconst (v := 5) C dL_law_668 rfl ic_5 ?_
        refine v_iload C dL_law_669 rfl 1 rfl ?_
        refine v_top (nI f) (e6) ?_
        refine v_imul C dL_law_671 rfl ?_
        refine v_iconst (v := 4) C dL_law_672 rfl ic_4 ?_
        refine v_iadd C dL_law_673 rfl ?_
        refine v_aldL C K 1 40 rfl (5 * f + 4) (ix5 f 4) (by omega) (by decide) dL_law_674 rfl ?_
        refine v_top (g (6 + 5 * f + 4)) (hR.f 4 hf (by decide)) ?_
        refine v_icmp_lt C 700 dL_law_675 (by decide) rfl (fun h675 => ?_) (fun h675f => ?_)
        · skip
          refine v_iconst (v := 0) C dL_law_700 rfl ic_0 ?_
          refine v_istore (lv' := [(16, _), (15, _), (14, _), (13, _), (12, _), (0, _), (1, _), (2, _), (3, _), (4, _), (5, _), (6, _), (7, _), (8, _), (10, _), (11, _)]) C dL_law_701 rfl (by decide) rfl ?_
          refine v_lv (lv' := [(0, _), (1, _), (2, _), (3, _), (4, _), (5, _), (6, _), (7, _), (8, _), (10, _), (11, _), (12, _), (13, _), (14, _), (15, _), (16, _)]) [5, 6, 7, 8, 9, 10, 11, 12, 13, 14, 15, 4, 3, 2, 1, 0] rfl ?_
          exact lc_exN C K hI hR hd hq hd2 hq2 (Or.inr (cb_lt (by omega) ef h675)) kk
        · skip
          refine v_iload C dL_law_678 rfl 0 rfl ?_
          refine v_if_lt C 696 dL_law_680 (by decide) rfl (fun h680 => ?_) (fun h680f => ?_)
          · skip
            have e62 := fl0_n hR.w hk2 (Int32.not_le.mpr h680)
            refine v_iconst (v := 1) C dL_law_696 rfl ic_1 ?_
            refine v_goto C 701 dL_law_697 (by decide) ?_
            refine v_istore (lv' := [(16, _), (15, _), (14, _), (13, _), (12, _), (0, _), (1, _), (2, _), (3, _), (4, _), (5, _), (6, _), (7, _), (8, _), (10, _), (11, _)]) C dL_law_701 rfl (by decide) rfl ?_
            refine v_lv (lv' := [(0, _), (1, _), (2, _), (3, _), (4, _), (5, _), (6, _), (7, _), (8, _), (10, _), (11, _), (12, _), (13, _), (14, _), (15, _), (16, _)]) [5, 6, 7, 8, 9, 10, 11, 12, 13, 14, 15, 4, 3, 2, 1, 0] rfl ?_
            exact lc_ex C K hI hR hd hq hd2 hq2 (cb_n h649f e62) (cb_g h657f (by omega) ef h675f) kk
          · skip
            obtain ⟨f2, hf2, ef2, e62⟩ := fl0_ge hR.w hk2 (Int32.not_lt.mp h680f)
            refine v_iload C dL_law_683 rfl 13 rfl ?_
            refine v_aload_n C dL_law_685 rfl 3 7 rfl rfl ?_
            refine v_iconst (v := 5) C dL_law_686 rfl ic_5 ?_
            refine v_iload C dL_law_687 rfl 0 rfl ?_
            refine v_top (nI f2) (e62) ?_
            refine v_imul C dL_law_689 rfl ?_
            refine v_iconst (v := 4) C dL_law_690 rfl ic_4 ?_
            refine v_iadd C dL_law_691 rfl ?_
            refine v_aldL C K 1 40 rfl (5 * f2 + 4) (ix5 f2 4) (by omega) (by decide) dL_law_692 rfl ?_
            refine v_top (g (6 + 5 * f2 + 4)) (hR.f 4 hf2 (by decide)) ?_
            refine v_icmp_lt C 700 dL_law_693 (by decide) rfl (fun h693 => ?_) (fun h693f => ?_)
            · skip
              refine v_iconst (v := 0) C dL_law_700 rfl ic_0 ?_
              refine v_istore (lv' := [(16, _), (15, _), (14, _), (13, _), (12, _), (0, _), (1, _), (2, _), (3, _), (4, _), (5, _), (6, _), (7, _), (8, _), (10, _), (11, _)]) C dL_law_701 rfl (by decide) rfl ?_
              refine v_lv (lv' := [(0, _), (1, _), (2, _), (3, _), (4, _), (5, _), (6, _), (7, _), (8, _), (10, _), (11, _), (12, _), (13, _), (14, _), (15, _), (16, _)]) [5, 6, 7, 8, 9, 10, 11, 12, 13, 14, 15, 4, 3, 2, 1, 0] rfl ?_
              exact lc_exN C K hI hR hd hq hd2 hq2 (Or.inl (cb_lt (by omega) ef2 h693)) kk
            · skip
              refine v_iconst (v := 1) C dL_law_696 rfl ic_1 ?_
              refine v_goto C 701 dL_law_697 (by decide) ?_
              refine v_istore (lv' := [(16, _), (15, _), (14, _), (13, _), (12, _), (0, _), (1, _), (2, _), (3, _), (4, _), (5, _), (6, _), (7, _), (8, _), (10, _), (11, _)]) C dL_law_701 rfl (by decide) rfl ?_
              refine v_lv (lv' := [(0, _), (1, _), (2, _), (3, _), (4, _), (5, _), (6, _), (7, _), (8, _), (10, _), (11, _), (12, _), (13, _), (14, _), (15, _), (16, _)]) [5, 6, 7, 8, 9, 10, 11, 12, 13, 14, 15, 4, 3, 2, 1, 0] rfl ?_
              exact lc_ex C K hI hR hd hq hd2 hq2 (cb_g h649f (by omega) ef2 h693f) (cb_g h657f (by omega) ef h675f) kk
set_option maxHeartbeats 4000000 in
set_option maxRecDepth 100000 in
theorem lc_letN {p : Program} {l : Launch} {e : Env} {s : State} {m : MethodId} {below : List Frame} {meth : Method} {c : Code} {Q : State → Prop} {D : va_G} {cI cC cZ cQ : ClassId} {ad la : Nat → Nat} {b : Nat} (C : CX p m c cL_law 19 s #[Value.ref b] wsL_law RL (fun q => s.heap.size ≤ q) s.heap) (K : va_K D vwCl (cTy cI cC cZ cQ) s) {T : Nat} {x : Int32} {g : Nat → Int32} {n : Nat} {u t : S9} (hI : IC g n u) (hR : LR g n t) {d : Nat} (hd : d < 35) (kk : ∀ (g : Nat → Int32) (u t : S9), IC g n u → LR g n t → VV p l e room_1 s m #[Value.ref b] below meth c 600000 7302250 Q (PW ad la cI cC cZ cQ) D (fun q => s.heap.size ≤ q) s.heap 19 (u, t) 1073 [(0, .ref b), (1, .ref (ad 0)), (2, .ref (la 0)), (3, .ref (la 1)), (4, .ref (la 2)), (5, .ref (la 3)), (6, .ref (la 4)), (7, .int (nI T)), (8, .int x)] []) : VV p l e room_1 s m #[Value.ref b] below meth c 600000 7302250 Q (PW ad la cI cC cZ cQ) D (fun q => s.heap.size ≤ q) s.heap 19 (u, t) 877 [(0, .ref b), (1, .ref (ad 0)), (2, .ref (la 0)), (3, .ref (la 1)), (4, .ref (la 2)), (5, .ref (la 3)), (6, .ref (la 4)), (7, .int (nI T)), (8, .int x), (10, .int (nI d)), (12, .int (nI 0))] [] := by
  have hn8 := hR.n8
  refine v_iload C dL_law_877 rfl 10 rfl ?_
  refine v_if_ne C 886 dL_law_879 (by decide) rfl (fun h9 => absurd h9 (fun z => z rfl)) (fun _ => ?_)
  refine v_iconst (v := 0) C dL_law_882 rfl ic_0 ?_
  refine v_goto C 913 dL_law_883 (by decide) ?_
  refine v_top (0) (rfl) ?_
  refine v_istore (lv' := [(13, _), (0, _), (1, _), (2, _), (3, _), (4, _), (5, _), (6, _), (7, _), (8, _), (10, _), (12, _)]) C dL_law_913 rfl (by decide) rfl ?_
  obtain ⟨o, h8, ho, ho6, hh, hle⟩ := id hI.2.2
  refine v_aload_n C dL_law_915 rfl 1 2 rfl rfl ?_
  refine v_iload C dL_law_916 rfl 10 rfl ?_
  refine v_iload C dL_law_918 rfl 11 rfl ?_
  refine v_cI C K (if nI 0 ≤ 0 then 0 else sm9 (q_lt g d) 2) (IC (q_letR g d (nI 0)) n) (c_X4_let l D ad cI cC cZ cQ u o ho ho6 h8 hh hle (nI d) (nI 0)) gL_law_X4_let rfl hd_X4_let ⟨rfl, rfl⟩ ⟨Nat.le_of_ble_eq_true rfl, Nat.le_of_ble_eq_true rfl⟩ 0 rfl rfl rfl rfl rfl (Nat.le_of_ble_eq_true rfl) ⟨Nat.le_of_ble_eq_true rfl, Nat.le_of_ble_eq_true rfl⟩ dL_law_920 rfl (fun r v h => ip_let hI ho ho6 hh hle hd (by decide) h) (fun u hI => ?_)
  refine v_top (0) (if_pos (by decide)) ?_
  refine v_iload C dL_law_923 rfl 0 rfl ?_
  refine v_icmp_eq C 930 dL_law_925 (by decide) rfl (fun _ => ?_) (fun h9 => absurd (rfl) h9)
  refine v_iload C dL_law_930 rfl 11 rfl ?_
  refine v_if_le C 941 dL_law_932 (by decide) rfl (fun _ => ?_) (fun h9 => absurd (by decide) h9)
  refine v_iload C dL_law_941 rfl 11 rfl ?_
  refine v_if_le C 952 dL_law_943 (by decide) rfl (fun _ => ?_) (fun h9 => absurd (by decide) h9)
  refine v_aload C dL_law_952 rfl 7 rfl ?_
  refine v_iload C dL_law_954 rfl 10 rfl ?_
  refine v_iload C dL_law_956 rfl 11 rfl ?_
  refine v_astL C K 4 35 rfl (lW_a4 la cI _) (d) (rfl) (by omega) (by decide) dL_law_958 rfl ?_
  refine v_goto C 1073 dL_law_959 (by decide) ?_
  refine v_lv (lv' := [(0, _), (1, _), (2, _), (3, _), (4, _), (5, _), (6, _), (7, _), (8, _)]) [1, 2, 3, 4, 5, 6, 7, 8, 9] rfl ?_
  exact kk _ _ _ hI (by rw [letR_0]; exact hR.pr hd (by decide))
set_option maxHeartbeats 4000000 in
set_option maxRecDepth 100000 in
theorem lc_let {p : Program} {l : Launch} {e : Env} {s : State} {m : MethodId} {below : List Frame} {meth : Method} {c : Code} {Q : State → Prop} {D : va_G} {cI cC cZ cQ : ClassId} {ad la : Nat → Nat} {b : Nat} (C : CX p m c cL_law 19 s #[Value.ref b] wsL_law RL (fun q => s.heap.size ≤ q) s.heap) (K : va_K D vwCl (cTy cI cC cZ cQ) s) {T : Nat} {x : Int32} {g : Nat → Int32} {n : Nat} {u t : S9} (hI : IC g n u) (hR : LR g n t) {d : Nat} (hd : d < 35) {v : Nat} (hv0 : 0 < v) (hv : v ≤ 999) (kk : ∀ (g : Nat → Int32) (u t : S9), IC g n u → LR g n t → VV p l e room_1 s m #[Value.ref b] below meth c 600000 7302250 Q (PW ad la cI cC cZ cQ) D (fun q => s.heap.size ≤ q) s.heap 19 (u, t) 1073 [(0, .ref b), (1, .ref (ad 0)), (2, .ref (la 0)), (3, .ref (la 1)), (4, .ref (la 2)), (5, .ref (la 3)), (6, .ref (la 4)), (7, .int (nI T)), (8, .int x)] []) : VV p l e room_1 s m #[Value.ref b] below meth c 600000 7302250 Q (PW ad la cI cC cZ cQ) D (fun q => s.heap.size ≤ q) s.heap 19 (u, t) 877 [(0, .ref b), (1, .ref (ad 0)), (2, .ref (la 0)), (3, .ref (la 1)), (4, .ref (la 2)), (5, .ref (la 3)), (6, .ref (la 4)), (7, .int (nI T)), (8, .int x), (10, .int (nI d)), (12, .int (nI v))] [] := by
  have hn8 := hR.n8
  refine v_iload C dL_law_877 rfl 10 rfl ?_
  refine v_if_ne C 886 dL_law_879 (by decide) rfl (fun _ => ?_) (fun h9 => absurd h9 (nI_ne0 hv0 (by omega)))
  refine v_aload C dL_law_886 rfl 4 rfl ?_
  refine v_iload C dL_law_888 rfl 9 rfl ?_
  refine v_aldL C K 2 35 rfl (d) (rfl) (by omega) (by decide) dL_law_890 rfl ?_
  refine v_top (sh0 (g (46 + 2 * d))) (hR.a hd) ?_
  refine v_if_le C 898 dL_law_891 (by decide) rfl (fun h891 => ?_) (fun h891f => ?_)
  · skip
    refine v_iconst (v := 0) C dL_law_898 rfl ic_0 ?_
    refine v_aload C dL_law_899 rfl 5 rfl ?_
    refine v_iload C dL_law_901 rfl 9 rfl ?_
    refine v_aldL C K 3 35 rfl (d) (rfl) (by omega) (by decide) dL_law_903 rfl ?_
    refine v_top (sh0 (g (46 + (2 * d + 1)))) (hR.e hd) ?_
    refine v_if_le C 911 dL_law_904 (by decide) rfl (fun h904 => ?_) (fun h904f => ?_)
    · skip
      refine v_iconst (v := 0) C dL_law_911 rfl ic_0 ?_
      refine v_iadd C dL_law_912 rfl ?_
      refine v_top (sm9 (q_lt g d) 2) (lq_s (lt_0z hR.w hd h891) (lt_1z hR.w hd h904)) ?_
      refine v_istore (lv' := [(13, _), (0, _), (1, _), (2, _), (3, _), (4, _), (5, _), (6, _), (7, _), (8, _), (10, _), (12, _)]) C dL_law_913 rfl (by decide) rfl ?_
      obtain ⟨o, h8, ho, ho6, hh, hle⟩ := id hI.2.2
      refine v_aload_n C dL_law_915 rfl 1 2 rfl rfl ?_
      refine v_iload C dL_law_916 rfl 10 rfl ?_
      refine v_iload C dL_law_918 rfl 11 rfl ?_
      refine v_cI C K (if nI v ≤ 0 then 0 else sm9 (q_lt g d) 2) (IC (q_letR g d (nI v)) n) (c_X4_let l D ad cI cC cZ cQ u o ho ho6 h8 hh hle (nI d) (nI v)) gL_law_X4_let rfl hd_X4_let ⟨rfl, rfl⟩ ⟨Nat.le_of_ble_eq_true rfl, Nat.le_of_ble_eq_true rfl⟩ 0 rfl rfl rfl rfl rfl (Nat.le_of_ble_eq_true rfl) ⟨Nat.le_of_ble_eq_true rfl, Nat.le_of_ble_eq_true rfl⟩ dL_law_920 rfl (fun r v h => ip_let hI ho ho6 hh hle hd hv h) (fun u hI => ?_)
      refine v_top (sm9 (q_lt g d) 2) (if_neg (nI_nle hv0 (by omega))) ?_
      refine v_iload C dL_law_923 rfl 0 rfl ?_
      refine v_icmp_eq C 930 dL_law_925 (by decide) rfl (fun _ => ?_) (fun h9 => absurd (rfl) h9)
      refine v_iload C dL_law_930 rfl 11 rfl ?_
      refine v_if_le C 941 dL_law_932 (by decide) rfl (fun h9 => absurd h9 (nI_nle hv0 (by omega))) (fun _ => ?_)
      refine v_aload C dL_law_935 rfl 5 rfl ?_
      refine v_iload C dL_law_937 rfl 10 rfl ?_
      refine v_iconst (v := 0) C dL_law_939 rfl ic_0 ?_
      refine v_top (sh0 (-6)) (by decide) ?_
      refine v_astL C K 2 35 rfl (lW_a2 la cI _) (d) (rfl) (by omega) (by decide) dL_law_940 rfl ?_
      refine v_iload C dL_law_941 rfl 11 rfl ?_
      refine v_if_le C 952 dL_law_943 (by decide) rfl (fun h9 => absurd h9 (nI_nle hv0 (by omega))) (fun _ => ?_)
      refine v_aload C dL_law_946 rfl 6 rfl ?_
      refine v_iload C dL_law_948 rfl 10 rfl ?_
      refine v_iconst (v := 0) C dL_law_950 rfl ic_0 ?_
      refine v_top (sh0 (-6)) (by decide) ?_
      refine v_astL C K 3 35 rfl (lW_a3 la cI _) (d) (rfl) (by omega) (by decide) dL_law_951 rfl ?_
      refine v_aload C dL_law_952 rfl 7 rfl ?_
      refine v_iload C dL_law_954 rfl 10 rfl ?_
      refine v_iload C dL_law_956 rfl 11 rfl ?_
      refine v_astL C K 4 35 rfl (lW_a4 la cI _) (d) (rfl) (by omega) (by decide) dL_law_958 rfl ?_
      refine v_goto C 1073 dL_law_959 (by decide) ?_
      refine v_lv (lv' := [(0, _), (1, _), (2, _), (3, _), (4, _), (5, _), (6, _), (7, _), (8, _)]) [1, 2, 3, 4, 5, 6, 7, 8, 9] rfl ?_
      exact kk _ _ _ hI (by rw [letR_1 g d hv0 hv]; exact ((hR.pa hd rfl (Or.inl rfl)).pe hd rfl (Or.inl rfl)).pr hd hv)
    · skip
      refine v_iconst (v := 1) C dL_law_907 rfl ic_1 ?_
      refine v_goto C 912 dL_law_908 (by decide) ?_
      refine v_iadd C dL_law_912 rfl ?_
      refine v_top (sm9 (q_lt g d) 2) (lq_s (lt_0z hR.w hd h891) (lt_1p hR.w hd h904f)) ?_
      refine v_istore (lv' := [(13, _), (0, _), (1, _), (2, _), (3, _), (4, _), (5, _), (6, _), (7, _), (8, _), (10, _), (12, _)]) C dL_law_913 rfl (by decide) rfl ?_
      obtain ⟨o, h8, ho, ho6, hh, hle⟩ := id hI.2.2
      refine v_aload_n C dL_law_915 rfl 1 2 rfl rfl ?_
      refine v_iload C dL_law_916 rfl 10 rfl ?_
      refine v_iload C dL_law_918 rfl 11 rfl ?_
      refine v_cI C K (if nI v ≤ 0 then 0 else sm9 (q_lt g d) 2) (IC (q_letR g d (nI v)) n) (c_X4_let l D ad cI cC cZ cQ u o ho ho6 h8 hh hle (nI d) (nI v)) gL_law_X4_let rfl hd_X4_let ⟨rfl, rfl⟩ ⟨Nat.le_of_ble_eq_true rfl, Nat.le_of_ble_eq_true rfl⟩ 0 rfl rfl rfl rfl rfl (Nat.le_of_ble_eq_true rfl) ⟨Nat.le_of_ble_eq_true rfl, Nat.le_of_ble_eq_true rfl⟩ dL_law_920 rfl (fun r v h => ip_let hI ho ho6 hh hle hd hv h) (fun u hI => ?_)
      refine v_top (sm9 (q_lt g d) 2) (if_neg (nI_nle hv0 (by omega))) ?_
      refine v_iload C dL_law_923 rfl 0 rfl ?_
      refine v_icmp_eq C 930 dL_law_925 (by decide) rfl (fun _ => ?_) (fun h9 => absurd (rfl) h9)
      refine v_iload C dL_law_930 rfl 11 rfl ?_
      refine v_if_le C 941 dL_law_932 (by decide) rfl (fun h9 => absurd h9 (nI_nle hv0 (by omega))) (fun _ => ?_)
      refine v_aload C dL_law_935 rfl 5 rfl ?_
      refine v_iload C dL_law_937 rfl 10 rfl ?_
      refine v_iconst (v := 0) C dL_law_939 rfl ic_0 ?_
      refine v_top (sh0 (-6)) (by decide) ?_
      refine v_astL C K 2 35 rfl (lW_a2 la cI _) (d) (rfl) (by omega) (by decide) dL_law_940 rfl ?_
      refine v_iload C dL_law_941 rfl 11 rfl ?_
      refine v_if_le C 952 dL_law_943 (by decide) rfl (fun h9 => absurd h9 (nI_nle hv0 (by omega))) (fun _ => ?_)
      refine v_aload C dL_law_946 rfl 6 rfl ?_
      refine v_iload C dL_law_948 rfl 10 rfl ?_
      refine v_iconst (v := 0) C dL_law_950 rfl ic_0 ?_
      refine v_top (sh0 (-6)) (by decide) ?_
      refine v_astL C K 3 35 rfl (lW_a3 la cI _) (d) (rfl) (by omega) (by decide) dL_law_951 rfl ?_
      refine v_aload C dL_law_952 rfl 7 rfl ?_
      refine v_iload C dL_law_954 rfl 10 rfl ?_
      refine v_iload C dL_law_956 rfl 11 rfl ?_
      refine v_astL C K 4 35 rfl (lW_a4 la cI _) (d) (rfl) (by omega) (by decide) dL_law_958 rfl ?_
      refine v_goto C 1073 dL_law_959 (by decide) ?_
      refine v_lv (lv' := [(0, _), (1, _), (2, _), (3, _), (4, _), (5, _), (6, _), (7, _), (8, _)]) [1, 2, 3, 4, 5, 6, 7, 8, 9] rfl ?_
      exact kk _ _ _ hI (by rw [letR_1 g d hv0 hv]; exact ((hR.pa hd rfl (Or.inl rfl)).pe hd rfl (Or.inl rfl)).pr hd hv)
  · skip
    refine v_iconst (v := 1) C dL_law_894 rfl ic_1 ?_
    refine v_goto C 899 dL_law_895 (by decide) ?_
    refine v_aload C dL_law_899 rfl 5 rfl ?_
    refine v_iload C dL_law_901 rfl 9 rfl ?_
    refine v_aldL C K 3 35 rfl (d) (rfl) (by omega) (by decide) dL_law_903 rfl ?_
    refine v_top (sh0 (g (46 + (2 * d + 1)))) (hR.e hd) ?_
    refine v_if_le C 911 dL_law_904 (by decide) rfl (fun h904 => ?_) (fun h904f => ?_)
    · skip
      refine v_iconst (v := 0) C dL_law_911 rfl ic_0 ?_
      refine v_iadd C dL_law_912 rfl ?_
      refine v_top (sm9 (q_lt g d) 2) (lq_s (lt_0p hR.w hd h891f) (lt_1z hR.w hd h904)) ?_
      refine v_istore (lv' := [(13, _), (0, _), (1, _), (2, _), (3, _), (4, _), (5, _), (6, _), (7, _), (8, _), (10, _), (12, _)]) C dL_law_913 rfl (by decide) rfl ?_
      obtain ⟨o, h8, ho, ho6, hh, hle⟩ := id hI.2.2
      refine v_aload_n C dL_law_915 rfl 1 2 rfl rfl ?_
      refine v_iload C dL_law_916 rfl 10 rfl ?_
      refine v_iload C dL_law_918 rfl 11 rfl ?_
      refine v_cI C K (if nI v ≤ 0 then 0 else sm9 (q_lt g d) 2) (IC (q_letR g d (nI v)) n) (c_X4_let l D ad cI cC cZ cQ u o ho ho6 h8 hh hle (nI d) (nI v)) gL_law_X4_let rfl hd_X4_let ⟨rfl, rfl⟩ ⟨Nat.le_of_ble_eq_true rfl, Nat.le_of_ble_eq_true rfl⟩ 0 rfl rfl rfl rfl rfl (Nat.le_of_ble_eq_true rfl) ⟨Nat.le_of_ble_eq_true rfl, Nat.le_of_ble_eq_true rfl⟩ dL_law_920 rfl (fun r v h => ip_let hI ho ho6 hh hle hd hv h) (fun u hI => ?_)
      refine v_top (sm9 (q_lt g d) 2) (if_neg (nI_nle hv0 (by omega))) ?_
      refine v_iload C dL_law_923 rfl 0 rfl ?_
      refine v_icmp_eq C 930 dL_law_925 (by decide) rfl (fun _ => ?_) (fun h9 => absurd (rfl) h9)
      refine v_iload C dL_law_930 rfl 11 rfl ?_
      refine v_if_le C 941 dL_law_932 (by decide) rfl (fun h9 => absurd h9 (nI_nle hv0 (by omega))) (fun _ => ?_)
      refine v_aload C dL_law_935 rfl 5 rfl ?_
      refine v_iload C dL_law_937 rfl 10 rfl ?_
      refine v_iconst (v := 0) C dL_law_939 rfl ic_0 ?_
      refine v_top (sh0 (-6)) (by decide) ?_
      refine v_astL C K 2 35 rfl (lW_a2 la cI _) (d) (rfl) (by omega) (by decide) dL_law_940 rfl ?_
      refine v_iload C dL_law_941 rfl 11 rfl ?_
      refine v_if_le C 952 dL_law_943 (by decide) rfl (fun h9 => absurd h9 (nI_nle hv0 (by omega))) (fun _ => ?_)
      refine v_aload C dL_law_946 rfl 6 rfl ?_
      refine v_iload C dL_law_948 rfl 10 rfl ?_
      refine v_iconst (v := 0) C dL_law_950 rfl ic_0 ?_
      refine v_top (sh0 (-6)) (by decide) ?_
      refine v_astL C K 3 35 rfl (lW_a3 la cI _) (d) (rfl) (by omega) (by decide) dL_law_951 rfl ?_
      refine v_aload C dL_law_952 rfl 7 rfl ?_
      refine v_iload C dL_law_954 rfl 10 rfl ?_
      refine v_iload C dL_law_956 rfl 11 rfl ?_
      refine v_astL C K 4 35 rfl (lW_a4 la cI _) (d) (rfl) (by omega) (by decide) dL_law_958 rfl ?_
      refine v_goto C 1073 dL_law_959 (by decide) ?_
      refine v_lv (lv' := [(0, _), (1, _), (2, _), (3, _), (4, _), (5, _), (6, _), (7, _), (8, _)]) [1, 2, 3, 4, 5, 6, 7, 8, 9] rfl ?_
      exact kk _ _ _ hI (by rw [letR_1 g d hv0 hv]; exact ((hR.pa hd rfl (Or.inl rfl)).pe hd rfl (Or.inl rfl)).pr hd hv)
    · skip
      refine v_iconst (v := 1) C dL_law_907 rfl ic_1 ?_
      refine v_goto C 912 dL_law_908 (by decide) ?_
      refine v_iadd C dL_law_912 rfl ?_
      refine v_top (sm9 (q_lt g d) 2) (lq_s (lt_0p hR.w hd h891f) (lt_1p hR.w hd h904f)) ?_
      refine v_istore (lv' := [(13, _), (0, _), (1, _), (2, _), (3, _), (4, _), (5, _), (6, _), (7, _), (8, _), (10, _), (12, _)]) C dL_law_913 rfl (by decide) rfl ?_
      obtain ⟨o, h8, ho, ho6, hh, hle⟩ := id hI.2.2
      refine v_aload_n C dL_law_915 rfl 1 2 rfl rfl ?_
      refine v_iload C dL_law_916 rfl 10 rfl ?_
      refine v_iload C dL_law_918 rfl 11 rfl ?_
      refine v_cI C K (if nI v ≤ 0 then 0 else sm9 (q_lt g d) 2) (IC (q_letR g d (nI v)) n) (c_X4_let l D ad cI cC cZ cQ u o ho ho6 h8 hh hle (nI d) (nI v)) gL_law_X4_let rfl hd_X4_let ⟨rfl, rfl⟩ ⟨Nat.le_of_ble_eq_true rfl, Nat.le_of_ble_eq_true rfl⟩ 0 rfl rfl rfl rfl rfl (Nat.le_of_ble_eq_true rfl) ⟨Nat.le_of_ble_eq_true rfl, Nat.le_of_ble_eq_true rfl⟩ dL_law_920 rfl (fun r v h => ip_let hI ho ho6 hh hle hd hv h) (fun u hI => ?_)
      refine v_top (sm9 (q_lt g d) 2) (if_neg (nI_nle hv0 (by omega))) ?_
      refine v_iload C dL_law_923 rfl 0 rfl ?_
      refine v_icmp_eq C 930 dL_law_925 (by decide) rfl (fun _ => ?_) (fun h9 => absurd (rfl) h9)
      refine v_iload C dL_law_930 rfl 11 rfl ?_
      refine v_if_le C 941 dL_law_932 (by decide) rfl (fun h9 => absurd h9 (nI_nle hv0 (by omega))) (fun _ => ?_)
      refine v_aload C dL_law_935 rfl 5 rfl ?_
      refine v_iload C dL_law_937 rfl 10 rfl ?_
      refine v_iconst (v := 0) C dL_law_939 rfl ic_0 ?_
      refine v_top (sh0 (-6)) (by decide) ?_
      refine v_astL C K 2 35 rfl (lW_a2 la cI _) (d) (rfl) (by omega) (by decide) dL_law_940 rfl ?_
      refine v_iload C dL_law_941 rfl 11 rfl ?_
      refine v_if_le C 952 dL_law_943 (by decide) rfl (fun h9 => absurd h9 (nI_nle hv0 (by omega))) (fun _ => ?_)
      refine v_aload C dL_law_946 rfl 6 rfl ?_
      refine v_iload C dL_law_948 rfl 10 rfl ?_
      refine v_iconst (v := 0) C dL_law_950 rfl ic_0 ?_
      refine v_top (sh0 (-6)) (by decide) ?_
      refine v_astL C K 3 35 rfl (lW_a3 la cI _) (d) (rfl) (by omega) (by decide) dL_law_951 rfl ?_
      refine v_aload C dL_law_952 rfl 7 rfl ?_
      refine v_iload C dL_law_954 rfl 10 rfl ?_
      refine v_iload C dL_law_956 rfl 11 rfl ?_
      refine v_astL C K 4 35 rfl (lW_a4 la cI _) (d) (rfl) (by omega) (by decide) dL_law_958 rfl ?_
      refine v_goto C 1073 dL_law_959 (by decide) ?_
      refine v_lv (lv' := [(0, _), (1, _), (2, _), (3, _), (4, _), (5, _), (6, _), (7, _), (8, _)]) [1, 2, 3, 4, 5, 6, 7, 8, 9] rfl ?_
      exact kk _ _ _ hI (by rw [letR_1 g d hv0 hv]; exact ((hR.pa hd rfl (Or.inl rfl)).pe hd rfl (Or.inl rfl)).pr hd hv)
theorem lc_letv {p : Program} {l : Launch} {e : Env} {s : State} {m : MethodId} {below : List Frame} {meth : Method} {c : Code} {Q : State → Prop} {D : va_G} {cI cC cZ cQ : ClassId} {ad la : Nat → Nat} {b : Nat} (C : CX p m c cL_law 19 s #[Value.ref b] wsL_law RL (fun q => s.heap.size ≤ q) s.heap) (K : va_K D vwCl (cTy cI cC cZ cQ) s) {T : Nat} {x : Int32} {g : Nat → Int32} {n : Nat} {u t : S9} (hI : IC g n u) (hR : LR g n t) {d : Nat} (hd : d < 35) {v : Nat} (hv : v ≤ 999) (kk : ∀ (g : Nat → Int32) (u t : S9), IC g n u → LR g n t → VV p l e room_1 s m #[Value.ref b] below meth c 600000 7302250 Q (PW ad la cI cC cZ cQ) D (fun q => s.heap.size ≤ q) s.heap 19 (u, t) 1073 [(0, .ref b), (1, .ref (ad 0)), (2, .ref (la 0)), (3, .ref (la 1)), (4, .ref (la 2)), (5, .ref (la 3)), (6, .ref (la 4)), (7, .int (nI T)), (8, .int x)] []) : VV p l e room_1 s m #[Value.ref b] below meth c 600000 7302250 Q (PW ad la cI cC cZ cQ) D (fun q => s.heap.size ≤ q) s.heap 19 (u, t) 877 [(0, .ref b), (1, .ref (ad 0)), (2, .ref (la 0)), (3, .ref (la 1)), (4, .ref (la 2)), (5, .ref (la 3)), (6, .ref (la 4)), (7, .int (nI T)), (8, .int x), (10, .int (nI d)), (12, .int (nI v))] [] := by
  rcases Nat.eq_zero_or_pos v with h0 | h0
  · subst h0
    exact lc_letN C K hI hR hd kk
  · exact lc_let C K hI hR hd h0 hv kk
set_option maxHeartbeats 4000000 in
set_option maxRecDepth 100000 in
theorem lc_leth {p : Program} {l : Launch} {e : Env} {s : State} {m : MethodId} {below : List Frame} {meth : Method} {c : Code} {Q : State → Prop} {D : va_G} {cI cC cZ cQ : ClassId} {ad la : Nat → Nat} {b : Nat} (C : CX p m c cL_law 19 s #[Value.ref b] wsL_law RL (fun q => s.heap.size ≤ q) s.heap) (K : va_K D vwCl (cTy cI cC cZ cQ) s) {T : Nat} {x : Int32} {g : Nat → Int32} {n : Nat} {u t : S9} (hI : IC g n u) (hR : LR g n t) {d : Nat} (hd : d < 35) (kk : ∀ (g : Nat → Int32) (u t : S9), IC g n u → LR g n t → VV p l e room_1 s m #[Value.ref b] below meth c 600000 7302250 Q (PW ad la cI cC cZ cQ) D (fun q => s.heap.size ≤ q) s.heap 19 (u, t) 1073 [(0, .ref b), (1, .ref (ad 0)), (2, .ref (la 0)), (3, .ref (la 1)), (4, .ref (la 2)), (5, .ref (la 3)), (6, .ref (la 4)), (7, .int (nI T)), (8, .int x)] []) : VV p l e room_1 s m #[Value.ref b] below meth c 600000 7302250 Q (PW ad la cI cC cZ cQ) D (fun q => s.heap.size ≤ q) s.heap 19 (u, t) 848 [(0, .ref b), (1, .ref (ad 0)), (2, .ref (la 0)), (3, .ref (la 1)), (4, .ref (la 2)), (5, .ref (la 3)), (6, .ref (la 4)), (7, .int (nI T)), (8, .int x), (10, .int (nI d))] [] := by
  refine v_iload C dL_law_848 rfl 8 rfl ?_
  refine v_bipush (v := 9) C dL_law_850 rfl bp_9 ?_
  refine v_ishr C dL_law_852 rfl ?_
  refine v_iconst (v := 2) C dL_law_853 rfl ic_2 ?_
  refine v_callSpd C (c_L_low l _ 2 (by decide) (by decide)) gL_law_L_low rfl hd_L_low.2 ⟨rfl, rfl⟩ ⟨Nat.le_of_ble_eq_true rfl, Nat.le_of_ble_eq_true rfl⟩ rfl rfl (Nat.le_of_ble_eq_true rfl) ⟨Nat.le_of_ble_eq_true rfl, Nat.le_of_ble_eq_true rfl⟩ dL_law_854 rfl ?_
  refine v_if_ne C 864 dL_law_857 (by decide) rfl (fun h857 => ?_) (fun h857f => ?_)
  · skip
    refine v_iload C dL_law_864 rfl 8 rfl ?_
    refine v_bipush (v := 10) C dL_law_866 rfl bp_10 ?_
    refine v_ishr C dL_law_868 rfl ?_
    refine v_sipush (v := 1000) C dL_law_869 rfl sp_1000 ?_
    refine v_callSpd C (c_L_low l _ 1000 (by decide) (by decide)) gL_law_L_low rfl hd_L_low.2 ⟨rfl, rfl⟩ ⟨Nat.le_of_ble_eq_true rfl, Nat.le_of_ble_eq_true rfl⟩ rfl rfl (Nat.le_of_ble_eq_true rfl) ⟨Nat.le_of_ble_eq_true rfl, Nat.le_of_ble_eq_true rfl⟩ dL_law_872 rfl ?_
    refine v_istore (lv' := [(12, _), (0, _), (1, _), (2, _), (3, _), (4, _), (5, _), (6, _), (7, _), (8, _), (10, _)]) C dL_law_875 rfl (by decide) rfl ?_
    refine v_lv (lv' := [(0, _), (1, _), (2, _), (3, _), (4, _), (5, _), (6, _), (7, _), (8, _), (10, _), (12, _)]) [1, 2, 3, 4, 5, 6, 7, 8, 9, 10, 0] rfl ?_
    exact lc_letv C K hI hR hd (Nat.le_of_lt_succ (lw9_lt _ (by decide))) kk
  · skip
    refine v_iconst (v := 0) C dL_law_860 rfl ic_0 ?_
    refine v_goto C 875 dL_law_861 (by decide) ?_
    refine v_istore (lv' := [(12, _), (0, _), (1, _), (2, _), (3, _), (4, _), (5, _), (6, _), (7, _), (8, _), (10, _)]) C dL_law_875 rfl (by decide) rfl ?_
    refine v_lv (lv' := [(0, _), (1, _), (2, _), (3, _), (4, _), (5, _), (6, _), (7, _), (8, _), (10, _), (12, _)]) [1, 2, 3, 4, 5, 6, 7, 8, 9, 10, 0] rfl ?_
    exact lc_letN C K hI hR hd kk
set_option maxHeartbeats 4000000 in
set_option maxRecDepth 100000 in
theorem lc_set {p : Program} {l : Launch} {e : Env} {s : State} {m : MethodId} {below : List Frame} {meth : Method} {c : Code} {Q : State → Prop} {D : va_G} {cI cC cZ cQ : ClassId} {ad la : Nat → Nat} {b : Nat} (C : CX p m c cL_law 19 s #[Value.ref b] wsL_law RL (fun q => s.heap.size ≤ q) s.heap) (K : va_K D vwCl (cTy cI cC cZ cQ) s) {T : Nat} {x : Int32}  {tl tm tf : Nat} (hE : zS tl tm tf (fun q => s.heap.size ≤ q) s s.heap) {g : Nat → Int32} {n : Nat} {u t : S9} (hI : IC g n u) (hR : LR g n t) {i : Nat} (hi : i < 5) {v : Int32} (hs : q_setE (nI i) v = 0) (kk : ∀ (g : Nat → Int32) (u t : S9), IC g n u → LR g n t → VV p l e room_1 s m #[Value.ref b] below meth c 600000 7302250 Q (PW ad la cI cC cZ cQ) D (fun q => s.heap.size ≤ q) s.heap 19 (u, t) 1073 [(0, .ref b), (1, .ref (ad 0)), (2, .ref (la 0)), (3, .ref (la 1)), (4, .ref (la 2)), (5, .ref (la 3)), (6, .ref (la 4)), (7, .int (nI T)), (8, .int x)] []) : VV p l e room_1 s m #[Value.ref b] below meth c 600000 7302250 Q (PW ad la cI cC cZ cQ) D (fun q => s.heap.size ≤ q) s.heap 19 (u, t) 1050 [(0, .ref b), (1, .ref (ad 0)), (2, .ref (la 0)), (3, .ref (la 1)), (4, .ref (la 2)), (5, .ref (la 3)), (6, .ref (la 4)), (7, .int (nI T)), (8, .int x), (12, .int (nI i)), (13, .int v)] [] := by
  have hn8 := hR.n8
  obtain ⟨o, h8, ho, ho6, hh, hle⟩ := id hI.2.2
  refine v_aload_n C dL_law_1050 rfl 1 1 rfl rfl ?_
  refine v_iload C dL_law_1051 rfl 9 rfl ?_
  refine v_iload C dL_law_1053 rfl 10 rfl ?_
  refine v_cIE C K hE (g i) (IC (upd g i v) n) (c_X4_set l D ad cI cC cZ cQ u o ho ho6 h8 hh hle tl tm tf (nI i) v) gL_law_X4_set rfl hd_X4_set ⟨rfl, rfl⟩ ⟨Nat.le_of_ble_eq_true rfl, Nat.le_of_ble_eq_true rfl⟩ 0 rfl rfl rfl rfl rfl (Nat.le_of_ble_eq_true rfl) ⟨Nat.le_of_ble_eq_true rfl, Nat.le_of_ble_eq_true rfl⟩ dL_law_1055 rfl (fun r v h => ip_set hI ho ho6 hh hle hi hs h) (fun u hI => ?_)
  refine v_aload_n C dL_law_1058 rfl 2 2 rfl rfl ?_
  refine v_iload C dL_law_1059 rfl 9 rfl ?_
  refine v_aldL C K 0 6 rfl (i) (rfl) (by omega) (by decide) dL_law_1061 rfl ?_
  refine v_top (g i) (hR.q (by omega)) ?_
  refine v_icmp_eq C 1067 dL_law_1062 (by decide) rfl (fun _ => ?_) (fun h9 => absurd (rfl) h9)
  refine v_aload_n C dL_law_1067 rfl 2 2 rfl rfl ?_
  refine v_iload C dL_law_1068 rfl 9 rfl ?_
  refine v_iload C dL_law_1070 rfl 10 rfl ?_
  refine v_astL C K 0 6 rfl (lW_a0 la cI _) (i) (rfl) (by omega) (by decide) dL_law_1072 rfl ?_
  refine v_lv (lv' := [(0, _), (1, _), (2, _), (3, _), (4, _), (5, _), (6, _), (7, _), (8, _)]) [0, 1, 2, 3, 4, 5, 6, 7, 8] rfl ?_
  exact kk _ _ _ hI (hR.ps hi)
set_option maxHeartbeats 4000000 in
set_option maxRecDepth 100000 in
theorem lc_seth {p : Program} {l : Launch} {e : Env} {s : State} {m : MethodId} {below : List Frame} {meth : Method} {c : Code} {Q : State → Prop} {D : va_G} {cI cC cZ cQ : ClassId} {ad la : Nat → Nat} {b : Nat} (C : CX p m c cL_law 19 s #[Value.ref b] wsL_law RL (fun q => s.heap.size ≤ q) s.heap) (K : va_K D vwCl (cTy cI cC cZ cQ) s) {T : Nat} {x : Int32}  {tl tm tf : Nat} (hE : zS tl tm tf (fun q => s.heap.size ≤ q) s s.heap) {g : Nat → Int32} {n : Nat} {u t : S9} (hI : IC g n u) (hR : LR g n t) (kk : ∀ (g : Nat → Int32) (u t : S9), IC g n u → LR g n t → VV p l e room_1 s m #[Value.ref b] below meth c 600000 7302250 Q (PW ad la cI cC cZ cQ) D (fun q => s.heap.size ≤ q) s.heap 19 (u, t) 1073 [(0, .ref b), (1, .ref (ad 0)), (2, .ref (la 0)), (3, .ref (la 1)), (4, .ref (la 2)), (5, .ref (la 3)), (6, .ref (la 4)), (7, .int (nI T)), (8, .int x)] []) : VV p l e room_1 s m #[Value.ref b] below meth c 600000 7302250 Q (PW ad la cI cC cZ cQ) D (fun q => s.heap.size ≤ q) s.heap 19 (u, t) 962 [(0, .ref b), (1, .ref (ad 0)), (2, .ref (la 0)), (3, .ref (la 1)), (4, .ref (la 2)), (5, .ref (la 3)), (6, .ref (la 4)), (7, .int (nI T)), (8, .int x)] [] := by
  refine v_iload C dL_law_962 rfl 8 rfl ?_
  refine v_bipush (v := 9) C dL_law_964 rfl bp_9 ?_
  refine v_ishr C dL_law_966 rfl ?_
  refine v_iconst (v := 5) C dL_law_967 rfl ic_5 ?_
  refine v_callSpd C (c_L_low l _ 5 (by decide) (by decide)) gL_law_L_low rfl hd_L_low.2 ⟨rfl, rfl⟩ ⟨Nat.le_of_ble_eq_true rfl, Nat.le_of_ble_eq_true rfl⟩ rfl rfl (Nat.le_of_ble_eq_true rfl) ⟨Nat.le_of_ble_eq_true rfl, Nat.le_of_ble_eq_true rfl⟩ dL_law_968 rfl ?_
  obtain ⟨i, hi, ei⟩ : ∃ z : Nat, z < 5 ∧ nI (lw9 (x >>> ((9 : Int32) &&& 31)) 5) = nI z := ⟨lw9 (x >>> ((9 : Int32) &&& 31)) 5, lw9_lt _ (by decide), rfl⟩
  refine v_top (nI i) (ei) ?_
  refine v_istore (lv' := [(12, _), (0, _), (1, _), (2, _), (3, _), (4, _), (5, _), (6, _), (7, _), (8, _)]) C dL_law_971 rfl (by decide) rfl ?_
  refine v_iload C dL_law_973 rfl 0 rfl ?_
  refine v_if_ne C 995 dL_law_975 (by decide) rfl (fun h975 => ?_) (fun h975f => ?_)
  · skip
    refine v_iload C dL_law_995 rfl 0 rfl ?_
    refine v_iconst (v := 1) C dL_law_997 rfl ic_1 ?_
    refine v_icmp_ne C 1016 dL_law_998 (by decide) rfl (fun h998 => ?_) (fun h998f => ?_)
    · skip
      refine v_iload C dL_law_1016 rfl 0 rfl ?_
      refine v_iconst (v := 2) C dL_law_1018 rfl ic_2 ?_
      refine v_icmp_ne C 1036 dL_law_1019 (by decide) rfl (fun h1019 => ?_) (fun h1019f => ?_)
      · skip
        refine v_iconst (v := 1) C dL_law_1036 rfl ic_1 ?_
        refine v_iload C dL_law_1037 rfl 9 rfl ?_
        refine v_bipush (v := 11) C dL_law_1039 rfl bp_11 ?_
        refine v_ishr C dL_law_1041 rfl ?_
        refine v_bipush (v := 100) C dL_law_1042 rfl bp_100 ?_
        refine v_callSpd C (c_L_low l _ 100 (by decide) (by decide)) gL_law_L_low rfl hd_L_low.2 ⟨rfl, rfl⟩ ⟨Nat.le_of_ble_eq_true rfl, Nat.le_of_ble_eq_true rfl⟩ rfl rfl (Nat.le_of_ble_eq_true rfl) ⟨Nat.le_of_ble_eq_true rfl, Nat.le_of_ble_eq_true rfl⟩ dL_law_1044 rfl ?_
        refine v_iadd C dL_law_1047 rfl ?_
        refine v_istore (lv' := [(13, _), (12, _), (0, _), (1, _), (2, _), (3, _), (4, _), (5, _), (6, _), (7, _), (8, _)]) C dL_law_1048 rfl (by decide) rfl ?_
        refine v_lv (lv' := [(0, _), (1, _), (2, _), (3, _), (4, _), (5, _), (6, _), (7, _), (8, _), (12, _), (13, _)]) [2, 3, 4, 5, 6, 7, 8, 9, 10, 1, 0] rfl ?_
        exact lc_set C K hE hI hR hi (se_3 hi h975 h998 h1019 (lw9_lt _ (by decide))) kk
      · skip
        refine v_iload C dL_law_1022 rfl 9 rfl ?_
        refine v_bipush (v := 11) C dL_law_1024 rfl bp_11 ?_
        refine v_ishr C dL_law_1026 rfl ?_
        refine v_sipush (v := 201) C dL_law_1027 rfl sp_201 ?_
        refine v_callSpd C (c_L_low l _ 201 (by decide) (by decide)) gL_law_L_low rfl hd_L_low.2 ⟨rfl, rfl⟩ ⟨Nat.le_of_ble_eq_true rfl, Nat.le_of_ble_eq_true rfl⟩ rfl rfl (Nat.le_of_ble_eq_true rfl) ⟨Nat.le_of_ble_eq_true rfl, Nat.le_of_ble_eq_true rfl⟩ dL_law_1030 rfl ?_
        refine v_goto C 1048 dL_law_1033 (by decide) ?_
        refine v_istore (lv' := [(13, _), (12, _), (0, _), (1, _), (2, _), (3, _), (4, _), (5, _), (6, _), (7, _), (8, _)]) C dL_law_1048 rfl (by decide) rfl ?_
        refine v_lv (lv' := [(0, _), (1, _), (2, _), (3, _), (4, _), (5, _), (6, _), (7, _), (8, _), (12, _), (13, _)]) [2, 3, 4, 5, 6, 7, 8, 9, 10, 1, 0] rfl ?_
        exact lc_set C K hE hI hR hi (se_2 h1019f (lw9_lt _ (by decide))) kk
    · skip
      refine v_iconst (v := 1) C dL_law_1001 rfl ic_1 ?_
      refine v_iload C dL_law_1002 rfl 9 rfl ?_
      refine v_bipush (v := 11) C dL_law_1004 rfl bp_11 ?_
      refine v_ishr C dL_law_1006 rfl ?_
      refine v_bipush (v := 20) C dL_law_1007 rfl bp_20 ?_
      refine v_callSpd C (c_L_low l _ 20 (by decide) (by decide)) gL_law_L_low rfl hd_L_low.2 ⟨rfl, rfl⟩ ⟨Nat.le_of_ble_eq_true rfl, Nat.le_of_ble_eq_true rfl⟩ rfl rfl (Nat.le_of_ble_eq_true rfl) ⟨Nat.le_of_ble_eq_true rfl, Nat.le_of_ble_eq_true rfl⟩ dL_law_1009 rfl ?_
      refine v_iadd C dL_law_1012 rfl ?_
      refine v_goto C 1048 dL_law_1013 (by decide) ?_
      refine v_istore (lv' := [(13, _), (12, _), (0, _), (1, _), (2, _), (3, _), (4, _), (5, _), (6, _), (7, _), (8, _)]) C dL_law_1048 rfl (by decide) rfl ?_
      refine v_lv (lv' := [(0, _), (1, _), (2, _), (3, _), (4, _), (5, _), (6, _), (7, _), (8, _), (12, _), (13, _)]) [2, 3, 4, 5, 6, 7, 8, 9, 10, 1, 0] rfl ?_
      exact lc_set C K hE hI hR hi (se_1 h998f (lw9_lt _ (by decide))) kk
  · skip
    refine v_bipush (v := 10) C dL_law_978 rfl bp_10 ?_
    refine v_iload C dL_law_980 rfl 9 rfl ?_
    refine v_bipush (v := 11) C dL_law_982 rfl bp_11 ?_
    refine v_ishr C dL_law_984 rfl ?_
    refine v_sipush (v := 291) C dL_law_985 rfl sp_291 ?_
    refine v_callSpd C (c_L_low l _ 291 (by decide) (by decide)) gL_law_L_low rfl hd_L_low.2 ⟨rfl, rfl⟩ ⟨Nat.le_of_ble_eq_true rfl, Nat.le_of_ble_eq_true rfl⟩ rfl rfl (Nat.le_of_ble_eq_true rfl) ⟨Nat.le_of_ble_eq_true rfl, Nat.le_of_ble_eq_true rfl⟩ dL_law_988 rfl ?_
    refine v_iadd C dL_law_991 rfl ?_
    refine v_goto C 1048 dL_law_992 (by decide) ?_
    refine v_istore (lv' := [(13, _), (12, _), (0, _), (1, _), (2, _), (3, _), (4, _), (5, _), (6, _), (7, _), (8, _)]) C dL_law_1048 rfl (by decide) rfl ?_
    refine v_lv (lv' := [(0, _), (1, _), (2, _), (3, _), (4, _), (5, _), (6, _), (7, _), (8, _), (12, _), (13, _)]) [2, 3, 4, 5, 6, 7, 8, 9, 10, 1, 0] rfl ?_
    exact lc_set C K hE hI hR hi (se_0 h975f (lw9_lt _ (by decide))) kk

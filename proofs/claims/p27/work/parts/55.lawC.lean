/-! ===== the law: an act, a turn ===== -/
theorem lc_droph {p : Program} {l : Launch} {e : Env} {s : State} {m : MethodId} {below : List Frame} {meth : Method} {c : Code} {Q : State → Prop} {D : va_G} {cI cC cZ cQ : ClassId} {ad la : Nat → Nat} {b : Nat} (C : CX p m c cL_law 19 s #[Value.ref b] wsL_law RL (fun q => s.heap.size ≤ q) s.heap) (K : va_K D vwCl (cTy cI cC cZ cQ) s) {T : Nat} {x : Int32} {g : Nat → Int32} {n : Nat} {u t : S9} (hI : IC g n u) (hR : LR g n t) {d q : Nat} (hd : d < 35) (hq : q < 2) (kk : ∀ (g : Nat → Int32) (u t : S9), IC g n u → LR g n t → VV p l e room_1 s m #[Value.ref b] below meth c 600000 7302250 Q (PW ad la cI cC cZ cQ) D (fun q => s.heap.size ≤ q) s.heap 19 (u, t) 1073 [(0, .ref b), (1, .ref (ad 0)), (2, .ref (la 0)), (3, .ref (la 1)), (4, .ref (la 2)), (5, .ref (la 3)), (6, .ref (la 4)), (7, .int (nI T)), (8, .int x)] []) : VV p l e room_1 s m #[Value.ref b] below meth c 600000 7302250 Q (PW ad la cI cC cZ cQ) D (fun q => s.heap.size ≤ q) s.heap 19 (u, t) 527 [(0, .ref b), (1, .ref (ad 0)), (2, .ref (la 0)), (3, .ref (la 1)), (4, .ref (la 2)), (5, .ref (la 3)), (6, .ref (la 4)), (7, .int (nI T)), (8, .int x), (10, .int (nI d)), (11, .int (nI q))] [] := by
  by_cases hs : g (46 + (2 * d + q)) = -6
  · exact lc_dropN C K hI hR hd hq hs kk
  · exact lc_drop C K hI hR hd hq hs kk
set_option maxHeartbeats 4000000 in
set_option maxRecDepth 100000 in
theorem lc_rest {p : Program} {l : Launch} {e : Env} {s : State} {m : MethodId} {below : List Frame} {meth : Method} {c : Code} {Q : State → Prop} {D : va_G} {cI cC cZ cQ : ClassId} {ad la : Nat → Nat} {b : Nat} (C : CX p m c cL_law 19 s #[Value.ref b] wsL_law RL (fun q => s.heap.size ≤ q) s.heap) (K : va_K D vwCl (cTy cI cC cZ cQ) s) {T : Nat} {x : Int32} {tl tm tf : Nat} (hE : zS tl tm tf (fun q => s.heap.size ≤ q) s s.heap) {g : Nat → Int32} {n : Nat} {u t : S9} (hI : IC g n u) (hR : LR g n t) {kd d q : Nat} (hd : d < 35) (hq : q < 2) (hn3 : 3 ≤ n) (kk : ∀ (g : Nat → Int32) (u t : S9), IC g n u → LR g n t → VV p l e room_1 s m #[Value.ref b] below meth c 600000 7302250 Q (PW ad la cI cC cZ cQ) D (fun q => s.heap.size ≤ q) s.heap 19 (u, t) 1073 [(0, .ref b), (1, .ref (ad 0)), (2, .ref (la 0)), (3, .ref (la 1)), (4, .ref (la 2)), (5, .ref (la 3)), (6, .ref (la 4)), (7, .int (nI T)), (8, .int x)] []) : VV p l e room_1 s m #[Value.ref b] below meth c 600000 7302250 Q (PW ad la cI cC cZ cQ) D (fun q => s.heap.size ≤ q) s.heap 19 (u, t) 291 [(0, .ref b), (1, .ref (ad 0)), (2, .ref (la 0)), (3, .ref (la 1)), (4, .ref (la 2)), (5, .ref (la 3)), (6, .ref (la 4)), (7, .int (nI T)), (8, .int x), (9, .int (nI kd)), (10, .int (nI d)), (11, .int (nI q))] [] := by
  refine v_iload C dL_law_291 rfl 9 rfl ?_
  refine v_bipush (v := 6) C dL_law_293 rfl bp_6 ?_
  refine v_icmp_ge C 520 dL_law_295 (by decide) rfl (fun h295 => ?_) (fun h295f => ?_)
  · skip
    refine v_iload C dL_law_520 rfl 9 rfl ?_
    refine v_bipush (v := 6) C dL_law_522 rfl bp_6 ?_
    refine v_icmp_ne C 588 dL_law_524 (by decide) rfl (fun h524 => ?_) (fun h524f => ?_)
    · skip
      refine v_iload C dL_law_588 rfl 9 rfl ?_
      refine v_bipush (v := 7) C dL_law_590 rfl bp_7 ?_
      refine v_icmp_ne C 841 dL_law_592 (by decide) rfl (fun h592 => ?_) (fun h592f => ?_)
      · skip
        refine v_iload C dL_law_841 rfl 9 rfl ?_
        refine v_bipush (v := 8) C dL_law_843 rfl bp_8 ?_
        refine v_icmp_ne C 962 dL_law_845 (by decide) rfl (fun h845 => ?_) (fun h845f => ?_)
        · skip
          refine v_lv (lv' := [(0, _), (1, _), (2, _), (3, _), (4, _), (5, _), (6, _), (7, _), (8, _)]) [0, 1, 2, 3, 4, 5, 6, 7, 8] rfl ?_
          exact lc_seth C K hE hI hR kk
        · skip
          refine v_lv (lv' := [(0, _), (1, _), (2, _), (3, _), (4, _), (5, _), (6, _), (7, _), (8, _), (10, _)]) [0, 1, 2, 3, 4, 5, 6, 7, 8, 10] rfl ?_
          exact lc_leth C K hI hR hd kk
      · skip
        refine v_lv (lv' := [(0, _), (1, _), (2, _), (3, _), (4, _), (5, _), (6, _), (7, _), (8, _), (10, _), (11, _)]) [0, 1, 2, 3, 4, 5, 6, 7, 8, 10, 11] rfl ?_
        exact lc_exch C K hI hR hd hq kk
    · skip
      refine v_lv (lv' := [(0, _), (1, _), (2, _), (3, _), (4, _), (5, _), (6, _), (7, _), (8, _), (10, _), (11, _)]) [0, 1, 2, 3, 4, 5, 6, 7, 8, 10, 11] rfl ?_
      exact lc_droph C K hI hR hd hq kk
  · skip
    refine v_lv (lv' := [(0, _), (1, _), (2, _), (3, _), (4, _), (5, _), (6, _), (7, _), (8, _), (10, _), (11, _)]) [0, 1, 2, 3, 4, 5, 6, 7, 8, 10, 11] rfl ?_
    exact lc_show C K hI hR hd hq hn3 kk
set_option maxHeartbeats 4000000 in
set_option maxRecDepth 100000 in
theorem lc_turn {p : Program} {l : Launch} {e : Env} {s : State} {m : MethodId} {below : List Frame} {meth : Method} {c : Code} {Q : State → Prop} {D : va_G} {cI cC cZ cQ : ClassId} {ad la : Nat → Nat} {b : Nat} (C : CX p m c cL_law 19 s #[Value.ref b] wsL_law RL (fun q => s.heap.size ≤ q) s.heap) (K : va_K D vwCl (cTy cI cC cZ cQ) s) {T : Nat} {x : Int32} {tl tm tf : Nat} (hE : zS tl tm tf (fun q => s.heap.size ≤ q) s s.heap) {g : Nat → Int32} {n : Nat} {u t : S9} (hI : IC g n u) (hR : LR g n t) {kd : Nat} (hkd : kd = 0 ∧ n < 8 ∨ 1 ≤ kd ∧ kd ≤ 9 ∧ 3 ≤ n) (kkF : ∀ (g : Nat → Int32) (u t : S9), IC g (n + 1) u → LR g (n + 1) t → VV p l e room_1 s m #[Value.ref b] below meth c 600000 7302250 Q (PW ad la cI cC cZ cQ) D (fun q => s.heap.size ≤ q) s.heap 19 (u, t) 1073 [(0, .ref b), (1, .ref (ad 0)), (2, .ref (la 0)), (3, .ref (la 1)), (4, .ref (la 2)), (5, .ref (la 3)), (6, .ref (la 4)), (7, .int (nI T)), (8, .int x)] []) (kk : 3 ≤ n → ∀ (g : Nat → Int32) (u t : S9), IC g n u → LR g n t → VV p l e room_1 s m #[Value.ref b] below meth c 600000 7302250 Q (PW ad la cI cC cZ cQ) D (fun q => s.heap.size ≤ q) s.heap 19 (u, t) 1073 [(0, .ref b), (1, .ref (ad 0)), (2, .ref (la 0)), (3, .ref (la 1)), (4, .ref (la 2)), (5, .ref (la 3)), (6, .ref (la 4)), (7, .int (nI T)), (8, .int x)] []) : VV p l e room_1 s m #[Value.ref b] below meth c 600000 7302250 Q (PW ad la cI cC cZ cQ) D (fun q => s.heap.size ≤ q) s.heap 19 (u, t) 98 [(0, .ref b), (1, .ref (ad 0)), (2, .ref (la 0)), (3, .ref (la 1)), (4, .ref (la 2)), (5, .ref (la 3)), (6, .ref (la 4)), (7, .int (nI T)), (8, .int x)] [.int (nI kd)] := by
  have hn8 := hR.n8
  refine v_istore (lv' := [(9, _), (0, _), (1, _), (2, _), (3, _), (4, _), (5, _), (6, _), (7, _), (8, _)]) C dL_law_98 rfl (by decide) rfl ?_
  refine v_iload C dL_law_100 rfl 9 rfl ?_
  refine v_iconst (v := 4) C dL_law_102 rfl ic_4 ?_
  refine v_ishr C dL_law_103 rfl ?_
  refine v_bipush (v := 35) C dL_law_104 rfl bp_35 ?_
  refine v_callSpd C (c_L_low l _ 35 (by decide) (by decide)) gL_law_L_low rfl hd_L_low.2 ⟨rfl, rfl⟩ ⟨Nat.le_of_ble_eq_true rfl, Nat.le_of_ble_eq_true rfl⟩ rfl rfl (Nat.le_of_ble_eq_true rfl) ⟨Nat.le_of_ble_eq_true rfl, Nat.le_of_ble_eq_true rfl⟩ dL_law_106 rfl ?_
  obtain ⟨d, hd, ed⟩ : ∃ z : Nat, z < 35 ∧ nI (lw9 (x >>> ((4 : Int32) &&& 31)) 35) = nI z := ⟨lw9 (x >>> ((4 : Int32) &&& 31)) 35, lw9_lt _ (by decide), rfl⟩
  refine v_top (nI d) (ed) ?_
  refine v_istore (lv' := [(10, _), (9, _), (0, _), (1, _), (2, _), (3, _), (4, _), (5, _), (6, _), (7, _), (8, _)]) C dL_law_109 rfl (by decide) rfl ?_
  refine v_iload C dL_law_111 rfl 10 rfl ?_
  refine v_bipush (v := 6) C dL_law_113 rfl bp_6 ?_
  refine v_ishr C dL_law_115 rfl ?_
  refine v_iconst (v := 2) C dL_law_116 rfl ic_2 ?_
  refine v_callSpd C (c_L_low l _ 2 (by decide) (by decide)) gL_law_L_low rfl hd_L_low.2 ⟨rfl, rfl⟩ ⟨Nat.le_of_ble_eq_true rfl, Nat.le_of_ble_eq_true rfl⟩ rfl rfl (Nat.le_of_ble_eq_true rfl) ⟨Nat.le_of_ble_eq_true rfl, Nat.le_of_ble_eq_true rfl⟩ dL_law_117 rfl ?_
  obtain ⟨q, hq, eq⟩ : ∃ z : Nat, z < 2 ∧ nI (lw9 (x >>> ((6 : Int32) &&& 31)) 2) = nI z := ⟨lw9 (x >>> ((6 : Int32) &&& 31)) 2, lw9_lt _ (by decide), rfl⟩
  refine v_top (nI q) (eq) ?_
  refine v_istore (lv' := [(11, _), (10, _), (9, _), (0, _), (1, _), (2, _), (3, _), (4, _), (5, _), (6, _), (7, _), (8, _)]) C dL_law_120 rfl (by decide) rfl ?_
  refine v_iload C dL_law_122 rfl 2 rfl ?_
  refine v_if_eq C 154 dL_law_124 (by decide) rfl (fun h124 => ?_) (fun h124f => ?_)
  · skip
    have hn : n < 8 := by
      rcases hkd with z | z
      · exact z.2
      · exact absurd h124 (nI_ne0 (by omega) (by omega))
    refine v_lv (lv' := [(0, _), (1, _), (2, _), (3, _), (4, _), (5, _), (6, _), (7, _), (8, _)]) [3, 4, 5, 6, 7, 8, 9, 10, 11] rfl ?_
    exact lc_film C K hI hR hn kkF
  · skip
    have hk9 : 1 ≤ kd ∧ kd ≤ 9 ∧ 3 ≤ n := by
      rcases hkd with z | z
      · exact absurd (by rw [z.1]; rfl) h124f
      · exact z
    refine v_iload C dL_law_127 rfl 2 rfl ?_
    refine v_bipush (v := 9) C dL_law_129 rfl bp_9 ?_
    refine v_icmp_ne C 291 dL_law_131 (by decide) rfl (fun h131 => ?_) (fun h131f => ?_)
    · skip
      refine v_lv (lv' := [(0, _), (1, _), (2, _), (3, _), (4, _), (5, _), (6, _), (7, _), (8, _), (9, _), (10, _), (11, _)]) [3, 4, 5, 6, 7, 8, 9, 10, 11, 2, 1, 0] rfl ?_
      exact lc_rest C K hE hI hR hd hq hk9.2.2 (kk hk9.2.2)
    · skip
      refine v_aload_n C dL_law_134 rfl 2 5 rfl rfl ?_
      refine v_iconst (v := 5) C dL_law_135 rfl ic_5 ?_
      refine v_aldL C K 0 6 rfl (5) (rfl) (by omega) (by decide) dL_law_136 rfl ?_
      refine v_top (nI n) ((hR.q (by decide)).trans hR.w.1.1) ?_
      refine v_bipush (v := 8) C dL_law_137 rfl bp_8 ?_
      refine v_icmp_ge C 291 dL_law_139 (by decide) rfl (fun h139 => ?_) (fun h139f => ?_)
      · skip
        refine v_lv (lv' := [(0, _), (1, _), (2, _), (3, _), (4, _), (5, _), (6, _), (7, _), (8, _), (9, _), (10, _), (11, _)]) [3, 4, 5, 6, 7, 8, 9, 10, 11, 2, 1, 0] rfl ?_
        exact lc_rest C K hE hI hR hd hq hk9.2.2 (kk hk9.2.2)
      · skip
        have hn : n < 8 := by
          rcases Nat.lt_or_ge n 8 with z | z
          · exact z
          · exact absurd (nI_le z (by omega)) h139f
        refine v_iload C dL_law_142 rfl 11 rfl ?_
        refine v_bipush (v := 8) C dL_law_144 rfl bp_8 ?_
        refine v_ishr C dL_law_146 rfl ?_
        refine v_iconst (v := 2) C dL_law_147 rfl ic_2 ?_
        refine v_callSpd C (c_L_low l _ 2 (by decide) (by decide)) gL_law_L_low rfl hd_L_low.2 ⟨rfl, rfl⟩ ⟨Nat.le_of_ble_eq_true rfl, Nat.le_of_ble_eq_true rfl⟩ rfl rfl (Nat.le_of_ble_eq_true rfl) ⟨Nat.le_of_ble_eq_true rfl, Nat.le_of_ble_eq_true rfl⟩ dL_law_148 rfl ?_
        refine v_if_ne C 291 dL_law_151 (by decide) rfl (fun h151 => ?_) (fun h151f => ?_)
        · skip
          refine v_lv (lv' := [(0, _), (1, _), (2, _), (3, _), (4, _), (5, _), (6, _), (7, _), (8, _), (9, _), (10, _), (11, _)]) [3, 4, 5, 6, 7, 8, 9, 10, 11, 2, 1, 0] rfl ?_
          exact lc_rest C K hE hI hR hd hq hk9.2.2 (kk hk9.2.2)
        · skip
          refine v_lv (lv' := [(0, _), (1, _), (2, _), (3, _), (4, _), (5, _), (6, _), (7, _), (8, _)]) [3, 4, 5, 6, 7, 8, 9, 10, 11] rfl ?_
          exact lc_film C K hI hR hn kkF
set_option maxHeartbeats 4000000 in
set_option maxRecDepth 100000 in
theorem lc_head {p : Program} {l : Launch} {e : Env} {s : State} {m : MethodId} {below : List Frame} {meth : Method} {c : Code} {Q : State → Prop} {D : va_G} {cI cC cZ cQ : ClassId} {ad la : Nat → Nat} {b : Nat} (C : CX p m c cL_law 19 s #[Value.ref b] wsL_law RL (fun q => s.heap.size ≤ q) s.heap) (K : va_K D vwCl (cTy cI cC cZ cQ) s) {T : Nat} {tl tm tf : Nat} (hE : zS tl tm tf (fun q => s.heap.size ≤ q) s s.heap) {L : Nat} {xs : Nat → Int32} (hX : va_X b L xs s s.heap) (hbl : b < s.heap.size) (hL : L ≤ 260) {g : Nat → Int32} {n : Nat} {u t : S9} (hI : IC g n u) (hR : LR g n t) (hT : T < 16) (hn : 3 ≤ n ∨ n = T) (hnT : n ≤ T) (kkF : ∀ x : Int32, ∀ (g : Nat → Int32) (u t : S9), IC g (n + 1) u → LR g (n + 1) t → VV p l e room_1 s m #[Value.ref b] below meth c 600000 7302250 Q (PW ad la cI cC cZ cQ) D (fun q => s.heap.size ≤ q) s.heap 19 (u, t) 1073 [(0, .ref b), (1, .ref (ad 0)), (2, .ref (la 0)), (3, .ref (la 1)), (4, .ref (la 2)), (5, .ref (la 3)), (6, .ref (la 4)), (7, .int (nI T)), (8, .int x)] []) (kk : ∀ x : Int32, 3 ≤ n → ∀ (g : Nat → Int32) (u t : S9), IC g n u → LR g n t → VV p l e room_1 s m #[Value.ref b] below meth c 600000 7302250 Q (PW ad la cI cC cZ cQ) D (fun q => s.heap.size ≤ q) s.heap 19 (u, t) 1073 [(0, .ref b), (1, .ref (ad 0)), (2, .ref (la 0)), (3, .ref (la 1)), (4, .ref (la 2)), (5, .ref (la 3)), (6, .ref (la 4)), (7, .int (nI T)), (8, .int x)] []) : VV p l e room_1 s m #[Value.ref b] below meth c 600000 7302250 Q (PW ad la cI cC cZ cQ) D (fun q => s.heap.size ≤ q) s.heap 19 (u, t) 71 [(0, .ref b), (1, .ref (ad 0)), (2, .ref (la 0)), (3, .ref (la 1)), (4, .ref (la 2)), (5, .ref (la 3)), (6, .ref (la 4)), (7, .int (nI T))] [] := by
  have hbA : ¬ (fun q : Nat => s.heap.size ≤ q) b := Nat.not_le.mpr hbl
  refine v_aload_n C dL_law_71 rfl 0 0 rfl rfl ?_
  refine v_iload C dL_law_72 rfl 7 rfl ?_
  refine v_callSX C hX hbl hbA (c_L_cell l b L xs T (by omega) hL) gL_law_L_cell rfl hd_L_cell.2 ⟨rfl, rfl⟩ ⟨Nat.le_of_ble_eq_true rfl, Nat.le_of_ble_eq_true rfl⟩ rfl rfl (Nat.le_of_ble_eq_true rfl) ⟨Nat.le_of_ble_eq_true rfl, Nat.le_of_ble_eq_true rfl⟩ dL_law_74 rfl (fun x _ => ?_)
  refine v_istore (lv' := [(8, _), (0, _), (1, _), (2, _), (3, _), (4, _), (5, _), (6, _), (7, _)]) C dL_law_77 rfl (by decide) rfl ?_
  refine v_iload C dL_law_79 rfl 8 rfl ?_
  refine v_iconst (v := 3) C dL_law_81 rfl ic_3 ?_
  refine v_icmp_ge C 89 dL_law_82 (by decide) rfl (fun h82 => ?_) (fun h82f => ?_)
  · skip
    have hT3 : 3 ≤ T := (nI_leI (a := 3) (by decide) (by omega)).mp h82
    have h9 := lw9_lt x (show 0 < 9 by decide)
    refine v_iconst (v := 1) C dL_law_89 rfl ic_1 ?_
    refine v_iload C dL_law_90 rfl 0 rfl ?_
    refine v_bipush (v := 9) C dL_law_92 rfl bp_9 ?_
    refine v_callSpd C (c_L_low l _ 9 (by decide) (by decide)) gL_law_L_low rfl hd_L_low.2 ⟨rfl, rfl⟩ ⟨Nat.le_of_ble_eq_true rfl, Nat.le_of_ble_eq_true rfl⟩ rfl rfl (Nat.le_of_ble_eq_true rfl) ⟨Nat.le_of_ble_eq_true rfl, Nat.le_of_ble_eq_true rfl⟩ dL_law_94 rfl ?_
    refine v_iadd C dL_law_97 rfl ?_
    refine v_top (nI (1 + lw9 x 9)) (nI_add 1 _) ?_
    refine v_lv (lv' := [(0, _), (1, _), (2, _), (3, _), (4, _), (5, _), (6, _), (7, _), (8, _)]) [1, 2, 3, 4, 5, 6, 7, 8, 0] rfl ?_
    exact lc_turn C K hE hI hR (kd := 1 + lw9 x 9) (Or.inr ⟨by omega, by omega, by omega⟩) (kkF x) (kk x)
  · skip
    have hT3 : T < 3 := by
      rcases Nat.lt_or_ge T 3 with z | z
      · exact z
      · exact absurd (nI_le z (by omega)) h82f
    refine v_iconst (v := 0) C dL_law_85 rfl ic_0 ?_
    refine v_goto C 98 dL_law_86 (by decide) ?_
    refine v_lv (lv' := [(0, _), (1, _), (2, _), (3, _), (4, _), (5, _), (6, _), (7, _), (8, _)]) [1, 2, 3, 4, 5, 6, 7, 8, 0] rfl ?_
    exact lc_turn C K hE hI hR (kd := 0) (Or.inl ⟨rfl, by omega⟩) (kkF x) (kk x)
set_option maxHeartbeats 4000000 in
set_option maxRecDepth 100000 in
theorem lc_same {p : Program} {l : Launch} {e : Env} {s : State} {m : MethodId} {below : List Frame} {meth : Method} {c : Code} {Q : State → Prop} {D : va_G} {cI cC cZ cQ : ClassId} {ad la : Nat → Nat} {b : Nat} (C : CX p m c cL_law 19 s #[Value.ref b] wsL_law RL (fun q => s.heap.size ≤ q) s.heap) (K : va_K D vwCl (cTy cI cC cZ cQ) s) {T : Nat} {x : Int32} {g : Nat → Int32} {n : Nat} {u t : S9} (hI : IC g n u) (hR : LR g n t) (k9 : ∀ u : S9, IC g n u → VV p l e room_1 s m #[Value.ref b] below meth c 600000 7302250 Q (PW ad la cI cC cZ cQ) D (fun q => s.heap.size ≤ q) s.heap 19 (u, t) 64 [(0, .ref b), (1, .ref (ad 0)), (2, .ref (la 0)), (3, .ref (la 1)), (4, .ref (la 2)), (5, .ref (la 3)), (6, .ref (la 4)), (7, .int (nI (T + 1)))] []) : VV p l e room_1 s m #[Value.ref b] below meth c 600000 7302250 Q (PW ad la cI cC cZ cQ) D (fun q => s.heap.size ≤ q) s.heap 19 (u, t) 1073 [(0, .ref b), (1, .ref (ad 0)), (2, .ref (la 0)), (3, .ref (la 1)), (4, .ref (la 2)), (5, .ref (la 3)), (6, .ref (la 4)), (7, .int (nI T)), (8, .int x)] [] := by
  refine v_aload_n C dL_law_1073 rfl 1 1 rfl rfl ?_
  refine v_iload C dL_law_1074 rfl 8 rfl ?_
  refine v_iconst (v := 5) C dL_law_1076 rfl ic_5 ?_
  refine v_ishr C dL_law_1077 rfl ?_
  refine v_aload_n C dL_law_1078 rfl 2 2 rfl rfl ?_
  refine v_aload_n C dL_law_1079 rfl 3 3 rfl rfl ?_
  refine v_aload C dL_law_1080 rfl 4 rfl ?_
  refine v_aload C dL_law_1082 rfl 5 rfl ?_
  refine v_aload C dL_law_1084 rfl 6 rfl ?_
  refine v_callSi C K (c_L_same l D ad la cI cC cZ cQ g n u t hI hR _) gL_law_L_same rfl hd_L_same.2 ⟨rfl, rfl⟩ ⟨Nat.le_of_ble_eq_true rfl, Nat.le_of_ble_eq_true rfl⟩ rfl rfl (Nat.le_of_ble_eq_true rfl) ⟨Nat.le_of_ble_eq_true rfl, Nat.le_of_ble_eq_true rfl⟩ dL_law_1086 rfl (fun r9 u9 hp9 => ?_)
  obtain ⟨u2, t2⟩ := u9
  obtain ⟨er, hI2, et⟩ := hp9
  have et2 : t2 = t := et
  subst et2
  rw [er]
  refine v_if_ne C 1094 dL_law_1089 (by decide) rfl (fun _ => ?_) (fun h9 => absurd h9 (by decide))
  refine v_iinc (lv' := [(7, _), (0, _), (1, _), (2, _), (3, _), (4, _), (5, _), (6, _), (8, _)]) C dL_law_1094 rfl 7 rfl (inc9 _) (by decide) rfl ?_
  refine v_goto C 64 dL_law_1097 (by decide) ?_
  refine v_lv (lv' := [(0, _), (1, _), (2, _), (3, _), (4, _), (5, _), (6, _), (7, _)]) [1, 2, 3, 4, 5, 6, 7, 0] rfl ?_
  exact k9 u2 hI2

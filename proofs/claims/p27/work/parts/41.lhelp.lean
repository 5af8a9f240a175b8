/-! ===== the law: what its methods answer ===== -/
theorem sh_a {x : Int32} (h : 20 ≤ x) : x = if x ≤ 20 then 20 else x := by
  by_cases h2 : x ≤ 20
  · rw [if_pos h2]; exact Int32.le_antisymm h2 h
  · rw [if_neg h2]
theorem sh_b {x : Int32} (h : ¬ 20 ≤ x) : (20 : Int32) = if x ≤ 20 then 20 else x := by
  rw [if_pos (by rcases Int32.le_total (a := x) (b := 20) with q | q; exact q; exact absurd q h)]
theorem du_a {g : Nat → Int32} {f w : Nat} (h9 : ¬ q_S g f w = 0) (h : g (6 + 5 * f + 2) ≤ q_so g f w) : q_so g f w = q_D g f w := by
  rw [q_D, if_neg h9]
  by_cases h2 : q_so g f w ≤ g (6 + 5 * f + 2)
  · rw [if_pos h2]; exact Int32.le_antisymm h2 h
  · rw [if_neg h2]
theorem du_b {g : Nat → Int32} {f w : Nat} (h9 : ¬ q_S g f w = 0) (h : ¬ g (6 + 5 * f + 2) ≤ q_so g f w) : g (6 + 5 * f + 2) = q_D g f w := by
  rw [q_D, if_neg h9, if_pos (by rcases Int32.le_total (a := q_so g f w) (b := g (6 + 5 * f + 2)) with q | q; exact q; exact absurd q h)]
set_option maxHeartbeats 4000000 in
set_option maxRecDepth 100000 in
theorem c_L_low (l : Launch) (v : Int32) (k : Nat) (hk : 0 < k) (hk2 : k < 2 ^ 31) : CPi l yL_low wsL_low ({ frames := 0, cells := 0, slots := 0, locals := 0 } : Room) [.int v, .int (nI k)] (fun r => r = nI (lw9 v k)) := by
  refine v_startP (own := RL) (cc := cL_low) (nL := 2) ((fun _ => 0), (fun _ _ => 0)) rfl (by decide) rfl (Nat.le_of_ble_eq_true rfl) ?_
  intro p e s m args below meth c A Q C hend
  skip
  refine v_lv (lv' := [(0, .int v), (1, .int (nI k))]) [0, 1] rfl ?_
  refine v_iload_n C dL_low_0 rfl 0 0 rfl rfl ?_
  refine v_ldc C dL_low_1 rfl ct_L_low_9 ?_
  refine v_iand C dL_low_3 rfl ?_
  refine v_top (nI (v.toBitVec.toNat % 2 ^ 31)) (pk_and v 31 (by decide)) ?_
  refine v_iload_n C dL_low_4 rfl 1 1 rfl rfl ?_
  refine v_irem C dL_low_5 rfl (nI_ne0 hk hk2) ?_
  exact hend (pk_rem (Nat.mod_lt _ (by decide)) hk hk2) (rfl) dL_low_6
set_option maxHeartbeats 4000000 in
set_option maxRecDepth 100000 in
theorem c_L_coming (l : Launch) (D : va_G) (la : Nat → Nat) (cI cC cZ cQ : ClassId) (σ : S9) (g : Nat → Int32) (hq : ∀ i, i < 6 → σ 0 i = g i) (x : Int32) (k : Nat) : CMi l (lW la cI) D (cTy cI cC cZ cQ) yL_coming wsL_coming ({ frames := 0, cells := 0, slots := 0, locals := 0 } : Room) [.int x, .int (nI (k % 2)), .ref (la 0)] σ (fun r u => r = q_ppl g k x ∧ u = σ) := by
  refine v_starti (own := RL) (cc := cL_coming) (nL := 4) rfl (by decide) rfl (Nat.le_of_ble_eq_true rfl) ?_
  intro p e s m args below meth c A Q C K hend
  refine v_lv (lv' := [(0, .int x), (1, .int (nI (k % 2))), (2, .ref (la 0))]) [0, 1, 2] rfl ?_
  refine v_iload_n C dL_coming_0 rfl 0 0 rfl rfl ?_
  refine v_iload_n C dL_coming_1 rfl 1 1 rfl rfl ?_
  refine v_if_ne C 11 dL_coming_2 (by decide) rfl (fun h2 => ?_) (fun h2f => ?_)
  · skip
    have e2 : ¬ k % 2 = 0 := fun q => h2 (by rw [q]; rfl)
    refine v_aload_n C dL_coming_11 rfl 2 2 rfl rfl ?_
    refine v_iconst (v := 3) C dL_coming_12 rfl ic_3 ?_
    refine v_iald C K 0 0 rfl rfl (3) (rfl) (by omega) (by decide) dL_coming_13 rfl ?_
    refine v_top (if k % 2 = 0 then g 4 else g 3) (by rw [if_neg e2]; exact hq 3 (by decide)) ?_
    refine v_imul C dL_coming_14 rfl ?_
    refine v_bipush (v := 100) C dL_coming_15 rfl bp_100 ?_
    refine v_idiv C dL_coming_17 rfl (by decide) ?_
    refine v_istore_n (lv' := [(3, _), (0, _), (1, _), (2, _)]) C dL_coming_18 rfl 3 rfl (by decide) rfl ?_
    refine v_iload_n C dL_coming_19 rfl 3 0 rfl rfl ?_
    refine v_aload_n C dL_coming_20 rfl 2 3 rfl rfl ?_
    refine v_iconst (v := 0) C dL_coming_21 rfl ic_0 ?_
    refine v_iald C K 0 0 rfl rfl (0) (rfl) (by omega) (by decide) dL_coming_22 rfl ?_
    refine v_top (g 0) (hq 0 (by decide)) ?_
    refine v_icmp_le C 32 dL_coming_23 (by decide) rfl (fun h23 => ?_) (fun h23f => ?_)
    · skip
      refine v_iload_n C dL_coming_32 rfl 3 0 rfl rfl ?_
      exact hend (⟨com_le (g := g) (k := k) (x := x) h23, rfl⟩) (rfl) dL_coming_33
    · skip
      refine v_aload_n C dL_coming_26 rfl 2 3 rfl rfl ?_
      refine v_iconst (v := 0) C dL_coming_27 rfl ic_0 ?_
      refine v_iald C K 0 0 rfl rfl (0) (rfl) (by omega) (by decide) dL_coming_28 rfl ?_
      refine v_top (g 0) (hq 0 (by decide)) ?_
      refine v_goto C 33 dL_coming_29 (by decide) ?_
      exact hend (⟨com_gt (g := g) (k := k) (x := x) h23f, rfl⟩) (rfl) dL_coming_33
  · skip
    have e2 : k % 2 = 0 := nI_inj (b := 0) (by omega) (by omega) h2f
    refine v_aload_n C dL_coming_5 rfl 2 2 rfl rfl ?_
    refine v_iconst (v := 4) C dL_coming_6 rfl ic_4 ?_
    refine v_iald C K 0 0 rfl rfl (4) (rfl) (by omega) (by decide) dL_coming_7 rfl ?_
    refine v_goto C 14 dL_coming_8 (by decide) ?_
    refine v_top (if k % 2 = 0 then g 4 else g 3) (by rw [if_pos e2]; exact hq 4 (by decide)) ?_
    refine v_imul C dL_coming_14 rfl ?_
    refine v_bipush (v := 100) C dL_coming_15 rfl bp_100 ?_
    refine v_idiv C dL_coming_17 rfl (by decide) ?_
    refine v_istore_n (lv' := [(3, _), (0, _), (1, _), (2, _)]) C dL_coming_18 rfl 3 rfl (by decide) rfl ?_
    refine v_iload_n C dL_coming_19 rfl 3 0 rfl rfl ?_
    refine v_aload_n C dL_coming_20 rfl 2 3 rfl rfl ?_
    refine v_iconst (v := 0) C dL_coming_21 rfl ic_0 ?_
    refine v_iald C K 0 0 rfl rfl (0) (rfl) (by omega) (by decide) dL_coming_22 rfl ?_
    refine v_top (g 0) (hq 0 (by decide)) ?_
    refine v_icmp_le C 32 dL_coming_23 (by decide) rfl (fun h23 => ?_) (fun h23f => ?_)
    · skip
      refine v_iload_n C dL_coming_32 rfl 3 0 rfl rfl ?_
      exact hend (⟨com_le (g := g) (k := k) (x := x) h23, rfl⟩) (rfl) dL_coming_33
    · skip
      refine v_aload_n C dL_coming_26 rfl 2 3 rfl rfl ?_
      refine v_iconst (v := 0) C dL_coming_27 rfl ic_0 ?_
      refine v_iald C K 0 0 rfl rfl (0) (rfl) (by omega) (by decide) dL_coming_28 rfl ?_
      refine v_top (g 0) (hq 0 (by decide)) ?_
      refine v_goto C 33 dL_coming_29 (by decide) ?_
      exact hend (⟨com_gt (g := g) (k := k) (x := x) h23f, rfl⟩) (rfl) dL_coming_33
set_option maxHeartbeats 4000000 in
set_option maxRecDepth 100000 in
theorem c_L_film (l : Launch) (D : va_G) (la : Nat → Nat) (cI cC cZ cQ : ClassId) (σ : S9) (g : Nat → Int32) (n : Nat) (hR : LR g n σ) (d p9 : Nat) (hd : d < 35) (hp : p9 < 2) : CMi l (lW la cI) D (cTy cI cC cZ cQ) yL_film wsL_film ({ frames := 0, cells := 0, slots := 0, locals := 0 } : Room) [.int (nI d), .int (nI p9), .ref (la 2), .ref (la 3)] σ (fun r u => r = fl0 (g (46 + (2 * d + p9))) ∧ u = σ) := by
  refine v_starti (own := RL) (cc := cL_film) (nL := 4) rfl (by decide) rfl (Nat.le_of_ble_eq_true rfl) ?_
  intro p e s m args below meth c A Q C K hend
  refine v_lv (lv' := [(0, .int (nI d)), (1, .int (nI p9)), (2, .ref (la 2)), (3, .ref (la 3))]) [0, 1, 2, 3] rfl ?_
  refine v_iload_n C dL_film_0 rfl 1 1 rfl rfl ?_
  refine v_if_ne C 10 dL_film_1 (by decide) rfl (fun h1 => ?_) (fun h1f => ?_)
  · skip
    have hp1 : p9 = 1 := by
      rcases (show p9 = 0 ∨ p9 = 1 by omega) with q | q
      · exact absurd (by rw [q]; rfl) h1
      · exact q
    refine v_aload_n C dL_film_10 rfl 3 3 rfl rfl ?_
    refine v_iload_n C dL_film_11 rfl 0 0 rfl rfl ?_
    refine v_iald C K 3 0 rfl rfl (d) (rfl) (by omega) (by decide) dL_film_12 rfl ?_
    refine v_top (sh0 (g (46 + (2 * d + p9)))) (by rw [hp1]; exact hR.e hd) ?_
    refine v_iconst (v := 1) C dL_film_13 rfl ic_1 ?_
    refine v_isub C dL_film_14 rfl ?_
    exact hend (⟨sh0_m _, rfl⟩) (rfl) dL_film_15
  · skip
    have hp0 : p9 = 0 := nI_inj (b := 0) (by omega) (by omega) h1f
    refine v_aload_n C dL_film_4 rfl 2 2 rfl rfl ?_
    refine v_iload_n C dL_film_5 rfl 0 0 rfl rfl ?_
    refine v_iald C K 2 0 rfl rfl (d) (rfl) (by omega) (by decide) dL_film_6 rfl ?_
    refine v_goto C 13 dL_film_7 (by decide) ?_
    refine v_top (sh0 (g (46 + (2 * d + p9)))) (by rw [hp0]; exact hR.a hd) ?_
    refine v_iconst (v := 1) C dL_film_13 rfl ic_1 ?_
    refine v_isub C dL_film_14 rfl ?_
    exact hend (⟨sh0_m _, rfl⟩) (rfl) dL_film_15
set_option maxHeartbeats 4000000 in
set_option maxRecDepth 100000 in
theorem c_L_leftAt (l : Launch) (D : va_G) (la : Nat → Nat) (cI cC cZ cQ : ClassId) (σ : S9) (g : Nat → Int32) (n : Nat) (hR : LR g n σ) (f q9 : Nat) (hf : f < n) (hq9 : q9 ≤ 70) : CMi l (lW la cI) D (cTy cI cC cZ cQ) yL_leftAt wsL_leftAt ({ frames := 1, cells := 0, slots := 0, locals := 23 } : Room) [.int (nI f), .int (nI q9), .ref (la 0), .ref (la 1), .ref (la 2), .ref (la 3)] σ (fun r u => r = q_LA g f q9 ∧ u = σ) := by
  refine v_starti (own := RL) (cc := cL_leftAt) (nL := 10) rfl (by decide) rfl (Nat.le_of_ble_eq_true rfl) ?_
  intro p e s m args below meth c A Q C K hend
  refine v_lv (lv' := [(0, .int (nI f)), (1, .int (nI q9)), (2, .ref (la 0)), (3, .ref (la 1)), (4, .ref (la 2)), (5, .ref (la 3))]) [0, 1, 2, 3, 4, 5] rfl ?_
  have hn8 := hR.n8
  refine v_aload_n C dL_leftAt_0 rfl 3 3 rfl rfl ?_
  refine v_iconst (v := 5) C dL_leftAt_1 rfl ic_5 ?_
  refine v_iload_n C dL_leftAt_2 rfl 0 0 rfl rfl ?_
  refine v_imul C dL_leftAt_3 rfl ?_
  refine v_iconst (v := 1) C dL_leftAt_4 rfl ic_1 ?_
  refine v_iadd C dL_leftAt_5 rfl ?_
  refine v_iald C K 1 0 rfl rfl (5 * f + 1) (ix5 f 1) (by omega) (by decide) dL_leftAt_6 rfl ?_
  refine v_top (q_L g f 0) (hR.f 1 hf (by decide)) ?_
  refine v_istore (lv' := [(6, _), (0, _), (1, _), (2, _), (3, _), (4, _), (5, _)]) C dL_leftAt_7 rfl (by decide) rfl ?_
  refine v_iconst (v := 0) C dL_leftAt_9 rfl ic_0 ?_
  refine v_istore (lv' := [(7, _), (6, _), (0, _), (1, _), (2, _), (3, _), (4, _), (5, _)]) C dL_leftAt_10 rfl (by decide) rfl ?_
  have LP12 : ∀ k, k ≤ q9 → VV p l e ({ frames := 1, cells := 0, slots := 0, locals := 23 } : Room) s m args below meth c 0 0 Q (lW la cI) D A s.heap 10 σ 12 [(0, .int (nI f)), (1, .int (nI q9)), (2, .ref (la 0)), (3, .ref (la 1)), (4, .ref (la 2)), (5, .ref (la 3)), (6, .int (q_L g f k)), (7, .int (nI k))] [] := by
    refine lpB9 (fun k => VV p l e ({ frames := 1, cells := 0, slots := 0, locals := 23 } : Room) s m args below meth c 0 0 Q (lW la cI) D A s.heap 10 σ 12 [(0, .int (nI f)), (1, .int (nI q9)), (2, .ref (la 0)), (3, .ref (la 1)), (4, .ref (la 2)), (5, .ref (la 3)), (6, .int (q_L g f k)), (7, .int (nI k))] []) q9 (fun k hk ih => ?_) ?_
    · skip
      refine v_iload C dL_leftAt_12 rfl 7 rfl ?_
      refine v_iload_n C dL_leftAt_14 rfl 1 1 rfl rfl ?_
      refine v_icmp_ge C 118 dL_leftAt_15 (by decide) rfl (fun h9 => absurd h9 (nI_ge hk (by omega))) (fun _ => ?_)
      refine v_iload C dL_leftAt_18 rfl 7 rfl ?_
      refine v_iconst (v := 2) C dL_leftAt_20 rfl ic_2 ?_
      refine v_idiv C dL_leftAt_21 rfl (by decide) ?_
      refine v_top (nI (k / 2)) (pk_div (by omega) (by decide) (by decide)) ?_
      refine v_istore (lv' := [(8, _), (0, _), (1, _), (2, _), (3, _), (4, _), (5, _), (6, _), (7, _)]) C dL_leftAt_22 rfl (by decide) rfl ?_
      refine v_iload C dL_leftAt_24 rfl 8 rfl ?_
      refine v_bipush (v := 14) C dL_leftAt_26 rfl bp_14 ?_
      refine v_irem C dL_leftAt_28 rfl (by decide) ?_
      have J59 : VV p l e ({ frames := 1, cells := 0, slots := 0, locals := 23 } : Room) s m args below meth c 0 0 Q (lW la cI) D A s.heap 10 σ 59 [(0, .int (nI f)), (1, .int (nI q9)), (2, .ref (la 0)), (3, .ref (la 1)), (4, .ref (la 2)), (5, .ref (la 3)), (6, .int (q_Y g f k)), (7, .int (nI k)), (8, .int (nI (k / 2)))] [] := by
        refine v_iload C dL_leftAt_59 rfl 7 rfl ?_
        refine v_iconst (v := 2) C dL_leftAt_61 rfl ic_2 ?_
        refine v_irem C dL_leftAt_62 rfl (by decide) ?_
        refine v_top (nI (k % 2)) (pk_rem (by omega) (by decide) (by decide)) ?_
        refine v_if_ne C 74 dL_leftAt_63 (by decide) rfl (fun h63 => ?_) (fun h63f => ?_)
        · skip
          have e63 : ¬ k % 2 = 0 := fun q => h63 (by rw [q]; rfl)
          refine v_aload C dL_leftAt_74 rfl 5 rfl ?_
          refine v_iload C dL_leftAt_76 rfl 8 rfl ?_
          refine v_iald C K 3 0 rfl rfl (k / 2) (rfl) (by omega) (by decide) dL_leftAt_78 rfl ?_
          refine v_top (sh0 (g (46 + k))) (hR.k1 (by omega) e63) ?_
          refine v_iload_n C dL_leftAt_79 rfl 0 0 rfl rfl ?_
          refine v_iconst (v := 1) C dL_leftAt_80 rfl ic_1 ?_
          refine v_iadd C dL_leftAt_81 rfl ?_
          refine v_icmp_ne C 89 dL_leftAt_82 (by decide) rfl (fun h82 => ?_) (fun h82f => ?_)
          · skip
            refine v_iconst (v := 0) C dL_leftAt_89 rfl ic_0 ?_
            refine v_istore (lv' := [(9, _), (0, _), (1, _), (2, _), (3, _), (4, _), (5, _), (6, _), (7, _), (8, _)]) C dL_leftAt_90 rfl (by decide) rfl ?_
            refine v_iload C dL_leftAt_92 rfl 0 rfl ?_
            refine v_if_eq C 112 dL_leftAt_94 (by decide) rfl (fun _ => ?_) (fun h9 => absurd (rfl) h9)
            refine v_iinc (lv' := [(7, _), (9, _), (0, _), (1, _), (2, _), (3, _), (4, _), (5, _), (6, _), (8, _)]) C dL_leftAt_112 rfl 8 rfl (inc9 _) (by decide) rfl ?_
            refine v_goto C 12 dL_leftAt_115 (by decide) ?_
            refine v_lv (lv' := [(0, _), (1, _), (2, _), (3, _), (4, _), (5, _), (6, _), (7, _)]) [2, 3, 4, 5, 6, 7, 8, 0] rfl ?_
            exact v9cast ih rfl (by rw [q_L, if_neg (fun q => h82 ((sh0_f hR.w (by omega) (by omega)).mpr q))]; rfl) rfl
          · skip
            refine v_iconst (v := 1) C dL_leftAt_85 rfl ic_1 ?_
            refine v_goto C 90 dL_leftAt_86 (by decide) ?_
            refine v_istore (lv' := [(9, _), (0, _), (1, _), (2, _), (3, _), (4, _), (5, _), (6, _), (7, _), (8, _)]) C dL_leftAt_90 rfl (by decide) rfl ?_
            refine v_iload C dL_leftAt_92 rfl 0 rfl ?_
            refine v_if_eq C 112 dL_leftAt_94 (by decide) rfl (fun h9 => absurd h9 (by decide)) (fun _ => ?_)
            refine v_iload C dL_leftAt_97 rfl 7 rfl ?_
            refine v_iload C dL_leftAt_99 rfl 7 rfl ?_
            refine v_iload C dL_leftAt_101 rfl 8 rfl ?_
            refine v_iconst (v := 2) C dL_leftAt_103 rfl ic_2 ?_
            refine v_irem C dL_leftAt_104 rfl (by decide) ?_
            refine v_top (nI (k % 2)) (pk_rem (by omega) (by decide) (by decide)) ?_
            refine v_aload_n C dL_leftAt_105 rfl 2 3 rfl rfl ?_
            refine v_callSid C K (c_L_coming l D la cI cC cZ cQ _ g (fun i hi => hR.q hi) (q_Y g f k) k) gL_leftAt_L_coming rfl hd_L_coming.2 ⟨rfl, rfl⟩ ⟨Nat.le_of_ble_eq_true rfl, Nat.le_of_ble_eq_true rfl⟩ rfl rfl (Nat.le_of_ble_eq_true rfl) ⟨Nat.le_refl _, Nat.le_refl _⟩ dL_leftAt_106 rfl ?_
            refine v_isub C dL_leftAt_109 rfl ?_
            refine v_istore (lv' := [(6, _), (9, _), (0, _), (1, _), (2, _), (3, _), (4, _), (5, _), (7, _), (8, _)]) C dL_leftAt_110 rfl (by decide) rfl ?_
            refine v_iinc (lv' := [(7, _), (6, _), (9, _), (0, _), (1, _), (2, _), (3, _), (4, _), (5, _), (8, _)]) C dL_leftAt_112 rfl 8 rfl (inc9 _) (by decide) rfl ?_
            refine v_goto C 12 dL_leftAt_115 (by decide) ?_
            refine v_lv (lv' := [(0, _), (1, _), (2, _), (3, _), (4, _), (5, _), (6, _), (7, _)]) [3, 4, 5, 6, 7, 8, 1, 0] rfl ?_
            exact v9cast ih rfl (by rw [q_L, if_pos ((sh0_f hR.w (by omega) (by omega)).mp h82f)]; rfl) rfl
        · skip
          have e63 : k % 2 = 0 := nI_inj (b := 0) (by omega) (by omega) h63f
          refine v_aload C dL_leftAt_66 rfl 4 rfl ?_
          refine v_iload C dL_leftAt_68 rfl 8 rfl ?_
          refine v_iald C K 2 0 rfl rfl (k / 2) (rfl) (by omega) (by decide) dL_leftAt_70 rfl ?_
          refine v_goto C 79 dL_leftAt_71 (by decide) ?_
          refine v_top (sh0 (g (46 + k))) (hR.k (by omega) e63) ?_
          refine v_iload_n C dL_leftAt_79 rfl 0 0 rfl rfl ?_
          refine v_iconst (v := 1) C dL_leftAt_80 rfl ic_1 ?_
          refine v_iadd C dL_leftAt_81 rfl ?_
          refine v_icmp_ne C 89 dL_leftAt_82 (by decide) rfl (fun h82 => ?_) (fun h82f => ?_)
          · skip
            refine v_iconst (v := 0) C dL_leftAt_89 rfl ic_0 ?_
            refine v_istore (lv' := [(9, _), (0, _), (1, _), (2, _), (3, _), (4, _), (5, _), (6, _), (7, _), (8, _)]) C dL_leftAt_90 rfl (by decide) rfl ?_
            refine v_iload C dL_leftAt_92 rfl 0 rfl ?_
            refine v_if_eq C 112 dL_leftAt_94 (by decide) rfl (fun _ => ?_) (fun h9 => absurd (rfl) h9)
            refine v_iinc (lv' := [(7, _), (9, _), (0, _), (1, _), (2, _), (3, _), (4, _), (5, _), (6, _), (8, _)]) C dL_leftAt_112 rfl 8 rfl (inc9 _) (by decide) rfl ?_
            refine v_goto C 12 dL_leftAt_115 (by decide) ?_
            refine v_lv (lv' := [(0, _), (1, _), (2, _), (3, _), (4, _), (5, _), (6, _), (7, _)]) [2, 3, 4, 5, 6, 7, 8, 0] rfl ?_
            exact v9cast ih rfl (by rw [q_L, if_neg (fun q => h82 ((sh0_f hR.w (by omega) (by omega)).mpr q))]; rfl) rfl
          · skip
            refine v_iconst (v := 1) C dL_leftAt_85 rfl ic_1 ?_
            refine v_goto C 90 dL_leftAt_86 (by decide) ?_
            refine v_istore (lv' := [(9, _), (0, _), (1, _), (2, _), (3, _), (4, _), (5, _), (6, _), (7, _), (8, _)]) C dL_leftAt_90 rfl (by decide) rfl ?_
            refine v_iload C dL_leftAt_92 rfl 0 rfl ?_
            refine v_if_eq C 112 dL_leftAt_94 (by decide) rfl (fun h9 => absurd h9 (by decide)) (fun _ => ?_)
            refine v_iload C dL_leftAt_97 rfl 7 rfl ?_
            refine v_iload C dL_leftAt_99 rfl 7 rfl ?_
            refine v_iload C dL_leftAt_101 rfl 8 rfl ?_
            refine v_iconst (v := 2) C dL_leftAt_103 rfl ic_2 ?_
            refine v_irem C dL_leftAt_104 rfl (by decide) ?_
            refine v_top (nI (k % 2)) (pk_rem (by omega) (by decide) (by decide)) ?_
            refine v_aload_n C dL_leftAt_105 rfl 2 3 rfl rfl ?_
            refine v_callSid C K (c_L_coming l D la cI cC cZ cQ _ g (fun i hi => hR.q hi) (q_Y g f k) k) gL_leftAt_L_coming rfl hd_L_coming.2 ⟨rfl, rfl⟩ ⟨Nat.le_of_ble_eq_true rfl, Nat.le_of_ble_eq_true rfl⟩ rfl rfl (Nat.le_of_ble_eq_true rfl) ⟨Nat.le_refl _, Nat.le_refl _⟩ dL_leftAt_106 rfl ?_
            refine v_isub C dL_leftAt_109 rfl ?_
            refine v_istore (lv' := [(6, _), (9, _), (0, _), (1, _), (2, _), (3, _), (4, _), (5, _), (7, _), (8, _)]) C dL_leftAt_110 rfl (by decide) rfl ?_
            refine v_iinc (lv' := [(7, _), (6, _), (9, _), (0, _), (1, _), (2, _), (3, _), (4, _), (5, _), (8, _)]) C dL_leftAt_112 rfl 8 rfl (inc9 _) (by decide) rfl ?_
            refine v_goto C 12 dL_leftAt_115 (by decide) ?_
            refine v_lv (lv' := [(0, _), (1, _), (2, _), (3, _), (4, _), (5, _), (6, _), (7, _)]) [3, 4, 5, 6, 7, 8, 1, 0] rfl ?_
            exact v9cast ih rfl (by rw [q_L, if_pos ((sh0_f hR.w (by omega) (by omega)).mp h82f)]; rfl) rfl
      refine v_top (nI (k % 14)) (pk_rem (by omega) (by decide) (by decide)) ?_
      refine v_if_ne C 59 dL_leftAt_29 (by decide) rfl (fun h29 => ?_) (fun h29f => ?_)
      · skip
        have e29 : ¬ k % 14 = 0 := fun q => h29 (by rw [q]; rfl)
        refine v_lv (lv' := [(0, _), (1, _), (2, _), (3, _), (4, _), (5, _), (6, _), (7, _), (8, _)]) [1, 2, 3, 4, 5, 6, 7, 8, 0] rfl ?_
        exact v9cast J59 rfl (by simp [q_Y, q_pre, q_fade, e29]) rfl
      · skip
        have e29 : k % 14 = 0 := nI_inj (b := 0) (by omega) (by omega) h29f
        refine v_iload C dL_leftAt_32 rfl 0 rfl ?_
        refine v_bipush (v := 7) C dL_leftAt_34 rfl bp_7 ?_
        refine v_idiv C dL_leftAt_36 rfl (by decide) ?_
        refine v_top (nI (k / 14)) (by rw [show k / 14 = k / 2 / 7 by omega]; exact pk_div (by omega) (by decide) (by decide)) ?_
        refine v_aload_n C dL_leftAt_37 rfl 3 4 rfl rfl ?_
        refine v_iconst (v := 5) C dL_leftAt_38 rfl ic_5 ?_
        refine v_iload_n C dL_leftAt_39 rfl 0 1 rfl rfl ?_
        refine v_imul C dL_leftAt_40 rfl ?_
        refine v_iconst (v := 4) C dL_leftAt_41 rfl ic_4 ?_
        refine v_iadd C dL_leftAt_42 rfl ?_
        refine v_iald C K 1 0 rfl rfl (5 * f + 4) (ix5 f 4) (by omega) (by decide) dL_leftAt_43 rfl ?_
        refine v_top (g (6 + 5 * f + 4)) (hR.f 4 hf (by decide)) ?_
        refine v_bipush (v := 7) C dL_leftAt_44 rfl bp_7 ?_
        refine v_idiv C dL_leftAt_46 rfl (by decide) ?_
        refine v_icmp_le C 59 dL_leftAt_47 (by decide) rfl (fun h47 => ?_) (fun h47f => ?_)
        · skip
          refine v_lv (lv' := [(0, _), (1, _), (2, _), (3, _), (4, _), (5, _), (6, _), (7, _), (8, _)]) [1, 2, 3, 4, 5, 6, 7, 8, 0] rfl ?_
          exact v9cast J59 rfl (by simp [q_Y, q_pre, q_fade, e29, h47]) rfl
        · skip
          refine v_iload C dL_leftAt_50 rfl 7 rfl ?_
          refine v_iload C dL_leftAt_52 rfl 7 rfl ?_
          refine v_iconst (v := 4) C dL_leftAt_54 rfl ic_4 ?_
          refine v_idiv C dL_leftAt_55 rfl (by decide) ?_
          refine v_isub C dL_leftAt_56 rfl ?_
          refine v_istore (lv' := [(6, _), (8, _), (0, _), (1, _), (2, _), (3, _), (4, _), (5, _), (7, _)]) C dL_leftAt_57 rfl (by decide) rfl ?_
          refine v_lv (lv' := [(0, _), (1, _), (2, _), (3, _), (4, _), (5, _), (6, _), (7, _), (8, _)]) [2, 3, 4, 5, 6, 7, 0, 8, 1] rfl ?_
          exact v9cast J59 rfl (by simp [q_Y, q_pre, q_fade, e29, h47f]) rfl
    · skip
      refine v_iload C dL_leftAt_12 rfl 7 rfl ?_
      refine v_iload_n C dL_leftAt_14 rfl 1 1 rfl rfl ?_
      refine v_icmp_ge C 118 dL_leftAt_15 (by decide) rfl (fun _ => ?_) (fun h9 => absurd (nI_le (Nat.le_refl _) (by omega)) h9)
      refine v_iload_n C dL_leftAt_118 rfl 1 1 rfl rfl ?_
      refine v_bipush (v := 14) C dL_leftAt_119 rfl bp_14 ?_
      refine v_irem C dL_leftAt_121 rfl (by decide) ?_
      refine v_top (nI (q9 % 14)) (pk_rem (by omega) (by decide) (by decide)) ?_
      refine v_if_ne C 157 dL_leftAt_122 (by decide) rfl (fun h122 => ?_) (fun h122f => ?_)
      · skip
        have e122 : ¬ q9 % 14 = 0 := fun q => h122 (by rw [q]; rfl)
        refine v_iload C dL_leftAt_157 rfl 6 rfl ?_
        exact hend (⟨by simp [q_LA, q_Y, q_pre, q_fade, e122], rfl⟩) (rfl) dL_leftAt_159
      · skip
        have e122 : q9 % 14 = 0 := nI_inj (b := 0) (by omega) (by omega) h122f
        refine v_iload_n C dL_leftAt_125 rfl 1 1 rfl rfl ?_
        refine v_bipush (v := 70) C dL_leftAt_126 rfl bp_70 ?_
        refine v_icmp_ge C 157 dL_leftAt_128 (by decide) rfl (fun h128 => ?_) (fun h128f => ?_)
        · skip
          have e128 : ¬ q9 < 70 := fun q => nI_ge q (by omega) h128
          refine v_iload C dL_leftAt_157 rfl 6 rfl ?_
          exact hend (⟨by simp [q_LA, q_Y, q_pre, q_fade, e122, e128], rfl⟩) (rfl) dL_leftAt_159
        · skip
          have e128 : q9 < 70 := by
            rcases Nat.lt_or_ge q9 70 with q | q
            · exact q
            · exact absurd (nI_le q (by omega)) h128f
          refine v_iload_n C dL_leftAt_131 rfl 1 1 rfl rfl ?_
          refine v_bipush (v := 14) C dL_leftAt_132 rfl bp_14 ?_
          refine v_idiv C dL_leftAt_134 rfl (by decide) ?_
          refine v_top (nI (q9 / 14)) (pk_div (by omega) (by decide) (by decide)) ?_
          refine v_aload_n C dL_leftAt_135 rfl 3 3 rfl rfl ?_
          refine v_iconst (v := 5) C dL_leftAt_136 rfl ic_5 ?_
          refine v_iload_n C dL_leftAt_137 rfl 0 0 rfl rfl ?_
          refine v_imul C dL_leftAt_138 rfl ?_
          refine v_iconst (v := 4) C dL_leftAt_139 rfl ic_4 ?_
          refine v_iadd C dL_leftAt_140 rfl ?_
          refine v_iald C K 1 0 rfl rfl (5 * f + 4) (ix5 f 4) (by omega) (by decide) dL_leftAt_141 rfl ?_
          refine v_top (g (6 + 5 * f + 4)) (hR.f 4 hf (by decide)) ?_
          refine v_bipush (v := 7) C dL_leftAt_142 rfl bp_7 ?_
          refine v_idiv C dL_leftAt_144 rfl (by decide) ?_
          refine v_icmp_le C 157 dL_leftAt_145 (by decide) rfl (fun h145 => ?_) (fun h145f => ?_)
          · skip
            refine v_iload C dL_leftAt_157 rfl 6 rfl ?_
            exact hend (⟨by simp [q_LA, q_Y, q_pre, q_fade, e122, e128, h145], rfl⟩) (rfl) dL_leftAt_159
          · skip
            refine v_iload C dL_leftAt_148 rfl 6 rfl ?_
            refine v_iload C dL_leftAt_150 rfl 6 rfl ?_
            refine v_iconst (v := 4) C dL_leftAt_152 rfl ic_4 ?_
            refine v_idiv C dL_leftAt_153 rfl (by decide) ?_
            refine v_isub C dL_leftAt_154 rfl ?_
            refine v_istore (lv' := [(6, _), (0, _), (1, _), (2, _), (3, _), (4, _), (5, _), (7, _)]) C dL_leftAt_155 rfl (by decide) rfl ?_
            refine v_iload C dL_leftAt_157 rfl 0 rfl ?_
            exact hend (⟨by simp [q_LA, q_Y, q_pre, q_fade, e122, e128, h145f], rfl⟩) (rfl) dL_leftAt_159
  refine v_lv (lv' := [(0, _), (1, _), (2, _), (3, _), (4, _), (5, _), (6, _), (7, _)]) [2, 3, 4, 5, 6, 7, 1, 0] rfl ?_
  exact LP12 0 (Nat.zero_le _)
set_option maxHeartbeats 4000000 in
set_option maxRecDepth 100000 in
theorem c_L_people (l : Launch) (D : va_G) (la : Nat → Nat) (cI cC cZ cQ : ClassId) (σ : S9) (g : Nat → Int32) (n : Nat) (hR : LR g n σ) (d p9 : Nat) (hd : d < 35) (hp : p9 < 2) : CMi l (lW la cI) D (cTy cI cC cZ cQ) yL_people wsL_people ({ frames := 2, cells := 0, slots := 0, locals := 52 } : Room) [.int (nI d), .int (nI p9), .ref (la 0), .ref (la 1), .ref (la 2), .ref (la 3)] σ (fun r u => r = q_ppa g (2 * d + p9) ∧ u = σ) := by
  refine v_starti (own := RL) (cc := cL_people) (nL := 7) rfl (by decide) rfl (Nat.le_of_ble_eq_true rfl) ?_
  intro p e s m args below meth c A Q C K hend
  refine v_lv (lv' := [(0, .int (nI d)), (1, .int (nI p9)), (2, .ref (la 0)), (3, .ref (la 1)), (4, .ref (la 2)), (5, .ref (la 3))]) [0, 1, 2, 3, 4, 5] rfl ?_
  have hn8 := hR.n8
  have hk9 : 2 * d + p9 < 70 := by omega
  refine v_iload_n C dL_people_0 rfl 0 0 rfl rfl ?_
  refine v_iload_n C dL_people_1 rfl 1 1 rfl rfl ?_
  refine v_aload C dL_people_2 rfl 4 rfl ?_
  refine v_aload C dL_people_4 rfl 5 rfl ?_
  refine v_callSid C K (c_L_film l D la cI cC cZ cQ _ g n hR d p9 hd hp) gL_people_L_film rfl hd_L_film.2 ⟨rfl, rfl⟩ ⟨Nat.le_of_ble_eq_true rfl, Nat.le_of_ble_eq_true rfl⟩ rfl rfl (Nat.le_of_ble_eq_true rfl) ⟨Nat.le_refl _, Nat.le_refl _⟩ dL_people_6 rfl ?_
  refine v_istore (lv' := [(6, _), (0, _), (1, _), (2, _), (3, _), (4, _), (5, _)]) C dL_people_9 rfl (by decide) rfl ?_
  refine v_iload C dL_people_11 rfl 0 rfl ?_
  refine v_if_ge C 20 dL_people_13 (by decide) rfl (fun h13 => ?_) (fun h13f => ?_)
  · skip
    obtain ⟨f, hf, ef, e6⟩ := fl0_ge hR.w hk9 h13
    refine v_iload C dL_people_20 rfl 0 rfl ?_
    refine v_top (nI f) (e6) ?_
    refine v_iconst (v := 2) C dL_people_22 rfl ic_2 ?_
    refine v_iload_n C dL_people_23 rfl 0 1 rfl rfl ?_
    refine v_imul C dL_people_24 rfl ?_
    refine v_iload_n C dL_people_25 rfl 1 2 rfl rfl ?_
    refine v_iadd C dL_people_26 rfl ?_
    refine v_top (nI (2 * d + p9)) (ix2 d p9) ?_
    refine v_aload_n C dL_people_27 rfl 2 3 rfl rfl ?_
    refine v_aload_n C dL_people_28 rfl 3 4 rfl rfl ?_
    refine v_aload C dL_people_29 rfl 5 rfl ?_
    refine v_aload C dL_people_31 rfl 6 rfl ?_
    refine v_callSid C K (c_L_leftAt l D la cI cC cZ cQ _ g n hR f (2 * d + p9) hf (by omega)) gL_people_L_leftAt rfl hd_L_leftAt.2 ⟨rfl, rfl⟩ ⟨Nat.le_of_ble_eq_true rfl, Nat.le_of_ble_eq_true rfl⟩ rfl rfl (Nat.le_of_ble_eq_true rfl) ⟨Nat.le_refl _, Nat.le_refl _⟩ dL_people_33 rfl ?_
    refine v_top (q_Y g f (2 * d + p9)) (if_pos hk9) ?_
    refine v_iload_n C dL_people_36 rfl 1 2 rfl rfl ?_
    refine v_top (nI ((2 * d + p9) % 2)) (by rw [show (2 * d + p9) % 2 = p9 by omega]) ?_
    refine v_aload_n C dL_people_37 rfl 2 3 rfl rfl ?_
    refine v_callSid C K (c_L_coming l D la cI cC cZ cQ _ g (fun i hi => hR.q hi) (q_Y g f (2 * d + p9)) (2 * d + p9)) gL_people_L_coming rfl hd_L_coming.2 ⟨rfl, rfl⟩ ⟨Nat.le_of_ble_eq_true rfl, Nat.le_of_ble_eq_true rfl⟩ rfl rfl (Nat.le_of_ble_eq_true rfl) ⟨Nat.le_refl _, Nat.le_refl _⟩ dL_people_38 rfl ?_
    exact hend (⟨ppa_f (n := n) (by omega) ef, rfl⟩) (rfl) dL_people_41
  · skip
    have e6 := fl0_n hR.w hk9 h13f
    refine v_iconst (v := 0) C dL_people_16 rfl ic_0 ?_
    refine v_goto C 41 dL_people_17 (by decide) ?_
    exact hend (⟨ppa_n e6, rfl⟩) (rfl) dL_people_41
set_option maxHeartbeats 4000000 in
set_option maxRecDepth 100000 in
theorem c_L_shows (l : Launch) (D : va_G) (la : Nat → Nat) (cI cC cZ cQ : ClassId) (σ : S9) (g : Nat → Int32) (n : Nat) (hR : LR g n σ) (f w : Nat) (hf : f < n) (hw : w < 5) : CMi l (lW la cI) D (cTy cI cC cZ cQ) yL_shows wsL_shows ({ frames := 0, cells := 0, slots := 0, locals := 0 } : Room) [.int (nI f), .int (nI w), .ref (la 2), .ref (la 3)] σ (fun r u => r = q_S g f w ∧ u = σ) := by
  refine v_starti (own := RL) (cc := cL_shows) (nL := 6) rfl (by decide) rfl (Nat.le_of_ble_eq_true rfl) ?_
  intro p e s m args below meth c A Q C K hend
  refine v_lv (lv' := [(0, .int (nI f)), (1, .int (nI w)), (2, .ref (la 2)), (3, .ref (la 3))]) [0, 1, 2, 3] rfl ?_
  have hn8 := hR.n8
  refine v_iconst (v := 0) C dL_shows_0 rfl ic_0 ?_
  refine v_istore (lv' := [(4, _), (0, _), (1, _), (2, _), (3, _)]) C dL_shows_1 rfl (by decide) rfl ?_
  refine v_bipush (v := 7) C dL_shows_3 rfl bp_7 ?_
  refine v_iload_n C dL_shows_5 rfl 1 2 rfl rfl ?_
  refine v_imul C dL_shows_6 rfl ?_
  refine v_top (nI (7 * w)) (ix70 w) ?_
  refine v_istore (lv' := [(5, _), (4, _), (0, _), (1, _), (2, _), (3, _)]) C dL_shows_7 rfl (by decide) rfl ?_
  have LP9 : ∀ j, j ≤ 7 → VV p l e ({ frames := 0, cells := 0, slots := 0, locals := 0 } : Room) s m args below meth c 0 0 Q (lW la cI) D A s.heap 6 σ 9 [(0, .int (nI f)), (1, .int (nI w)), (2, .ref (la 2)), (3, .ref (la 3)), (4, .int (sm9 (q_ct g f w) (2 * (7 * w + j)))), (5, .int (nI (7 * w + j)))] [] := by
    refine lpB9 (fun j => VV p l e ({ frames := 0, cells := 0, slots := 0, locals := 0 } : Room) s m args below meth c 0 0 Q (lW la cI) D A s.heap 6 σ 9 [(0, .int (nI f)), (1, .int (nI w)), (2, .ref (la 2)), (3, .ref (la 3)), (4, .int (sm9 (q_ct g f w) (2 * (7 * w + j)))), (5, .int (nI (7 * w + j)))] []) 7 (fun j hj ih => ?_) ?_
    · skip
      refine v_iload C dL_shows_9 rfl 5 rfl ?_
      refine v_bipush (v := 7) C dL_shows_11 rfl bp_7 ?_
      refine v_iload_n C dL_shows_13 rfl 1 1 rfl rfl ?_
      refine v_imul C dL_shows_14 rfl ?_
      refine v_bipush (v := 7) C dL_shows_15 rfl bp_7 ?_
      refine v_iadd C dL_shows_17 rfl ?_
      refine v_top (nI (7 * w + 7)) (ix7 w 7) ?_
      refine v_icmp_ge C 63 dL_shows_18 (by decide) rfl (fun h9 => absurd h9 (nI_ge (show 7 * w + j < 7 * w + 7 by omega) (by omega))) (fun _ => ?_)
      refine v_iload C dL_shows_21 rfl 4 rfl ?_
      refine v_aload_n C dL_shows_23 rfl 2 2 rfl rfl ?_
      refine v_iload C dL_shows_24 rfl 5 rfl ?_
      refine v_iald C K 2 0 rfl rfl (7 * w + j) (rfl) (by omega) (by decide) dL_shows_26 rfl ?_
      refine v_top (sh0 (g (46 + 2 * (7 * w + j)))) (hR.a (by omega)) ?_
      refine v_iload_n C dL_shows_27 rfl 0 0 rfl rfl ?_
      refine v_iconst (v := 1) C dL_shows_28 rfl ic_1 ?_
      refine v_iadd C dL_shows_29 rfl ?_
      refine v_icmp_ne C 37 dL_shows_30 (by decide) rfl (fun h30 => ?_) (fun h30f => ?_)
      · skip
        refine v_iconst (v := 0) C dL_shows_37 rfl ic_0 ?_
        refine v_top (q_ct g f w (2 * (7 * w + j))) ((if_neg (fun q => h30 ((sh0_f hR.w (by omega) (by omega)).mpr q.1))).symm) ?_
        refine v_aload_n C dL_shows_38 rfl 3 3 rfl rfl ?_
        refine v_iload C dL_shows_39 rfl 5 rfl ?_
        refine v_iald C K 3 0 rfl rfl (7 * w + j) (rfl) (by omega) (by decide) dL_shows_41 rfl ?_
        refine v_top (sh0 (g (46 + (2 * (7 * w + j) + 1)))) (hR.e (by omega)) ?_
        refine v_iload_n C dL_shows_42 rfl 0 0 rfl rfl ?_
        refine v_iconst (v := 1) C dL_shows_43 rfl ic_1 ?_
        refine v_iadd C dL_shows_44 rfl ?_
        refine v_icmp_ne C 52 dL_shows_45 (by decide) rfl (fun h45 => ?_) (fun h45f => ?_)
        · skip
          refine v_iconst (v := 0) C dL_shows_52 rfl ic_0 ?_
          refine v_top (q_ct g f w (2 * (7 * w + j) + 1)) ((if_neg (fun q => h45 ((sh0_f hR.w (by omega) (by omega)).mpr q.1))).symm) ?_
          refine v_iadd C dL_shows_53 rfl ?_
          refine v_iadd C dL_shows_54 rfl ?_
          refine v_top (sm9 (q_ct g f w) (2 * (7 * w + (j + 1)))) (by rw [show 2 * (7 * w + (j + 1)) = 2 * (7 * w + j) + 1 + 1 by omega, sm9, sm9, Int32.add_assoc]) ?_
          refine v_istore (lv' := [(4, _), (0, _), (1, _), (2, _), (3, _), (5, _)]) C dL_shows_55 rfl (by decide) rfl ?_
          refine v_iinc (lv' := [(5, _), (4, _), (0, _), (1, _), (2, _), (3, _)]) C dL_shows_57 rfl 5 rfl (inc9 _) (by decide) rfl ?_
          refine v_goto C 9 dL_shows_60 (by decide) ?_
          refine v_lv (lv' := [(0, _), (1, _), (2, _), (3, _), (4, _), (5, _)]) [2, 3, 4, 5, 1, 0] rfl ?_
          exact ih
        · skip
          refine v_iconst (v := 1) C dL_shows_48 rfl ic_1 ?_
          refine v_goto C 53 dL_shows_49 (by decide) ?_
          refine v_top (q_ct g f w (2 * (7 * w + j) + 1)) ((if_pos ⟨(sh0_f hR.w (by omega) (by omega)).mp h45f, by omega⟩).symm) ?_
          refine v_iadd C dL_shows_53 rfl ?_
          refine v_iadd C dL_shows_54 rfl ?_
          refine v_top (sm9 (q_ct g f w) (2 * (7 * w + (j + 1)))) (by rw [show 2 * (7 * w + (j + 1)) = 2 * (7 * w + j) + 1 + 1 by omega, sm9, sm9, Int32.add_assoc]) ?_
          refine v_istore (lv' := [(4, _), (0, _), (1, _), (2, _), (3, _), (5, _)]) C dL_shows_55 rfl (by decide) rfl ?_
          refine v_iinc (lv' := [(5, _), (4, _), (0, _), (1, _), (2, _), (3, _)]) C dL_shows_57 rfl 5 rfl (inc9 _) (by decide) rfl ?_
          refine v_goto C 9 dL_shows_60 (by decide) ?_
          refine v_lv (lv' := [(0, _), (1, _), (2, _), (3, _), (4, _), (5, _)]) [2, 3, 4, 5, 1, 0] rfl ?_
          exact ih
      · skip
        refine v_iconst (v := 1) C dL_shows_33 rfl ic_1 ?_
        refine v_goto C 38 dL_shows_34 (by decide) ?_
        refine v_top (q_ct g f w (2 * (7 * w + j))) ((if_pos ⟨(sh0_f hR.w (by omega) (by omega)).mp h30f, by omega⟩).symm) ?_
        refine v_aload_n C dL_shows_38 rfl 3 3 rfl rfl ?_
        refine v_iload C dL_shows_39 rfl 5 rfl ?_
        refine v_iald C K 3 0 rfl rfl (7 * w + j) (rfl) (by omega) (by decide) dL_shows_41 rfl ?_
        refine v_top (sh0 (g (46 + (2 * (7 * w + j) + 1)))) (hR.e (by omega)) ?_
        refine v_iload_n C dL_shows_42 rfl 0 0 rfl rfl ?_
        refine v_iconst (v := 1) C dL_shows_43 rfl ic_1 ?_
        refine v_iadd C dL_shows_44 rfl ?_
        refine v_icmp_ne C 52 dL_shows_45 (by decide) rfl (fun h45 => ?_) (fun h45f => ?_)
        · skip
          refine v_iconst (v := 0) C dL_shows_52 rfl ic_0 ?_
          refine v_top (q_ct g f w (2 * (7 * w + j) + 1)) ((if_neg (fun q => h45 ((sh0_f hR.w (by omega) (by omega)).mpr q.1))).symm) ?_
          refine v_iadd C dL_shows_53 rfl ?_
          refine v_iadd C dL_shows_54 rfl ?_
          refine v_top (sm9 (q_ct g f w) (2 * (7 * w + (j + 1)))) (by rw [show 2 * (7 * w + (j + 1)) = 2 * (7 * w + j) + 1 + 1 by omega, sm9, sm9, Int32.add_assoc]) ?_
          refine v_istore (lv' := [(4, _), (0, _), (1, _), (2, _), (3, _), (5, _)]) C dL_shows_55 rfl (by decide) rfl ?_
          refine v_iinc (lv' := [(5, _), (4, _), (0, _), (1, _), (2, _), (3, _)]) C dL_shows_57 rfl 5 rfl (inc9 _) (by decide) rfl ?_
          refine v_goto C 9 dL_shows_60 (by decide) ?_
          refine v_lv (lv' := [(0, _), (1, _), (2, _), (3, _), (4, _), (5, _)]) [2, 3, 4, 5, 1, 0] rfl ?_
          exact ih
        · skip
          refine v_iconst (v := 1) C dL_shows_48 rfl ic_1 ?_
          refine v_goto C 53 dL_shows_49 (by decide) ?_
          refine v_top (q_ct g f w (2 * (7 * w + j) + 1)) ((if_pos ⟨(sh0_f hR.w (by omega) (by omega)).mp h45f, by omega⟩).symm) ?_
          refine v_iadd C dL_shows_53 rfl ?_
          refine v_iadd C dL_shows_54 rfl ?_
          refine v_top (sm9 (q_ct g f w) (2 * (7 * w + (j + 1)))) (by rw [show 2 * (7 * w + (j + 1)) = 2 * (7 * w + j) + 1 + 1 by omega, sm9, sm9, Int32.add_assoc]) ?_
          refine v_istore (lv' := [(4, _), (0, _), (1, _), (2, _), (3, _), (5, _)]) C dL_shows_55 rfl (by decide) rfl ?_
          refine v_iinc (lv' := [(5, _), (4, _), (0, _), (1, _), (2, _), (3, _)]) C dL_shows_57 rfl 5 rfl (inc9 _) (by decide) rfl ?_
          refine v_goto C 9 dL_shows_60 (by decide) ?_
          refine v_lv (lv' := [(0, _), (1, _), (2, _), (3, _), (4, _), (5, _)]) [2, 3, 4, 5, 1, 0] rfl ?_
          exact ih
    · skip
      refine v_iload C dL_shows_9 rfl 5 rfl ?_
      refine v_bipush (v := 7) C dL_shows_11 rfl bp_7 ?_
      refine v_iload_n C dL_shows_13 rfl 1 1 rfl rfl ?_
      refine v_imul C dL_shows_14 rfl ?_
      refine v_bipush (v := 7) C dL_shows_15 rfl bp_7 ?_
      refine v_iadd C dL_shows_17 rfl ?_
      refine v_top (nI (7 * w + 7)) (ix7 w 7) ?_
      refine v_icmp_ge C 63 dL_shows_18 (by decide) rfl (fun _ => ?_) (fun h9 => absurd (nI_le (Nat.le_refl _) (by omega)) h9)
      refine v_iload C dL_shows_63 rfl 4 rfl ?_
      exact hend (⟨wk70 hw (ct0 g f w), rfl⟩) (rfl) dL_shows_65
  refine v_lv (lv' := [(0, _), (1, _), (2, _), (3, _), (4, _), (5, _)]) [2, 3, 4, 5, 1, 0] rfl ?_
  exact v9cast (LP9 0 (Nat.zero_le _)) rfl (by rw [Nat.add_zero, wk0 (ct0 g f w)]) rfl
set_option maxHeartbeats 4000000 in
set_option maxRecDepth 100000 in
theorem c_L_takings (l : Launch) (D : va_G) (la : Nat → Nat) (cI cC cZ cQ : ClassId) (σ : S9) (g : Nat → Int32) (n : Nat) (hR : LR g n σ) (f w : Nat) (hf : f < n) (hw : w < 5) : CMi l (lW la cI) D (cTy cI cC cZ cQ) yL_takings wsL_takings ({ frames := 3, cells := 0, slots := 0, locals := 78 } : Room) [.int (nI f), .int (nI w), .ref (la 0), .ref (la 1), .ref (la 2), .ref (la 3)] σ (fun r u => r = q_T g f w ∧ u = σ) := by
  refine v_starti (own := RL) (cc := cL_takings) (nL := 9) rfl (by decide) rfl (Nat.le_of_ble_eq_true rfl) ?_
  intro p e s m args below meth c A Q C K hend
  refine v_lv (lv' := [(0, .int (nI f)), (1, .int (nI w)), (2, .ref (la 0)), (3, .ref (la 1)), (4, .ref (la 2)), (5, .ref (la 3))]) [0, 1, 2, 3, 4, 5] rfl ?_
  have hn8 := hR.n8
  refine v_iconst (v := 0) C dL_takings_0 rfl ic_0 ?_
  refine v_istore (lv' := [(6, _), (0, _), (1, _), (2, _), (3, _), (4, _), (5, _)]) C dL_takings_1 rfl (by decide) rfl ?_
  refine v_bipush (v := 7) C dL_takings_3 rfl bp_7 ?_
  refine v_iload_n C dL_takings_5 rfl 1 2 rfl rfl ?_
  refine v_imul C dL_takings_6 rfl ?_
  refine v_top (nI (7 * w)) (ix70 w) ?_
  refine v_istore (lv' := [(7, _), (6, _), (0, _), (1, _), (2, _), (3, _), (4, _), (5, _)]) C dL_takings_7 rfl (by decide) rfl ?_
  have LP9 : ∀ j, j ≤ 7 → VV p l e ({ frames := 3, cells := 0, slots := 0, locals := 78 } : Room) s m args below meth c 0 0 Q (lW la cI) D A s.heap 9 σ 9 [(0, .int (nI f)), (1, .int (nI w)), (2, .ref (la 0)), (3, .ref (la 1)), (4, .ref (la 2)), (5, .ref (la 3)), (6, .int (sm9 (q_tt g f w) (2 * (7 * w + j)))), (7, .int (nI (7 * w + j)))] [] := by
    refine lpB9 (fun j => VV p l e ({ frames := 3, cells := 0, slots := 0, locals := 78 } : Room) s m args below meth c 0 0 Q (lW la cI) D A s.heap 9 σ 9 [(0, .int (nI f)), (1, .int (nI w)), (2, .ref (la 0)), (3, .ref (la 1)), (4, .ref (la 2)), (5, .ref (la 3)), (6, .int (sm9 (q_tt g f w) (2 * (7 * w + j)))), (7, .int (nI (7 * w + j)))] []) 7 (fun j hj ih => ?_) ?_
    · skip
      refine v_iload C dL_takings_9 rfl 7 rfl ?_
      refine v_bipush (v := 7) C dL_takings_11 rfl bp_7 ?_
      refine v_iload_n C dL_takings_13 rfl 1 1 rfl rfl ?_
      refine v_imul C dL_takings_14 rfl ?_
      refine v_bipush (v := 7) C dL_takings_15 rfl bp_7 ?_
      refine v_iadd C dL_takings_17 rfl ?_
      refine v_top (nI (7 * w + 7)) (ix7 w 7) ?_
      refine v_icmp_ge C 83 dL_takings_18 (by decide) rfl (fun h9 => absurd h9 (nI_ge (show 7 * w + j < 7 * w + 7 by omega) (by omega))) (fun _ => ?_)
      refine v_iconst (v := 0) C dL_takings_21 rfl ic_0 ?_
      refine v_istore (lv' := [(8, _), (0, _), (1, _), (2, _), (3, _), (4, _), (5, _), (6, _), (7, _)]) C dL_takings_22 rfl (by decide) rfl ?_
      have LP24 : ∀ i, i ≤ 2 → VV p l e ({ frames := 3, cells := 0, slots := 0, locals := 78 } : Room) s m args below meth c 0 0 Q (lW la cI) D A s.heap 9 σ 24 [(0, .int (nI f)), (1, .int (nI w)), (2, .ref (la 0)), (3, .ref (la 1)), (4, .ref (la 2)), (5, .ref (la 3)), (6, .int (sm9 (q_tt g f w) (2 * (7 * w + j) + i))), (7, .int (nI (7 * w + j))), (8, .int (nI i))] [] := by
        refine lpB9 (fun i => VV p l e ({ frames := 3, cells := 0, slots := 0, locals := 78 } : Room) s m args below meth c 0 0 Q (lW la cI) D A s.heap 9 σ 24 [(0, .int (nI f)), (1, .int (nI w)), (2, .ref (la 0)), (3, .ref (la 1)), (4, .ref (la 2)), (5, .ref (la 3)), (6, .int (sm9 (q_tt g f w) (2 * (7 * w + j) + i))), (7, .int (nI (7 * w + j))), (8, .int (nI i))] []) 2 (fun i hi ih => ?_) ?_
        · skip
          refine v_iload C dL_takings_24 rfl 8 rfl ?_
          refine v_iconst (v := 2) C dL_takings_26 rfl ic_2 ?_
          refine v_icmp_ge C 77 dL_takings_27 (by decide) rfl (fun h9 => absurd h9 (nI_ge hi (by decide))) (fun _ => ?_)
          refine v_iload C dL_takings_30 rfl 6 rfl ?_
          refine v_iload C dL_takings_32 rfl 7 rfl ?_
          refine v_iload C dL_takings_34 rfl 8 rfl ?_
          refine v_aload C dL_takings_36 rfl 4 rfl ?_
          refine v_aload C dL_takings_38 rfl 5 rfl ?_
          refine v_callSid C K (c_L_film l D la cI cC cZ cQ _ g n hR (7 * w + j) i (by omega) hi) gL_takings_L_film rfl hd_L_film.2 ⟨rfl, rfl⟩ ⟨Nat.le_of_ble_eq_true rfl, Nat.le_of_ble_eq_true rfl⟩ rfl rfl (Nat.le_of_ble_eq_true rfl) ⟨Nat.le_refl _, Nat.le_refl _⟩ dL_takings_40 rfl ?_
          refine v_iload_n C dL_takings_43 rfl 0 0 rfl rfl ?_
          refine v_icmp_ne C 67 dL_takings_44 (by decide) rfl (fun h44 => ?_) (fun h44f => ?_)
          · skip
            refine v_iconst (v := 0) C dL_takings_67 rfl ic_0 ?_
            refine v_top (q_tt g f w (2 * (7 * w + j) + i)) ((if_neg (fun q => h44 ((fl0_f hR.w (by omega) (by omega)).mpr q.1))).symm) ?_
            refine v_iadd C dL_takings_68 rfl ?_
            refine v_istore (lv' := [(6, _), (0, _), (1, _), (2, _), (3, _), (4, _), (5, _), (7, _), (8, _)]) C dL_takings_69 rfl (by decide) rfl ?_
            refine v_iinc (lv' := [(8, _), (6, _), (0, _), (1, _), (2, _), (3, _), (4, _), (5, _), (7, _)]) C dL_takings_71 rfl 8 rfl (inc9 _) (by decide) rfl ?_
            refine v_goto C 24 dL_takings_74 (by decide) ?_
            refine v_lv (lv' := [(0, _), (1, _), (2, _), (3, _), (4, _), (5, _), (6, _), (7, _), (8, _)]) [2, 3, 4, 5, 6, 7, 1, 8, 0] rfl ?_
            exact ih
          · skip
            refine v_iload C dL_takings_47 rfl 7 rfl ?_
            refine v_iload C dL_takings_49 rfl 8 rfl ?_
            refine v_aload_n C dL_takings_51 rfl 2 2 rfl rfl ?_
            refine v_aload_n C dL_takings_52 rfl 3 3 rfl rfl ?_
            refine v_aload C dL_takings_53 rfl 4 rfl ?_
            refine v_aload C dL_takings_55 rfl 5 rfl ?_
            refine v_callSid C K (c_L_people l D la cI cC cZ cQ _ g n hR (7 * w + j) i (by omega) hi) gL_takings_L_people rfl hd_L_people.2 ⟨rfl, rfl⟩ ⟨Nat.le_of_ble_eq_true rfl, Nat.le_of_ble_eq_true rfl⟩ rfl rfl (Nat.le_of_ble_eq_true rfl) ⟨Nat.le_refl _, Nat.le_refl _⟩ dL_takings_57 rfl ?_
            refine v_aload_n C dL_takings_60 rfl 2 2 rfl rfl ?_
            refine v_iconst (v := 1) C dL_takings_61 rfl ic_1 ?_
            refine v_iald C K 0 0 rfl rfl (1) (rfl) (by omega) (by decide) dL_takings_62 rfl ?_
            refine v_top (g 1) (hR.q (by decide)) ?_
            refine v_imul C dL_takings_63 rfl ?_
            refine v_goto C 68 dL_takings_64 (by decide) ?_
            refine v_top (q_tt g f w (2 * (7 * w + j) + i)) ((if_pos ⟨(fl0_f hR.w (by omega) (by omega)).mp h44f, by omega⟩).symm) ?_
            refine v_iadd C dL_takings_68 rfl ?_
            refine v_istore (lv' := [(6, _), (0, _), (1, _), (2, _), (3, _), (4, _), (5, _), (7, _), (8, _)]) C dL_takings_69 rfl (by decide) rfl ?_
            refine v_iinc (lv' := [(8, _), (6, _), (0, _), (1, _), (2, _), (3, _), (4, _), (5, _), (7, _)]) C dL_takings_71 rfl 8 rfl (inc9 _) (by decide) rfl ?_
            refine v_goto C 24 dL_takings_74 (by decide) ?_
            refine v_lv (lv' := [(0, _), (1, _), (2, _), (3, _), (4, _), (5, _), (6, _), (7, _), (8, _)]) [2, 3, 4, 5, 6, 7, 1, 8, 0] rfl ?_
            exact ih
        · skip
          refine v_iload C dL_takings_24 rfl 8 rfl ?_
          refine v_iconst (v := 2) C dL_takings_26 rfl ic_2 ?_
          refine v_icmp_ge C 77 dL_takings_27 (by decide) rfl (fun _ => ?_) (fun h9 => absurd (nI_le (Nat.le_refl _) (by decide)) h9)
          refine v_iinc (lv' := [(7, _), (0, _), (1, _), (2, _), (3, _), (4, _), (5, _), (6, _), (8, _)]) C dL_takings_77 rfl 7 rfl (inc9 _) (by decide) rfl ?_
          refine v_goto C 9 dL_takings_80 (by decide) ?_
          refine v_lv (lv' := [(0, _), (1, _), (2, _), (3, _), (4, _), (5, _), (6, _), (7, _)]) [1, 2, 3, 4, 5, 6, 7, 0] rfl ?_
          exact v9cast ih rfl (by rw [show 2 * (7 * w + (j + 1)) = 2 * (7 * w + j) + 2 by omega]; rfl) rfl
      refine v_lv (lv' := [(0, _), (1, _), (2, _), (3, _), (4, _), (5, _), (6, _), (7, _), (8, _)]) [1, 2, 3, 4, 5, 6, 7, 8, 0] rfl ?_
      exact LP24 0 (by omega)
    · skip
      refine v_iload C dL_takings_9 rfl 7 rfl ?_
      refine v_bipush (v := 7) C dL_takings_11 rfl bp_7 ?_
      refine v_iload_n C dL_takings_13 rfl 1 1 rfl rfl ?_
      refine v_imul C dL_takings_14 rfl ?_
      refine v_bipush (v := 7) C dL_takings_15 rfl bp_7 ?_
      refine v_iadd C dL_takings_17 rfl ?_
      refine v_top (nI (7 * w + 7)) (ix7 w 7) ?_
      refine v_icmp_ge C 83 dL_takings_18 (by decide) rfl (fun _ => ?_) (fun h9 => absurd (nI_le (Nat.le_refl _) (by omega)) h9)
      refine v_iload C dL_takings_83 rfl 6 rfl ?_
      exact hend (⟨wk70 hw (tt0 g f w), rfl⟩) (rfl) dL_takings_85
  refine v_lv (lv' := [(0, _), (1, _), (2, _), (3, _), (4, _), (5, _), (6, _), (7, _)]) [2, 3, 4, 5, 6, 7, 1, 0] rfl ?_
  exact v9cast (LP9 0 (Nat.zero_le _)) rfl (by rw [Nat.add_zero, wk0 (tt0 g f w)]) rfl
set_option maxHeartbeats 4000000 in
set_option maxRecDepth 100000 in
theorem c_L_share (l : Launch) (D : va_G) (la : Nat → Nat) (cI cC cZ cQ : ClassId) (σ : S9) (g : Nat → Int32) (n : Nat) (hR : LR g n σ) (f w : Nat) (hf : f < n) (hw : w < 5) : CMi l (lW la cI) D (cTy cI cC cZ cQ) yL_share wsL_share ({ frames := 1, cells := 0, slots := 0, locals := 25 } : Room) [.int (nI f), .int (nI w), .ref (la 1), .ref (la 2), .ref (la 3)] σ (fun r u => r = q_sh g f w ∧ u = σ) := by
  refine v_starti (own := RL) (cc := cL_share) (nL := 7) rfl (by decide) rfl (Nat.le_of_ble_eq_true rfl) ?_
  intro p e s m args below meth c A Q C K hend
  refine v_lv (lv' := [(0, .int (nI f)), (1, .int (nI w)), (2, .ref (la 1)), (3, .ref (la 2)), (4, .ref (la 3))]) [0, 1, 2, 3, 4] rfl ?_
  have hn8 := hR.n8
  refine v_iconst (v := 0) C dL_share_0 rfl ic_0 ?_
  refine v_istore (lv' := [(5, _), (0, _), (1, _), (2, _), (3, _), (4, _)]) C dL_share_1 rfl (by decide) rfl ?_
  have LP3 : ∀ j, j ≤ (w + 1) → q_fw (q_S g f) j = -6 → VV p l e ({ frames := 1, cells := 0, slots := 0, locals := 25 } : Room) s m args below meth c 0 0 Q (lW la cI) D A s.heap 7 σ 3 [(0, .int (nI f)), (1, .int (nI w)), (2, .ref (la 1)), (3, .ref (la 2)), (4, .ref (la 3)), (5, .int (nI j))] [] := by
    refine lpB9 (fun j => q_fw (q_S g f) j = -6 → VV p l e ({ frames := 1, cells := 0, slots := 0, locals := 25 } : Room) s m args below meth c 0 0 Q (lW la cI) D A s.heap 7 σ 3 [(0, .int (nI f)), (1, .int (nI w)), (2, .ref (la 1)), (3, .ref (la 2)), (4, .ref (la 3)), (5, .int (nI j))] []) (w + 1) (fun j hj ih => ?_) ?_
    · intro hre
      refine v_iload C dL_share_3 rfl 5 rfl ?_
      refine v_iload_n C dL_share_5 rfl 1 1 rfl rfl ?_
      refine v_icmp_gt C 62 dL_share_6 (by decide) rfl (fun h9 => absurd h9 (fun q => absurd ((nI_ltI (by omega) (by omega)).mp q) (by omega))) (fun _ => ?_)
      refine v_iload_n C dL_share_9 rfl 0 0 rfl rfl ?_
      refine v_iload C dL_share_10 rfl 5 rfl ?_
      refine v_aload_n C dL_share_12 rfl 3 3 rfl rfl ?_
      refine v_aload C dL_share_13 rfl 4 rfl ?_
      refine v_callSid C K (c_L_shows l D la cI cC cZ cQ _ g n hR f j hf (by omega)) gL_share_L_shows rfl hd_L_shows.2 ⟨rfl, rfl⟩ ⟨Nat.le_of_ble_eq_true rfl, Nat.le_of_ble_eq_true rfl⟩ rfl rfl (Nat.le_of_ble_eq_true rfl) ⟨Nat.le_refl _, Nat.le_refl _⟩ dL_share_15 rfl ?_
      refine v_if_ne C 24 dL_share_18 (by decide) rfl (fun h18 => ?_) (fun h18f => ?_)
      · skip
        have e9 := fw_hit hre (S_nn h18) (by omega) w (by omega)
        refine v_aload_n C dL_share_24 rfl 2 2 rfl rfl ?_
        refine v_iconst (v := 5) C dL_share_25 rfl ic_5 ?_
        refine v_iload_n C dL_share_26 rfl 0 0 rfl rfl ?_
        refine v_imul C dL_share_27 rfl ?_
        refine v_iconst (v := 3) C dL_share_28 rfl ic_3 ?_
        refine v_iadd C dL_share_29 rfl ?_
        refine v_iald C K 1 0 rfl rfl (5 * f + 3) (ix5 f 3) (by omega) (by decide) dL_share_30 rfl ?_
        refine v_top (g (6 + 5 * f + 3)) (hR.f 3 hf (by decide)) ?_
        refine v_bipush (v := 10) C dL_share_31 rfl bp_10 ?_
        refine v_iload_n C dL_share_33 rfl 1 1 rfl rfl ?_
        refine v_iload C dL_share_34 rfl 5 rfl ?_
        refine v_isub C dL_share_36 rfl ?_
        refine v_imul C dL_share_37 rfl ?_
        refine v_isub C dL_share_38 rfl ?_
        refine v_istore (lv' := [(6, _), (0, _), (1, _), (2, _), (3, _), (4, _), (5, _)]) C dL_share_39 rfl (by decide) rfl ?_
        refine v_iload C dL_share_41 rfl 0 rfl ?_
        refine v_bipush (v := 20) C dL_share_43 rfl bp_20 ?_
        refine v_icmp_ge C 53 dL_share_45 (by decide) rfl (fun h45 => ?_) (fun h45f => ?_)
        · skip
          refine v_iload C dL_share_53 rfl 0 rfl ?_
          exact hend (⟨by rw [q_sh, e9, if_neg (n6_ne (by omega)), p_share]; exact sh_a h45, rfl⟩) (rfl) dL_share_55
        · skip
          refine v_bipush (v := 20) C dL_share_48 rfl bp_20 ?_
          refine v_goto C 55 dL_share_50 (by decide) ?_
          exact hend (⟨by rw [q_sh, e9, if_neg (n6_ne (by omega)), p_share]; exact sh_b h45f, rfl⟩) (rfl) dL_share_55
      · skip
        refine v_goto C 56 dL_share_21 (by decide) ?_
        refine v_iinc (lv' := [(5, _), (0, _), (1, _), (2, _), (3, _), (4, _)]) C dL_share_56 rfl 5 rfl (inc9 _) (by decide) rfl ?_
        refine v_goto C 3 dL_share_59 (by decide) ?_
        refine v_lv (lv' := [(0, _), (1, _), (2, _), (3, _), (4, _), (5, _)]) [1, 2, 3, 4, 5, 0] rfl ?_
        exact ih (fw_skip hre h18f)
    · intro hre
      refine v_iload C dL_share_3 rfl 5 rfl ?_
      refine v_iload_n C dL_share_5 rfl 1 1 rfl rfl ?_
      refine v_icmp_gt C 62 dL_share_6 (by decide) rfl (fun _ => ?_) (fun h9 => absurd (nI_lt (by omega) (by omega)) h9)
      refine v_bipush (v := -6) C dL_share_62 rfl bp_m6 ?_
      exact hend (⟨by rw [q_sh, if_pos hre], rfl⟩) (rfl) dL_share_64
  refine v_lv (lv' := [(0, _), (1, _), (2, _), (3, _), (4, _), (5, _)]) [1, 2, 3, 4, 5, 0] rfl ?_
  exact LP3 0 (Nat.zero_le _) rfl
set_option maxHeartbeats 4000000 in
set_option maxRecDepth 100000 in
theorem c_L_due (l : Launch) (D : va_G) (la : Nat → Nat) (cI cC cZ cQ : ClassId) (σ : S9) (g : Nat → Int32) (n : Nat) (hR : LR g n σ) (f w : Nat) (hf : f < n) (hw : w < 5) : CMi l (lW la cI) D (cTy cI cC cZ cQ) yL_due wsL_due ({ frames := 4, cells := 0, slots := 0, locals := 106 } : Room) [.int (nI f), .int (nI w), .ref (la 0), .ref (la 1), .ref (la 2), .ref (la 3)] σ (fun r u => r = q_D g f w ∧ u = σ) := by
  refine v_starti (own := RL) (cc := cL_due) (nL := 7) rfl (by decide) rfl (Nat.le_of_ble_eq_true rfl) ?_
  intro p e s m args below meth c A Q C K hend
  refine v_lv (lv' := [(0, .int (nI f)), (1, .int (nI w)), (2, .ref (la 0)), (3, .ref (la 1)), (4, .ref (la 2)), (5, .ref (la 3))]) [0, 1, 2, 3, 4, 5] rfl ?_
  have hn8 := hR.n8
  refine v_iload_n C dL_due_0 rfl 0 0 rfl rfl ?_
  refine v_iload_n C dL_due_1 rfl 1 1 rfl rfl ?_
  refine v_aload C dL_due_2 rfl 4 rfl ?_
  refine v_aload C dL_due_4 rfl 5 rfl ?_
  refine v_callSid C K (c_L_shows l D la cI cC cZ cQ _ g n hR f w hf hw) gL_due_L_shows rfl hd_L_shows.2 ⟨rfl, rfl⟩ ⟨Nat.le_of_ble_eq_true rfl, Nat.le_of_ble_eq_true rfl⟩ rfl rfl (Nat.le_of_ble_eq_true rfl) ⟨Nat.le_refl _, Nat.le_refl _⟩ dL_due_6 rfl ?_
  refine v_if_ne C 14 dL_due_9 (by decide) rfl (fun h9 => ?_) (fun h9f => ?_)
  · skip
    refine v_iload_n C dL_due_14 rfl 0 0 rfl rfl ?_
    refine v_iload_n C dL_due_15 rfl 1 1 rfl rfl ?_
    refine v_aload_n C dL_due_16 rfl 2 2 rfl rfl ?_
    refine v_aload_n C dL_due_17 rfl 3 3 rfl rfl ?_
    refine v_aload C dL_due_18 rfl 4 rfl ?_
    refine v_aload C dL_due_20 rfl 5 rfl ?_
    refine v_callSid C K (c_L_takings l D la cI cC cZ cQ _ g n hR f w hf hw) gL_due_L_takings rfl hd_L_takings.2 ⟨rfl, rfl⟩ ⟨Nat.le_of_ble_eq_true rfl, Nat.le_of_ble_eq_true rfl⟩ rfl rfl (Nat.le_of_ble_eq_true rfl) ⟨Nat.le_refl _, Nat.le_refl _⟩ dL_due_22 rfl ?_
    refine v_iload_n C dL_due_25 rfl 0 0 rfl rfl ?_
    refine v_iload_n C dL_due_26 rfl 1 1 rfl rfl ?_
    refine v_aload_n C dL_due_27 rfl 3 3 rfl rfl ?_
    refine v_aload C dL_due_28 rfl 4 rfl ?_
    refine v_aload C dL_due_30 rfl 5 rfl ?_
    refine v_callSid C K (c_L_share l D la cI cC cZ cQ _ g n hR f w hf hw) gL_due_L_share rfl hd_L_share.2 ⟨rfl, rfl⟩ ⟨Nat.le_of_ble_eq_true rfl, Nat.le_of_ble_eq_true rfl⟩ rfl rfl (Nat.le_of_ble_eq_true rfl) ⟨Nat.le_refl _, Nat.le_refl _⟩ dL_due_32 rfl ?_
    refine v_imul C dL_due_35 rfl ?_
    refine v_bipush (v := 100) C dL_due_36 rfl bp_100 ?_
    refine v_idiv C dL_due_38 rfl (by decide) ?_
    refine v_top (q_so g f w) (so_e hR.w hf hw h9) ?_
    refine v_istore (lv' := [(6, _), (0, _), (1, _), (2, _), (3, _), (4, _), (5, _)]) C dL_due_39 rfl (by decide) rfl ?_
    refine v_iload C dL_due_41 rfl 0 rfl ?_
    refine v_aload_n C dL_due_43 rfl 3 4 rfl rfl ?_
    refine v_iconst (v := 5) C dL_due_44 rfl ic_5 ?_
    refine v_iload_n C dL_due_45 rfl 0 1 rfl rfl ?_
    refine v_imul C dL_due_46 rfl ?_
    refine v_iconst (v := 2) C dL_due_47 rfl ic_2 ?_
    refine v_iadd C dL_due_48 rfl ?_
    refine v_iald C K 1 0 rfl rfl (5 * f + 2) (ix5 f 2) (by omega) (by decide) dL_due_49 rfl ?_
    refine v_top (g (6 + 5 * f + 2)) (hR.f 2 hf (by decide)) ?_
    refine v_icmp_ge C 63 dL_due_50 (by decide) rfl (fun h50 => ?_) (fun h50f => ?_)
    · skip
      refine v_iload C dL_due_63 rfl 0 rfl ?_
      exact hend (⟨du_a h9 h50, rfl⟩) (rfl) dL_due_65
    · skip
      refine v_aload_n C dL_due_53 rfl 3 4 rfl rfl ?_
      refine v_iconst (v := 5) C dL_due_54 rfl ic_5 ?_
      refine v_iload_n C dL_due_55 rfl 0 1 rfl rfl ?_
      refine v_imul C dL_due_56 rfl ?_
      refine v_iconst (v := 2) C dL_due_57 rfl ic_2 ?_
      refine v_iadd C dL_due_58 rfl ?_
      refine v_iald C K 1 0 rfl rfl (5 * f + 2) (ix5 f 2) (by omega) (by decide) dL_due_59 rfl ?_
      refine v_top (g (6 + 5 * f + 2)) (hR.f 2 hf (by decide)) ?_
      refine v_goto C 65 dL_due_60 (by decide) ?_
      exact hend (⟨du_b h9 h50f, rfl⟩) (rfl) dL_due_65
  · skip
    refine v_iconst (v := 0) C dL_due_12 rfl ic_0 ?_
    exact hend (⟨(if_pos h9f).symm, rfl⟩) (rfl) dL_due_13
set_option maxHeartbeats 4000000 in
set_option maxRecDepth 100000 in
theorem c_L_left (l : Launch) (D : va_G) (la : Nat → Nat) (cI cC cZ cQ : ClassId) (σ : S9) (g : Nat → Int32) (n : Nat) (hR : LR g n σ) : CMi l (lW la cI) D (cTy cI cC cZ cQ) yL_left wsL_left ({ frames := 5, cells := 0, slots := 0, locals := 132 } : Room) [.ref (la 0), .ref (la 1), .ref (la 2), .ref (la 3), .ref (la 4)] σ (fun r u => r = q_left g (-1) ∧ u = σ) := by
  refine v_starti (own := RL) (cc := cL_left) (nL := 8) rfl (by decide) rfl (Nat.le_of_ble_eq_true rfl) ?_
  intro p e s m args below meth c A Q C K hend
  refine v_lv (lv' := [(0, .ref (la 0)), (1, .ref (la 1)), (2, .ref (la 2)), (3, .ref (la 3)), (4, .ref (la 4))]) [0, 1, 2, 3, 4] rfl ?_
  have hn8 := hR.n8
  refine v_iconst (v := 0) C dL_left_0 rfl ic_0 ?_
  refine v_istore (lv' := [(5, _), (0, _), (1, _), (2, _), (3, _), (4, _)]) C dL_left_1 rfl (by decide) rfl ?_
  refine v_iconst (v := 0) C dL_left_3 rfl ic_0 ?_
  refine v_istore (lv' := [(6, _), (5, _), (0, _), (1, _), (2, _), (3, _), (4, _)]) C dL_left_4 rfl (by decide) rfl ?_
  have LP6 : ∀ j, j ≤ 5 → VV p l e ({ frames := 5, cells := 0, slots := 0, locals := 132 } : Room) s m args below meth c 0 0 Q (lW la cI) D A s.heap 8 σ 6 [(0, .ref (la 0)), (1, .ref (la 1)), (2, .ref (la 2)), (3, .ref (la 3)), (4, .ref (la 4)), (5, .int (sm9 (fun w => sm9 (lsT g w) n) j)), (6, .int (nI j))] [] := by
    refine lpB9 (fun j => VV p l e ({ frames := 5, cells := 0, slots := 0, locals := 132 } : Room) s m args below meth c 0 0 Q (lW la cI) D A s.heap 8 σ 6 [(0, .ref (la 0)), (1, .ref (la 1)), (2, .ref (la 2)), (3, .ref (la 3)), (4, .ref (la 4)), (5, .int (sm9 (fun w => sm9 (lsT g w) n) j)), (6, .int (nI j))] []) 5 (fun j hj ih => ?_) ?_
    · skip
      refine v_iload C dL_left_6 rfl 6 rfl ?_
      refine v_iconst (v := 5) C dL_left_8 rfl ic_5 ?_
      refine v_icmp_ge C 77 dL_left_9 (by decide) rfl (fun h9 => absurd h9 (nI_ge hj (by decide))) (fun _ => ?_)
      refine v_iconst (v := 0) C dL_left_12 rfl ic_0 ?_
      refine v_istore (lv' := [(7, _), (0, _), (1, _), (2, _), (3, _), (4, _), (5, _), (6, _)]) C dL_left_13 rfl (by decide) rfl ?_
      have LP15 : ∀ i, i ≤ n → VV p l e ({ frames := 5, cells := 0, slots := 0, locals := 132 } : Room) s m args below meth c 0 0 Q (lW la cI) D A s.heap 8 σ 15 [(0, .ref (la 0)), (1, .ref (la 1)), (2, .ref (la 2)), (3, .ref (la 3)), (4, .ref (la 4)), (5, .int (sm9 (fun w => sm9 (lsT g w) n) j + sm9 (lsT g j) i)), (6, .int (nI j)), (7, .int (nI i))] [] := by
        refine lpB9 (fun i => VV p l e ({ frames := 5, cells := 0, slots := 0, locals := 132 } : Room) s m args below meth c 0 0 Q (lW la cI) D A s.heap 8 σ 15 [(0, .ref (la 0)), (1, .ref (la 1)), (2, .ref (la 2)), (3, .ref (la 3)), (4, .ref (la 4)), (5, .int (sm9 (fun w => sm9 (lsT g w) n) j + sm9 (lsT g j) i)), (6, .int (nI j)), (7, .int (nI i))] []) n (fun i hi ih => ?_) ?_
        · skip
          refine v_iload C dL_left_15 rfl 7 rfl ?_
          refine v_aload_n C dL_left_17 rfl 0 0 rfl rfl ?_
          refine v_iconst (v := 5) C dL_left_18 rfl ic_5 ?_
          refine v_iald C K 0 0 rfl rfl (5) (rfl) (by omega) (by decide) dL_left_19 rfl ?_
          refine v_top (nI n) ((hR.q (by decide)).trans hR.w.1.1) ?_
          refine v_icmp_ge C 71 dL_left_20 (by decide) rfl (fun h9 => absurd h9 (nI_ge hi (by omega))) (fun _ => ?_)
          refine v_iload C dL_left_23 rfl 5 rfl ?_
          refine v_iload C dL_left_25 rfl 7 rfl ?_
          refine v_iload C dL_left_27 rfl 6 rfl ?_
          refine v_aload_n C dL_left_29 rfl 0 0 rfl rfl ?_
          refine v_aload_n C dL_left_30 rfl 1 1 rfl rfl ?_
          refine v_aload_n C dL_left_31 rfl 2 2 rfl rfl ?_
          refine v_aload_n C dL_left_32 rfl 3 3 rfl rfl ?_
          refine v_callSid C K (c_L_takings l D la cI cC cZ cQ _ g n hR i j hi hj) gL_left_L_takings rfl hd_L_takings.2 ⟨rfl, rfl⟩ ⟨Nat.le_of_ble_eq_true rfl, Nat.le_of_ble_eq_true rfl⟩ rfl rfl (Nat.le_of_ble_eq_true rfl) ⟨Nat.le_refl _, Nat.le_refl _⟩ dL_left_33 rfl ?_
          refine v_iload C dL_left_36 rfl 7 rfl ?_
          refine v_iload C dL_left_38 rfl 6 rfl ?_
          refine v_aload_n C dL_left_40 rfl 0 0 rfl rfl ?_
          refine v_aload_n C dL_left_41 rfl 1 1 rfl rfl ?_
          refine v_aload_n C dL_left_42 rfl 2 2 rfl rfl ?_
          refine v_aload_n C dL_left_43 rfl 3 3 rfl rfl ?_
          refine v_callSid C K (c_L_due l D la cI cC cZ cQ _ g n hR i j hi hj) gL_left_L_due rfl hd_L_due.2 ⟨rfl, rfl⟩ ⟨Nat.le_of_ble_eq_true rfl, Nat.le_of_ble_eq_true rfl⟩ rfl rfl (Nat.le_of_ble_eq_true rfl) ⟨Nat.le_refl _, Nat.le_refl _⟩ dL_left_44 rfl ?_
          refine v_isub C dL_left_47 rfl ?_
          refine v_aload_n C dL_left_48 rfl 0 0 rfl rfl ?_
          refine v_iconst (v := 2) C dL_left_49 rfl ic_2 ?_
          refine v_iald C K 0 0 rfl rfl (2) (rfl) (by omega) (by decide) dL_left_50 rfl ?_
          refine v_top (g 2) (hR.q (by decide)) ?_
          refine v_iload C dL_left_51 rfl 7 rfl ?_
          refine v_iload C dL_left_53 rfl 6 rfl ?_
          refine v_aload_n C dL_left_55 rfl 2 2 rfl rfl ?_
          refine v_aload_n C dL_left_56 rfl 3 3 rfl rfl ?_
          refine v_callSid C K (c_L_shows l D la cI cC cZ cQ _ g n hR i j hi hj) gL_left_L_shows rfl hd_L_shows.2 ⟨rfl, rfl⟩ ⟨Nat.le_of_ble_eq_true rfl, Nat.le_of_ble_eq_true rfl⟩ rfl rfl (Nat.le_of_ble_eq_true rfl) ⟨Nat.le_refl _, Nat.le_refl _⟩ dL_left_57 rfl ?_
          refine v_imul C dL_left_60 rfl ?_
          refine v_isub C dL_left_61 rfl ?_
          refine v_iadd C dL_left_62 rfl ?_
          refine v_top (sm9 (fun w => sm9 (lsT g w) n) j + sm9 (lsT g j) (i + 1)) (Int32.add_assoc _ _ _) ?_
          refine v_istore (lv' := [(5, _), (0, _), (1, _), (2, _), (3, _), (4, _), (6, _), (7, _)]) C dL_left_63 rfl (by decide) rfl ?_
          refine v_iinc (lv' := [(7, _), (5, _), (0, _), (1, _), (2, _), (3, _), (4, _), (6, _)]) C dL_left_65 rfl 7 rfl (inc9 _) (by decide) rfl ?_
          refine v_goto C 15 dL_left_68 (by decide) ?_
          refine v_lv (lv' := [(0, _), (1, _), (2, _), (3, _), (4, _), (5, _), (6, _), (7, _)]) [2, 3, 4, 5, 6, 1, 7, 0] rfl ?_
          exact ih
        · skip
          refine v_iload C dL_left_15 rfl 7 rfl ?_
          refine v_aload_n C dL_left_17 rfl 0 0 rfl rfl ?_
          refine v_iconst (v := 5) C dL_left_18 rfl ic_5 ?_
          refine v_iald C K 0 0 rfl rfl (5) (rfl) (by omega) (by decide) dL_left_19 rfl ?_
          refine v_top (nI n) ((hR.q (by decide)).trans hR.w.1.1) ?_
          refine v_icmp_ge C 71 dL_left_20 (by decide) rfl (fun _ => ?_) (fun h9 => absurd (nI_le (Nat.le_refl _) (by omega)) h9)
          refine v_iinc (lv' := [(6, _), (0, _), (1, _), (2, _), (3, _), (4, _), (5, _), (7, _)]) C dL_left_71 rfl 6 rfl (inc9 _) (by decide) rfl ?_
          refine v_goto C 6 dL_left_74 (by decide) ?_
          refine v_lv (lv' := [(0, _), (1, _), (2, _), (3, _), (4, _), (5, _), (6, _)]) [1, 2, 3, 4, 5, 6, 0] rfl ?_
          exact ih
      refine v_lv (lv' := [(0, _), (1, _), (2, _), (3, _), (4, _), (5, _), (6, _), (7, _)]) [1, 2, 3, 4, 5, 6, 7, 0] rfl ?_
      exact v9cast (LP15 0 (Nat.zero_le _)) rfl (by rw [sm9, Int32.add_zero]; rfl) rfl
    · skip
      refine v_iload C dL_left_6 rfl 6 rfl ?_
      refine v_iconst (v := 5) C dL_left_8 rfl ic_5 ?_
      refine v_icmp_ge C 77 dL_left_9 (by decide) rfl (fun _ => ?_) (fun h9 => absurd (nI_le (Nat.le_refl _) (by decide)) h9)
      refine v_iconst (v := 0) C dL_left_77 rfl ic_0 ?_
      refine v_istore (lv' := [(6, _), (0, _), (1, _), (2, _), (3, _), (4, _), (5, _)]) C dL_left_78 rfl (by decide) rfl ?_
      have LP80 : ∀ d, d ≤ 35 → VV p l e ({ frames := 5, cells := 0, slots := 0, locals := 132 } : Room) s m args below meth c 0 0 Q (lW la cI) D A s.heap 8 σ 80 [(0, .ref (la 0)), (1, .ref (la 1)), (2, .ref (la 2)), (3, .ref (la 3)), (4, .ref (la 4)), (5, .int (sm9 (fun w => sm9 (lsT g w) n) 5 + sm9 (fun d => g (116 + d)) d)), (6, .int (nI d))] [] := by
        refine lpB9 (fun d => VV p l e ({ frames := 5, cells := 0, slots := 0, locals := 132 } : Room) s m args below meth c 0 0 Q (lW la cI) D A s.heap 8 σ 80 [(0, .ref (la 0)), (1, .ref (la 1)), (2, .ref (la 2)), (3, .ref (la 3)), (4, .ref (la 4)), (5, .int (sm9 (fun w => sm9 (lsT g w) n) 5 + sm9 (fun d => g (116 + d)) d)), (6, .int (nI d))] []) 35 (fun d hd ih => ?_) ?_
        · skip
          refine v_iload C dL_left_80 rfl 6 rfl ?_
          refine v_bipush (v := 35) C dL_left_82 rfl bp_35 ?_
          refine v_icmp_ge C 103 dL_left_84 (by decide) rfl (fun h9 => absurd h9 (nI_ge hd (by decide))) (fun _ => ?_)
          refine v_iload C dL_left_87 rfl 5 rfl ?_
          refine v_aload C dL_left_89 rfl 4 rfl ?_
          refine v_iload C dL_left_91 rfl 6 rfl ?_
          refine v_iald C K 4 0 rfl rfl (d) (rfl) (by omega) (by decide) dL_left_93 rfl ?_
          refine v_top (g (116 + d)) (hR.r hd) ?_
          refine v_iadd C dL_left_94 rfl ?_
          refine v_top (sm9 (fun w => sm9 (lsT g w) n) 5 + sm9 (fun d => g (116 + d)) (d + 1)) (Int32.add_assoc _ _ _) ?_
          refine v_istore (lv' := [(5, _), (0, _), (1, _), (2, _), (3, _), (4, _), (6, _)]) C dL_left_95 rfl (by decide) rfl ?_
          refine v_iinc (lv' := [(6, _), (5, _), (0, _), (1, _), (2, _), (3, _), (4, _)]) C dL_left_97 rfl 6 rfl (inc9 _) (by decide) rfl ?_
          refine v_goto C 80 dL_left_100 (by decide) ?_
          refine v_lv (lv' := [(0, _), (1, _), (2, _), (3, _), (4, _), (5, _), (6, _)]) [2, 3, 4, 5, 6, 1, 0] rfl ?_
          exact ih
        · skip
          refine v_iload C dL_left_80 rfl 6 rfl ?_
          refine v_bipush (v := 35) C dL_left_82 rfl bp_35 ?_
          refine v_icmp_ge C 103 dL_left_84 (by decide) rfl (fun _ => ?_) (fun h9 => absurd (nI_le (Nat.le_refl _) (by decide)) h9)
          refine v_iload C dL_left_103 rfl 5 rfl ?_
          exact hend (⟨left_e hR.w.1, rfl⟩) (rfl) dL_left_105
      refine v_lv (lv' := [(0, _), (1, _), (2, _), (3, _), (4, _), (5, _), (6, _)]) [1, 2, 3, 4, 5, 6, 0] rfl ?_
      exact v9cast (LP80 0 (by omega)) rfl (by rw [show sm9 (fun d => g (116 + d)) 0 = 0 from rfl, Int32.add_zero]; rfl) rfl
  refine v_lv (lv' := [(0, _), (1, _), (2, _), (3, _), (4, _), (5, _), (6, _)]) [2, 3, 4, 5, 6, 1, 0] rfl ?_
  exact LP6 0 (by omega)

/-! ===== the law: same ===== -/
set_option maxHeartbeats 4000000 in
set_option maxRecDepth 100000 in
theorem c_L_same (l : Launch) (D : va_G) (ad la : Nat → Nat) (cI cC cZ cQ : ClassId)  (g : Nat → Int32) (n : Nat) (u t : S9) (hI : IC g n u) (hR : LR g n t) (x : Int32) : CMi l (PW ad la cI cC cZ cQ) D (cTy cI cC cZ cQ) yL_same wsL_same ({ frames := 7, cells := 0, slots := 0, locals := 165 } : Room) [.ref (ad 0), .int x, .ref (la 0), .ref (la 1), .ref (la 2), .ref (la 3), .ref (la 4)] (u, t) (fun r u => r = 1 ∧ IC g n u.1 ∧ u.2 = t) := by
  refine v_starti (own := RL) (cc := cL_same) (nL := 22) rfl (by decide) rfl (Nat.le_of_ble_eq_true rfl) ?_
  intro p e s m args below meth c A Q C K hend
  refine v_lv (lv' := [(0, .ref (ad 0)), (1, .int x), (2, .ref (la 0)), (3, .ref (la 1)), (4, .ref (la 2)), (5, .ref (la 3)), (6, .ref (la 4))]) [0, 1, 2, 3, 4, 5, 6] rfl ?_
  have hn8 := hR.n8
  refine v_iconst (v := 0) C dL_same_0 rfl ic_0 ?_
  refine v_istore (lv' := [(7, _), (0, _), (1, _), (2, _), (3, _), (4, _), (5, _), (6, _)]) C dL_same_1 rfl (by decide) rfl ?_
  refine v_iconst (v := 0) C dL_same_3 rfl ic_0 ?_
  refine v_istore (lv' := [(8, _), (7, _), (0, _), (1, _), (2, _), (3, _), (4, _), (5, _), (6, _)]) C dL_same_4 rfl (by decide) rfl ?_
  refine v_iconst (v := 0) C dL_same_6 rfl ic_0 ?_
  refine v_istore (lv' := [(9, _), (8, _), (7, _), (0, _), (1, _), (2, _), (3, _), (4, _), (5, _), (6, _)]) C dL_same_7 rfl (by decide) rfl ?_
  refine v_iconst (v := 0) C dL_same_9 rfl ic_0 ?_
  refine v_istore (lv' := [(10, _), (9, _), (8, _), (7, _), (0, _), (1, _), (2, _), (3, _), (4, _), (5, _), (6, _)]) C dL_same_10 rfl (by decide) rfl ?_
  refine v_iconst (v := 0) C dL_same_12 rfl ic_0 ?_
  refine v_istore (lv' := [(11, _), (10, _), (9, _), (8, _), (7, _), (0, _), (1, _), (2, _), (3, _), (4, _), (5, _), (6, _)]) C dL_same_13 rfl (by decide) rfl ?_
  refine v_iconst (v := 0) C dL_same_15 rfl ic_0 ?_
  refine v_istore (lv' := [(12, _), (11, _), (10, _), (9, _), (8, _), (7, _), (0, _), (1, _), (2, _), (3, _), (4, _), (5, _), (6, _)]) C dL_same_16 rfl (by decide) rfl ?_
  refine v_iconst (v := 0) C dL_same_18 rfl ic_0 ?_
  refine v_istore (lv' := [(13, _), (12, _), (11, _), (10, _), (9, _), (8, _), (7, _), (0, _), (1, _), (2, _), (3, _), (4, _), (5, _), (6, _)]) C dL_same_19 rfl (by decide) rfl ?_
  have LP21 : ∀ d, d ≤ 35 → ∀ u : S9, IC g n u → VV p l e ({ frames := 7, cells := 0, slots := 0, locals := 165 } : Room) s m args below meth c 0 0 Q (PW ad la cI cC cZ cQ) D A s.heap 22 (u, t) 21 [(0, .ref (ad 0)), (1, .int x), (2, .ref (la 0)), (3, .ref (la 1)), (4, .ref (la 2)), (5, .ref (la 3)), (6, .ref (la 4)), (7, .int (sm9 (shw g) (2 * d))), (8, .int (sm9 (q_ppa g) (2 * d))), (9, .int (sm9 (q_fs g) (2 * d))), (10, .int (sm9 (fun j => g (116 + j)) d)), (11, .int (0)), (12, .int (0)), (13, .int (nI d))] [] := by
    refine lpB9 (fun d => ∀ u : S9, IC g n u → VV p l e ({ frames := 7, cells := 0, slots := 0, locals := 165 } : Room) s m args below meth c 0 0 Q (PW ad la cI cC cZ cQ) D A s.heap 22 (u, t) 21 [(0, .ref (ad 0)), (1, .int x), (2, .ref (la 0)), (3, .ref (la 1)), (4, .ref (la 2)), (5, .ref (la 3)), (6, .ref (la 4)), (7, .int (sm9 (shw g) (2 * d))), (8, .int (sm9 (q_ppa g) (2 * d))), (9, .int (sm9 (q_fs g) (2 * d))), (10, .int (sm9 (fun j => g (116 + j)) d)), (11, .int (0)), (12, .int (0)), (13, .int (nI d))] []) 35 (fun d hd ih => ?_) ?_
    · intro u hI
      refine v_iload C dL_same_21 rfl 13 rfl ?_
      refine v_bipush (v := 35) C dL_same_23 rfl bp_35 ?_
      refine v_icmp_ge C 249 dL_same_25 (by decide) rfl (fun h9 => absurd h9 (nI_ge hd (by decide))) (fun _ => ?_)
      refine v_iload C dL_same_28 rfl 10 rfl ?_
      refine v_aload C dL_same_30 rfl 6 rfl ?_
      refine v_iload C dL_same_32 rfl 13 rfl ?_
      refine v_aldL C K 4 35 rfl (d) (rfl) (by omega) (by decide) dL_same_34 rfl ?_
      refine v_top (g (116 + d)) (hR.r hd) ?_
      refine v_iadd C dL_same_35 rfl ?_
      refine v_istore (lv' := [(10, _), (0, _), (1, _), (2, _), (3, _), (4, _), (5, _), (6, _), (7, _), (8, _), (9, _), (11, _), (12, _), (13, _)]) C dL_same_36 rfl (by decide) rfl ?_
      refine v_aload_n C dL_same_38 rfl 0 1 rfl rfl ?_
      refine v_iload C dL_same_39 rfl 13 rfl ?_
      refine v_cI C K (g (116 + d)) (IC g n) (c_X4_rent l D ad cI cC cZ cQ u (nI d)) gL_same_X4_rent rfl hd_X4_rent ⟨rfl, rfl⟩ ⟨Nat.le_of_ble_eq_true rfl, Nat.le_of_ble_eq_true rfl⟩ 0 rfl rfl rfl rfl rfl (Nat.le_of_ble_eq_true rfl) ⟨Nat.le_refl _, Nat.le_refl _⟩ dL_same_41 rfl (fun r v h => ip_rent hI hd h) (fun u hI => ?_)
      refine v_aload C dL_same_44 rfl 7 rfl ?_
      refine v_iload C dL_same_46 rfl 13 rfl ?_
      refine v_aldL C K 4 35 rfl (d) (rfl) (by omega) (by decide) dL_same_48 rfl ?_
      refine v_top (g (116 + d)) (hR.r hd) ?_
      refine v_icmp_eq C 54 dL_same_49 (by decide) rfl (fun _ => ?_) (fun h9 => absurd (rfl) h9)
      refine v_iconst (v := 0) C dL_same_54 rfl ic_0 ?_
      refine v_istore (lv' := [(14, _), (10, _), (0, _), (1, _), (2, _), (3, _), (4, _), (5, _), (6, _), (7, _), (8, _), (9, _), (11, _), (12, _), (13, _)]) C dL_same_55 rfl (by decide) rfl ?_
      have LP57 : ∀ i, i ≤ 2 → ∀ u : S9, IC g n u → VV p l e ({ frames := 7, cells := 0, slots := 0, locals := 165 } : Room) s m args below meth c 0 0 Q (PW ad la cI cC cZ cQ) D A s.heap 22 (u, t) 57 [(0, .ref (ad 0)), (1, .int x), (2, .ref (la 0)), (3, .ref (la 1)), (4, .ref (la 2)), (5, .ref (la 3)), (6, .ref (la 4)), (7, .int (sm9 (shw g) (2 * d + i))), (8, .int (sm9 (q_ppa g) (2 * d + i))), (9, .int (sm9 (q_fs g) (2 * d + i))), (10, .int (sm9 (fun j => g (116 + j)) (d + 1))), (11, .int (0)), (12, .int (0)), (13, .int (nI d)), (14, .int (nI i))] [] := by
        refine lpB9 (fun i => ∀ u : S9, IC g n u → VV p l e ({ frames := 7, cells := 0, slots := 0, locals := 165 } : Room) s m args below meth c 0 0 Q (PW ad la cI cC cZ cQ) D A s.heap 22 (u, t) 57 [(0, .ref (ad 0)), (1, .int x), (2, .ref (la 0)), (3, .ref (la 1)), (4, .ref (la 2)), (5, .ref (la 3)), (6, .ref (la 4)), (7, .int (sm9 (shw g) (2 * d + i))), (8, .int (sm9 (q_ppa g) (2 * d + i))), (9, .int (sm9 (q_fs g) (2 * d + i))), (10, .int (sm9 (fun j => g (116 + j)) (d + 1))), (11, .int (0)), (12, .int (0)), (13, .int (nI d)), (14, .int (nI i))] []) 2 (fun i hi ih => ?_) ?_
        · intro u hI
          refine v_iload C dL_same_57 rfl 14 rfl ?_
          refine v_iconst (v := 2) C dL_same_59 rfl ic_2 ?_
          refine v_icmp_ge C 243 dL_same_60 (by decide) rfl (fun h9 => absurd h9 (nI_ge hi (by decide))) (fun _ => ?_)
          have hk9 : 2 * d + i < 70 := by omega
          refine v_iload C dL_same_63 rfl 13 rfl ?_
          refine v_iload C dL_same_65 rfl 14 rfl ?_
          refine v_aload C dL_same_67 rfl 4 rfl ?_
          refine v_aload C dL_same_69 rfl 5 rfl ?_
          refine v_cR C K (c_L_film l D la cI cC cZ cQ _ g n hR d i hd hi) gL_same_L_film rfl hd_L_film.2 ⟨rfl, rfl⟩ ⟨Nat.le_of_ble_eq_true rfl, Nat.le_of_ble_eq_true rfl⟩ rfl rfl (Nat.le_of_ble_eq_true rfl) ⟨Nat.le_refl _, Nat.le_refl _⟩ dL_same_71 rfl ?_
          refine v_istore (lv' := [(15, _), (0, _), (1, _), (2, _), (3, _), (4, _), (5, _), (6, _), (7, _), (8, _), (9, _), (10, _), (11, _), (12, _), (13, _), (14, _)]) C dL_same_74 rfl (by decide) rfl ?_
          refine v_iload C dL_same_76 rfl 14 rfl ?_
          refine v_iload C dL_same_78 rfl 15 rfl ?_
          refine v_aload_n C dL_same_80 rfl 2 3 rfl rfl ?_
          refine v_aload_n C dL_same_81 rfl 3 4 rfl rfl ?_
          refine v_aload C dL_same_82 rfl 5 rfl ?_
          refine v_aload C dL_same_84 rfl 6 rfl ?_
          refine v_cR C K (c_L_people l D la cI cC cZ cQ _ g n hR d i hd hi) gL_same_L_people rfl hd_L_people.2 ⟨rfl, rfl⟩ ⟨Nat.le_of_ble_eq_true rfl, Nat.le_of_ble_eq_true rfl⟩ rfl rfl (Nat.le_of_ble_eq_true rfl) ⟨Nat.le_refl _, Nat.le_refl _⟩ dL_same_86 rfl ?_
          refine v_istore (lv' := [(16, _), (15, _), (0, _), (1, _), (2, _), (3, _), (4, _), (5, _), (6, _), (7, _), (8, _), (9, _), (10, _), (11, _), (12, _), (13, _), (14, _)]) C dL_same_89 rfl (by decide) rfl ?_
          refine v_iload C dL_same_91 rfl 9 rfl ?_
          refine v_iload C dL_same_93 rfl 1 rfl ?_
          refine v_if_ge C 102 dL_same_95 (by decide) rfl (fun h95 => ?_) (fun h95f => ?_)
          · skip
            obtain ⟨f, hf, ef, e6⟩ := fl0_ge hR.w hk9 h95
            refine v_iconst (v := 1) C dL_same_102 rfl ic_1 ?_
            refine v_iadd C dL_same_103 rfl ?_
            refine v_top (sm9 (shw g) (2 * d + i + 1)) (shw_1 (by omega) ef) ?_
            refine v_istore (lv' := [(7, _), (16, _), (15, _), (0, _), (1, _), (2, _), (3, _), (4, _), (5, _), (6, _), (8, _), (9, _), (10, _), (11, _), (12, _), (13, _), (14, _)]) C dL_same_104 rfl (by decide) rfl ?_
            refine v_iload C dL_same_106 rfl 10 rfl ?_
            refine v_iload C dL_same_108 rfl 1 rfl ?_
            refine v_iadd C dL_same_110 rfl ?_
            refine v_istore (lv' := [(8, _), (7, _), (16, _), (15, _), (0, _), (1, _), (2, _), (3, _), (4, _), (5, _), (6, _), (9, _), (10, _), (11, _), (12, _), (13, _), (14, _)]) C dL_same_111 rfl (by decide) rfl ?_
            refine v_iload C dL_same_113 rfl 11 rfl ?_
            refine v_iload C dL_same_115 rfl 3 rfl ?_
            refine v_if_lt C 132 dL_same_117 (by decide) rfl (fun h9 => absurd h9 (Int32.not_lt.mpr h95)) (fun _ => ?_)
            refine v_iload C dL_same_120 rfl 2 rfl ?_
            refine v_aload_n C dL_same_122 rfl 2 6 rfl rfl ?_
            refine v_iconst (v := 0) C dL_same_123 rfl ic_0 ?_
            refine v_aldL C K 0 6 rfl (0) (rfl) (by omega) (by decide) dL_same_124 rfl ?_
            refine v_top (g 0) (hR.q (by decide)) ?_
            refine v_icmp_ne C 132 dL_same_125 (by decide) rfl (fun h125 => ?_) (fun h125f => ?_)
            · skip
              refine v_iconst (v := 0) C dL_same_132 rfl ic_0 ?_
              refine v_iadd C dL_same_133 rfl ?_
              refine v_top (sm9 (q_fs g) (2 * d + i + 1)) (fs_0 (fun q => h125 q.2)) ?_
              refine v_istore (lv' := [(9, _), (8, _), (7, _), (16, _), (15, _), (0, _), (1, _), (2, _), (3, _), (4, _), (5, _), (6, _), (10, _), (11, _), (12, _), (13, _), (14, _)]) C dL_same_134 rfl (by decide) rfl ?_
              refine v_aload_n C dL_same_136 rfl 0 5 rfl rfl ?_
              refine v_iload C dL_same_137 rfl 15 rfl ?_
              refine v_iload C dL_same_139 rfl 16 rfl ?_
              refine v_iconst (v := 0) C dL_same_141 rfl ic_0 ?_
              refine v_cI C K (g (46 + (2 * d + i))) (IC g n) (c_X4_at l D ad cI cC cZ cQ u n hI.w (nI d) (nI i) 0) gL_same_X4_at rfl hd_X4_at ⟨rfl, rfl⟩ ⟨Nat.le_of_ble_eq_true rfl, Nat.le_of_ble_eq_true rfl⟩ 0 rfl rfl rfl rfl rfl (Nat.le_of_ble_eq_true rfl) ⟨Nat.le_refl _, Nat.le_refl _⟩ dL_same_142 rfl (fun r v h => ip_at hI hd hi (qat0 _ _) h) (fun u hI => ?_)
              refine v_iload C dL_same_145 rfl 4 rfl ?_
              refine v_if_ge C 155 dL_same_147 (by decide) rfl (fun _ => ?_) (fun h9 => absurd (h95) h9)
              refine v_iload C dL_same_155 rfl 4 rfl ?_
              refine v_icmp_ne C 235 dL_same_157 (by decide) rfl (fun h9 => absurd h9 (fun q => q (ef.trans e6.symm))) (fun _ => ?_)
              refine v_aload_n C dL_same_160 rfl 0 5 rfl rfl ?_
              refine v_iload C dL_same_161 rfl 15 rfl ?_
              refine v_iload C dL_same_163 rfl 16 rfl ?_
              refine v_iconst (v := 1) C dL_same_165 rfl ic_1 ?_
              refine v_cI C K (q_ppa g (2 * d + i)) (IC g n) (c_X4_at l D ad cI cC cZ cQ u n hI.w (nI d) (nI i) 1) gL_same_X4_at rfl hd_X4_at ⟨rfl, rfl⟩ ⟨Nat.le_of_ble_eq_true rfl, Nat.le_of_ble_eq_true rfl⟩ 0 rfl rfl rfl rfl rfl (Nat.le_of_ble_eq_true rfl) ⟨Nat.le_refl _, Nat.le_refl _⟩ dL_same_166 rfl (fun r v h => ip_at hI hd hi (qat1 _ _) h) (fun u hI => ?_)
              refine v_iload C dL_same_169 rfl 3 rfl ?_
              refine v_icmp_ne C 235 dL_same_171 (by decide) rfl (fun h9 => absurd h9 (fun q => q (rfl))) (fun _ => ?_)
              refine v_aload_n C dL_same_174 rfl 0 5 rfl rfl ?_
              refine v_iload C dL_same_175 rfl 15 rfl ?_
              refine v_iload C dL_same_177 rfl 16 rfl ?_
              refine v_iconst (v := 2) C dL_same_179 rfl ic_2 ?_
              refine v_cI C K (q_ppa g (2 * d + i) * g 1) (IC g n) (c_X4_at l D ad cI cC cZ cQ u n hI.w (nI d) (nI i) 2) gL_same_X4_at rfl hd_X4_at ⟨rfl, rfl⟩ ⟨Nat.le_of_ble_eq_true rfl, Nat.le_of_ble_eq_true rfl⟩ 0 rfl rfl rfl rfl rfl (Nat.le_of_ble_eq_true rfl) ⟨Nat.le_refl _, Nat.le_refl _⟩ dL_same_180 rfl (fun r v h => ip_at hI hd hi (qat2 _ _) h) (fun u hI => ?_)
              refine v_iload C dL_same_183 rfl 3 rfl ?_
              refine v_aload_n C dL_same_185 rfl 2 7 rfl rfl ?_
              refine v_iconst (v := 1) C dL_same_186 rfl ic_1 ?_
              refine v_aldL C K 0 6 rfl (1) (rfl) (by omega) (by decide) dL_same_187 rfl ?_
              refine v_top (g 1) (hR.q (by decide)) ?_
              refine v_imul C dL_same_188 rfl ?_
              refine v_icmp_ne C 235 dL_same_189 (by decide) rfl (fun h9 => absurd h9 (fun q => q (rfl))) (fun _ => ?_)
              refine v_aload_n C dL_same_192 rfl 0 5 rfl rfl ?_
              refine v_iload C dL_same_193 rfl 15 rfl ?_
              refine v_iload C dL_same_195 rfl 16 rfl ?_
              refine v_iconst (v := 3) C dL_same_197 rfl ic_3 ?_
              refine v_cI C K (q_bhd g (2 * d + i)) (IC g n) (c_X4_at l D ad cI cC cZ cQ u n hI.w (nI d) (nI i) 3) gL_same_X4_at rfl hd_X4_at ⟨rfl, rfl⟩ ⟨Nat.le_of_ble_eq_true rfl, Nat.le_of_ble_eq_true rfl⟩ 0 rfl rfl rfl rfl rfl (Nat.le_of_ble_eq_true rfl) ⟨Nat.le_refl _, Nat.le_refl _⟩ dL_same_198 rfl (fun r v h => ip_at hI hd hi (qat3 _ _) h) (fun u hI => ?_)
              refine v_iload C dL_same_201 rfl 4 rfl ?_
              refine v_if_ge C 211 dL_same_203 (by decide) rfl (fun _ => ?_) (fun h9 => absurd (h95) h9)
              refine v_iload C dL_same_211 rfl 4 rfl ?_
              refine v_top (nI f) (e6) ?_
              refine v_iconst (v := 2) C dL_same_213 rfl ic_2 ?_
              refine v_iload C dL_same_214 rfl 15 rfl ?_
              refine v_imul C dL_same_216 rfl ?_
              refine v_iload C dL_same_217 rfl 16 rfl ?_
              refine v_iadd C dL_same_219 rfl ?_
              refine v_top (nI (2 * d + i)) (ix2 d i) ?_
              refine v_aload_n C dL_same_220 rfl 2 7 rfl rfl ?_
              refine v_aload_n C dL_same_221 rfl 3 8 rfl rfl ?_
              refine v_aload C dL_same_222 rfl 9 rfl ?_
              refine v_aload C dL_same_224 rfl 10 rfl ?_
              refine v_cR C K (c_L_leftAt l D la cI cC cZ cQ _ g n hR f (2 * d + i) hf (by omega)) gL_same_L_leftAt rfl hd_L_leftAt.2 ⟨rfl, rfl⟩ ⟨Nat.le_of_ble_eq_true rfl, Nat.le_of_ble_eq_true rfl⟩ rfl rfl (Nat.le_of_ble_eq_true rfl) ⟨Nat.le_refl _, Nat.le_refl _⟩ dL_same_226 rfl ?_
              refine v_iload C dL_same_229 rfl 3 rfl ?_
              refine v_isub C dL_same_231 rfl ?_
              refine v_icmp_eq C 237 dL_same_232 (by decide) rfl (fun _ => ?_) (fun h9 => absurd (bhd_f (by omega) hk9 ef) h9)
              refine v_iinc (lv' := [(14, _), (9, _), (8, _), (7, _), (16, _), (15, _), (0, _), (1, _), (2, _), (3, _), (4, _), (5, _), (6, _), (10, _), (11, _), (12, _), (13, _)]) C dL_same_237 rfl 16 rfl (inc9 _) (by decide) rfl ?_
              refine v_goto C 57 dL_same_240 (by decide) ?_
              refine v_lv (lv' := [(0, _), (1, _), (2, _), (3, _), (4, _), (5, _), (6, _), (7, _), (8, _), (9, _), (10, _), (11, _), (12, _), (13, _), (14, _)]) [6, 7, 8, 9, 10, 11, 12, 3, 2, 1, 13, 14, 15, 16, 0] rfl ?_
              exact ih u hI
            · skip
              refine v_iconst (v := 1) C dL_same_128 rfl ic_1 ?_
              refine v_goto C 133 dL_same_129 (by decide) ?_
              refine v_iadd C dL_same_133 rfl ?_
              refine v_top (sm9 (q_fs g) (2 * d + i + 1)) (fs_1 (by omega) ef h125f) ?_
              refine v_istore (lv' := [(9, _), (8, _), (7, _), (16, _), (15, _), (0, _), (1, _), (2, _), (3, _), (4, _), (5, _), (6, _), (10, _), (11, _), (12, _), (13, _), (14, _)]) C dL_same_134 rfl (by decide) rfl ?_
              refine v_aload_n C dL_same_136 rfl 0 5 rfl rfl ?_
              refine v_iload C dL_same_137 rfl 15 rfl ?_
              refine v_iload C dL_same_139 rfl 16 rfl ?_
              refine v_iconst (v := 0) C dL_same_141 rfl ic_0 ?_
              refine v_cI C K (g (46 + (2 * d + i))) (IC g n) (c_X4_at l D ad cI cC cZ cQ u n hI.w (nI d) (nI i) 0) gL_same_X4_at rfl hd_X4_at ⟨rfl, rfl⟩ ⟨Nat.le_of_ble_eq_true rfl, Nat.le_of_ble_eq_true rfl⟩ 0 rfl rfl rfl rfl rfl (Nat.le_of_ble_eq_true rfl) ⟨Nat.le_refl _, Nat.le_refl _⟩ dL_same_142 rfl (fun r v h => ip_at hI hd hi (qat0 _ _) h) (fun u hI => ?_)
              refine v_iload C dL_same_145 rfl 4 rfl ?_
              refine v_if_ge C 155 dL_same_147 (by decide) rfl (fun _ => ?_) (fun h9 => absurd (h95) h9)
              refine v_iload C dL_same_155 rfl 4 rfl ?_
              refine v_icmp_ne C 235 dL_same_157 (by decide) rfl (fun h9 => absurd h9 (fun q => q (ef.trans e6.symm))) (fun _ => ?_)
              refine v_aload_n C dL_same_160 rfl 0 5 rfl rfl ?_
              refine v_iload C dL_same_161 rfl 15 rfl ?_
              refine v_iload C dL_same_163 rfl 16 rfl ?_
              refine v_iconst (v := 1) C dL_same_165 rfl ic_1 ?_
              refine v_cI C K (q_ppa g (2 * d + i)) (IC g n) (c_X4_at l D ad cI cC cZ cQ u n hI.w (nI d) (nI i) 1) gL_same_X4_at rfl hd_X4_at ⟨rfl, rfl⟩ ⟨Nat.le_of_ble_eq_true rfl, Nat.le_of_ble_eq_true rfl⟩ 0 rfl rfl rfl rfl rfl (Nat.le_of_ble_eq_true rfl) ⟨Nat.le_refl _, Nat.le_refl _⟩ dL_same_166 rfl (fun r v h => ip_at hI hd hi (qat1 _ _) h) (fun u hI => ?_)
              refine v_iload C dL_same_169 rfl 3 rfl ?_
              refine v_icmp_ne C 235 dL_same_171 (by decide) rfl (fun h9 => absurd h9 (fun q => q (rfl))) (fun _ => ?_)
              refine v_aload_n C dL_same_174 rfl 0 5 rfl rfl ?_
              refine v_iload C dL_same_175 rfl 15 rfl ?_
              refine v_iload C dL_same_177 rfl 16 rfl ?_
              refine v_iconst (v := 2) C dL_same_179 rfl ic_2 ?_
              refine v_cI C K (q_ppa g (2 * d + i) * g 1) (IC g n) (c_X4_at l D ad cI cC cZ cQ u n hI.w (nI d) (nI i) 2) gL_same_X4_at rfl hd_X4_at ⟨rfl, rfl⟩ ⟨Nat.le_of_ble_eq_true rfl, Nat.le_of_ble_eq_true rfl⟩ 0 rfl rfl rfl rfl rfl (Nat.le_of_ble_eq_true rfl) ⟨Nat.le_refl _, Nat.le_refl _⟩ dL_same_180 rfl (fun r v h => ip_at hI hd hi (qat2 _ _) h) (fun u hI => ?_)
              refine v_iload C dL_same_183 rfl 3 rfl ?_
              refine v_aload_n C dL_same_185 rfl 2 7 rfl rfl ?_
              refine v_iconst (v := 1) C dL_same_186 rfl ic_1 ?_
              refine v_aldL C K 0 6 rfl (1) (rfl) (by omega) (by decide) dL_same_187 rfl ?_
              refine v_top (g 1) (hR.q (by decide)) ?_
              refine v_imul C dL_same_188 rfl ?_
              refine v_icmp_ne C 235 dL_same_189 (by decide) rfl (fun h9 => absurd h9 (fun q => q (rfl))) (fun _ => ?_)
              refine v_aload_n C dL_same_192 rfl 0 5 rfl rfl ?_
              refine v_iload C dL_same_193 rfl 15 rfl ?_
              refine v_iload C dL_same_195 rfl 16 rfl ?_
              refine v_iconst (v := 3) C dL_same_197 rfl ic_3 ?_
              refine v_cI C K (q_bhd g (2 * d + i)) (IC g n) (c_X4_at l D ad cI cC cZ cQ u n hI.w (nI d) (nI i) 3) gL_same_X4_at rfl hd_X4_at ⟨rfl, rfl⟩ ⟨Nat.le_of_ble_eq_true rfl, Nat.le_of_ble_eq_true rfl⟩ 0 rfl rfl rfl rfl rfl (Nat.le_of_ble_eq_true rfl) ⟨Nat.le_refl _, Nat.le_refl _⟩ dL_same_198 rfl (fun r v h => ip_at hI hd hi (qat3 _ _) h) (fun u hI => ?_)
              refine v_iload C dL_same_201 rfl 4 rfl ?_
              refine v_if_ge C 211 dL_same_203 (by decide) rfl (fun _ => ?_) (fun h9 => absurd (h95) h9)
              refine v_iload C dL_same_211 rfl 4 rfl ?_
              refine v_top (nI f) (e6) ?_
              refine v_iconst (v := 2) C dL_same_213 rfl ic_2 ?_
              refine v_iload C dL_same_214 rfl 15 rfl ?_
              refine v_imul C dL_same_216 rfl ?_
              refine v_iload C dL_same_217 rfl 16 rfl ?_
              refine v_iadd C dL_same_219 rfl ?_
              refine v_top (nI (2 * d + i)) (ix2 d i) ?_
              refine v_aload_n C dL_same_220 rfl 2 7 rfl rfl ?_
              refine v_aload_n C dL_same_221 rfl 3 8 rfl rfl ?_
              refine v_aload C dL_same_222 rfl 9 rfl ?_
              refine v_aload C dL_same_224 rfl 10 rfl ?_
              refine v_cR C K (c_L_leftAt l D la cI cC cZ cQ _ g n hR f (2 * d + i) hf (by omega)) gL_same_L_leftAt rfl hd_L_leftAt.2 ⟨rfl, rfl⟩ ⟨Nat.le_of_ble_eq_true rfl, Nat.le_of_ble_eq_true rfl⟩ rfl rfl (Nat.le_of_ble_eq_true rfl) ⟨Nat.le_refl _, Nat.le_refl _⟩ dL_same_226 rfl ?_
              refine v_iload C dL_same_229 rfl 3 rfl ?_
              refine v_isub C dL_same_231 rfl ?_
              refine v_icmp_eq C 237 dL_same_232 (by decide) rfl (fun _ => ?_) (fun h9 => absurd (bhd_f (by omega) hk9 ef) h9)
              refine v_iinc (lv' := [(14, _), (9, _), (8, _), (7, _), (16, _), (15, _), (0, _), (1, _), (2, _), (3, _), (4, _), (5, _), (6, _), (10, _), (11, _), (12, _), (13, _)]) C dL_same_237 rfl 16 rfl (inc9 _) (by decide) rfl ?_
              refine v_goto C 57 dL_same_240 (by decide) ?_
              refine v_lv (lv' := [(0, _), (1, _), (2, _), (3, _), (4, _), (5, _), (6, _), (7, _), (8, _), (9, _), (10, _), (11, _), (12, _), (13, _), (14, _)]) [6, 7, 8, 9, 10, 11, 12, 3, 2, 1, 13, 14, 15, 16, 0] rfl ?_
              exact ih u hI
          · skip
            have e6 := fl0_n hR.w hk9 h95f
            refine v_iconst (v := 0) C dL_same_98 rfl ic_0 ?_
            refine v_goto C 103 dL_same_99 (by decide) ?_
            refine v_iadd C dL_same_103 rfl ?_
            refine v_top (sm9 (shw g) (2 * d + i + 1)) (shw_0 e6) ?_
            refine v_istore (lv' := [(7, _), (16, _), (15, _), (0, _), (1, _), (2, _), (3, _), (4, _), (5, _), (6, _), (8, _), (9, _), (10, _), (11, _), (12, _), (13, _), (14, _)]) C dL_same_104 rfl (by decide) rfl ?_
            refine v_iload C dL_same_106 rfl 10 rfl ?_
            refine v_iload C dL_same_108 rfl 1 rfl ?_
            refine v_iadd C dL_same_110 rfl ?_
            refine v_istore (lv' := [(8, _), (7, _), (16, _), (15, _), (0, _), (1, _), (2, _), (3, _), (4, _), (5, _), (6, _), (9, _), (10, _), (11, _), (12, _), (13, _), (14, _)]) C dL_same_111 rfl (by decide) rfl ?_
            refine v_iload C dL_same_113 rfl 11 rfl ?_
            refine v_iload C dL_same_115 rfl 3 rfl ?_
            refine v_if_lt C 132 dL_same_117 (by decide) rfl (fun _ => ?_) (fun h9 => absurd (Int32.not_le.mp h95f) h9)
            refine v_iconst (v := 0) C dL_same_132 rfl ic_0 ?_
            refine v_iadd C dL_same_133 rfl ?_
            refine v_top (sm9 (q_fs g) (2 * d + i + 1)) (fs_0 (fun q => q.1 e6)) ?_
            refine v_istore (lv' := [(9, _), (8, _), (7, _), (16, _), (15, _), (0, _), (1, _), (2, _), (3, _), (4, _), (5, _), (6, _), (10, _), (11, _), (12, _), (13, _), (14, _)]) C dL_same_134 rfl (by decide) rfl ?_
            refine v_aload_n C dL_same_136 rfl 0 5 rfl rfl ?_
            refine v_iload C dL_same_137 rfl 15 rfl ?_
            refine v_iload C dL_same_139 rfl 16 rfl ?_
            refine v_iconst (v := 0) C dL_same_141 rfl ic_0 ?_
            refine v_cI C K (g (46 + (2 * d + i))) (IC g n) (c_X4_at l D ad cI cC cZ cQ u n hI.w (nI d) (nI i) 0) gL_same_X4_at rfl hd_X4_at ⟨rfl, rfl⟩ ⟨Nat.le_of_ble_eq_true rfl, Nat.le_of_ble_eq_true rfl⟩ 0 rfl rfl rfl rfl rfl (Nat.le_of_ble_eq_true rfl) ⟨Nat.le_refl _, Nat.le_refl _⟩ dL_same_142 rfl (fun r v h => ip_at hI hd hi (qat0 _ _) h) (fun u hI => ?_)
            refine v_iload C dL_same_145 rfl 4 rfl ?_
            refine v_if_ge C 155 dL_same_147 (by decide) rfl (fun h9 => absurd h9 (h95f)) (fun _ => ?_)
            refine v_bipush (v := -6) C dL_same_150 rfl bp_m6 ?_
            refine v_goto C 157 dL_same_152 (by decide) ?_
            refine v_icmp_ne C 235 dL_same_157 (by decide) rfl (fun h9 => absurd h9 (fun q => q (e6))) (fun _ => ?_)
            refine v_aload_n C dL_same_160 rfl 0 5 rfl rfl ?_
            refine v_iload C dL_same_161 rfl 15 rfl ?_
            refine v_iload C dL_same_163 rfl 16 rfl ?_
            refine v_iconst (v := 1) C dL_same_165 rfl ic_1 ?_
            refine v_cI C K (q_ppa g (2 * d + i)) (IC g n) (c_X4_at l D ad cI cC cZ cQ u n hI.w (nI d) (nI i) 1) gL_same_X4_at rfl hd_X4_at ⟨rfl, rfl⟩ ⟨Nat.le_of_ble_eq_true rfl, Nat.le_of_ble_eq_true rfl⟩ 0 rfl rfl rfl rfl rfl (Nat.le_of_ble_eq_true rfl) ⟨Nat.le_refl _, Nat.le_refl _⟩ dL_same_166 rfl (fun r v h => ip_at hI hd hi (qat1 _ _) h) (fun u hI => ?_)
            refine v_iload C dL_same_169 rfl 3 rfl ?_
            refine v_icmp_ne C 235 dL_same_171 (by decide) rfl (fun h9 => absurd h9 (fun q => q (rfl))) (fun _ => ?_)
            refine v_aload_n C dL_same_174 rfl 0 5 rfl rfl ?_
            refine v_iload C dL_same_175 rfl 15 rfl ?_
            refine v_iload C dL_same_177 rfl 16 rfl ?_
            refine v_iconst (v := 2) C dL_same_179 rfl ic_2 ?_
            refine v_cI C K (q_ppa g (2 * d + i) * g 1) (IC g n) (c_X4_at l D ad cI cC cZ cQ u n hI.w (nI d) (nI i) 2) gL_same_X4_at rfl hd_X4_at ⟨rfl, rfl⟩ ⟨Nat.le_of_ble_eq_true rfl, Nat.le_of_ble_eq_true rfl⟩ 0 rfl rfl rfl rfl rfl (Nat.le_of_ble_eq_true rfl) ⟨Nat.le_refl _, Nat.le_refl _⟩ dL_same_180 rfl (fun r v h => ip_at hI hd hi (qat2 _ _) h) (fun u hI => ?_)
            refine v_iload C dL_same_183 rfl 3 rfl ?_
            refine v_aload_n C dL_same_185 rfl 2 7 rfl rfl ?_
            refine v_iconst (v := 1) C dL_same_186 rfl ic_1 ?_
            refine v_aldL C K 0 6 rfl (1) (rfl) (by omega) (by decide) dL_same_187 rfl ?_
            refine v_top (g 1) (hR.q (by decide)) ?_
            refine v_imul C dL_same_188 rfl ?_
            refine v_icmp_ne C 235 dL_same_189 (by decide) rfl (fun h9 => absurd h9 (fun q => q (rfl))) (fun _ => ?_)
            refine v_aload_n C dL_same_192 rfl 0 5 rfl rfl ?_
            refine v_iload C dL_same_193 rfl 15 rfl ?_
            refine v_iload C dL_same_195 rfl 16 rfl ?_
            refine v_iconst (v := 3) C dL_same_197 rfl ic_3 ?_
            refine v_cI C K (q_bhd g (2 * d + i)) (IC g n) (c_X4_at l D ad cI cC cZ cQ u n hI.w (nI d) (nI i) 3) gL_same_X4_at rfl hd_X4_at ⟨rfl, rfl⟩ ⟨Nat.le_of_ble_eq_true rfl, Nat.le_of_ble_eq_true rfl⟩ 0 rfl rfl rfl rfl rfl (Nat.le_of_ble_eq_true rfl) ⟨Nat.le_refl _, Nat.le_refl _⟩ dL_same_198 rfl (fun r v h => ip_at hI hd hi (qat3 _ _) h) (fun u hI => ?_)
            refine v_iload C dL_same_201 rfl 4 rfl ?_
            refine v_if_ge C 211 dL_same_203 (by decide) rfl (fun h9 => absurd h9 (h95f)) (fun _ => ?_)
            refine v_bipush (v := -6) C dL_same_206 rfl bp_m6 ?_
            refine v_goto C 232 dL_same_208 (by decide) ?_
            refine v_icmp_eq C 237 dL_same_232 (by decide) rfl (fun _ => ?_) (fun h9 => absurd (if_pos e6) h9)
            refine v_iinc (lv' := [(14, _), (9, _), (8, _), (7, _), (16, _), (15, _), (0, _), (1, _), (2, _), (3, _), (4, _), (5, _), (6, _), (10, _), (11, _), (12, _), (13, _)]) C dL_same_237 rfl 16 rfl (inc9 _) (by decide) rfl ?_
            refine v_goto C 57 dL_same_240 (by decide) ?_
            refine v_lv (lv' := [(0, _), (1, _), (2, _), (3, _), (4, _), (5, _), (6, _), (7, _), (8, _), (9, _), (10, _), (11, _), (12, _), (13, _), (14, _)]) [6, 7, 8, 9, 10, 11, 12, 3, 2, 1, 13, 14, 15, 16, 0] rfl ?_
            exact ih u hI
        · intro u hI
          refine v_iload C dL_same_57 rfl 14 rfl ?_
          refine v_iconst (v := 2) C dL_same_59 rfl ic_2 ?_
          refine v_icmp_ge C 243 dL_same_60 (by decide) rfl (fun _ => ?_) (fun h9 => absurd (nI_le (Nat.le_refl _) (by decide)) h9)
          refine v_iinc (lv' := [(13, _), (0, _), (1, _), (2, _), (3, _), (4, _), (5, _), (6, _), (7, _), (8, _), (9, _), (10, _), (11, _), (12, _), (14, _)]) C dL_same_243 rfl 13 rfl (inc9 _) (by decide) rfl ?_
          refine v_goto C 21 dL_same_246 (by decide) ?_
          refine v_lv (lv' := [(0, _), (1, _), (2, _), (3, _), (4, _), (5, _), (6, _), (7, _), (8, _), (9, _), (10, _), (11, _), (12, _), (13, _)]) [1, 2, 3, 4, 5, 6, 7, 8, 9, 10, 11, 12, 13, 0] rfl ?_
          exact v9cast (ih u hI) rfl (by rw [show 2 * (d + 1) = 2 * d + 2 by omega]) rfl
      refine v_lv (lv' := [(0, _), (1, _), (2, _), (3, _), (4, _), (5, _), (6, _), (7, _), (8, _), (9, _), (10, _), (11, _), (12, _), (13, _), (14, _)]) [2, 3, 4, 5, 6, 7, 8, 9, 10, 11, 1, 12, 13, 14, 0] rfl ?_
      exact LP57 0 (by omega) u hI
    · intro u hI
      refine v_iload C dL_same_21 rfl 13 rfl ?_
      refine v_bipush (v := 35) C dL_same_23 rfl bp_35 ?_
      refine v_icmp_ge C 249 dL_same_25 (by decide) rfl (fun _ => ?_) (fun h9 => absurd (nI_le (Nat.le_refl _) (by decide)) h9)
      refine v_iconst (v := 0) C dL_same_249 rfl ic_0 ?_
      refine v_istore (lv' := [(13, _), (0, _), (1, _), (2, _), (3, _), (4, _), (5, _), (6, _), (7, _), (8, _), (9, _), (10, _), (11, _), (12, _)]) C dL_same_250 rfl (by decide) rfl ?_
      have LP252 : ∀ f, f ≤ n → ∀ u : S9, IC g n u → VV p l e ({ frames := 7, cells := 0, slots := 0, locals := 165 } : Room) s m args below meth c 0 0 Q (PW ad la cI cC cZ cQ) D A s.heap 22 (u, t) 252 [(0, .ref (ad 0)), (1, .int x), (2, .ref (la 0)), (3, .ref (la 1)), (4, .ref (la 2)), (5, .ref (la 3)), (6, .ref (la 4)), (7, .int (sm9 (shw g) 70)), (8, .int (sm9 (q_ppa g) 70)), (9, .int (sm9 (q_fs g) 70)), (10, .int (sm9 (fun j => g (116 + j)) 35)), (11, .int (sm9 (fun f => sm9 (q_D g f) 5) f)), (12, .int (sm9 (fun f => sm9 (q_T g f) 5) f)), (13, .int (nI f))] [] := by
        refine lpB9 (fun f => ∀ u : S9, IC g n u → VV p l e ({ frames := 7, cells := 0, slots := 0, locals := 165 } : Room) s m args below meth c 0 0 Q (PW ad la cI cC cZ cQ) D A s.heap 22 (u, t) 252 [(0, .ref (ad 0)), (1, .int x), (2, .ref (la 0)), (3, .ref (la 1)), (4, .ref (la 2)), (5, .ref (la 3)), (6, .ref (la 4)), (7, .int (sm9 (shw g) 70)), (8, .int (sm9 (q_ppa g) 70)), (9, .int (sm9 (q_fs g) 70)), (10, .int (sm9 (fun j => g (116 + j)) 35)), (11, .int (sm9 (fun f => sm9 (q_D g f) 5) f)), (12, .int (sm9 (fun f => sm9 (q_T g f) 5) f)), (13, .int (nI f))] []) n (fun f hf ih => ?_) ?_
        · intro u hI
          refine v_iload C dL_same_252 rfl 13 rfl ?_
          refine v_aload_n C dL_same_254 rfl 2 2 rfl rfl ?_
          refine v_iconst (v := 5) C dL_same_255 rfl ic_5 ?_
          refine v_aldL C K 0 6 rfl (5) (rfl) (by omega) (by decide) dL_same_256 rfl ?_
          refine v_top (nI n) ((hR.q (by decide)).trans hR.w.1.1) ?_
          refine v_icmp_ge C 637 dL_same_257 (by decide) rfl (fun h9 => absurd h9 (nI_ge hf (by omega))) (fun _ => ?_)
          refine v_iconst (v := 0) C dL_same_260 rfl ic_0 ?_
          refine v_istore (lv' := [(14, _), (0, _), (1, _), (2, _), (3, _), (4, _), (5, _), (6, _), (7, _), (8, _), (9, _), (10, _), (11, _), (12, _), (13, _)]) C dL_same_261 rfl (by decide) rfl ?_
          refine v_iconst (v := 0) C dL_same_263 rfl ic_0 ?_
          refine v_istore (lv' := [(15, _), (14, _), (0, _), (1, _), (2, _), (3, _), (4, _), (5, _), (6, _), (7, _), (8, _), (9, _), (10, _), (11, _), (12, _), (13, _)]) C dL_same_264 rfl (by decide) rfl ?_
          refine v_iconst (v := 0) C dL_same_266 rfl ic_0 ?_
          refine v_istore (lv' := [(16, _), (15, _), (14, _), (0, _), (1, _), (2, _), (3, _), (4, _), (5, _), (6, _), (7, _), (8, _), (9, _), (10, _), (11, _), (12, _), (13, _)]) C dL_same_267 rfl (by decide) rfl ?_
          refine v_bipush (v := -6) C dL_same_269 rfl bp_m6 ?_
          refine v_istore (lv' := [(17, _), (16, _), (15, _), (14, _), (0, _), (1, _), (2, _), (3, _), (4, _), (5, _), (6, _), (7, _), (8, _), (9, _), (10, _), (11, _), (12, _), (13, _)]) C dL_same_271 rfl (by decide) rfl ?_
          refine v_iconst (v := 0) C dL_same_273 rfl ic_0 ?_
          refine v_istore (lv' := [(18, _), (17, _), (16, _), (15, _), (14, _), (0, _), (1, _), (2, _), (3, _), (4, _), (5, _), (6, _), (7, _), (8, _), (9, _), (10, _), (11, _), (12, _), (13, _)]) C dL_same_274 rfl (by decide) rfl ?_
          have LP276 : ∀ k, k ≤ 5 → ∀ u : S9, IC g n u → VV p l e ({ frames := 7, cells := 0, slots := 0, locals := 165 } : Room) s m args below meth c 0 0 Q (PW ad la cI cC cZ cQ) D A s.heap 22 (u, t) 276 [(0, .ref (ad 0)), (1, .int x), (2, .ref (la 0)), (3, .ref (la 1)), (4, .ref (la 2)), (5, .ref (la 3)), (6, .ref (la 4)), (7, .int (sm9 (shw g) 70)), (8, .int (sm9 (q_ppa g) 70)), (9, .int (sm9 (q_fs g) 70)), (10, .int (sm9 (fun j => g (116 + j)) 35)), (11, .int (sm9 (fun f => sm9 (q_D g f) 5) f)), (12, .int (sm9 (fun f => sm9 (q_T g f) 5) f)), (13, .int (nI f)), (14, .int (0)), (15, .int (0)), (16, .int (0)), (17, .int (-6)), (18, .int (nI k))] [] := by
            refine lpB9 (fun k => ∀ u : S9, IC g n u → VV p l e ({ frames := 7, cells := 0, slots := 0, locals := 165 } : Room) s m args below meth c 0 0 Q (PW ad la cI cC cZ cQ) D A s.heap 22 (u, t) 276 [(0, .ref (ad 0)), (1, .int x), (2, .ref (la 0)), (3, .ref (la 1)), (4, .ref (la 2)), (5, .ref (la 3)), (6, .ref (la 4)), (7, .int (sm9 (shw g) 70)), (8, .int (sm9 (q_ppa g) 70)), (9, .int (sm9 (q_fs g) 70)), (10, .int (sm9 (fun j => g (116 + j)) 35)), (11, .int (sm9 (fun f => sm9 (q_D g f) 5) f)), (12, .int (sm9 (fun f => sm9 (q_T g f) 5) f)), (13, .int (nI f)), (14, .int (0)), (15, .int (0)), (16, .int (0)), (17, .int (-6)), (18, .int (nI k))] []) 5 (fun k hk ih => ?_) ?_
            · intro u hI
              refine v_iload C dL_same_276 rfl 18 rfl ?_
              refine v_iconst (v := 5) C dL_same_278 rfl ic_5 ?_
              refine v_icmp_ge C 310 dL_same_279 (by decide) rfl (fun h9 => absurd h9 (nI_ge hk (by decide))) (fun _ => ?_)
              refine v_aload_n C dL_same_282 rfl 0 0 rfl rfl ?_
              refine v_iload C dL_same_283 rfl 13 rfl ?_
              refine v_iload C dL_same_285 rfl 18 rfl ?_
              refine v_cI C K (g (6 + 5 * f + k)) (IC g n) (c_X4_of l D ad cI cC cZ cQ u n hI.w (nI f) (nI k)) gL_same_X4_of rfl hd_X4_of ⟨rfl, rfl⟩ ⟨Nat.le_of_ble_eq_true rfl, Nat.le_of_ble_eq_true rfl⟩ 0 rfl rfl rfl rfl rfl (Nat.le_of_ble_eq_true rfl) ⟨Nat.le_refl _, Nat.le_refl _⟩ dL_same_287 rfl (fun r v h => ip_of hI hf (qof_k _ _ hk) h) (fun u hI => ?_)
              refine v_aload_n C dL_same_290 rfl 3 3 rfl rfl ?_
              refine v_iconst (v := 5) C dL_same_291 rfl ic_5 ?_
              refine v_iload C dL_same_292 rfl 13 rfl ?_
              refine v_imul C dL_same_294 rfl ?_
              refine v_iload C dL_same_295 rfl 18 rfl ?_
              refine v_iadd C dL_same_297 rfl ?_
              refine v_aldL C K 1 40 rfl (5 * f + k) (ix5 f k) (by omega) (by decide) dL_same_298 rfl ?_
              refine v_top (g (6 + 5 * f + k)) (hR.f k hf hk) ?_
              refine v_icmp_eq C 304 dL_same_299 (by decide) rfl (fun _ => ?_) (fun h9 => absurd (rfl) h9)
              refine v_iinc (lv' := [(18, _), (0, _), (1, _), (2, _), (3, _), (4, _), (5, _), (6, _), (7, _), (8, _), (9, _), (10, _), (11, _), (12, _), (13, _), (14, _), (15, _), (16, _), (17, _)]) C dL_same_304 rfl 18 rfl (inc9 _) (by decide) rfl ?_
              refine v_goto C 276 dL_same_307 (by decide) ?_
              refine v_lv (lv' := [(0, _), (1, _), (2, _), (3, _), (4, _), (5, _), (6, _), (7, _), (8, _), (9, _), (10, _), (11, _), (12, _), (13, _), (14, _), (15, _), (16, _), (17, _), (18, _)]) [1, 2, 3, 4, 5, 6, 7, 8, 9, 10, 11, 12, 13, 14, 15, 16, 17, 18, 0] rfl ?_
              exact ih u hI
            · intro u hI
              refine v_iload C dL_same_276 rfl 18 rfl ?_
              refine v_iconst (v := 5) C dL_same_278 rfl ic_5 ?_
              refine v_icmp_ge C 310 dL_same_279 (by decide) rfl (fun _ => ?_) (fun h9 => absurd (nI_le (Nat.le_refl _) (by decide)) h9)
              refine v_bipush (v := 34) C dL_same_310 rfl bp_34 ?_
              refine v_istore (lv' := [(18, _), (0, _), (1, _), (2, _), (3, _), (4, _), (5, _), (6, _), (7, _), (8, _), (9, _), (10, _), (11, _), (12, _), (13, _), (14, _), (15, _), (16, _), (17, _)]) C dL_same_312 rfl (by decide) rfl ?_
              have LP314 : ∀ j, j ≤ 35 → VV p l e ({ frames := 7, cells := 0, slots := 0, locals := 165 } : Room) s m args below meth c 0 0 Q (PW ad la cI cC cZ cQ) D A s.heap 22 (u, t) 314 [(0, .ref (ad 0)), (1, .int x), (2, .ref (la 0)), (3, .ref (la 1)), (4, .ref (la 2)), (5, .ref (la 3)), (6, .ref (la 4)), (7, .int (sm9 (shw g) 70)), (8, .int (sm9 (q_ppa g) 70)), (9, .int (sm9 (q_fs g) 70)), (10, .int (sm9 (fun j => g (116 + j)) 35)), (11, .int (sm9 (fun f => sm9 (q_D g f) 5) f)), (12, .int (sm9 (fun f => sm9 (q_T g f) 5) f)), (13, .int (nI f)), (14, .int (0)), (15, .int (0)), (16, .int (0)), (17, .int (fsh g (nI f) (2 * j))), (18, .int (nI (35 - j) + (-1)))] [] := by
                refine lpB9 (fun j => VV p l e ({ frames := 7, cells := 0, slots := 0, locals := 165 } : Room) s m args below meth c 0 0 Q (PW ad la cI cC cZ cQ) D A s.heap 22 (u, t) 314 [(0, .ref (ad 0)), (1, .int x), (2, .ref (la 0)), (3, .ref (la 1)), (4, .ref (la 2)), (5, .ref (la 3)), (6, .ref (la 4)), (7, .int (sm9 (shw g) 70)), (8, .int (sm9 (q_ppa g) 70)), (9, .int (sm9 (q_fs g) 70)), (10, .int (sm9 (fun j => g (116 + j)) 35)), (11, .int (sm9 (fun f => sm9 (q_D g f) 5) f)), (12, .int (sm9 (fun f => sm9 (q_T g f) 5) f)), (13, .int (nI f)), (14, .int (0)), (15, .int (0)), (16, .int (0)), (17, .int (fsh g (nI f) (2 * j))), (18, .int (nI (35 - j) + (-1)))] []) 35 (fun j hj ih => ?_) ?_
                · skip
                  refine v_iload C dL_same_314 rfl 18 rfl ?_
                  refine v_if_lt C 358 dL_same_316 (by decide) rfl (fun h9 => absurd h9 (by rw [fd_e hj]; exact nI_pos (by omega))) (fun _ => ?_)
                  refine v_aload C dL_same_319 rfl 4 rfl ?_
                  refine v_iload C dL_same_321 rfl 18 rfl ?_
                  refine v_aldL C K 2 35 rfl (34 - j) (fd_e hj) (by omega) (by decide) dL_same_323 rfl ?_
                  refine v_top (sh0 (g (46 + 2 * (34 - j)))) (hR.a (by omega)) ?_
                  refine v_iload C dL_same_324 rfl 13 rfl ?_
                  refine v_iconst (v := 1) C dL_same_326 rfl ic_1 ?_
                  refine v_iadd C dL_same_327 rfl ?_
                  refine v_icmp_eq C 343 dL_same_328 (by decide) rfl (fun h328 => ?_) (fun h328f => ?_)
                  · skip
                    refine v_iload C dL_same_343 rfl 18 rfl ?_
                    refine v_goto C 350 dL_same_345 (by decide) ?_
                    refine v_top (fsh g (nI f) (2 * (j + 1))) (fd_a hj ((sh0_f hR.w (by omega) (by omega)).mp h328)) ?_
                    refine v_istore (lv' := [(17, _), (0, _), (1, _), (2, _), (3, _), (4, _), (5, _), (6, _), (7, _), (8, _), (9, _), (10, _), (11, _), (12, _), (13, _), (14, _), (15, _), (16, _), (18, _)]) C dL_same_350 rfl (by decide) rfl ?_
                    refine v_iinc (lv' := [(18, _), (17, _), (0, _), (1, _), (2, _), (3, _), (4, _), (5, _), (6, _), (7, _), (8, _), (9, _), (10, _), (11, _), (12, _), (13, _), (14, _), (15, _), (16, _)]) C dL_same_352 rfl 18 rfl (fd_dec hj) (by decide) rfl ?_
                    refine v_goto C 314 dL_same_355 (by decide) ?_
                    refine v_lv (lv' := [(0, _), (1, _), (2, _), (3, _), (4, _), (5, _), (6, _), (7, _), (8, _), (9, _), (10, _), (11, _), (12, _), (13, _), (14, _), (15, _), (16, _), (17, _), (18, _)]) [2, 3, 4, 5, 6, 7, 8, 9, 10, 11, 12, 13, 14, 15, 16, 17, 18, 1, 0] rfl ?_
                    exact ih
                  · skip
                    refine v_aload C dL_same_331 rfl 5 rfl ?_
                    refine v_iload C dL_same_333 rfl 18 rfl ?_
                    refine v_aldL C K 3 35 rfl (34 - j) (fd_e hj) (by omega) (by decide) dL_same_335 rfl ?_
                    refine v_top (sh0 (g (46 + (2 * (34 - j) + 1)))) (hR.e (by omega)) ?_
                    refine v_iload C dL_same_336 rfl 13 rfl ?_
                    refine v_iconst (v := 1) C dL_same_338 rfl ic_1 ?_
                    refine v_iadd C dL_same_339 rfl ?_
                    refine v_icmp_ne C 348 dL_same_340 (by decide) rfl (fun h340 => ?_) (fun h340f => ?_)
                    · skip
                      refine v_iload C dL_same_348 rfl 17 rfl ?_
                      refine v_top (fsh g (nI f) (2 * (j + 1))) (fd_c hj (fun q => h328f ((sh0_f hR.w (by omega) (by omega)).mpr q)) (fun q => h340 ((sh0_f hR.w (by omega) (by omega)).mpr q))) ?_
                      refine v_istore (lv' := [(17, _), (0, _), (1, _), (2, _), (3, _), (4, _), (5, _), (6, _), (7, _), (8, _), (9, _), (10, _), (11, _), (12, _), (13, _), (14, _), (15, _), (16, _), (18, _)]) C dL_same_350 rfl (by decide) rfl ?_
                      refine v_iinc (lv' := [(18, _), (17, _), (0, _), (1, _), (2, _), (3, _), (4, _), (5, _), (6, _), (7, _), (8, _), (9, _), (10, _), (11, _), (12, _), (13, _), (14, _), (15, _), (16, _)]) C dL_same_352 rfl 18 rfl (fd_dec hj) (by decide) rfl ?_
                      refine v_goto C 314 dL_same_355 (by decide) ?_
                      refine v_lv (lv' := [(0, _), (1, _), (2, _), (3, _), (4, _), (5, _), (6, _), (7, _), (8, _), (9, _), (10, _), (11, _), (12, _), (13, _), (14, _), (15, _), (16, _), (17, _), (18, _)]) [2, 3, 4, 5, 6, 7, 8, 9, 10, 11, 12, 13, 14, 15, 16, 17, 18, 1, 0] rfl ?_
                      exact ih
                    · skip
                      refine v_iload C dL_same_343 rfl 18 rfl ?_
                      refine v_goto C 350 dL_same_345 (by decide) ?_
                      refine v_top (fsh g (nI f) (2 * (j + 1))) (fd_b hj (fun q => h328f ((sh0_f hR.w (by omega) (by omega)).mpr q)) ((sh0_f hR.w (by omega) (by omega)).mp h340f)) ?_
                      refine v_istore (lv' := [(17, _), (0, _), (1, _), (2, _), (3, _), (4, _), (5, _), (6, _), (7, _), (8, _), (9, _), (10, _), (11, _), (12, _), (13, _), (14, _), (15, _), (16, _), (18, _)]) C dL_same_350 rfl (by decide) rfl ?_
                      refine v_iinc (lv' := [(18, _), (17, _), (0, _), (1, _), (2, _), (3, _), (4, _), (5, _), (6, _), (7, _), (8, _), (9, _), (10, _), (11, _), (12, _), (13, _), (14, _), (15, _), (16, _)]) C dL_same_352 rfl 18 rfl (fd_dec hj) (by decide) rfl ?_
                      refine v_goto C 314 dL_same_355 (by decide) ?_
                      refine v_lv (lv' := [(0, _), (1, _), (2, _), (3, _), (4, _), (5, _), (6, _), (7, _), (8, _), (9, _), (10, _), (11, _), (12, _), (13, _), (14, _), (15, _), (16, _), (17, _), (18, _)]) [2, 3, 4, 5, 6, 7, 8, 9, 10, 11, 12, 13, 14, 15, 16, 17, 18, 1, 0] rfl ?_
                      exact ih
                · skip
                  refine v_iload C dL_same_314 rfl 18 rfl ?_
                  refine v_if_lt C 358 dL_same_316 (by decide) rfl (fun _ => ?_) (fun h9 => absurd (by decide) h9)
                  refine v_iconst (v := 0) C dL_same_358 rfl ic_0 ?_
                  refine v_istore (lv' := [(18, _), (0, _), (1, _), (2, _), (3, _), (4, _), (5, _), (6, _), (7, _), (8, _), (9, _), (10, _), (11, _), (12, _), (13, _), (14, _), (15, _), (16, _), (17, _)]) C dL_same_359 rfl (by decide) rfl ?_
                  have LP361 : ∀ w, w ≤ 5 → ∀ u : S9, IC g n u → VV p l e ({ frames := 7, cells := 0, slots := 0, locals := 165 } : Room) s m args below meth c 0 0 Q (PW ad la cI cC cZ cQ) D A s.heap 22 (u, t) 361 [(0, .ref (ad 0)), (1, .int x), (2, .ref (la 0)), (3, .ref (la 1)), (4, .ref (la 2)), (5, .ref (la 3)), (6, .ref (la 4)), (7, .int (sm9 (shw g) 70)), (8, .int (sm9 (q_ppa g) 70)), (9, .int (sm9 (q_fs g) 70)), (10, .int (sm9 (fun j => g (116 + j)) 35)), (11, .int (sm9 (fun f => sm9 (q_D g f) 5) f)), (12, .int (sm9 (fun f => sm9 (q_T g f) 5) f)), (13, .int (nI f)), (14, .int (sm9 (q_T g f) w)), (15, .int (sm9 (q_D g f) w)), (16, .int (sm9 (q_S g f) w)), (17, .int (fsh g (nI f) 70)), (18, .int (nI w))] [] := by
                    refine lpB9 (fun w => ∀ u : S9, IC g n u → VV p l e ({ frames := 7, cells := 0, slots := 0, locals := 165 } : Room) s m args below meth c 0 0 Q (PW ad la cI cC cZ cQ) D A s.heap 22 (u, t) 361 [(0, .ref (ad 0)), (1, .int x), (2, .ref (la 0)), (3, .ref (la 1)), (4, .ref (la 2)), (5, .ref (la 3)), (6, .ref (la 4)), (7, .int (sm9 (shw g) 70)), (8, .int (sm9 (q_ppa g) 70)), (9, .int (sm9 (q_fs g) 70)), (10, .int (sm9 (fun j => g (116 + j)) 35)), (11, .int (sm9 (fun f => sm9 (q_D g f) 5) f)), (12, .int (sm9 (fun f => sm9 (q_T g f) 5) f)), (13, .int (nI f)), (14, .int (sm9 (q_T g f) w)), (15, .int (sm9 (q_D g f) w)), (16, .int (sm9 (q_S g f) w)), (17, .int (fsh g (nI f) 70)), (18, .int (nI w))] []) 5 (fun w hw ih => ?_) ?_
                    · intro u hI
                      refine v_iload C dL_same_361 rfl 18 rfl ?_
                      refine v_iconst (v := 5) C dL_same_363 rfl ic_5 ?_
                      refine v_icmp_ge C 523 dL_same_364 (by decide) rfl (fun h9 => absurd h9 (nI_ge hw (by decide))) (fun _ => ?_)
                      refine v_iload C dL_same_367 rfl 13 rfl ?_
                      refine v_iload C dL_same_369 rfl 18 rfl ?_
                      refine v_aload_n C dL_same_371 rfl 2 2 rfl rfl ?_
                      refine v_aload_n C dL_same_372 rfl 3 3 rfl rfl ?_
                      refine v_aload C dL_same_373 rfl 4 rfl ?_
                      refine v_aload C dL_same_375 rfl 5 rfl ?_
                      refine v_cR C K (c_L_takings l D la cI cC cZ cQ _ g n hR f w hf hw) gL_same_L_takings rfl hd_L_takings.2 ⟨rfl, rfl⟩ ⟨Nat.le_of_ble_eq_true rfl, Nat.le_of_ble_eq_true rfl⟩ rfl rfl (Nat.le_of_ble_eq_true rfl) ⟨Nat.le_refl _, Nat.le_refl _⟩ dL_same_377 rfl ?_
                      refine v_istore (lv' := [(19, _), (0, _), (1, _), (2, _), (3, _), (4, _), (5, _), (6, _), (7, _), (8, _), (9, _), (10, _), (11, _), (12, _), (13, _), (14, _), (15, _), (16, _), (17, _), (18, _)]) C dL_same_380 rfl (by decide) rfl ?_
                      refine v_iload C dL_same_382 rfl 14 rfl ?_
                      refine v_iload C dL_same_384 rfl 19 rfl ?_
                      refine v_aload_n C dL_same_386 rfl 3 4 rfl rfl ?_
                      refine v_aload C dL_same_387 rfl 5 rfl ?_
                      refine v_aload C dL_same_389 rfl 6 rfl ?_
                      refine v_cR C K (c_L_share l D la cI cC cZ cQ _ g n hR f w hf hw) gL_same_L_share rfl hd_L_share.2 ⟨rfl, rfl⟩ ⟨Nat.le_of_ble_eq_true rfl, Nat.le_of_ble_eq_true rfl⟩ rfl rfl (Nat.le_of_ble_eq_true rfl) ⟨Nat.le_refl _, Nat.le_refl _⟩ dL_same_391 rfl ?_
                      refine v_istore (lv' := [(20, _), (19, _), (0, _), (1, _), (2, _), (3, _), (4, _), (5, _), (6, _), (7, _), (8, _), (9, _), (10, _), (11, _), (12, _), (13, _), (14, _), (15, _), (16, _), (17, _), (18, _)]) C dL_same_394 rfl (by decide) rfl ?_
                      refine v_iload C dL_same_396 rfl 15 rfl ?_
                      refine v_iload C dL_same_398 rfl 20 rfl ?_
                      refine v_aload_n C dL_same_400 rfl 2 4 rfl rfl ?_
                      refine v_aload_n C dL_same_401 rfl 3 5 rfl rfl ?_
                      refine v_aload C dL_same_402 rfl 6 rfl ?_
                      refine v_aload C dL_same_404 rfl 7 rfl ?_
                      refine v_cR C K (c_L_due l D la cI cC cZ cQ _ g n hR f w hf hw) gL_same_L_due rfl hd_L_due.2 ⟨rfl, rfl⟩ ⟨Nat.le_of_ble_eq_true rfl, Nat.le_of_ble_eq_true rfl⟩ rfl rfl (Nat.le_of_ble_eq_true rfl) ⟨Nat.le_refl _, Nat.le_refl _⟩ dL_same_406 rfl ?_
                      refine v_istore (lv' := [(21, _), (20, _), (19, _), (0, _), (1, _), (2, _), (3, _), (4, _), (5, _), (6, _), (7, _), (8, _), (9, _), (10, _), (11, _), (12, _), (13, _), (14, _), (15, _), (16, _), (17, _), (18, _)]) C dL_same_409 rfl (by decide) rfl ?_
                      refine v_iload C dL_same_411 rfl 17 rfl ?_
                      refine v_iload C dL_same_413 rfl 2 rfl ?_
                      refine v_iadd C dL_same_415 rfl ?_
                      refine v_istore (lv' := [(14, _), (21, _), (20, _), (19, _), (0, _), (1, _), (2, _), (3, _), (4, _), (5, _), (6, _), (7, _), (8, _), (9, _), (10, _), (11, _), (12, _), (13, _), (15, _), (16, _), (17, _), (18, _)]) C dL_same_416 rfl (by decide) rfl ?_
                      refine v_iload C dL_same_418 rfl 18 rfl ?_
                      refine v_iload C dL_same_420 rfl 1 rfl ?_
                      refine v_iadd C dL_same_422 rfl ?_
                      refine v_istore (lv' := [(15, _), (14, _), (21, _), (20, _), (19, _), (0, _), (1, _), (2, _), (3, _), (4, _), (5, _), (6, _), (7, _), (8, _), (9, _), (10, _), (11, _), (12, _), (13, _), (16, _), (17, _), (18, _)]) C dL_same_423 rfl (by decide) rfl ?_
                      refine v_iload C dL_same_425 rfl 19 rfl ?_
                      refine v_iload C dL_same_427 rfl 18 rfl ?_
                      refine v_iload C dL_same_429 rfl 21 rfl ?_
                      refine v_aload C dL_same_431 rfl 9 rfl ?_
                      refine v_aload C dL_same_433 rfl 10 rfl ?_
                      refine v_cR C K (c_L_shows l D la cI cC cZ cQ _ g n hR f w hf hw) gL_same_L_shows rfl hd_L_shows.2 ⟨rfl, rfl⟩ ⟨Nat.le_of_ble_eq_true rfl, Nat.le_of_ble_eq_true rfl⟩ rfl rfl (Nat.le_of_ble_eq_true rfl) ⟨Nat.le_refl _, Nat.le_refl _⟩ dL_same_435 rfl ?_
                      refine v_iadd C dL_same_438 rfl ?_
                      refine v_istore (lv' := [(16, _), (15, _), (14, _), (21, _), (20, _), (19, _), (0, _), (1, _), (2, _), (3, _), (4, _), (5, _), (6, _), (7, _), (8, _), (9, _), (10, _), (11, _), (12, _), (13, _), (17, _), (18, _)]) C dL_same_439 rfl (by decide) rfl ?_
                      refine v_aload_n C dL_same_441 rfl 0 6 rfl rfl ?_
                      refine v_iload C dL_same_442 rfl 19 rfl ?_
                      refine v_iload C dL_same_444 rfl 21 rfl ?_
                      refine v_iconst (v := 0) C dL_same_446 rfl ic_0 ?_
                      refine v_cI C K (q_T g f w) (IC g n) (c_X4_inWeek l D ad cI cC cZ cQ u n hI.w (nI f) (nI w) 0) gL_same_X4_inWeek rfl hd_X4_inWeek ⟨rfl, rfl⟩ ⟨Nat.le_of_ble_eq_true rfl, Nat.le_of_ble_eq_true rfl⟩ 0 rfl rfl rfl rfl rfl (Nat.le_of_ble_eq_true rfl) ⟨Nat.le_refl _, Nat.le_refl _⟩ dL_same_447 rfl (fun r v h => ip_iw hI hf hw (qiw0 _ _ _) h) (fun u hI => ?_)
                      refine v_iload C dL_same_450 rfl 5 rfl ?_
                      refine v_icmp_ne C 515 dL_same_452 (by decide) rfl (fun h9 => absurd h9 (fun q => q (rfl))) (fun _ => ?_)
                      refine v_aload_n C dL_same_455 rfl 0 6 rfl rfl ?_
                      refine v_iload C dL_same_456 rfl 19 rfl ?_
                      refine v_iload C dL_same_458 rfl 21 rfl ?_
                      refine v_iconst (v := 1) C dL_same_460 rfl ic_1 ?_
                      refine v_cI C K (q_sh g f w) (IC g n) (c_X4_inWeek l D ad cI cC cZ cQ u n hI.w (nI f) (nI w) 1) gL_same_X4_inWeek rfl hd_X4_inWeek ⟨rfl, rfl⟩ ⟨Nat.le_of_ble_eq_true rfl, Nat.le_of_ble_eq_true rfl⟩ 0 rfl rfl rfl rfl rfl (Nat.le_of_ble_eq_true rfl) ⟨Nat.le_refl _, Nat.le_refl _⟩ dL_same_461 rfl (fun r v h => ip_iw hI hf hw (qiw1 _ _ _) h) (fun u hI => ?_)
                      refine v_iload C dL_same_464 rfl 4 rfl ?_
                      refine v_icmp_ne C 515 dL_same_466 (by decide) rfl (fun h9 => absurd h9 (fun q => q (rfl))) (fun _ => ?_)
                      refine v_aload_n C dL_same_469 rfl 0 6 rfl rfl ?_
                      refine v_iload C dL_same_470 rfl 19 rfl ?_
                      refine v_iload C dL_same_472 rfl 21 rfl ?_
                      refine v_iconst (v := 2) C dL_same_474 rfl ic_2 ?_
                      refine v_cI C K (q_D g f w) (IC g n) (c_X4_inWeek l D ad cI cC cZ cQ u n hI.w (nI f) (nI w) 2) gL_same_X4_inWeek rfl hd_X4_inWeek ⟨rfl, rfl⟩ ⟨Nat.le_of_ble_eq_true rfl, Nat.le_of_ble_eq_true rfl⟩ 0 rfl rfl rfl rfl rfl (Nat.le_of_ble_eq_true rfl) ⟨Nat.le_refl _, Nat.le_refl _⟩ dL_same_475 rfl (fun r v h => ip_iw hI hf hw (qiw2 _ _ _) h) (fun u hI => ?_)
                      refine v_iload C dL_same_478 rfl 3 rfl ?_
                      refine v_icmp_ne C 515 dL_same_480 (by decide) rfl (fun h9 => absurd h9 (fun q => q (rfl))) (fun _ => ?_)
                      refine v_aload_n C dL_same_483 rfl 0 6 rfl rfl ?_
                      refine v_iload C dL_same_484 rfl 19 rfl ?_
                      refine v_iload C dL_same_486 rfl 21 rfl ?_
                      refine v_iconst (v := 3) C dL_same_488 rfl ic_3 ?_
                      refine v_cI C K (q_D g f w - q_so g f w) (IC g n) (c_X4_inWeek l D ad cI cC cZ cQ u n hI.w (nI f) (nI w) 3) gL_same_X4_inWeek rfl hd_X4_inWeek ⟨rfl, rfl⟩ ⟨Nat.le_of_ble_eq_true rfl, Nat.le_of_ble_eq_true rfl⟩ 0 rfl rfl rfl rfl rfl (Nat.le_of_ble_eq_true rfl) ⟨Nat.le_refl _, Nat.le_refl _⟩ dL_same_489 rfl (fun r v h => ip_iw hI hf hw (qiw3 _ _ _) h) (fun u hI => ?_)
                      refine v_iload C dL_same_492 rfl 3 rfl ?_
                      refine v_iload C dL_same_494 rfl 4 rfl ?_
                      refine v_if_ge C 503 dL_same_496 (by decide) rfl (fun h496 => ?_) (fun h496f => ?_)
                      · skip
                        refine v_iload C dL_same_503 rfl 5 rfl ?_
                        refine v_iload C dL_same_505 rfl 4 rfl ?_
                        refine v_imul C dL_same_507 rfl ?_
                        refine v_bipush (v := 100) C dL_same_508 rfl bp_100 ?_
                        refine v_idiv C dL_same_510 rfl (by decide) ?_
                        refine v_isub C dL_same_511 rfl ?_
                        refine v_icmp_eq C 517 dL_same_512 (by decide) rfl (fun _ => ?_) (fun h9 => absurd (by rw [so_ge h496]) h9)
                        refine v_iinc (lv' := [(18, _), (16, _), (15, _), (14, _), (21, _), (20, _), (19, _), (0, _), (1, _), (2, _), (3, _), (4, _), (5, _), (6, _), (7, _), (8, _), (9, _), (10, _), (11, _), (12, _), (13, _), (17, _)]) C dL_same_517 rfl 21 rfl (inc9 _) (by decide) rfl ?_
                        refine v_goto C 361 dL_same_520 (by decide) ?_
                        refine v_lv (lv' := [(0, _), (1, _), (2, _), (3, _), (4, _), (5, _), (6, _), (7, _), (8, _), (9, _), (10, _), (11, _), (12, _), (13, _), (14, _), (15, _), (16, _), (17, _), (18, _)]) [7, 8, 9, 10, 11, 12, 13, 14, 15, 16, 17, 18, 19, 20, 3, 2, 1, 21, 0] rfl ?_
                        exact ih u hI
                      · skip
                        refine v_iconst (v := 0) C dL_same_499 rfl ic_0 ?_
                        refine v_goto C 511 dL_same_500 (by decide) ?_
                        refine v_isub C dL_same_511 rfl ?_
                        refine v_icmp_eq C 517 dL_same_512 (by decide) rfl (fun _ => ?_) (fun h9 => absurd (by rw [so_lt h496f]) h9)
                        refine v_iinc (lv' := [(18, _), (16, _), (15, _), (14, _), (21, _), (20, _), (19, _), (0, _), (1, _), (2, _), (3, _), (4, _), (5, _), (6, _), (7, _), (8, _), (9, _), (10, _), (11, _), (12, _), (13, _), (17, _)]) C dL_same_517 rfl 21 rfl (inc9 _) (by decide) rfl ?_
                        refine v_goto C 361 dL_same_520 (by decide) ?_
                        refine v_lv (lv' := [(0, _), (1, _), (2, _), (3, _), (4, _), (5, _), (6, _), (7, _), (8, _), (9, _), (10, _), (11, _), (12, _), (13, _), (14, _), (15, _), (16, _), (17, _), (18, _)]) [7, 8, 9, 10, 11, 12, 13, 14, 15, 16, 17, 18, 19, 20, 3, 2, 1, 21, 0] rfl ?_
                        exact ih u hI
                    · intro u hI
                      refine v_iload C dL_same_361 rfl 18 rfl ?_
                      refine v_iconst (v := 5) C dL_same_363 rfl ic_5 ?_
                      refine v_icmp_ge C 523 dL_same_364 (by decide) rfl (fun _ => ?_) (fun h9 => absurd (nI_le (Nat.le_refl _) (by decide)) h9)
                      refine v_iload C dL_same_523 rfl 11 rfl ?_
                      refine v_iload C dL_same_525 rfl 15 rfl ?_
                      refine v_iadd C dL_same_527 rfl ?_
                      refine v_istore (lv' := [(11, _), (0, _), (1, _), (2, _), (3, _), (4, _), (5, _), (6, _), (7, _), (8, _), (9, _), (10, _), (12, _), (13, _), (14, _), (15, _), (16, _), (17, _), (18, _)]) C dL_same_528 rfl (by decide) rfl ?_
                      refine v_iload C dL_same_530 rfl 12 rfl ?_
                      refine v_iload C dL_same_532 rfl 14 rfl ?_
                      refine v_iadd C dL_same_534 rfl ?_
                      refine v_istore (lv' := [(12, _), (11, _), (0, _), (1, _), (2, _), (3, _), (4, _), (5, _), (6, _), (7, _), (8, _), (9, _), (10, _), (13, _), (14, _), (15, _), (16, _), (17, _), (18, _)]) C dL_same_535 rfl (by decide) rfl ?_
                      refine v_aload_n C dL_same_537 rfl 0 2 rfl rfl ?_
                      refine v_iload C dL_same_538 rfl 13 rfl ?_
                      refine v_iconst (v := 5) C dL_same_540 rfl ic_5 ?_
                      refine v_cI C K (sm9 (q_S g f) 5) (IC g n) (c_X4_of l D ad cI cC cZ cQ u n hI.w (nI f) 5) gL_same_X4_of rfl hd_X4_of ⟨rfl, rfl⟩ ⟨Nat.le_of_ble_eq_true rfl, Nat.le_of_ble_eq_true rfl⟩ 0 rfl rfl rfl rfl rfl (Nat.le_of_ble_eq_true rfl) ⟨Nat.le_refl _, Nat.le_refl _⟩ dL_same_541 rfl (fun r v h => ip_of hI hf (qof5 _ _) h) (fun u hI => ?_)
                      refine v_iload C dL_same_544 rfl 16 rfl ?_
                      refine v_icmp_ne C 629 dL_same_546 (by decide) rfl (fun h9 => absurd h9 (fun q => q (rfl))) (fun _ => ?_)
                      refine v_aload_n C dL_same_549 rfl 0 2 rfl rfl ?_
                      refine v_iload C dL_same_550 rfl 13 rfl ?_
                      refine v_bipush (v := 7) C dL_same_552 rfl bp_7 ?_
                      refine v_cI C K (sm9 (q_T g f) 5) (IC g n) (c_X4_of l D ad cI cC cZ cQ u n hI.w (nI f) 7) gL_same_X4_of rfl hd_X4_of ⟨rfl, rfl⟩ ⟨Nat.le_of_ble_eq_true rfl, Nat.le_of_ble_eq_true rfl⟩ 0 rfl rfl rfl rfl rfl (Nat.le_of_ble_eq_true rfl) ⟨Nat.le_refl _, Nat.le_refl _⟩ dL_same_554 rfl (fun r v h => ip_of hI hf (qof7 _ _) h) (fun u hI => ?_)
                      refine v_iload C dL_same_557 rfl 14 rfl ?_
                      refine v_icmp_ne C 629 dL_same_559 (by decide) rfl (fun h9 => absurd h9 (fun q => q (rfl))) (fun _ => ?_)
                      refine v_aload_n C dL_same_562 rfl 0 2 rfl rfl ?_
                      refine v_iload C dL_same_563 rfl 13 rfl ?_
                      refine v_bipush (v := 8) C dL_same_565 rfl bp_8 ?_
                      refine v_cI C K (sm9 (q_D g f) 5) (IC g n) (c_X4_of l D ad cI cC cZ cQ u n hI.w (nI f) 8) gL_same_X4_of rfl hd_X4_of ⟨rfl, rfl⟩ ⟨Nat.le_of_ble_eq_true rfl, Nat.le_of_ble_eq_true rfl⟩ 0 rfl rfl rfl rfl rfl (Nat.le_of_ble_eq_true rfl) ⟨Nat.le_refl _, Nat.le_refl _⟩ dL_same_567 rfl (fun r v h => ip_of hI hf (qof8 _ _) h) (fun u hI => ?_)
                      refine v_iload C dL_same_570 rfl 15 rfl ?_
                      refine v_icmp_ne C 629 dL_same_572 (by decide) rfl (fun h9 => absurd h9 (fun q => q (rfl))) (fun _ => ?_)
                      refine v_aload_n C dL_same_575 rfl 0 2 rfl rfl ?_
                      refine v_iload C dL_same_576 rfl 13 rfl ?_
                      refine v_bipush (v := 9) C dL_same_578 rfl bp_9 ?_
                      refine v_cI C K (q_L g f 70) (IC g n) (c_X4_of l D ad cI cC cZ cQ u n hI.w (nI f) 9) gL_same_X4_of rfl hd_X4_of ⟨rfl, rfl⟩ ⟨Nat.le_of_ble_eq_true rfl, Nat.le_of_ble_eq_true rfl⟩ 0 rfl rfl rfl rfl rfl (Nat.le_of_ble_eq_true rfl) ⟨Nat.le_refl _, Nat.le_refl _⟩ dL_same_580 rfl (fun r v h => ip_of hI hf (qof9 _ _) h) (fun u hI => ?_)
                      refine v_iload C dL_same_583 rfl 13 rfl ?_
                      refine v_bipush (v := 70) C dL_same_585 rfl bp_70 ?_
                      refine v_aload_n C dL_same_587 rfl 2 4 rfl rfl ?_
                      refine v_aload_n C dL_same_588 rfl 3 5 rfl rfl ?_
                      refine v_aload C dL_same_589 rfl 6 rfl ?_
                      refine v_aload C dL_same_591 rfl 7 rfl ?_
                      refine v_cR C K (c_L_leftAt l D la cI cC cZ cQ _ g n hR f 70 hf (by omega)) gL_same_L_leftAt rfl hd_L_leftAt.2 ⟨rfl, rfl⟩ ⟨Nat.le_of_ble_eq_true rfl, Nat.le_of_ble_eq_true rfl⟩ rfl rfl (Nat.le_of_ble_eq_true rfl) ⟨Nat.le_refl _, Nat.le_refl _⟩ dL_same_593 rfl ?_
                      refine v_icmp_ne C 629 dL_same_596 (by decide) rfl (fun h9 => absurd h9 (fun q => q ((if_neg (by decide) : q_LA g f 70 = q_L g f 70).symm))) (fun _ => ?_)
                      refine v_aload_n C dL_same_599 rfl 0 2 rfl rfl ?_
                      refine v_iload C dL_same_600 rfl 13 rfl ?_
                      refine v_bipush (v := 10) C dL_same_602 rfl bp_10 ?_
                      refine v_cI C K (fsh g (nI f) 70) (IC g n) (c_X4_of l D ad cI cC cZ cQ u n hI.w (nI f) 10) gL_same_X4_of rfl hd_X4_of ⟨rfl, rfl⟩ ⟨Nat.le_of_ble_eq_true rfl, Nat.le_of_ble_eq_true rfl⟩ 0 rfl rfl rfl rfl rfl (Nat.le_of_ble_eq_true rfl) ⟨Nat.le_refl _, Nat.le_refl _⟩ dL_same_604 rfl (fun r v h => ip_of hI hf (qof10 _ _) h) (fun u hI => ?_)
                      refine v_iload C dL_same_607 rfl 17 rfl ?_
                      refine v_icmp_ne C 629 dL_same_609 (by decide) rfl (fun h9 => absurd h9 (fun q => q (rfl))) (fun _ => ?_)
                      refine v_aload_n C dL_same_612 rfl 0 2 rfl rfl ?_
                      refine v_iload C dL_same_613 rfl 13 rfl ?_
                      refine v_bipush (v := 6) C dL_same_615 rfl bp_6 ?_
                      refine v_cI C K (sm9 (q_po g f) 70) (IC g n) (c_X4_of l D ad cI cC cZ cQ u n hI.w (nI f) 6) gL_same_X4_of rfl hd_X4_of ⟨rfl, rfl⟩ ⟨Nat.le_of_ble_eq_true rfl, Nat.le_of_ble_eq_true rfl⟩ 0 rfl rfl rfl rfl rfl (Nat.le_of_ble_eq_true rfl) ⟨Nat.le_refl _, Nat.le_refl _⟩ dL_same_617 rfl (fun r v h => ip_of hI hf (qof6 _ _) h) (fun u hI => ?_)
                      refine v_aload_n C dL_same_620 rfl 2 4 rfl rfl ?_
                      refine v_iconst (v := 1) C dL_same_621 rfl ic_1 ?_
                      refine v_aldL C K 0 6 rfl (1) (rfl) (by omega) (by decide) dL_same_622 rfl ?_
                      refine v_top (g 1) (hR.q (by decide)) ?_
                      refine v_imul C dL_same_623 rfl ?_
                      refine v_iload C dL_same_624 rfl 14 rfl ?_
                      refine v_icmp_eq C 631 dL_same_626 (by decide) rfl (fun _ => ?_) (fun h9 => absurd (po_T g (by omega)) h9)
                      refine v_iinc (lv' := [(13, _), (12, _), (11, _), (0, _), (1, _), (2, _), (3, _), (4, _), (5, _), (6, _), (7, _), (8, _), (9, _), (10, _), (14, _), (15, _), (16, _), (17, _), (18, _)]) C dL_same_631 rfl 13 rfl (inc9 _) (by decide) rfl ?_
                      refine v_goto C 252 dL_same_634 (by decide) ?_
                      refine v_lv (lv' := [(0, _), (1, _), (2, _), (3, _), (4, _), (5, _), (6, _), (7, _), (8, _), (9, _), (10, _), (11, _), (12, _), (13, _)]) [3, 4, 5, 6, 7, 8, 9, 10, 11, 12, 13, 2, 1, 0] rfl ?_
                      exact ih u hI
                  refine v_lv (lv' := [(0, _), (1, _), (2, _), (3, _), (4, _), (5, _), (6, _), (7, _), (8, _), (9, _), (10, _), (11, _), (12, _), (13, _), (14, _), (15, _), (16, _), (17, _), (18, _)]) [1, 2, 3, 4, 5, 6, 7, 8, 9, 10, 11, 12, 13, 14, 15, 16, 17, 18, 0] rfl ?_
                  exact LP361 0 (by omega) u hI
              refine v_lv (lv' := [(0, _), (1, _), (2, _), (3, _), (4, _), (5, _), (6, _), (7, _), (8, _), (9, _), (10, _), (11, _), (12, _), (13, _), (14, _), (15, _), (16, _), (17, _), (18, _)]) [1, 2, 3, 4, 5, 6, 7, 8, 9, 10, 11, 12, 13, 14, 15, 16, 17, 18, 0] rfl ?_
              exact LP314 0 (by omega)
          refine v_lv (lv' := [(0, _), (1, _), (2, _), (3, _), (4, _), (5, _), (6, _), (7, _), (8, _), (9, _), (10, _), (11, _), (12, _), (13, _), (14, _), (15, _), (16, _), (17, _), (18, _)]) [5, 6, 7, 8, 9, 10, 11, 12, 13, 14, 15, 16, 17, 18, 4, 3, 2, 1, 0] rfl ?_
          exact LP276 0 (by omega) u hI
        · intro u hI
          refine v_iload C dL_same_252 rfl 13 rfl ?_
          refine v_aload_n C dL_same_254 rfl 2 2 rfl rfl ?_
          refine v_iconst (v := 5) C dL_same_255 rfl ic_5 ?_
          refine v_aldL C K 0 6 rfl (5) (rfl) (by omega) (by decide) dL_same_256 rfl ?_
          refine v_top (nI n) ((hR.q (by decide)).trans hR.w.1.1) ?_
          refine v_icmp_ge C 637 dL_same_257 (by decide) rfl (fun _ => ?_) (fun h9 => absurd (nI_le (Nat.le_refl _) (by omega)) h9)
          refine v_iload_n C dL_same_637 rfl 1 1 rfl rfl ?_
          refine v_iconst (v := 5) C dL_same_638 rfl ic_5 ?_
          refine v_callSpd C (c_L_low l x 5 (by decide) (by decide)) gL_same_L_low rfl hd_L_low.2 ⟨rfl, rfl⟩ ⟨Nat.le_of_ble_eq_true rfl, Nat.le_of_ble_eq_true rfl⟩ rfl rfl (Nat.le_of_ble_eq_true rfl) ⟨Nat.le_refl _, Nat.le_refl _⟩ dL_same_639 rfl ?_
          obtain ⟨W, hW, eW⟩ : ∃ W : Nat, W < 5 ∧ nI (lw9 x 5) = nI W := ⟨lw9 x 5, lw9_lt x (by decide), rfl⟩
          refine v_top (nI W) (eW) ?_
          refine v_istore (lv' := [(13, _), (0, _), (1, _), (2, _), (3, _), (4, _), (5, _), (6, _), (7, _), (8, _), (9, _), (10, _), (11, _), (12, _)]) C dL_same_642 rfl (by decide) rfl ?_
          refine v_iconst (v := 0) C dL_same_644 rfl ic_0 ?_
          refine v_istore (lv' := [(14, _), (13, _), (0, _), (1, _), (2, _), (3, _), (4, _), (5, _), (6, _), (7, _), (8, _), (9, _), (10, _), (11, _), (12, _)]) C dL_same_645 rfl (by decide) rfl ?_
          refine v_iconst (v := 0) C dL_same_647 rfl ic_0 ?_
          refine v_istore (lv' := [(15, _), (14, _), (13, _), (0, _), (1, _), (2, _), (3, _), (4, _), (5, _), (6, _), (7, _), (8, _), (9, _), (10, _), (11, _), (12, _)]) C dL_same_648 rfl (by decide) rfl ?_
          refine v_iconst (v := 0) C dL_same_650 rfl ic_0 ?_
          refine v_istore (lv' := [(16, _), (15, _), (14, _), (13, _), (0, _), (1, _), (2, _), (3, _), (4, _), (5, _), (6, _), (7, _), (8, _), (9, _), (10, _), (11, _), (12, _)]) C dL_same_651 rfl (by decide) rfl ?_
          refine v_iconst (v := 0) C dL_same_653 rfl ic_0 ?_
          refine v_istore (lv' := [(17, _), (16, _), (15, _), (14, _), (13, _), (0, _), (1, _), (2, _), (3, _), (4, _), (5, _), (6, _), (7, _), (8, _), (9, _), (10, _), (11, _), (12, _)]) C dL_same_654 rfl (by decide) rfl ?_
          refine v_iconst (v := 0) C dL_same_656 rfl ic_0 ?_
          refine v_istore (lv' := [(18, _), (17, _), (16, _), (15, _), (14, _), (13, _), (0, _), (1, _), (2, _), (3, _), (4, _), (5, _), (6, _), (7, _), (8, _), (9, _), (10, _), (11, _), (12, _)]) C dL_same_657 rfl (by decide) rfl ?_
          have LP659 : ∀ f2, f2 ≤ n → VV p l e ({ frames := 7, cells := 0, slots := 0, locals := 165 } : Room) s m args below meth c 0 0 Q (PW ad la cI cC cZ cQ) D A s.heap 22 (u, t) 659 [(0, .ref (ad 0)), (1, .int x), (2, .ref (la 0)), (3, .ref (la 1)), (4, .ref (la 2)), (5, .ref (la 3)), (6, .ref (la 4)), (7, .int (sm9 (shw g) 70)), (8, .int (sm9 (q_ppa g) 70)), (9, .int (sm9 (q_fs g) 70)), (10, .int (sm9 (fun j => g (116 + j)) 35)), (11, .int (sm9 (fun f => sm9 (q_D g f) 5) n)), (12, .int (sm9 (fun f => sm9 (q_T g f) 5) n)), (13, .int (nI W)), (14, .int (sm9 (fun f => q_T g f W) f2)), (15, .int (sm9 (fun f => q_S g f W) f2)), (16, .int (sm9 (fun f => q_D g f W) f2)), (17, .int (0)), (18, .int (nI f2))] [] := by
            refine lpB9 (fun f2 => VV p l e ({ frames := 7, cells := 0, slots := 0, locals := 165 } : Room) s m args below meth c 0 0 Q (PW ad la cI cC cZ cQ) D A s.heap 22 (u, t) 659 [(0, .ref (ad 0)), (1, .int x), (2, .ref (la 0)), (3, .ref (la 1)), (4, .ref (la 2)), (5, .ref (la 3)), (6, .ref (la 4)), (7, .int (sm9 (shw g) 70)), (8, .int (sm9 (q_ppa g) 70)), (9, .int (sm9 (q_fs g) 70)), (10, .int (sm9 (fun j => g (116 + j)) 35)), (11, .int (sm9 (fun f => sm9 (q_D g f) 5) n)), (12, .int (sm9 (fun f => sm9 (q_T g f) 5) n)), (13, .int (nI W)), (14, .int (sm9 (fun f => q_T g f W) f2)), (15, .int (sm9 (fun f => q_S g f W) f2)), (16, .int (sm9 (fun f => q_D g f W) f2)), (17, .int (0)), (18, .int (nI f2))] []) n (fun f2 hf2 ih => ?_) ?_
            · skip
              refine v_iload C dL_same_659 rfl 18 rfl ?_
              refine v_aload_n C dL_same_661 rfl 2 2 rfl rfl ?_
              refine v_iconst (v := 5) C dL_same_662 rfl ic_5 ?_
              refine v_aldL C K 0 6 rfl (5) (rfl) (by omega) (by decide) dL_same_663 rfl ?_
              refine v_top (nI n) ((hR.q (by decide)).trans hR.w.1.1) ?_
              refine v_icmp_ge C 725 dL_same_664 (by decide) rfl (fun h9 => absurd h9 (nI_ge hf2 (by omega))) (fun _ => ?_)
              refine v_iload C dL_same_667 rfl 14 rfl ?_
              refine v_iload C dL_same_669 rfl 18 rfl ?_
              refine v_iload C dL_same_671 rfl 13 rfl ?_
              refine v_aload_n C dL_same_673 rfl 2 2 rfl rfl ?_
              refine v_aload_n C dL_same_674 rfl 3 3 rfl rfl ?_
              refine v_aload C dL_same_675 rfl 4 rfl ?_
              refine v_aload C dL_same_677 rfl 5 rfl ?_
              refine v_cR C K (c_L_takings l D la cI cC cZ cQ _ g n hR f2 W hf2 hW) gL_same_L_takings rfl hd_L_takings.2 ⟨rfl, rfl⟩ ⟨Nat.le_of_ble_eq_true rfl, Nat.le_of_ble_eq_true rfl⟩ rfl rfl (Nat.le_of_ble_eq_true rfl) ⟨Nat.le_refl _, Nat.le_refl _⟩ dL_same_679 rfl ?_
              refine v_iadd C dL_same_682 rfl ?_
              refine v_istore (lv' := [(14, _), (0, _), (1, _), (2, _), (3, _), (4, _), (5, _), (6, _), (7, _), (8, _), (9, _), (10, _), (11, _), (12, _), (13, _), (15, _), (16, _), (17, _), (18, _)]) C dL_same_683 rfl (by decide) rfl ?_
              refine v_iload C dL_same_685 rfl 15 rfl ?_
              refine v_iload C dL_same_687 rfl 18 rfl ?_
              refine v_iload C dL_same_689 rfl 14 rfl ?_
              refine v_aload C dL_same_691 rfl 5 rfl ?_
              refine v_aload C dL_same_693 rfl 6 rfl ?_
              refine v_cR C K (c_L_shows l D la cI cC cZ cQ _ g n hR f2 W hf2 hW) gL_same_L_shows rfl hd_L_shows.2 ⟨rfl, rfl⟩ ⟨Nat.le_of_ble_eq_true rfl, Nat.le_of_ble_eq_true rfl⟩ rfl rfl (Nat.le_of_ble_eq_true rfl) ⟨Nat.le_refl _, Nat.le_refl _⟩ dL_same_695 rfl ?_
              refine v_iadd C dL_same_698 rfl ?_
              refine v_istore (lv' := [(15, _), (14, _), (0, _), (1, _), (2, _), (3, _), (4, _), (5, _), (6, _), (7, _), (8, _), (9, _), (10, _), (11, _), (12, _), (13, _), (16, _), (17, _), (18, _)]) C dL_same_699 rfl (by decide) rfl ?_
              refine v_iload C dL_same_701 rfl 16 rfl ?_
              refine v_iload C dL_same_703 rfl 18 rfl ?_
              refine v_iload C dL_same_705 rfl 15 rfl ?_
              refine v_aload_n C dL_same_707 rfl 2 4 rfl rfl ?_
              refine v_aload_n C dL_same_708 rfl 3 5 rfl rfl ?_
              refine v_aload C dL_same_709 rfl 6 rfl ?_
              refine v_aload C dL_same_711 rfl 7 rfl ?_
              refine v_cR C K (c_L_due l D la cI cC cZ cQ _ g n hR f2 W hf2 hW) gL_same_L_due rfl hd_L_due.2 ⟨rfl, rfl⟩ ⟨Nat.le_of_ble_eq_true rfl, Nat.le_of_ble_eq_true rfl⟩ rfl rfl (Nat.le_of_ble_eq_true rfl) ⟨Nat.le_refl _, Nat.le_refl _⟩ dL_same_713 rfl ?_
              refine v_iadd C dL_same_716 rfl ?_
              refine v_istore (lv' := [(16, _), (15, _), (14, _), (0, _), (1, _), (2, _), (3, _), (4, _), (5, _), (6, _), (7, _), (8, _), (9, _), (10, _), (11, _), (12, _), (13, _), (17, _), (18, _)]) C dL_same_717 rfl (by decide) rfl ?_
              refine v_iinc (lv' := [(18, _), (16, _), (15, _), (14, _), (0, _), (1, _), (2, _), (3, _), (4, _), (5, _), (6, _), (7, _), (8, _), (9, _), (10, _), (11, _), (12, _), (13, _), (17, _)]) C dL_same_719 rfl 18 rfl (inc9 _) (by decide) rfl ?_
              refine v_goto C 659 dL_same_722 (by decide) ?_
              refine v_lv (lv' := [(0, _), (1, _), (2, _), (3, _), (4, _), (5, _), (6, _), (7, _), (8, _), (9, _), (10, _), (11, _), (12, _), (13, _), (14, _), (15, _), (16, _), (17, _), (18, _)]) [4, 5, 6, 7, 8, 9, 10, 11, 12, 13, 14, 15, 16, 17, 3, 2, 1, 18, 0] rfl ?_
              exact ih
            · skip
              refine v_iload C dL_same_659 rfl 18 rfl ?_
              refine v_aload_n C dL_same_661 rfl 2 2 rfl rfl ?_
              refine v_iconst (v := 5) C dL_same_662 rfl ic_5 ?_
              refine v_aldL C K 0 6 rfl (5) (rfl) (by omega) (by decide) dL_same_663 rfl ?_
              refine v_top (nI n) ((hR.q (by decide)).trans hR.w.1.1) ?_
              refine v_icmp_ge C 725 dL_same_664 (by decide) rfl (fun _ => ?_) (fun h9 => absurd (nI_le (Nat.le_refl _) (by omega)) h9)
              refine v_bipush (v := 7) C dL_same_725 rfl bp_7 ?_
              refine v_iload C dL_same_727 rfl 13 rfl ?_
              refine v_imul C dL_same_729 rfl ?_
              refine v_top (nI (7 * W)) (ix70 W) ?_
              refine v_istore (lv' := [(18, _), (0, _), (1, _), (2, _), (3, _), (4, _), (5, _), (6, _), (7, _), (8, _), (9, _), (10, _), (11, _), (12, _), (13, _), (14, _), (15, _), (16, _), (17, _)]) C dL_same_730 rfl (by decide) rfl ?_
              have LP732 : ∀ j, j ≤ 7 → VV p l e ({ frames := 7, cells := 0, slots := 0, locals := 165 } : Room) s m args below meth c 0 0 Q (PW ad la cI cC cZ cQ) D A s.heap 22 (u, t) 732 [(0, .ref (ad 0)), (1, .int x), (2, .ref (la 0)), (3, .ref (la 1)), (4, .ref (la 2)), (5, .ref (la 3)), (6, .ref (la 4)), (7, .int (sm9 (shw g) 70)), (8, .int (sm9 (q_ppa g) 70)), (9, .int (sm9 (q_fs g) 70)), (10, .int (sm9 (fun j => g (116 + j)) 35)), (11, .int (sm9 (fun f => sm9 (q_D g f) 5) n)), (12, .int (sm9 (fun f => sm9 (q_T g f) 5) n)), (13, .int (nI W)), (14, .int (sm9 (fun f => q_T g f W) n)), (15, .int (sm9 (fun f => q_S g f W) n)), (16, .int (sm9 (fun f => q_D g f W) n)), (17, .int (sm9 (fun j => g (116 + (7 * W + j))) j)), (18, .int (nI (7 * W + j)))] [] := by
                refine lpB9 (fun j => VV p l e ({ frames := 7, cells := 0, slots := 0, locals := 165 } : Room) s m args below meth c 0 0 Q (PW ad la cI cC cZ cQ) D A s.heap 22 (u, t) 732 [(0, .ref (ad 0)), (1, .int x), (2, .ref (la 0)), (3, .ref (la 1)), (4, .ref (la 2)), (5, .ref (la 3)), (6, .ref (la 4)), (7, .int (sm9 (shw g) 70)), (8, .int (sm9 (q_ppa g) 70)), (9, .int (sm9 (q_fs g) 70)), (10, .int (sm9 (fun j => g (116 + j)) 35)), (11, .int (sm9 (fun f => sm9 (q_D g f) 5) n)), (12, .int (sm9 (fun f => sm9 (q_T g f) 5) n)), (13, .int (nI W)), (14, .int (sm9 (fun f => q_T g f W) n)), (15, .int (sm9 (fun f => q_S g f W) n)), (16, .int (sm9 (fun f => q_D g f W) n)), (17, .int (sm9 (fun j => g (116 + (7 * W + j))) j)), (18, .int (nI (7 * W + j)))] []) 7 (fun j hj ih => ?_) ?_
                · skip
                  refine v_iload C dL_same_732 rfl 18 rfl ?_
                  refine v_bipush (v := 7) C dL_same_734 rfl bp_7 ?_
                  refine v_iload C dL_same_736 rfl 13 rfl ?_
                  refine v_imul C dL_same_738 rfl ?_
                  refine v_bipush (v := 7) C dL_same_739 rfl bp_7 ?_
                  refine v_iadd C dL_same_741 rfl ?_
                  refine v_top (nI (7 * W + 7)) (ix7 W 7) ?_
                  refine v_icmp_ge C 761 dL_same_742 (by decide) rfl (fun h9 => absurd h9 (nI_ge (show 7 * W + j < 7 * W + 7 by omega) (by omega))) (fun _ => ?_)
                  refine v_iload C dL_same_745 rfl 17 rfl ?_
                  refine v_aload C dL_same_747 rfl 6 rfl ?_
                  refine v_iload C dL_same_749 rfl 18 rfl ?_
                  refine v_aldL C K 4 35 rfl (7 * W + j) (rfl) (by omega) (by decide) dL_same_751 rfl ?_
                  refine v_top (g (116 + (7 * W + j))) (hR.r (by omega)) ?_
                  refine v_iadd C dL_same_752 rfl ?_
                  refine v_istore (lv' := [(17, _), (0, _), (1, _), (2, _), (3, _), (4, _), (5, _), (6, _), (7, _), (8, _), (9, _), (10, _), (11, _), (12, _), (13, _), (14, _), (15, _), (16, _), (18, _)]) C dL_same_753 rfl (by decide) rfl ?_
                  refine v_iinc (lv' := [(18, _), (17, _), (0, _), (1, _), (2, _), (3, _), (4, _), (5, _), (6, _), (7, _), (8, _), (9, _), (10, _), (11, _), (12, _), (13, _), (14, _), (15, _), (16, _)]) C dL_same_755 rfl 18 rfl (inc9 _) (by decide) rfl ?_
                  refine v_goto C 732 dL_same_758 (by decide) ?_
                  refine v_lv (lv' := [(0, _), (1, _), (2, _), (3, _), (4, _), (5, _), (6, _), (7, _), (8, _), (9, _), (10, _), (11, _), (12, _), (13, _), (14, _), (15, _), (16, _), (17, _), (18, _)]) [2, 3, 4, 5, 6, 7, 8, 9, 10, 11, 12, 13, 14, 15, 16, 17, 18, 1, 0] rfl ?_
                  exact ih
                · skip
                  refine v_iload C dL_same_732 rfl 18 rfl ?_
                  refine v_bipush (v := 7) C dL_same_734 rfl bp_7 ?_
                  refine v_iload C dL_same_736 rfl 13 rfl ?_
                  refine v_imul C dL_same_738 rfl ?_
                  refine v_bipush (v := 7) C dL_same_739 rfl bp_7 ?_
                  refine v_iadd C dL_same_741 rfl ?_
                  refine v_top (nI (7 * W + 7)) (ix7 W 7) ?_
                  refine v_icmp_ge C 761 dL_same_742 (by decide) rfl (fun _ => ?_) (fun h9 => absurd (nI_le (Nat.le_refl _) (by omega)) h9)
                  refine v_aload_n C dL_same_761 rfl 0 0 rfl rfl ?_
                  refine v_iload C dL_same_762 rfl 13 rfl ?_
                  refine v_iconst (v := 0) C dL_same_764 rfl ic_0 ?_
                  refine v_cI C K (sm9 (fun f => q_S g f W) n) (IC g n) (c_X4_week l D ad cI cC cZ cQ u n hI.w (nI W) 0) gL_same_X4_week rfl hd_X4_week ⟨rfl, rfl⟩ ⟨Nat.le_of_ble_eq_true rfl, Nat.le_of_ble_eq_true rfl⟩ 0 rfl rfl rfl rfl rfl (Nat.le_of_ble_eq_true rfl) ⟨Nat.le_refl _, Nat.le_refl _⟩ dL_same_765 rfl (fun r v h => ip_wk hI hW (qwk0 hR.w hW) h) (fun u hI => ?_)
                  refine v_iload C dL_same_768 rfl 15 rfl ?_
                  refine v_icmp_ne C 841 dL_same_770 (by decide) rfl (fun h9 => absurd h9 (fun q => q (rfl))) (fun _ => ?_)
                  refine v_aload_n C dL_same_773 rfl 0 0 rfl rfl ?_
                  refine v_iload C dL_same_774 rfl 13 rfl ?_
                  refine v_iconst (v := 1) C dL_same_776 rfl ic_1 ?_
                  refine v_cI C K (sm9 (ppT (q_ppa g) (nI W)) 70) (IC g n) (c_X4_week l D ad cI cC cZ cQ u n hI.w (nI W) 1) gL_same_X4_week rfl hd_X4_week ⟨rfl, rfl⟩ ⟨Nat.le_of_ble_eq_true rfl, Nat.le_of_ble_eq_true rfl⟩ 0 rfl rfl rfl rfl rfl (Nat.le_of_ble_eq_true rfl) ⟨Nat.le_refl _, Nat.le_refl _⟩ dL_same_777 rfl (fun r v h => ip_wk hI hW (qwk1 _ _) h) (fun u hI => ?_)
                  refine v_aload_n C dL_same_780 rfl 2 2 rfl rfl ?_
                  refine v_iconst (v := 1) C dL_same_781 rfl ic_1 ?_
                  refine v_aldL C K 0 6 rfl (1) (rfl) (by omega) (by decide) dL_same_782 rfl ?_
                  refine v_top (g 1) (hR.q (by decide)) ?_
                  refine v_imul C dL_same_783 rfl ?_
                  refine v_iload C dL_same_784 rfl 14 rfl ?_
                  refine v_icmp_ne C 841 dL_same_786 (by decide) rfl (fun h9 => absurd h9 (fun q => q (wk_T hR.w hW))) (fun _ => ?_)
                  refine v_aload_n C dL_same_789 rfl 0 0 rfl rfl ?_
                  refine v_iload C dL_same_790 rfl 13 rfl ?_
                  refine v_iconst (v := 2) C dL_same_792 rfl ic_2 ?_
                  refine v_cI C K (sm9 (fun f => q_T g f W) n) (IC g n) (c_X4_week l D ad cI cC cZ cQ u n hI.w (nI W) 2) gL_same_X4_week rfl hd_X4_week ⟨rfl, rfl⟩ ⟨Nat.le_of_ble_eq_true rfl, Nat.le_of_ble_eq_true rfl⟩ 0 rfl rfl rfl rfl rfl (Nat.le_of_ble_eq_true rfl) ⟨Nat.le_refl _, Nat.le_refl _⟩ dL_same_793 rfl (fun r v h => ip_wk hI hW (qwk2 hR.w hW) h) (fun u hI => ?_)
                  refine v_iload C dL_same_796 rfl 14 rfl ?_
                  refine v_icmp_ne C 841 dL_same_798 (by decide) rfl (fun h9 => absurd h9 (fun q => q (rfl))) (fun _ => ?_)
                  refine v_aload_n C dL_same_801 rfl 0 0 rfl rfl ?_
                  refine v_iload C dL_same_802 rfl 13 rfl ?_
                  refine v_iconst (v := 3) C dL_same_804 rfl ic_3 ?_
                  refine v_cI C K (sm9 (fun f => q_D g f W) n) (IC g n) (c_X4_week l D ad cI cC cZ cQ u n hI.w (nI W) 3) gL_same_X4_week rfl hd_X4_week ⟨rfl, rfl⟩ ⟨Nat.le_of_ble_eq_true rfl, Nat.le_of_ble_eq_true rfl⟩ 0 rfl rfl rfl rfl rfl (Nat.le_of_ble_eq_true rfl) ⟨Nat.le_refl _, Nat.le_refl _⟩ dL_same_805 rfl (fun r v h => ip_wk hI hW (qwk3 hR.w hW) h) (fun u hI => ?_)
                  refine v_iload C dL_same_808 rfl 16 rfl ?_
                  refine v_icmp_ne C 841 dL_same_810 (by decide) rfl (fun h9 => absurd h9 (fun q => q (rfl))) (fun _ => ?_)
                  refine v_aload_n C dL_same_813 rfl 0 0 rfl rfl ?_
                  refine v_iload C dL_same_814 rfl 13 rfl ?_
                  refine v_iconst (v := 4) C dL_same_816 rfl ic_4 ?_
                  refine v_cI C K (q_left g (nI W) + 1000000) (IC g n) (c_X4_week l D ad cI cC cZ cQ u n hI.w (nI W) 4) gL_same_X4_week rfl hd_X4_week ⟨rfl, rfl⟩ ⟨Nat.le_of_ble_eq_true rfl, Nat.le_of_ble_eq_true rfl⟩ 0 rfl rfl rfl rfl rfl (Nat.le_of_ble_eq_true rfl) ⟨Nat.le_refl _, Nat.le_refl _⟩ dL_same_817 rfl (fun r v h => ip_wk hI hW (qwk4 _ _) h) (fun u hI => ?_)
                  refine v_iload C dL_same_820 rfl 14 rfl ?_
                  refine v_iload C dL_same_822 rfl 16 rfl ?_
                  refine v_isub C dL_same_824 rfl ?_
                  refine v_aload_n C dL_same_825 rfl 2 2 rfl rfl ?_
                  refine v_iconst (v := 2) C dL_same_826 rfl ic_2 ?_
                  refine v_aldL C K 0 6 rfl (2) (rfl) (by omega) (by decide) dL_same_827 rfl ?_
                  refine v_top (g 2) (hR.q (by decide)) ?_
                  refine v_iload C dL_same_828 rfl 15 rfl ?_
                  refine v_imul C dL_same_830 rfl ?_
                  refine v_isub C dL_same_831 rfl ?_
                  refine v_iload C dL_same_832 rfl 17 rfl ?_
                  refine v_iadd C dL_same_834 rfl ?_
                  refine v_ldc C dL_same_835 rfl ct_L_same_63 ?_
                  refine v_iadd C dL_same_837 rfl ?_
                  refine v_icmp_eq C 843 dL_same_838 (by decide) rfl (fun _ => ?_) (fun h9 => absurd (wk_left hR.w hW) h9)
                  refine v_aload_n C dL_same_843 rfl 0 0 rfl rfl ?_
                  refine v_iconst (v := 0) C dL_same_844 rfl ic_0 ?_
                  refine v_cI C K (g 5) (IC g n) (c_X4_count l D ad cI cC cZ cQ u n hI.w 0) gL_same_X4_count rfl hd_X4_count ⟨rfl, rfl⟩ ⟨Nat.le_of_ble_eq_true rfl, Nat.le_of_ble_eq_true rfl⟩ 0 rfl rfl rfl rfl rfl (Nat.le_of_ble_eq_true rfl) ⟨Nat.le_refl _, Nat.le_refl _⟩ dL_same_845 rfl (fun r v h => ip_cnt hI (qc0 g) h) (fun u hI => ?_)
                  refine v_aload_n C dL_same_848 rfl 2 2 rfl rfl ?_
                  refine v_iconst (v := 5) C dL_same_849 rfl ic_5 ?_
                  refine v_aldL C K 0 6 rfl (5) (rfl) (by omega) (by decide) dL_same_850 rfl ?_
                  refine v_top (g 5) (hR.q (by decide)) ?_
                  refine v_icmp_ne C 966 dL_same_851 (by decide) rfl (fun h9 => absurd h9 (fun q => q (rfl))) (fun _ => ?_)
                  refine v_aload_n C dL_same_854 rfl 0 0 rfl rfl ?_
                  refine v_iconst (v := 1) C dL_same_855 rfl ic_1 ?_
                  refine v_cI C K (sm9 (shw g) 70) (IC g n) (c_X4_count l D ad cI cC cZ cQ u n hI.w 1) gL_same_X4_count rfl hd_X4_count ⟨rfl, rfl⟩ ⟨Nat.le_of_ble_eq_true rfl, Nat.le_of_ble_eq_true rfl⟩ 0 rfl rfl rfl rfl rfl (Nat.le_of_ble_eq_true rfl) ⟨Nat.le_refl _, Nat.le_refl _⟩ dL_same_856 rfl (fun r v h => ip_cnt hI (qc1 hR.w) h) (fun u hI => ?_)
                  refine v_iload C dL_same_859 rfl 7 rfl ?_
                  refine v_icmp_ne C 966 dL_same_861 (by decide) rfl (fun h9 => absurd h9 (fun q => q (rfl))) (fun _ => ?_)
                  refine v_aload_n C dL_same_864 rfl 0 0 rfl rfl ?_
                  refine v_iconst (v := 2) C dL_same_865 rfl ic_2 ?_
                  refine v_cI C K (sm9 (q_ppa g) 70) (IC g n) (c_X4_count l D ad cI cC cZ cQ u n hI.w 2) gL_same_X4_count rfl hd_X4_count ⟨rfl, rfl⟩ ⟨Nat.le_of_ble_eq_true rfl, Nat.le_of_ble_eq_true rfl⟩ 0 rfl rfl rfl rfl rfl (Nat.le_of_ble_eq_true rfl) ⟨Nat.le_refl _, Nat.le_refl _⟩ dL_same_866 rfl (fun r v h => ip_cnt hI (qc2 g) h) (fun u hI => ?_)
                  refine v_iload C dL_same_869 rfl 8 rfl ?_
                  refine v_icmp_ne C 966 dL_same_871 (by decide) rfl (fun h9 => absurd h9 (fun q => q (rfl))) (fun _ => ?_)
                  refine v_aload_n C dL_same_874 rfl 0 0 rfl rfl ?_
                  refine v_iconst (v := 3) C dL_same_875 rfl ic_3 ?_
                  refine v_cI C K (sm9 (fun f => sm9 (q_T g f) 5) n) (IC g n) (c_X4_count l D ad cI cC cZ cQ u n hI.w 3) gL_same_X4_count rfl hd_X4_count ⟨rfl, rfl⟩ ⟨Nat.le_of_ble_eq_true rfl, Nat.le_of_ble_eq_true rfl⟩ 0 rfl rfl rfl rfl rfl (Nat.le_of_ble_eq_true rfl) ⟨Nat.le_refl _, Nat.le_refl _⟩ dL_same_876 rfl (fun r v h => ip_cnt hI (qc3 hR.w) h) (fun u hI => ?_)
                  refine v_iload C dL_same_879 rfl 12 rfl ?_
                  refine v_icmp_ne C 966 dL_same_881 (by decide) rfl (fun h9 => absurd h9 (fun q => q (rfl))) (fun _ => ?_)
                  refine v_aload_n C dL_same_884 rfl 0 0 rfl rfl ?_
                  refine v_iconst (v := 4) C dL_same_885 rfl ic_4 ?_
                  refine v_cI C K (sm9 (fun f => sm9 (q_D g f) 5) n) (IC g n) (c_X4_count l D ad cI cC cZ cQ u n hI.w 4) gL_same_X4_count rfl hd_X4_count ⟨rfl, rfl⟩ ⟨Nat.le_of_ble_eq_true rfl, Nat.le_of_ble_eq_true rfl⟩ 0 rfl rfl rfl rfl rfl (Nat.le_of_ble_eq_true rfl) ⟨Nat.le_refl _, Nat.le_refl _⟩ dL_same_886 rfl (fun r v h => ip_cnt hI (qc4 hR.w) h) (fun u hI => ?_)
                  refine v_iload C dL_same_889 rfl 11 rfl ?_
                  refine v_icmp_ne C 966 dL_same_891 (by decide) rfl (fun h9 => absurd h9 (fun q => q (rfl))) (fun _ => ?_)
                  refine v_aload_n C dL_same_894 rfl 0 0 rfl rfl ?_
                  refine v_iconst (v := 5) C dL_same_895 rfl ic_5 ?_
                  refine v_cI C K (q_left g (-1) + 1000000) (IC g n) (c_X4_count l D ad cI cC cZ cQ u n hI.w 5) gL_same_X4_count rfl hd_X4_count ⟨rfl, rfl⟩ ⟨Nat.le_of_ble_eq_true rfl, Nat.le_of_ble_eq_true rfl⟩ 0 rfl rfl rfl rfl rfl (Nat.le_of_ble_eq_true rfl) ⟨Nat.le_refl _, Nat.le_refl _⟩ dL_same_896 rfl (fun r v h => ip_cnt hI (qc5 g) h) (fun u hI => ?_)
                  refine v_aload_n C dL_same_899 rfl 2 2 rfl rfl ?_
                  refine v_aload_n C dL_same_900 rfl 3 3 rfl rfl ?_
                  refine v_aload C dL_same_901 rfl 4 rfl ?_
                  refine v_aload C dL_same_903 rfl 5 rfl ?_
                  refine v_aload C dL_same_905 rfl 6 rfl ?_
                  refine v_cR C K (c_L_left l D la cI cC cZ cQ _ g n hR) gL_same_L_left rfl hd_L_left.2 ⟨rfl, rfl⟩ ⟨Nat.le_of_ble_eq_true rfl, Nat.le_of_ble_eq_true rfl⟩ rfl rfl (Nat.le_of_ble_eq_true rfl) ⟨Nat.le_refl _, Nat.le_refl _⟩ dL_same_907 rfl ?_
                  refine v_ldc C dL_same_910 rfl ct_L_same_63 ?_
                  refine v_iadd C dL_same_912 rfl ?_
                  refine v_icmp_ne C 966 dL_same_913 (by decide) rfl (fun h9 => absurd h9 (fun q => q (rfl))) (fun _ => ?_)
                  refine v_aload_n C dL_same_916 rfl 0 0 rfl rfl ?_
                  refine v_bipush (v := 6) C dL_same_917 rfl bp_6 ?_
                  refine v_cI C K (sm9 (fun j => g (116 + j)) 35) (IC g n) (c_X4_count l D ad cI cC cZ cQ u n hI.w 6) gL_same_X4_count rfl hd_X4_count ⟨rfl, rfl⟩ ⟨Nat.le_of_ble_eq_true rfl, Nat.le_of_ble_eq_true rfl⟩ 0 rfl rfl rfl rfl rfl (Nat.le_of_ble_eq_true rfl) ⟨Nat.le_refl _, Nat.le_refl _⟩ dL_same_919 rfl (fun r v h => ip_cnt hI (qc6 g) h) (fun u hI => ?_)
                  refine v_iload C dL_same_922 rfl 10 rfl ?_
                  refine v_icmp_ne C 966 dL_same_924 (by decide) rfl (fun h9 => absurd h9 (fun q => q (rfl))) (fun _ => ?_)
                  refine v_aload_n C dL_same_927 rfl 0 0 rfl rfl ?_
                  refine v_bipush (v := 7) C dL_same_928 rfl bp_7 ?_
                  refine v_cI C K (sm9 (q_fs g) 70) (IC g n) (c_X4_count l D ad cI cC cZ cQ u n hI.w 7) gL_same_X4_count rfl hd_X4_count ⟨rfl, rfl⟩ ⟨Nat.le_of_ble_eq_true rfl, Nat.le_of_ble_eq_true rfl⟩ 0 rfl rfl rfl rfl rfl (Nat.le_of_ble_eq_true rfl) ⟨Nat.le_refl _, Nat.le_refl _⟩ dL_same_930 rfl (fun r v h => ip_cnt hI (qc7 g) h) (fun u hI => ?_)
                  refine v_iload C dL_same_933 rfl 9 rfl ?_
                  refine v_icmp_ne C 966 dL_same_935 (by decide) rfl (fun h9 => absurd h9 (fun q => q (rfl))) (fun _ => ?_)
                  refine v_aload_n C dL_same_938 rfl 0 0 rfl rfl ?_
                  refine v_bipush (v := 8) C dL_same_939 rfl bp_8 ?_
                  refine v_cI C K (g 0) (IC g n) (c_X4_count l D ad cI cC cZ cQ u n hI.w 8) gL_same_X4_count rfl hd_X4_count ⟨rfl, rfl⟩ ⟨Nat.le_of_ble_eq_true rfl, Nat.le_of_ble_eq_true rfl⟩ 0 rfl rfl rfl rfl rfl (Nat.le_of_ble_eq_true rfl) ⟨Nat.le_refl _, Nat.le_refl _⟩ dL_same_941 rfl (fun r v h => ip_cnt hI (qc8 g) h) (fun u hI => ?_)
                  refine v_aload_n C dL_same_944 rfl 2 2 rfl rfl ?_
                  refine v_iconst (v := 0) C dL_same_945 rfl ic_0 ?_
                  refine v_aldL C K 0 6 rfl (0) (rfl) (by omega) (by decide) dL_same_946 rfl ?_
                  refine v_top (g 0) (hR.q (by decide)) ?_
                  refine v_icmp_ne C 966 dL_same_947 (by decide) rfl (fun h9 => absurd h9 (fun q => q (rfl))) (fun _ => ?_)
                  refine v_aload_n C dL_same_950 rfl 0 0 rfl rfl ?_
                  refine v_bipush (v := 12) C dL_same_951 rfl bp_12 ?_
                  refine v_cI C K (g 4) (IC g n) (c_X4_count l D ad cI cC cZ cQ u n hI.w 12) gL_same_X4_count rfl hd_X4_count ⟨rfl, rfl⟩ ⟨Nat.le_of_ble_eq_true rfl, Nat.le_of_ble_eq_true rfl⟩ 0 rfl rfl rfl rfl rfl (Nat.le_of_ble_eq_true rfl) ⟨Nat.le_refl _, Nat.le_refl _⟩ dL_same_953 rfl (fun r v h => ip_cnt hI (qc12 g) h) (fun u hI => ?_)
                  refine v_aload_n C dL_same_956 rfl 2 2 rfl rfl ?_
                  refine v_iconst (v := 4) C dL_same_957 rfl ic_4 ?_
                  refine v_aldL C K 0 6 rfl (4) (rfl) (by omega) (by decide) dL_same_958 rfl ?_
                  refine v_top (g 4) (hR.q (by decide)) ?_
                  refine v_icmp_ne C 966 dL_same_959 (by decide) rfl (fun h9 => absurd h9 (fun q => q (rfl))) (fun _ => ?_)
                  refine v_iconst (v := 1) C dL_same_962 rfl ic_1 ?_
                  refine v_goto C 967 dL_same_963 (by decide) ?_
                  exact hend (⟨rfl, hI, rfl⟩) (rfl) dL_same_967
              refine v_lv (lv' := [(0, _), (1, _), (2, _), (3, _), (4, _), (5, _), (6, _), (7, _), (8, _), (9, _), (10, _), (11, _), (12, _), (13, _), (14, _), (15, _), (16, _), (17, _), (18, _)]) [1, 2, 3, 4, 5, 6, 7, 8, 9, 10, 11, 12, 13, 14, 15, 16, 17, 18, 0] rfl ?_
              exact LP732 0 (by omega)
          refine v_lv (lv' := [(0, _), (1, _), (2, _), (3, _), (4, _), (5, _), (6, _), (7, _), (8, _), (9, _), (10, _), (11, _), (12, _), (13, _), (14, _), (15, _), (16, _), (17, _), (18, _)]) [6, 7, 8, 9, 10, 11, 12, 13, 14, 15, 16, 17, 18, 5, 4, 3, 2, 1, 0] rfl ?_
          exact LP659 0 (Nat.zero_le _)
      refine v_lv (lv' := [(0, _), (1, _), (2, _), (3, _), (4, _), (5, _), (6, _), (7, _), (8, _), (9, _), (10, _), (11, _), (12, _), (13, _)]) [1, 2, 3, 4, 5, 6, 7, 8, 9, 10, 11, 12, 13, 0] rfl ?_
      exact LP252 0 (Nat.zero_le _) u hI
  refine v_lv (lv' := [(0, _), (1, _), (2, _), (3, _), (4, _), (5, _), (6, _), (7, _), (8, _), (9, _), (10, _), (11, _), (12, _), (13, _)]) [7, 8, 9, 10, 11, 12, 13, 6, 5, 4, 3, 2, 1, 0] rfl ?_
  exact LP21 0 (by omega) u hI

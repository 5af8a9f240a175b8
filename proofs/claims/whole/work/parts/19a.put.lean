/-! ===== texts: characters out of a long ===== -/
def s8 (y : Int64) : Int64 := (y.toUInt64 >>> ((8 : Int32).toInt64.toUInt64 &&& Int64.toUInt64 63)).toInt64
def by8 (x : Int64) (k : Nat) : Int32 := ((x.toUInt64 >>> ((8 * nI k).toInt64.toUInt64 &&& Int64.toUInt64 63)).toInt64 &&& 255).toInt32
def re9 : Nat → Nat → Int32 → Int64 → Nat × Int32 × Int64
  | 0, k, b, y => (k, b, y)
  | d + 1, k, b, y => if lg_cmp (y &&& 255) 0 = 0 then (k, b, y) else re9 d (k + 1) (if b = 0 then 0 else p_in (y &&& 255).toInt32 33 126) (s8 y)
theorem re9_a {d k : Nat} {b : Int32} {y : Int64} (h : lg_cmp (y &&& 255) 0 = 0) : re9 (d + 1) k b y = (k, b, y) := if_pos h
theorem re9_b {d k : Nat} {b : Int32} {y : Int64} (h : ¬ lg_cmp (y &&& 255) 0 = 0) : re9 (d + 1) k b y = re9 d (k + 1) (if b = 0 then 0 else p_in (y &&& 255).toInt32 33 126) (s8 y) := if_neg h
theorem re9_le : ∀ d k b y, (re9 d k b y).1 ≤ k + d
  | 0, k, b, y => Nat.le_refl _
  | d + 1, k, b, y => by
    by_cases h : lg_cmp (y &&& 255) 0 = 0
    · rw [re9_a h]
      exact Nat.le_add_right _ _
    · rw [re9_b h]
      exact Nat.le_trans (re9_le d (k + 1) _ _) (by omega)
theorem p_in_1 {v lo hi : Int32} (h : ¬ p_in v lo hi = 0) : p_in v lo hi = 1 := by
  unfold p_in at h ⊢
  by_cases h1 : v < lo
  · rw [if_pos h1] at h
    exact absurd rfl h
  · rw [if_neg h1] at h ⊢
    by_cases h2 : hi < v
    · rw [if_pos h2] at h
      exact absurd rfl h
    · rw [if_neg h2]
theorem re9_J {k : Nat} {b : Int32} {y : Int64} {R : Nat × Int32 × Int64} (hk : k < 8) (h : re9 (8 - k) k b y = R) (hc : lg_cmp (y &&& 255) 0 = 0) : k = R.1 ∧ b = R.2.1 ∧ y = R.2.2 := by
  rw [show 8 - k = (8 - (k + 1)) + 1 by omega, re9_a hc] at h
  subst h
  exact ⟨rfl, rfl, rfl⟩
theorem re9_0 {b : Int32} {y : Int64} {R : Nat × Int32 × Int64} (h : re9 (8 - 8) 8 b y = R) : 8 = R.1 ∧ b = R.2.1 ∧ y = R.2.2 := by
  rw [show 8 - 8 = 0 from rfl, re9] at h
  subst h
  exact ⟨rfl, rfl, rfl⟩
theorem re9_n {k : Nat} {b b2 : Int32} {y : Int64} {R : Nat × Int32 × Int64} (hk : k < 8) (h : re9 (8 - k) k b y = R) (hc : ¬ lg_cmp (y &&& 255) 0 = 0) (hb : b2 = if b = 0 then 0 else p_in (y &&& 255).toInt32 33 126) : re9 (8 - (k + 1)) (k + 1) b2 (s8 y) = R := by
  rw [show 8 - k = (8 - (k + 1)) + 1 by omega, re9_b hc, ← hb] at h
  exact h
def put9 (x : Int64) : Nat × Int32 × Int64 := re9 8 0 1 x
theorem put9_8 (x : Int64) : (put9 x).1 ≤ 8 := Nat.le_trans (re9_le 8 0 1 x) (by decide)
def q_putE (x : Int64) (L : Nat) : Int32 := if (put9 x).1 = 0 ∨ (put9 x).2.1 = 0 ∨ ¬ lg_cmp (put9 x).2.2 0 = 0 then -2 else if 60 < L + (put9 x).1 then -4 else 0
theorem putE_a {x : Int64} {L : Nat} (h : (put9 x).1 = 0 ∨ (put9 x).2.1 = 0 ∨ ¬ lg_cmp (put9 x).2.2 0 = 0) : q_putE x L = -2 := if_pos h
theorem putE_b {x : Int64} {L : Nat} (h : ¬ ((put9 x).1 = 0 ∨ (put9 x).2.1 = 0 ∨ ¬ lg_cmp (put9 x).2.2 0 = 0)) (h2 : 60 < L + (put9 x).1) : q_putE x L = -4 := by rw [q_putE, if_neg h, if_pos h2]
theorem putE_c {x : Int64} {L : Nat} (h : ¬ ((put9 x).1 = 0 ∨ (put9 x).2.1 = 0 ∨ ¬ lg_cmp (put9 x).2.2 0 = 0)) (h2 : ¬ 60 < L + (put9 x).1) : q_putE x L = 0 := by rw [q_putE, if_neg h, if_neg h2]
/-- j of n characters of x laid behind the first L -/
def ptF (T : Nat → Int32) (x : Int64) (L n j : Nat) : Nat → Int32 := fun i => if L ≤ i ∧ i < L + j then by8 x (n - 1 - (i - L)) else T i
theorem ptF_0 (T : Nat → Int32) (x : Int64) (L n : Nat) : ptF T x L n 0 = T := by
  funext i
  exact if_neg (fun q => by omega)
theorem ptF_s (T : Nat → Int32) (x : Int64) (L n j : Nat) : upd (ptF T x L n j) (L + j) (by8 x (n - 1 - j)) = ptF T x L n (j + 1) := by
  funext i
  by_cases e : i = L + j
  · subst e
    rw [upd_s, ptF, if_pos (by omega), show L + j - L = j by omega]
  · rw [upd_n _ _ e]
    unfold ptF
    by_cases h : L ≤ i ∧ i < L + j
    · rw [if_pos h, if_pos (by omega)]
    · rw [if_neg h, if_neg (by omega)]
theorem put_st (σ : S9) (P P2 V V2 : Nat → Int32) : st9 (st9 (st9 (st9 σ 4 P) 12 V) 4 P2) 12 V2 = st9 (st9 σ 4 P2) 12 V2 := by
  rw [st9_sw _ _ _ (show 12 ≠ 4 by decide), st9_tw, st9_tw]
theorem put_st2 (σ : S9) (x : Int64) (L n j : Nat) : st9 (st9 (st9 (st9 σ 4 (ptF (σ 4) x L n j)) 12 (upd (σ 12) 1 (nI (L + j)))) 4 (upd (st9 (st9 σ 4 (ptF (σ 4) x L n j)) 12 (upd (σ 12) 1 (nI (L + j))) 4) (L + j) (by8 x (n - 1 - j)))) 12 (upd (st9 (st9 (st9 σ 4 (ptF (σ 4) x L n j)) 12 (upd (σ 12) 1 (nI (L + j)))) 4 (upd (st9 (st9 σ 4 (ptF (σ 4) x L n j)) 12 (upd (σ 12) 1 (nI (L + j))) 4) (L + j) (by8 x (n - 1 - j))) 12) 1 (st9 (st9 (st9 σ 4 (ptF (σ 4) x L n j)) 12 (upd (σ 12) 1 (nI (L + j)))) 4 (upd (st9 (st9 σ 4 (ptF (σ 4) x L n j)) 12 (upd (σ 12) 1 (nI (L + j))) 4) (L + j) (by8 x (n - 1 - j))) 12 1 + 1)) = st9 (st9 σ 4 (ptF (σ 4) x L n (j + 1))) 12 (upd (σ 12) 1 (nI (L + (j + 1)))) := by
  rw [put_st, st9_n _ _ (show 12 ≠ 4 by decide), st9_s, upd_s, upd_tw, nI_1, st9_n _ _ (show 4 ≠ 12 by decide), st9_s, ptF_s]
  rfl
theorem put_dec {n j : Nat} (hj : j < n) : (nI (n - j) - 1) + Int32.ofInt (-1) = nI (n - (j + 1)) - 1 := by
  rw [show Int32.ofInt (-1) = (-1 : Int32) by decide, show n - j = (n - (j + 1)) + 1 by omega, nI_pred, Int32.sub_eq_add_neg]
set_option maxHeartbeats 4000000 in
set_option maxRecDepth 100000 in
theorem c_X5_put (l : Launch) (D : va_G) (ad : Nat → Nat) (cI : ClassId) (σ : S9) (L : Nat) (hL : σ 12 1 = nI L) (hL6 : L ≤ 60) (x : Int64) : CMi l (mW ad cI) D [(cI, .int)] yX5_put wsX5_put ({ frames := 1, cells := 0, slots := 0, locals := 22 } : Room) [.ref (ad 0), .long x] σ (fun r u => (q_putE x L = 0 → r = nI (L + (put9 x).1) ∧ L + (put9 x).1 ≤ 60 ∧ u = st9 (st9 σ 4 (ptF (σ 4) x L (put9 x).1 (put9 x).1)) 12 (upd (σ 12) 1 (nI (L + (put9 x).1)))) ∧ (¬ q_putE x L = 0 → r = q_putE x L ∧ u = σ)) := by
  refine v_starti (own := RX5) (cc := cX5_put) (nL := 8) rfl (by decide) rfl (Nat.le_of_ble_eq_true rfl) ?_
  intro p e s m args below meth c A Q C K hend
  refine v_lv (lv' := [(0, .ref (ad 0)), (1, .long x)]) [0, 1] rfl ?_
  refine v_iconst (v := 0) C dX5_put_0 rfl ic_0 ?_
  refine v_istore_n (lv' := [(3, _), (0, _), (1, _)]) C dX5_put_1 rfl 3 rfl (by decide) rfl ?_
  refine v_lload_n C dX5_put_2 rfl 1 2 rfl rfl ?_
  refine v_lstore (lv' := [(4, _), (3, _), (0, _), (1, _)]) C dX5_put_3 rfl (by decide) rfl ?_
  refine v_iconst (v := 1) C dX5_put_5 rfl ic_1 ?_
  have J67 : VV p l e ({ frames := 1, cells := 0, slots := 0, locals := 22 } : Room) s m args below meth c 0 0 Q (mW ad cI) D A s.heap 8 σ 67 [(0, .ref (ad 0)), (1, .long x), (3, .int (nI (put9 x).1)), (4, .long (put9 x).2.2), (6, .int (put9 x).2.1)] [] := by
    have hn8 := put9_8 x
    generalize hn : (put9 x).1 = n at hn8
    generalize hb : (put9 x).2.1 = b
    generalize hy : (put9 x).2.2 = y
    refine v_iload_n C dX5_put_67 rfl 3 2 rfl rfl ?_
    refine v_if_eq C 83 dX5_put_68 (by decide) rfl (fun h68 => ?_) (fun h68f => ?_)
    · skip
      refine v_bipush (v := -2) C dX5_put_83 rfl bp_m2 ?_
      exact hend (⟨fun q => absurd q (by rw [putE_a (by rw [hn, hb, hy]; exact Or.inl (nI_inj (b := 0) (by omega) (by decide) h68))]; decide), fun _ => ⟨by rw [putE_a (by rw [hn, hb, hy]; exact Or.inl (nI_inj (b := 0) (by omega) (by decide) h68))], rfl⟩⟩) (rfl) dX5_put_85
    · skip
      refine v_iload C dX5_put_71 rfl 4 rfl ?_
      refine v_if_eq C 83 dX5_put_73 (by decide) rfl (fun h73 => ?_) (fun h73f => ?_)
      · skip
        refine v_bipush (v := -2) C dX5_put_83 rfl bp_m2 ?_
        exact hend (⟨fun q => absurd q (by rw [putE_a (by rw [hn, hb, hy]; exact Or.inr (Or.inl h73))]; decide), fun _ => ⟨by rw [putE_a (by rw [hn, hb, hy]; exact Or.inr (Or.inl h73))], rfl⟩⟩) (rfl) dX5_put_85
      · skip
        refine v_lload C dX5_put_76 rfl 3 rfl ?_
        refine v_lconst (v := 0) C dX5_put_78 rfl (by decide) ?_
        refine v_lcmp C dX5_put_79 rfl ?_
        refine v_if_eq C 86 dX5_put_80 (by decide) rfl (fun h80 => ?_) (fun h80f => ?_)
        · skip
          refine v_aload_n C dX5_put_86 rfl 0 0 rfl rfl ?_
          refine v_get C K in_X5_put_X5 0 rfl rfl 6 (by decide) fl_X5_put_X5_6 rfl dX5_put_87 rfl ?_
          refine v_iload_n C dX5_put_90 rfl 3 2 rfl rfl ?_
          refine v_iadd C dX5_put_91 rfl ?_
          refine v_top (nI (L + n)) (by rw [hL, nI_add]) ?_
          refine v_bipush (v := 60) C dX5_put_92 rfl bp_60 ?_
          refine v_icmp_le C 100 dX5_put_94 (by decide) rfl (fun h94f => ?_) (fun h94 => ?_)
          · skip
            have hg : ¬ 60 < L + n := by
              have := (nI_leI (a := L + n) (b := 60) (by omega) (by decide)).mp h94f
              omega
            have hnb : ¬ (n = 0 ∨ b = 0 ∨ ¬ lg_cmp y 0 = 0) := by
              rintro (q | q | q)
              · exact h68f (by rw [q]; rfl)
              · exact h73f q
              · exact q h80
            have hE : q_putE x L = 0 := putE_c (by rw [hn, hb, hy]; exact hnb) (by rw [hn]; exact hg)
            refine v_iload_n C dX5_put_100 rfl 3 2 rfl rfl ?_
            refine v_iconst (v := 1) C dX5_put_101 rfl ic_1 ?_
            refine v_isub C dX5_put_102 rfl ?_
            refine v_istore (lv' := [(7, _), (0, _), (1, _), (3, _), (4, _), (6, _)]) C dX5_put_103 rfl (by decide) rfl ?_
            have LP105 : ∀ j, j ≤ n → VV p l e ({ frames := 1, cells := 0, slots := 0, locals := 22 } : Room) s m args below meth c 0 0 Q (mW ad cI) D A s.heap 8 (st9 (st9 σ 4 (ptF (σ 4) x L n j)) 12 (upd (σ 12) 1 (nI (L + j)))) 105 [(0, .ref (ad 0)), (1, .long x), (7, .int (nI (n - j) - 1))] [] := by
              refine lpB9 (fun j => VV p l e ({ frames := 1, cells := 0, slots := 0, locals := 22 } : Room) s m args below meth c 0 0 Q (mW ad cI) D A s.heap 8 (st9 (st9 σ 4 (ptF (σ 4) x L n j)) 12 (upd (σ 12) 1 (nI (L + j)))) 105 [(0, .ref (ad 0)), (1, .long x), (7, .int (nI (n - j) - 1))] []) n (fun j hj ih => ?_) ?_
              · skip
                have ej : nI (n - j) - 1 = nI (n - 1 - j) := by rw [show n - j = (n - 1 - j) + 1 by omega]; exact nI_pred _
                refine v_iload C dX5_put_105 rfl 2 rfl ?_
                refine v_if_lt C 147 dX5_put_107 (by decide) rfl (fun h9 => absurd h9 (by rw [ej]; exact nI_nneg (by omega))) (fun _ => ?_)
                refine v_aload_n C dX5_put_110 rfl 0 0 rfl rfl ?_
                refine v_get C K in_X5_put_X5 0 rfl rfl 5 (by decide) fl_X5_put_X5_5 rfl dX5_put_111 rfl ?_
                refine v_aload_n C dX5_put_114 rfl 0 0 rfl rfl ?_
                refine v_get C K in_X5_put_X5 0 rfl rfl 6 (by decide) fl_X5_put_X5_6 rfl dX5_put_115 rfl ?_
                refine v_lload_n C dX5_put_118 rfl 1 1 rfl rfl ?_
                refine v_bipush (v := 8) C dX5_put_119 rfl bp_8 ?_
                refine v_iload C dX5_put_121 rfl 2 rfl ?_
                refine v_top (nI (n - 1 - j)) (ej) ?_
                refine v_imul C dX5_put_123 rfl ?_
                refine v_lushr C dX5_put_124 rfl rfl ?_
                refine v_ldc2 C dX5_put_125 rfl ct_X5_put_151 ?_
                refine v_land C dX5_put_128 rfl ?_
                refine v_l2i C dX5_put_129 rfl rfl ?_
                refine v_iast C K _ 5 0 rfl rfl (L + j) (by rw [st9_s, upd_s]) (by omega) (by decide) (mW_a4 ad cI _ _) dX5_put_130 rfl ?_
                refine v_aload_n C dX5_put_131 rfl 0 0 rfl rfl ?_
                refine v_dup C dX5_put_132 rfl rfl ?_
                refine v_get C K in_X5_put_X5 0 rfl rfl 6 (by decide) fl_X5_put_X5_6 rfl dX5_put_133 rfl ?_
                refine v_iconst (v := 1) C dX5_put_136 rfl ic_1 ?_
                refine v_iadd C dX5_put_137 rfl ?_
                refine v_put (ty := .int) C K _ in_X5_put_X5 tyX5_ok nmX5 0 rfl rfl 6 (by decide) fl_X5_put_X5_6 rfl (by decide +kernel) rfl rfl (Nat.le_of_ble_eq_true rfl) (mW_f1 ad cI _ _) dX5_put_138 rfl ?_
                refine v_iinc (lv' := [(7, _), (0, _), (1, _)]) C dX5_put_141 rfl 2 rfl (put_dec hj) (by decide) rfl ?_
                refine v_goto C 105 dX5_put_144 (by decide) ?_
                refine v_lv (lv' := [(0, _), (1, _), (7, _)]) [1, 2, 0] rfl ?_
                exact v9cast ih (put_st2 σ x L n j) rfl rfl
              · skip
                refine v_iload C dX5_put_105 rfl 2 rfl ?_
                refine v_if_lt C 147 dX5_put_107 (by decide) rfl (fun _ => ?_) (fun h9 => absurd (by rw [Nat.sub_self]; decide) h9)
                refine v_aload_n C dX5_put_147 rfl 0 0 rfl rfl ?_
                refine v_get C K in_X5_put_X5 0 rfl rfl 6 (by decide) fl_X5_put_X5_6 rfl dX5_put_148 rfl ?_
                exact hend (⟨fun _ => ⟨by rw [st9_s, upd_s, hn], by omega, by rw [hn]⟩, fun q => absurd hE q⟩) (rfl) dX5_put_151
            refine v_lv (lv' := [(0, _), (1, _), (7, _)]) [1, 2, 0] rfl ?_
            exact v9cast (LP105 0 (Nat.zero_le _)) (by rw [ptF_0, st9_id, Nat.add_zero, ← hL, upd_id, st9_id]) rfl rfl
          · skip
            have hg : 60 < L + n := by
              rcases Nat.lt_or_ge 60 (L + n) with q | q
              · exact q
              · exact absurd (nI_le q (by decide)) h94
            have hnb : ¬ (n = 0 ∨ b = 0 ∨ ¬ lg_cmp y 0 = 0) := by
              rintro (q | q | q)
              · exact h68f (by rw [q]; rfl)
              · exact h73f q
              · exact q h80
            have hE : q_putE x L = -4 := putE_b (by rw [hn, hb, hy]; exact hnb) (by rw [hn]; exact hg)
            refine v_bipush (v := -4) C dX5_put_97 rfl bp_m4 ?_
            exact hend (⟨fun q => absurd q (by rw [hE]; decide), fun _ => ⟨by rw [hE], rfl⟩⟩) (rfl) dX5_put_99
        · skip
          refine v_bipush (v := -2) C dX5_put_83 rfl bp_m2 ?_
          exact hend (⟨fun q => absurd q (by rw [putE_a (by rw [hn, hb, hy]; exact Or.inr (Or.inr h80f))]; decide), fun _ => ⟨by rw [putE_a (by rw [hn, hb, hy]; exact Or.inr (Or.inr h80f))], rfl⟩⟩) (rfl) dX5_put_85
  refine v_istore (lv' := [(6, _), (4, _), (3, _), (0, _), (1, _)]) C dX5_put_6 rfl (by decide) rfl ?_
  have LP8 : ∀ k, k ≤ 8 → ∀ (b : Int32) (y : Int64), re9 (8 - k) k b y = put9 x → VV p l e ({ frames := 1, cells := 0, slots := 0, locals := 22 } : Room) s m args below meth c 0 0 Q (mW ad cI) D A s.heap 8 σ 8 [(0, .ref (ad 0)), (1, .long x), (3, .int (nI k)), (4, .long y), (6, .int b)] [] := by
    refine lpB9 (fun k => ∀ (b : Int32) (y : Int64), re9 (8 - k) k b y = put9 x → VV p l e ({ frames := 1, cells := 0, slots := 0, locals := 22 } : Room) s m args below meth c 0 0 Q (mW ad cI) D A s.heap 8 σ 8 [(0, .ref (ad 0)), (1, .long x), (3, .int (nI k)), (4, .long y), (6, .int b)] []) 8 (fun k hk ih => ?_) ?_
    · intro b y hre
      refine v_iload_n C dX5_put_8 rfl 3 2 rfl rfl ?_
      refine v_bipush (v := 8) C dX5_put_9 rfl bp_8 ?_
      refine v_icmp_ge C 67 dX5_put_11 (by decide) rfl (fun h9 => absurd h9 (nI_ge hk (by decide))) (fun _ => ?_)
      refine v_lload C dX5_put_14 rfl 3 rfl ?_
      refine v_ldc2 C dX5_put_16 rfl ct_X5_put_151 ?_
      refine v_land C dX5_put_19 rfl ?_
      refine v_lconst (v := 0) C dX5_put_20 rfl (by decide) ?_
      refine v_lcmp C dX5_put_21 rfl ?_
      refine v_if_eq C 67 dX5_put_22 (by decide) rfl (fun h22 => ?_) (fun h22f => ?_)
      · skip
        exact v9cast J67 rfl (by first | rw [(re9_J hk hre h22).1.symm, (re9_J hk hre h22).2.1.symm, (re9_J hk hre h22).2.2.symm] | rw [(re9_0 hre).1.symm, (re9_0 hre).2.1.symm, (re9_0 hre).2.2.symm]) rfl
      · skip
        refine v_iload C dX5_put_25 rfl 4 rfl ?_
        refine v_if_eq C 51 dX5_put_27 (by decide) rfl (fun h27 => ?_) (fun h27f => ?_)
        · skip
          refine v_iconst (v := 0) C dX5_put_51 rfl ic_0 ?_
          refine v_istore (lv' := [(6, _), (0, _), (1, _), (3, _), (4, _)]) C dX5_put_52 rfl (by decide) rfl ?_
          refine v_lload C dX5_put_54 rfl 4 rfl ?_
          refine v_bipush (v := 8) C dX5_put_56 rfl bp_8 ?_
          refine v_lushr C dX5_put_58 rfl rfl ?_
          refine v_lstore (lv' := [(4, _), (6, _), (0, _), (1, _), (3, _)]) C dX5_put_59 rfl (by decide) rfl ?_
          refine v_iinc (lv' := [(3, _), (4, _), (6, _), (0, _), (1, _)]) C dX5_put_61 rfl 4 rfl (inc9 _) (by decide) rfl ?_
          refine v_goto C 8 dX5_put_64 (by decide) ?_
          refine v_lv (lv' := [(0, _), (1, _), (3, _), (4, _), (6, _)]) [3, 4, 0, 1, 2] rfl ?_
          exact ih _ _ (re9_n hk hre h22f (if_pos h27).symm)
        · skip
          refine v_lload C dX5_put_30 rfl 3 rfl ?_
          refine v_ldc2 C dX5_put_32 rfl ct_X5_put_151 ?_
          refine v_land C dX5_put_35 rfl ?_
          refine v_l2i C dX5_put_36 rfl rfl ?_
          refine v_bipush (v := 33) C dX5_put_37 rfl bp_33 ?_
          refine v_bipush (v := 126) C dX5_put_39 rfl bp_126 ?_
          refine v_callSpd C (c_X5_within l _ _ _) gX5_put_X5_within rfl hd_X5_within.2 ⟨rfl, rfl⟩ ⟨Nat.le_of_ble_eq_true rfl, Nat.le_of_ble_eq_true rfl⟩ rfl rfl (Nat.le_of_ble_eq_true rfl) ⟨Nat.le_refl _, Nat.le_refl _⟩ dX5_put_41 rfl ?_
          refine v_if_eq C 51 dX5_put_44 (by decide) rfl (fun h44 => ?_) (fun h44f => ?_)
          · skip
            refine v_iconst (v := 0) C dX5_put_51 rfl ic_0 ?_
            refine v_istore (lv' := [(6, _), (0, _), (1, _), (3, _), (4, _)]) C dX5_put_52 rfl (by decide) rfl ?_
            refine v_lload C dX5_put_54 rfl 4 rfl ?_
            refine v_bipush (v := 8) C dX5_put_56 rfl bp_8 ?_
            refine v_lushr C dX5_put_58 rfl rfl ?_
            refine v_lstore (lv' := [(4, _), (6, _), (0, _), (1, _), (3, _)]) C dX5_put_59 rfl (by decide) rfl ?_
            refine v_iinc (lv' := [(3, _), (4, _), (6, _), (0, _), (1, _)]) C dX5_put_61 rfl 4 rfl (inc9 _) (by decide) rfl ?_
            refine v_goto C 8 dX5_put_64 (by decide) ?_
            refine v_lv (lv' := [(0, _), (1, _), (3, _), (4, _), (6, _)]) [3, 4, 0, 1, 2] rfl ?_
            exact ih _ _ (re9_n hk hre h22f (by rw [if_neg h27f, h44]))
          · skip
            refine v_iconst (v := 1) C dX5_put_47 rfl ic_1 ?_
            refine v_goto C 52 dX5_put_48 (by decide) ?_
            refine v_istore (lv' := [(6, _), (0, _), (1, _), (3, _), (4, _)]) C dX5_put_52 rfl (by decide) rfl ?_
            refine v_lload C dX5_put_54 rfl 4 rfl ?_
            refine v_bipush (v := 8) C dX5_put_56 rfl bp_8 ?_
            refine v_lushr C dX5_put_58 rfl rfl ?_
            refine v_lstore (lv' := [(4, _), (6, _), (0, _), (1, _), (3, _)]) C dX5_put_59 rfl (by decide) rfl ?_
            refine v_iinc (lv' := [(3, _), (4, _), (6, _), (0, _), (1, _)]) C dX5_put_61 rfl 4 rfl (inc9 _) (by decide) rfl ?_
            refine v_goto C 8 dX5_put_64 (by decide) ?_
            refine v_lv (lv' := [(0, _), (1, _), (3, _), (4, _), (6, _)]) [3, 4, 0, 1, 2] rfl ?_
            exact ih _ _ (re9_n hk hre h22f (by rw [if_neg h27f, p_in_1 h44f]))
    · intro b y hre
      refine v_iload_n C dX5_put_8 rfl 3 2 rfl rfl ?_
      refine v_bipush (v := 8) C dX5_put_9 rfl bp_8 ?_
      refine v_icmp_ge C 67 dX5_put_11 (by decide) rfl (fun _ => ?_) (fun h9 => absurd (nI_le (Nat.le_refl _) (by decide)) h9)
      exact v9cast J67 rfl (by first | rw [(re9_J hk hre h22).1.symm, (re9_J hk hre h22).2.1.symm, (re9_J hk hre h22).2.2.symm] | rw [(re9_0 hre).1.symm, (re9_0 hre).2.1.symm, (re9_0 hre).2.2.symm]) rfl
  refine v_lv (lv' := [(0, _), (1, _), (3, _), (4, _), (6, _)]) [3, 4, 2, 1, 0] rfl ?_
  exact LP8 0 (by decide) 1 x rfl

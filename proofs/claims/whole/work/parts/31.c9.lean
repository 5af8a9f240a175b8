/-! ===== the class's pad: its characters, where a show ends, what stands in it ===== -/
def cha (T : Nat → Int32) (L i : Nat) : Int32 := if i < L then T i else 44
def eos (T : Nat → Int32) : Nat → Nat → Nat
  | 0, a => a
  | n + 1, a => if T a = 44 then a else eos T n (a + 1)
def da (T : Nat → Int32) (L : Nat) : Nat → Int32 → Nat → Int32
  | 0, v, _ => v
  | n + 1, v, i => da T L n (v * 10 + cha T L i - 48) (i + 1)
theorem bD_nar (c : Int32) : narrow .int (.int (bD c)) = .int (bD c) := rfl
theorem eos_a {T : Nat → Int32} {L i : Nat} (hi : i < L) (h : T i = 44) : eos T (L - i) i = i := by
  rw [show L - i = (L - (i + 1)) + 1 by omega, eos, if_pos h]
theorem eos_b {T : Nat → Int32} {L i : Nat} (hi : i < L) (h : ¬ T i = 44) : eos T (L - i) i = eos T (L - (i + 1)) (i + 1) := by
  rw [show L - i = (L - (i + 1)) + 1 by omega, eos, if_neg h]
theorem eos_L (T : Nat → Int32) (L : Nat) : eos T (L - L) L = L := by rw [Nat.sub_self, eos]
theorem sb_by8 (x : Int64) (k : Nat) : ∃ z : Int32, by8 x k = z &&& 255 := ⟨_, by
  unfold by8
  rw [Int64.toInt32_and]
  rfl⟩
theorem nar_by8 (x : Int64) (k : Nat) : vp_nar .char (by8 x k) = by8 x k := by
  obtain ⟨z, hz⟩ := sb_by8 x k
  rw [hz]
  have h := sc_nar z
  unfold vp_nar
  rw [h]
/-- i of n characters of x laid, the last first -/
def caF (T : Nat → Int32) (x : Int64) (L n i : Nat) : Nat → Int32 := fun j => if L + n - i ≤ j ∧ j < L + n then by8 x (L + n - 1 - j) else T j
theorem caF_0 (T : Nat → Int32) (x : Int64) (L n : Nat) : caF T x L n 0 = T := by
  funext i
  exact if_neg (fun q => by omega)
theorem caF_s (T : Nat → Int32) (x : Int64) (L n i : Nat) (hi : i < n) : upd (caF T x L n i) (L + n - 1 - i) (by8 x i) = caF T x L n (i + 1) := by
  funext j
  by_cases e : j = L + n - 1 - i
  · subst e
    rw [upd_s, caF, if_pos (by omega), show L + n - 1 - (L + n - 1 - i) = i by omega]
  · rw [upd_n _ _ e]
    unfold caF
    by_cases h : L + n - i ≤ j ∧ j < L + n
    · rw [if_pos h, if_pos (by omega)]
    · rw [if_neg h, if_neg (by omega)]
theorem caF_pt (T : Nat → Int32) (x : Int64) (L n : Nat) : caF T x L n n = ptF T x L n n := by
  funext j
  unfold caF ptF
  by_cases h : L ≤ j ∧ j < L + n
  · rw [if_pos (by omega), if_pos h, show L + n - 1 - j = n - 1 - (j - L) by omega]
  · rw [if_neg (by omega), if_neg h]
/-- what the class finds in a long -/
def ci9 : Nat → Nat → Int64 → Int32
  | 0, k, y => if lg_cmp y 0 = 0 then nI k else 0
  | d + 1, k, y => if lg_cmp (y &&& 255) 0 = 0 then (if lg_cmp y 0 = 0 then nI k else 0) else if lg_cmp (y &&& 255) 33 < 0 then 0 else if ¬ lg_cmp (y &&& 255) 126 ≤ 0 then 0 else ci9 d (k + 1) (s8 y)
theorem ci9_a {k : Nat} {y : Int64} {R : Int32} (hk : k < 8) (h : ci9 (8 - k) k y = R) (h0 : lg_cmp (y &&& 255) 0 = 0) : (if lg_cmp y 0 = 0 then nI k else 0) = R := by
  rw [show 8 - k = (8 - (k + 1)) + 1 by omega, ci9, if_pos h0] at h
  exact h
theorem ci9_b {k : Nat} {y : Int64} {R : Int32} (hk : k < 8) (h : ci9 (8 - k) k y = R) (h0 : ¬ lg_cmp (y &&& 255) 0 = 0) (h1 : lg_cmp (y &&& 255) 33 < 0) : 0 = R := by
  rw [show 8 - k = (8 - (k + 1)) + 1 by omega, ci9, if_neg h0, if_pos h1] at h
  exact h
theorem ci9_c {k : Nat} {y : Int64} {R : Int32} (hk : k < 8) (h : ci9 (8 - k) k y = R) (h0 : ¬ lg_cmp (y &&& 255) 0 = 0) (h1 : ¬ lg_cmp (y &&& 255) 33 < 0) (h2 : ¬ lg_cmp (y &&& 255) 126 ≤ 0) : 0 = R := by
  rw [show 8 - k = (8 - (k + 1)) + 1 by omega, ci9, if_neg h0, if_neg h1, if_pos h2] at h
  exact h
theorem ci9_d {k : Nat} {y : Int64} {R : Int32} (hk : k < 8) (h : ci9 (8 - k) k y = R) (h0 : ¬ lg_cmp (y &&& 255) 0 = 0) (h1 : ¬ lg_cmp (y &&& 255) 33 < 0) (h2 : lg_cmp (y &&& 255) 126 ≤ 0) : ci9 (8 - (k + 1)) (k + 1) (s8 y) = R := by
  rw [show 8 - k = (8 - (k + 1)) + 1 by omega, ci9, if_neg h0, if_neg h1, if_neg (fun q => q h2)] at h
  exact h
theorem df_r {T : Nat → Int32} {L i : Nat} {q R : Int32} (hi : i < L) (h : df T (L - i) q i = R) (h6 : bh q (T i) = 6) : nI i = R := by rw [← h, df_x hi h6]
theorem df_n {T : Nat → Int32} {L i : Nat} {q R : Int32} (hi : i < L) (h : df T (L - i) q i = R) (h6 : ¬ bh q (T i) = 6) : df T (L - (i + 1)) (bh q (T i)) (i + 1) = R := by rw [← h, df_s hi rfl h6]
theorem df_z {T : Nat → Int32} {L : Nat} {q R : Int32} (h : df T (L - L) q L = R) : (if q < 3 then nI L else -6) = R := by
  rw [Nat.sub_self, df] at h
  exact h
set_option maxHeartbeats 4000000 in
set_option maxRecDepth 100000 in
theorem c_X3_isBetween (l : Launch) (x a b : Int32) : CPi l yX3_isBetween wsX3_isBetween ({ frames := 0, cells := 0, slots := 0, locals := 0 } : Room) [.int x, .int a, .int b] (fun r => r = p_in x a b) := by
  refine v_startP (own := RX3) (cc := cX3_isBetween) (nL := 3) ((fun _ => 0), (fun _ _ => 0)) rfl (by decide) rfl (Nat.le_of_ble_eq_true rfl) ?_
  intro p e s m args below meth c A Q C hend
  skip
  refine v_lv (lv' := [(0, .int x), (1, .int a), (2, .int b)]) [0, 1, 2] rfl ?_
  refine v_iload_n C dX3_isBetween_0 rfl 0 0 rfl rfl ?_
  refine v_iload_n C dX3_isBetween_1 rfl 1 1 rfl rfl ?_
  refine v_icmp_lt C 14 dX3_isBetween_2 (by decide) rfl (fun h2 => ?_) (fun h2f => ?_)
  · skip
    refine v_iconst (v := 0) C dX3_isBetween_14 rfl ic_0 ?_
    exact hend (by simp [p_in, h2]) (rfl) dX3_isBetween_15
  · skip
    refine v_iload_n C dX3_isBetween_5 rfl 0 0 rfl rfl ?_
    refine v_iload_n C dX3_isBetween_6 rfl 2 2 rfl rfl ?_
    refine v_icmp_gt C 14 dX3_isBetween_7 (by decide) rfl (fun h7 => ?_) (fun h7f => ?_)
    · skip
      refine v_iconst (v := 0) C dX3_isBetween_14 rfl ic_0 ?_
      exact hend (by simp [p_in, h2f, h7]) (rfl) dX3_isBetween_15
    · skip
      refine v_iconst (v := 1) C dX3_isBetween_10 rfl ic_1 ?_
      refine v_goto C 15 dX3_isBetween_11 (by decide) ?_
      exact hend (by simp [p_in, h2f, h7f]) (rfl) dX3_isBetween_15
set_option maxHeartbeats 4000000 in
set_option maxRecDepth 100000 in
theorem c_X3_behindDay (l : Launch) (x : Int32) : CPi l yX3_behindDay wsX3_behindDay ({ frames := 0, cells := 0, slots := 0, locals := 0 } : Room) [.int x] (fun r => r = bD x) := by
  refine v_startP (own := RX3) (cc := cX3_behindDay) (nL := 1) ((fun _ => 0), (fun _ _ => 0)) rfl (by decide) rfl (Nat.le_of_ble_eq_true rfl) ?_
  intro p e s m args below meth c A Q C hend
  skip
  refine v_lv (lv' := [(0, .int x)]) [0] rfl ?_
  refine v_iload_n C dX3_behindDay_0 rfl 0 0 rfl rfl ?_
  refine v_bipush (v := 44) C dX3_behindDay_1 rfl bp_44 ?_
  refine v_icmp_ne C 10 dX3_behindDay_3 (by decide) rfl (fun h3 => ?_) (fun h3f => ?_)
  · skip
    refine v_bipush (v := 6) C dX3_behindDay_10 rfl bp_6 ?_
    exact hend ((if_neg h3).symm) (rfl) dX3_behindDay_12
  · skip
    refine v_iconst (v := 0) C dX3_behindDay_6 rfl ic_0 ?_
    refine v_goto C 12 dX3_behindDay_7 (by decide) ?_
    exact hend ((if_pos h3f).symm) (rfl) dX3_behindDay_12
set_option maxHeartbeats 4000000 in
set_option maxRecDepth 100000 in
theorem c_X3_behindFirstDigit (l : Launch) (x : Int32) : CPi l yX3_behindFirstDigit wsX3_behindFirstDigit ({ frames := 1, cells := 0, slots := 0, locals := 22 } : Room) [.int x] (fun r => r = bF x) := by
  refine v_startP (own := RX3) (cc := cX3_behindFirstDigit) (nL := 1) ((fun _ => 0), (fun _ _ => 0)) rfl (by decide) rfl (Nat.le_of_ble_eq_true rfl) ?_
  intro p e s m args below meth c A Q C hend
  skip
  refine v_lv (lv' := [(0, .int x)]) [0] rfl ?_
  refine v_iload_n C dX3_behindFirstDigit_0 rfl 0 0 rfl rfl ?_
  refine v_bipush (v := 49) C dX3_behindFirstDigit_1 rfl bp_49 ?_
  refine v_icmp_eq C 12 dX3_behindFirstDigit_3 (by decide) rfl (fun h3 => ?_) (fun h3f => ?_)
  · skip
    refine v_iconst (v := 3) C dX3_behindFirstDigit_12 rfl ic_3 ?_
    exact hend (by simp [bF, h3]) (rfl) dX3_behindFirstDigit_13
  · skip
    refine v_iload_n C dX3_behindFirstDigit_6 rfl 0 0 rfl rfl ?_
    refine v_bipush (v := 50) C dX3_behindFirstDigit_7 rfl bp_50 ?_
    refine v_icmp_ne C 14 dX3_behindFirstDigit_9 (by decide) rfl (fun h9a => ?_) (fun h9b => ?_)
    · skip
      refine v_iload_n C dX3_behindFirstDigit_14 rfl 0 0 rfl rfl ?_
      refine v_bipush (v := 51) C dX3_behindFirstDigit_15 rfl bp_51 ?_
      refine v_icmp_ne C 22 dX3_behindFirstDigit_17 (by decide) rfl (fun h17 => ?_) (fun h17f => ?_)
      · skip
        refine v_iload_n C dX3_behindFirstDigit_22 rfl 0 0 rfl rfl ?_
        refine v_bipush (v := 48) C dX3_behindFirstDigit_23 rfl bp_48 ?_
        refine v_bipush (v := 57) C dX3_behindFirstDigit_25 rfl bp_57 ?_
        refine v_callSpd C (c_X3_isBetween l _ _ _) gX3_behindFirstDigit_X3_isBetween rfl hd_X3_isBetween.2 ⟨rfl, rfl⟩ ⟨Nat.le_of_ble_eq_true rfl, Nat.le_of_ble_eq_true rfl⟩ rfl rfl (Nat.le_of_ble_eq_true rfl) ⟨Nat.le_refl _, Nat.le_refl _⟩ dX3_behindFirstDigit_27 rfl ?_
        refine v_if_eq C 37 dX3_behindFirstDigit_30 (by decide) rfl (fun h30 => ?_) (fun h30f => ?_)
        · skip
          refine v_bipush (v := 6) C dX3_behindFirstDigit_37 rfl bp_6 ?_
          exact hend (by simp [bF, h3f, h9a, h17, h30]) (rfl) dX3_behindFirstDigit_39
        · skip
          refine v_iconst (v := 5) C dX3_behindFirstDigit_33 rfl ic_5 ?_
          refine v_goto C 39 dX3_behindFirstDigit_34 (by decide) ?_
          exact hend (by simp [bF, h3f, h9a, h17, h30f]) (rfl) dX3_behindFirstDigit_39
      · skip
        refine v_iconst (v := 4) C dX3_behindFirstDigit_20 rfl ic_4 ?_
        exact hend (by simp [bF, h3f, h9a, h17f]) (rfl) dX3_behindFirstDigit_21
    · skip
      refine v_iconst (v := 3) C dX3_behindFirstDigit_12 rfl ic_3 ?_
      exact hend (by simp [bF, h3f, h9b]) (rfl) dX3_behindFirstDigit_13
set_option maxHeartbeats 4000000 in
set_option maxRecDepth 100000 in
theorem c_X3_behind (l : Launch) (q x : Int32) : CPi l yX3_behind wsX3_behind ({ frames := 2, cells := 0, slots := 0, locals := 42 } : Room) [.int q, .int x] (fun r => r = bh q x) := by
  refine v_startP (own := RX3) (cc := cX3_behind) (nL := 2) ((fun _ => 0), (fun _ _ => 0)) rfl (by decide) rfl (Nat.le_of_ble_eq_true rfl) ?_
  intro p e s m args below meth c A Q C hend
  skip
  refine v_lv (lv' := [(0, .int q), (1, .int x)]) [0, 1] rfl ?_
  refine v_iload_n C dX3_behind_0 rfl 0 0 rfl rfl ?_
  by_cases h1_0 : q = 0
  · refine v_tableIn C 36 dX3_behind_1 (by rw [h1_0]; decide) (by rw [h1_0]; decide) (off := 35) (by rw [h1_0]; rfl) (by decide) ?_
    refine v_iload_n C dX3_behind_36 rfl 1 1 rfl rfl ?_
    refine v_bipush (v := 48) C dX3_behind_37 rfl bp_48 ?_
    refine v_bipush (v := 55) C dX3_behind_39 rfl bp_55 ?_
    refine v_callSpd C (c_X3_isBetween l _ _ _) gX3_behind_X3_isBetween rfl hd_X3_isBetween.2 ⟨rfl, rfl⟩ ⟨Nat.le_of_ble_eq_true rfl, Nat.le_of_ble_eq_true rfl⟩ rfl rfl (Nat.le_of_ble_eq_true rfl) ⟨Nat.le_refl _, Nat.le_refl _⟩ dX3_behind_41 rfl ?_
    refine v_if_eq C 51 dX3_behind_44 (by decide) rfl (fun h44 => ?_) (fun h44f => ?_)
    · skip
      refine v_bipush (v := 6) C dX3_behind_51 rfl bp_6 ?_
      exact hend (by simp [bh, h1_0, h44]) (rfl) dX3_behind_53
    · skip
      refine v_iconst (v := 1) C dX3_behind_47 rfl ic_1 ?_
      refine v_goto C 53 dX3_behind_48 (by decide) ?_
      exact hend (by simp [bh, h1_0, h44f]) (rfl) dX3_behind_53
  by_cases h1_1 : q = 1
  · refine v_tableIn C 54 dX3_behind_1 (by rw [h1_1]; decide) (by rw [h1_1]; decide) (off := 53) (by rw [h1_1]; rfl) (by decide) ?_
    refine v_iload_n C dX3_behind_54 rfl 1 1 rfl rfl ?_
    refine v_bipush (v := 97) C dX3_behind_55 rfl bp_97 ?_
    refine v_icmp_eq C 66 dX3_behind_57 (by decide) rfl (fun h57 => ?_) (fun h57f => ?_)
    · skip
      refine v_iconst (v := 2) C dX3_behind_66 rfl ic_2 ?_
      refine v_goto C 72 dX3_behind_67 (by decide) ?_
      exact hend (by simp [bh, h1_0, h1_1, h57]) (rfl) dX3_behind_72
    · skip
      refine v_iload_n C dX3_behind_60 rfl 1 1 rfl rfl ?_
      refine v_bipush (v := 101) C dX3_behind_61 rfl bp_101 ?_
      refine v_icmp_ne C 70 dX3_behind_63 (by decide) rfl (fun h63 => ?_) (fun h63f => ?_)
      · skip
        refine v_bipush (v := 6) C dX3_behind_70 rfl bp_6 ?_
        exact hend (by simp [bh, h1_0, h1_1, h57f, h63]) (rfl) dX3_behind_72
      · skip
        refine v_iconst (v := 2) C dX3_behind_66 rfl ic_2 ?_
        refine v_goto C 72 dX3_behind_67 (by decide) ?_
        exact hend (by simp [bh, h1_0, h1_1, h57f, h63f]) (rfl) dX3_behind_72
  by_cases h1_2 : q = 2
  · refine v_tableIn C 73 dX3_behind_1 (by rw [h1_2]; decide) (by rw [h1_2]; decide) (off := 72) (by rw [h1_2]; rfl) (by decide) ?_
    refine v_iload_n C dX3_behind_73 rfl 1 1 rfl rfl ?_
    refine v_callSpd C (c_X3_behindFirstDigit l _) gX3_behind_X3_behindFirstDigit rfl hd_X3_behindFirstDigit.2 ⟨rfl, rfl⟩ ⟨Nat.le_of_ble_eq_true rfl, Nat.le_of_ble_eq_true rfl⟩ rfl rfl (Nat.le_of_ble_eq_true rfl) ⟨Nat.le_refl _, Nat.le_refl _⟩ dX3_behind_74 rfl ?_
    exact hend (by simp [bh, h1_0, h1_1, h1_2]) (rfl) dX3_behind_77
  by_cases h1_3 : q = 3
  · refine v_tableIn C 78 dX3_behind_1 (by rw [h1_3]; decide) (by rw [h1_3]; decide) (off := 77) (by rw [h1_3]; rfl) (by decide) ?_
    refine v_iload_n C dX3_behind_78 rfl 1 1 rfl rfl ?_
    refine v_bipush (v := 48) C dX3_behind_79 rfl bp_48 ?_
    refine v_bipush (v := 57) C dX3_behind_81 rfl bp_57 ?_
    refine v_callSpd C (c_X3_isBetween l _ _ _) gX3_behind_X3_isBetween rfl hd_X3_isBetween.2 ⟨rfl, rfl⟩ ⟨Nat.le_of_ble_eq_true rfl, Nat.le_of_ble_eq_true rfl⟩ rfl rfl (Nat.le_of_ble_eq_true rfl) ⟨Nat.le_refl _, Nat.le_refl _⟩ dX3_behind_83 rfl ?_
    refine v_if_eq C 93 dX3_behind_86 (by decide) rfl (fun h86 => ?_) (fun h86f => ?_)
    · skip
      refine v_iload_n C dX3_behind_93 rfl 1 1 rfl rfl ?_
      refine v_callSpd C (c_X3_behindDay l _) gX3_behind_X3_behindDay rfl hd_X3_behindDay.2 ⟨rfl, rfl⟩ ⟨Nat.le_of_ble_eq_true rfl, Nat.le_of_ble_eq_true rfl⟩ rfl rfl (Nat.le_of_ble_eq_true rfl) ⟨Nat.le_refl _, Nat.le_refl _⟩ dX3_behind_94 rfl ?_
      exact hend (by simp [bh, h1_0, h1_1, h1_2, h1_3, h86]) (rfl) dX3_behind_97
    · skip
      refine v_iconst (v := 5) C dX3_behind_89 rfl ic_5 ?_
      refine v_goto C 97 dX3_behind_90 (by decide) ?_
      exact hend (by simp [bh, h1_0, h1_1, h1_2, h1_3, h86f]) (rfl) dX3_behind_97
  by_cases h1_4 : q = 4
  · refine v_tableIn C 98 dX3_behind_1 (by rw [h1_4]; decide) (by rw [h1_4]; decide) (off := 97) (by rw [h1_4]; rfl) (by decide) ?_
    refine v_iload_n C dX3_behind_98 rfl 1 1 rfl rfl ?_
    refine v_bipush (v := 48) C dX3_behind_99 rfl bp_48 ?_
    refine v_bipush (v := 52) C dX3_behind_101 rfl bp_52 ?_
    refine v_callSpd C (c_X3_isBetween l _ _ _) gX3_behind_X3_isBetween rfl hd_X3_isBetween.2 ⟨rfl, rfl⟩ ⟨Nat.le_of_ble_eq_true rfl, Nat.le_of_ble_eq_true rfl⟩ rfl rfl (Nat.le_of_ble_eq_true rfl) ⟨Nat.le_refl _, Nat.le_refl _⟩ dX3_behind_103 rfl ?_
    refine v_if_eq C 113 dX3_behind_106 (by decide) rfl (fun h106 => ?_) (fun h106f => ?_)
    · skip
      refine v_iload_n C dX3_behind_113 rfl 1 1 rfl rfl ?_
      refine v_callSpd C (c_X3_behindDay l _) gX3_behind_X3_behindDay rfl hd_X3_behindDay.2 ⟨rfl, rfl⟩ ⟨Nat.le_of_ble_eq_true rfl, Nat.le_of_ble_eq_true rfl⟩ rfl rfl (Nat.le_of_ble_eq_true rfl) ⟨Nat.le_refl _, Nat.le_refl _⟩ dX3_behind_114 rfl ?_
      exact hend (by simp [bh, h1_0, h1_1, h1_2, h1_3, h1_4, h106]) (rfl) dX3_behind_117
    · skip
      refine v_iconst (v := 5) C dX3_behind_109 rfl ic_5 ?_
      refine v_goto C 117 dX3_behind_110 (by decide) ?_
      exact hend (by simp [bh, h1_0, h1_1, h1_2, h1_3, h1_4, h106f]) (rfl) dX3_behind_117
  refine v_tableOut C 118 dX3_behind_1 (sw9 (x := q) (n := 4) (by decide) (fun j hj => by rcases (show j = 0 ∨ j = 1 ∨ j = 2 ∨ j = 3 ∨ j = 4 by omega) with rfl | rfl | rfl | rfl | rfl <;> first | exact h1_0 | exact h1_1 | exact h1_2 | exact h1_3 | exact h1_4)) (by decide) ?_
  refine v_iload_n C dX3_behind_118 rfl 1 1 rfl rfl ?_
  refine v_callSpd C (c_X3_behindDay l _) gX3_behind_X3_behindDay rfl hd_X3_behindDay.2 ⟨rfl, rfl⟩ ⟨Nat.le_of_ble_eq_true rfl, Nat.le_of_ble_eq_true rfl⟩ rfl rfl (Nat.le_of_ble_eq_true rfl) ⟨Nat.le_refl _, Nat.le_refl _⟩ dX3_behind_119 rfl ?_
  exact hend (by simp [bh, h1_0, h1_1, h1_2, h1_3, h1_4]) (rfl) dX3_behind_122
set_option maxHeartbeats 4000000 in
set_option maxRecDepth 100000 in
theorem c_X3_charactersIn (l : Launch) (x : Int64) : CPi l yX3_charactersIn wsX3_charactersIn ({ frames := 0, cells := 0, slots := 0, locals := 0 } : Room) [.long x] (fun r => r = ci9 8 0 x) := by
  refine v_startP (own := RX3) (cc := cX3_charactersIn) (nL := 7) ((fun _ => 0), (fun _ _ => 0)) rfl (by decide) rfl (Nat.le_of_ble_eq_true rfl) ?_
  intro p e s m args below meth c A Q C hend
  skip
  refine v_lv (lv' := [(0, .long x)]) [0] rfl ?_
  refine v_iconst (v := 0) C dX3_charactersIn_0 rfl ic_0 ?_
  refine v_istore_n (lv' := [(2, _), (0, _)]) C dX3_charactersIn_1 rfl 2 rfl (by decide) rfl ?_
  refine v_lload_n C dX3_charactersIn_2 rfl 0 1 rfl rfl ?_
  refine v_lstore_n (lv' := [(3, _), (2, _), (0, _)]) C dX3_charactersIn_3 rfl 3 rfl (by decide) rfl ?_
  have LP4 : ∀ k, k ≤ 8 → ∀ (y : Int64), ci9 (8 - k) k y = ci9 8 0 x → VV p l e ({ frames := 0, cells := 0, slots := 0, locals := 0 } : Room) s m args below meth c 0 0 Q (fun _ : Unit => []) ((fun _ => 0), (fun _ _ => 0)) A s.heap 7 () 4 [(0, .long x), (2, .int (nI k)), (3, .long y)] [] := by
    refine lpB9 (fun k => ∀ (y : Int64), ci9 (8 - k) k y = ci9 8 0 x → VV p l e ({ frames := 0, cells := 0, slots := 0, locals := 0 } : Room) s m args below meth c 0 0 Q (fun _ : Unit => []) ((fun _ => 0), (fun _ _ => 0)) A s.heap 7 () 4 [(0, .long x), (2, .int (nI k)), (3, .long y)] []) 8 (fun k hk ih => ?_) ?_
    · intro y hre
      refine v_iload_n C dX3_charactersIn_4 rfl 2 1 rfl rfl ?_
      refine v_bipush (v := 8) C dX3_charactersIn_5 rfl bp_8 ?_
      refine v_icmp_ge C 58 dX3_charactersIn_7 (by decide) rfl (fun h9 => absurd h9 (nI_ge hk (by decide))) (fun _ => ?_)
      refine v_lload_n C dX3_charactersIn_10 rfl 3 2 rfl rfl ?_
      refine v_ldc2 C dX3_charactersIn_11 rfl ct_X3_charactersIn_23 ?_
      refine v_land C dX3_charactersIn_14 rfl ?_
      refine v_lconst (v := 0) C dX3_charactersIn_15 rfl (by decide) ?_
      refine v_lcmp C dX3_charactersIn_16 rfl ?_
      refine v_if_eq C 58 dX3_charactersIn_17 (by decide) rfl (fun h17 => ?_) (fun h17f => ?_)
      · skip
        refine v_lload_n C dX3_charactersIn_58 rfl 3 2 rfl rfl ?_
        refine v_lconst (v := 0) C dX3_charactersIn_59 rfl (by decide) ?_
        refine v_lcmp C dX3_charactersIn_60 rfl ?_
        refine v_if_ne C 68 dX3_charactersIn_61 (by decide) rfl (fun h61 => ?_) (fun h61f => ?_)
        · skip
          refine v_iconst (v := 0) C dX3_charactersIn_68 rfl ic_0 ?_
          exact hend (by rw [← ci9_a hk hre h17, if_neg h61]) (rfl) dX3_charactersIn_69
        · skip
          refine v_iload_n C dX3_charactersIn_64 rfl 2 1 rfl rfl ?_
          refine v_goto C 69 dX3_charactersIn_65 (by decide) ?_
          exact hend (by rw [← ci9_a hk hre h17, if_pos h61f]) (rfl) dX3_charactersIn_69
      · skip
        refine v_lload_n C dX3_charactersIn_20 rfl 3 2 rfl rfl ?_
        refine v_ldc2 C dX3_charactersIn_21 rfl ct_X3_charactersIn_23 ?_
        refine v_land C dX3_charactersIn_24 rfl ?_
        refine v_lstore (lv' := [(5, _), (0, _), (2, _), (3, _)]) C dX3_charactersIn_25 rfl (by decide) rfl ?_
        refine v_lload C dX3_charactersIn_27 rfl 0 rfl ?_
        refine v_ldc2 C dX3_charactersIn_29 rfl ct_X3_charactersIn_25 ?_
        refine v_lcmp C dX3_charactersIn_32 rfl ?_
        refine v_if_lt C 45 dX3_charactersIn_33 (by decide) rfl (fun h33 => ?_) (fun h33f => ?_)
        · skip
          refine v_iconst (v := 0) C dX3_charactersIn_45 rfl ic_0 ?_
          exact hend (ci9_b hk hre h17f h33) (rfl) dX3_charactersIn_46
        · skip
          refine v_lload C dX3_charactersIn_36 rfl 0 rfl ?_
          refine v_ldc2 C dX3_charactersIn_38 rfl ct_X3_charactersIn_27 ?_
          refine v_lcmp C dX3_charactersIn_41 rfl ?_
          refine v_if_le C 47 dX3_charactersIn_42 (by decide) rfl (fun h42 => ?_) (fun h42f => ?_)
          · skip
            refine v_lload_n C dX3_charactersIn_47 rfl 3 3 rfl rfl ?_
            refine v_bipush (v := 8) C dX3_charactersIn_48 rfl bp_8 ?_
            refine v_lushr C dX3_charactersIn_50 rfl rfl ?_
            refine v_lstore_n (lv' := [(3, _), (5, _), (0, _), (2, _)]) C dX3_charactersIn_51 rfl 3 rfl (by decide) rfl ?_
            refine v_iinc (lv' := [(2, _), (3, _), (5, _), (0, _)]) C dX3_charactersIn_52 rfl 3 rfl (inc9 _) (by decide) rfl ?_
            refine v_goto C 4 dX3_charactersIn_55 (by decide) ?_
            refine v_lv (lv' := [(0, _), (2, _), (3, _)]) [3, 0, 1] rfl ?_
            exact ih _ (ci9_d hk hre h17f h33f h42)
          · skip
            refine v_iconst (v := 0) C dX3_charactersIn_45 rfl ic_0 ?_
            exact hend (ci9_c hk hre h17f h33f h42f) (rfl) dX3_charactersIn_46
    · intro y hre
      refine v_iload_n C dX3_charactersIn_4 rfl 2 1 rfl rfl ?_
      refine v_bipush (v := 8) C dX3_charactersIn_5 rfl bp_8 ?_
      refine v_icmp_ge C 58 dX3_charactersIn_7 (by decide) rfl (fun _ => ?_) (fun h9 => absurd (nI_le (Nat.le_refl _) (by decide)) h9)
      refine v_lload_n C dX3_charactersIn_58 rfl 3 2 rfl rfl ?_
      refine v_lconst (v := 0) C dX3_charactersIn_59 rfl (by decide) ?_
      refine v_lcmp C dX3_charactersIn_60 rfl ?_
      refine v_if_ne C 68 dX3_charactersIn_61 (by decide) rfl (fun h61 => ?_) (fun h61f => ?_)
      · skip
        refine v_iconst (v := 0) C dX3_charactersIn_68 rfl ic_0 ?_
        exact hend (by rw [← hre, ci9, if_neg h61]) (rfl) dX3_charactersIn_69
      · skip
        refine v_iload_n C dX3_charactersIn_64 rfl 2 1 rfl rfl ?_
        refine v_goto C 69 dX3_charactersIn_65 (by decide) ?_
        exact hend (by rw [← hre, ci9, if_pos h61f]) (rfl) dX3_charactersIn_69
  refine v_lv (lv' := [(0, _), (2, _), (3, _)]) [2, 1, 0] rfl ?_
  exact LP4 0 (by decide) x rfl
set_option maxHeartbeats 4000000 in
set_option maxRecDepth 100000 in
theorem c_X3_append (l : Launch) (D : va_G) (ad : Nat → Nat) (cI cC cZ cQ : ClassId) (σ : S9) (L : Nat) (hL : σ 7 0 = nI L) (hL6 : L ≤ 60) (x : Int64) (n : Nat) (hn8 : n ≤ 8) (hn : ci9 8 0 x = nI n) : CMi l (cW ad cI cC cZ cQ) D (cTy cI cC cZ cQ) yX3_append wsX3_append ({ frames := 1, cells := 0, slots := 0, locals := 26 } : Room) [.ref (ad 8), .long x] σ (fun r u => (n = 0 → r = -2 ∧ u = σ) ∧ (¬ n = 0 → 60 < L + n → r = -4 ∧ u = σ) ∧ (¬ n = 0 → ¬ 60 < L + n → r = nI (L + n) ∧ u = st9 (st9 σ 6 (ptF (σ 6) x L n n)) 7 (upd (σ 7) 0 (nI (L + n))))) := by
  refine v_starti (own := RX3) (cc := cX3_append) (nL := 5) rfl (by decide) rfl (Nat.le_of_ble_eq_true rfl) ?_
  intro p e s m args below meth c A Q C K hend
  refine v_lv (lv' := [(0, .ref (ad 8)), (1, .long x)]) [0, 1] rfl ?_
  refine v_lload_n C dX3_append_0 rfl 1 1 rfl rfl ?_
  refine v_callSp C (c_X3_charactersIn l x) gX3_append_X3_charactersIn rfl hd_X3_charactersIn.2 ⟨rfl, rfl⟩ ⟨Nat.le_of_ble_eq_true rfl, Nat.le_of_ble_eq_true rfl⟩ rfl rfl (Nat.le_of_ble_eq_true rfl) ⟨Nat.le_refl _, Nat.le_refl _⟩ dX3_append_1 rfl (fun r1 hc1 => ?_)
  rw [hn] at hc1
  subst hc1
  refine v_istore_n (lv' := [(3, _), (0, _), (1, _)]) C dX3_append_4 rfl 3 rfl (by decide) rfl ?_
  refine v_iload_n C dX3_append_5 rfl 3 0 rfl rfl ?_
  refine v_if_ne C 12 dX3_append_6 (by decide) rfl (fun h6 => ?_) (fun h6f => ?_)
  · skip
    have hn0 : ¬ n = 0 := fun q => h6 (by rw [q]; rfl)
    refine v_aload_n C dX3_append_12 rfl 0 1 rfl rfl ?_
    refine v_get C K in_X3_append_X3 8 rfl rfl 1 (by decide) fl_X3_append_X3_1 rfl dX3_append_13 rfl ?_
    refine v_iload_n C dX3_append_16 rfl 3 0 rfl rfl ?_
    refine v_iadd C dX3_append_17 rfl ?_
    refine v_top (nI (L + n)) (by rw [hL, nI_add]) ?_
    refine v_bipush (v := 60) C dX3_append_18 rfl bp_60 ?_
    refine v_icmp_le C 26 dX3_append_20 (by decide) rfl (fun h20 => ?_) (fun h20f => ?_)
    · skip
      have hg : ¬ 60 < L + n := by
        have := (nI_leI (a := L + n) (b := 60) (by omega) (by decide)).mp h20
        omega
      refine v_aload_n C dX3_append_26 rfl 0 1 rfl rfl ?_
      refine v_dup C dX3_append_27 rfl rfl ?_
      refine v_get C K in_X3_append_X3 8 rfl rfl 1 (by decide) fl_X3_append_X3_1 rfl dX3_append_28 rfl ?_
      refine v_iload_n C dX3_append_31 rfl 3 0 rfl rfl ?_
      refine v_iadd C dX3_append_32 rfl ?_
      refine v_top (nI (L + n)) (by rw [hL, nI_add]) ?_
      refine v_put (ty := .int) C K _ in_X3_append_X3 tyX3_ok nmX3 8 rfl rfl 1 (by decide) fl_X3_append_X3_1 rfl (by decide +kernel) rfl rfl (Nat.le_of_ble_eq_true rfl) (cW_fX3_1 ad cI cC cZ cQ _ _) dX3_append_33 rfl ?_
      refine v_iconst (v := 0) C dX3_append_36 rfl ic_0 ?_
      refine v_istore (lv' := [(4, _), (3, _), (0, _), (1, _)]) C dX3_append_37 rfl (by decide) rfl ?_
      have LP39 : ∀ i, i ≤ n → VV p l e ({ frames := 1, cells := 0, slots := 0, locals := 26 } : Room) s m args below meth c 0 0 Q (cW ad cI cC cZ cQ) D A s.heap 5 (st9 (st9 σ 6 (caF (σ 6) x L n i)) 7 (upd (σ 7) 0 (nI (L + n)))) 39 [(0, .ref (ad 8)), (1, .long x), (3, .int (nI n)), (4, .int (nI i))] [] := by
        refine lpB9 (fun i => VV p l e ({ frames := 1, cells := 0, slots := 0, locals := 26 } : Room) s m args below meth c 0 0 Q (cW ad cI cC cZ cQ) D A s.heap 5 (st9 (st9 σ 6 (caF (σ 6) x L n i)) 7 (upd (σ 7) 0 (nI (L + n)))) 39 [(0, .ref (ad 8)), (1, .long x), (3, .int (nI n)), (4, .int (nI i))] []) n (fun i hi ih => ?_) ?_
        · skip
          refine v_iload C dX3_append_39 rfl 3 rfl ?_
          refine v_iload_n C dX3_append_41 rfl 3 2 rfl rfl ?_
          refine v_icmp_ge C 78 dX3_append_42 (by decide) rfl (fun h9 => absurd h9 (nI_ge hi (by omega))) (fun _ => ?_)
          refine v_aload_n C dX3_append_45 rfl 0 0 rfl rfl ?_
          refine v_get C K in_X3_append_X3 8 rfl rfl 0 (by decide) fl_X3_append_X3_0 rfl dX3_append_46 rfl ?_
          refine v_aload_n C dX3_append_49 rfl 0 0 rfl rfl ?_
          refine v_get C K in_X3_append_X3 8 rfl rfl 1 (by decide) fl_X3_append_X3_1 rfl dX3_append_50 rfl ?_
          refine v_iconst (v := 1) C dX3_append_53 rfl ic_1 ?_
          refine v_isub C dX3_append_54 rfl ?_
          refine v_iload C dX3_append_55 rfl 3 rfl ?_
          refine v_isub C dX3_append_57 rfl ?_
          refine v_lload_n C dX3_append_58 rfl 1 1 rfl rfl ?_
          refine v_bipush (v := 8) C dX3_append_59 rfl bp_8 ?_
          refine v_iload C dX3_append_61 rfl 3 rfl ?_
          refine v_imul C dX3_append_63 rfl ?_
          refine v_lushr C dX3_append_64 rfl rfl ?_
          refine v_ldc2 C dX3_append_65 rfl ct_X3_append_23 ?_
          refine v_land C dX3_append_68 rfl ?_
          refine v_l2i C dX3_append_69 rfl rfl ?_
          refine v_i2c C dX3_append_70 rfl (v := by8 x i) (by obtain ⟨z, hz⟩ := sb_by8 x i; show ((by8 x i).toUInt32 % 65536).toInt32 = by8 x i; rw [hz]; exact sc_c2 z) ?_
          refine v_cast C K _ 9 1 rfl rfl (L + n - 1 - i) (by rw [st9_s, upd_s, show (1 : Int32) = nI 1 from rfl, pk_sub (by omega), pk_sub (by omega)]) (by omega) (by decide) (cW_a9 ad cI cC cZ cQ _ _) dX3_append_71 rfl ?_
          refine v_iinc (lv' := [(4, _), (0, _), (1, _), (3, _)]) C dX3_append_72 rfl 3 rfl (inc9 _) (by decide) rfl ?_
          refine v_goto C 39 dX3_append_75 (by decide) ?_
          refine v_lv (lv' := [(0, _), (1, _), (3, _), (4, _)]) [1, 2, 3, 0] rfl ?_
          exact v9cast ih (by rw [st9_sw _ _ _ (show 7 ≠ 6 by decide), st9_tw, st9_n _ _ (show 6 ≠ 7 by decide), st9_s, nar_by8, caF_s _ _ _ _ _ hi]) rfl rfl
        · skip
          refine v_iload C dX3_append_39 rfl 3 rfl ?_
          refine v_iload_n C dX3_append_41 rfl 3 2 rfl rfl ?_
          refine v_icmp_ge C 78 dX3_append_42 (by decide) rfl (fun _ => ?_) (fun h9 => absurd (nI_le (Nat.le_refl _) (by omega)) h9)
          refine v_aload_n C dX3_append_78 rfl 0 0 rfl rfl ?_
          refine v_get C K in_X3_append_X3 8 rfl rfl 1 (by decide) fl_X3_append_X3_1 rfl dX3_append_79 rfl ?_
          exact hend (⟨fun q => absurd q hn0, fun _ q => absurd q hg, fun _ _ => ⟨by rw [st9_s, upd_s], by rw [caF_pt]⟩⟩) (rfl) dX3_append_82
      refine v_lv (lv' := [(0, _), (1, _), (3, _), (4, _)]) [2, 3, 1, 0] rfl ?_
      exact v9cast (LP39 0 (Nat.zero_le _)) (by rw [caF_0, st9_id]) rfl rfl
    · skip
      have hg : 60 < L + n := by
        rcases Nat.lt_or_ge 60 (L + n) with q | q
        · exact q
        · exact absurd (nI_le q (by decide)) h20f
      refine v_bipush (v := -4) C dX3_append_23 rfl bp_m4 ?_
      exact hend (⟨fun q => absurd q hn0, fun _ _ => ⟨rfl, rfl⟩, fun _ q => absurd hg q⟩) (rfl) dX3_append_25
  · skip
    have hn0 : n = 0 := nI_inj (b := 0) (by omega) (by decide) h6f
    refine v_bipush (v := -2) C dX3_append_9 rfl bp_m2 ?_
    exact hend (⟨fun _ => ⟨rfl, rfl⟩, fun q => absurd hn0 q, fun q => absurd hn0 q⟩) (rfl) dX3_append_11
set_option maxHeartbeats 4000000 in
set_option maxRecDepth 100000 in
theorem c_X3_firstFault (l : Launch) (D : va_G) (ad : Nat → Nat) (cI cC cZ cQ : ClassId) (σ : S9) (L : Nat) (hL : σ 7 0 = nI L) (hL6 : L ≤ 60) : CMi l (cW ad cI cC cZ cQ) D (cTy cI cC cZ cQ) yX3_firstFault wsX3_firstFault ({ frames := 3, cells := 0, slots := 0, locals := 63 } : Room) [.ref (ad 8)] σ (fun r u => r = ffl (σ 6) L 61 0 ∧ u = σ) := by
  refine v_starti (own := RX3) (cc := cX3_firstFault) (nL := 3) rfl (by decide) rfl (Nat.le_of_ble_eq_true rfl) ?_
  intro p e s m args below meth c A Q C K hend
  refine v_lv (lv' := [(0, .ref (ad 8))]) [0] rfl ?_
  have hJ : df (σ 6) L 0 0 = ffl (σ 6) L 61 0 := df_J 61 0 (Nat.zero_le _) (by omega)
  refine v_iconst (v := 0) C dX3_firstFault_0 rfl ic_0 ?_
  refine v_istore_n (lv' := [(1, _), (0, _)]) C dX3_firstFault_1 rfl 1 rfl (by decide) rfl ?_
  refine v_iconst (v := 0) C dX3_firstFault_2 rfl ic_0 ?_
  refine v_istore_n (lv' := [(2, _), (1, _), (0, _)]) C dX3_firstFault_3 rfl 2 rfl (by decide) rfl ?_
  have LP4 : ∀ i, i ≤ L → ∀ (q9 : Int32), df (σ 6) (L - i) q9 i = ffl (σ 6) L 61 0 → VV p l e ({ frames := 3, cells := 0, slots := 0, locals := 63 } : Room) s m args below meth c 0 0 Q (cW ad cI cC cZ cQ) D A s.heap 3 σ 4 [(0, .ref (ad 8)), (1, .int q9), (2, .int (nI i))] [] := by
    refine lpB9 (fun i => ∀ (q9 : Int32), df (σ 6) (L - i) q9 i = ffl (σ 6) L 61 0 → VV p l e ({ frames := 3, cells := 0, slots := 0, locals := 63 } : Room) s m args below meth c 0 0 Q (cW ad cI cC cZ cQ) D A s.heap 3 σ 4 [(0, .ref (ad 8)), (1, .int q9), (2, .int (nI i))] []) L (fun i hi ih => ?_) ?_
    · intro q9 hre
      refine v_iload_n C dX3_firstFault_4 rfl 2 2 rfl rfl ?_
      refine v_aload_n C dX3_firstFault_5 rfl 0 0 rfl rfl ?_
      refine v_get C K in_X3_firstFault_X3 8 rfl rfl 1 (by decide) fl_X3_firstFault_X3_1 rfl dX3_firstFault_6 rfl ?_
      refine v_top (nI L) (hL) ?_
      refine v_icmp_ge C 37 dX3_firstFault_9 (by decide) rfl (fun h9 => absurd h9 (nI_ge hi (by omega))) (fun _ => ?_)
      refine v_iload_n C dX3_firstFault_12 rfl 1 1 rfl rfl ?_
      refine v_aload_n C dX3_firstFault_13 rfl 0 0 rfl rfl ?_
      refine v_get C K in_X3_firstFault_X3 8 rfl rfl 0 (by decide) fl_X3_firstFault_X3_0 rfl dX3_firstFault_14 rfl ?_
      refine v_iload_n C dX3_firstFault_17 rfl 2 2 rfl rfl ?_
      refine v_cald C K 9 1 rfl rfl (i) (rfl) (by omega) (by decide) dX3_firstFault_18 rfl ?_
      refine v_callSpd C (c_X3_behind l _ _) gX3_firstFault_X3_behind rfl hd_X3_behind.2 ⟨rfl, rfl⟩ ⟨Nat.le_of_ble_eq_true rfl, Nat.le_of_ble_eq_true rfl⟩ rfl rfl (Nat.le_of_ble_eq_true rfl) ⟨Nat.le_refl _, Nat.le_refl _⟩ dX3_firstFault_19 rfl ?_
      refine v_istore_n (lv' := [(1, _), (0, _), (2, _)]) C dX3_firstFault_22 rfl 1 rfl (by decide) rfl ?_
      refine v_iload_n C dX3_firstFault_23 rfl 1 0 rfl rfl ?_
      refine v_bipush (v := 6) C dX3_firstFault_24 rfl bp_6 ?_
      refine v_icmp_ne C 31 dX3_firstFault_26 (by decide) rfl (fun h26 => ?_) (fun h26f => ?_)
      · skip
        refine v_iinc (lv' := [(2, _), (1, _), (0, _)]) C dX3_firstFault_31 rfl 2 rfl (inc9 _) (by decide) rfl ?_
        refine v_goto C 4 dX3_firstFault_34 (by decide) ?_
        refine v_lv (lv' := [(0, _), (1, _), (2, _)]) [2, 1, 0] rfl ?_
        exact ih _ (df_n hi hre h26)
      · skip
        refine v_iload_n C dX3_firstFault_29 rfl 2 2 rfl rfl ?_
        exact hend (⟨df_r hi hre h26f, rfl⟩) (rfl) dX3_firstFault_30
    · intro q9 hre
      refine v_iload_n C dX3_firstFault_4 rfl 2 2 rfl rfl ?_
      refine v_aload_n C dX3_firstFault_5 rfl 0 0 rfl rfl ?_
      refine v_get C K in_X3_firstFault_X3 8 rfl rfl 1 (by decide) fl_X3_firstFault_X3_1 rfl dX3_firstFault_6 rfl ?_
      refine v_top (nI L) (hL) ?_
      refine v_icmp_ge C 37 dX3_firstFault_9 (by decide) rfl (fun _ => ?_) (fun h9 => absurd (nI_le (Nat.le_refl _) (by omega)) h9)
      refine v_iload_n C dX3_firstFault_37 rfl 1 1 rfl rfl ?_
      refine v_iconst (v := 3) C dX3_firstFault_38 rfl ic_3 ?_
      refine v_icmp_lt C 47 dX3_firstFault_39 (by decide) rfl (fun h39 => ?_) (fun h39f => ?_)
      · skip
        refine v_aload_n C dX3_firstFault_47 rfl 0 0 rfl rfl ?_
        refine v_get C K in_X3_firstFault_X3 8 rfl rfl 1 (by decide) fl_X3_firstFault_X3_1 rfl dX3_firstFault_48 rfl ?_
        exact hend (⟨by rw [← df_z hre, if_pos h39]; exact hL, rfl⟩) (rfl) dX3_firstFault_51
      · skip
        refine v_bipush (v := -6) C dX3_firstFault_42 rfl bp_m6 ?_
        refine v_goto C 51 dX3_firstFault_44 (by decide) ?_
        exact hend (⟨by rw [← df_z hre, if_neg h39f], rfl⟩) (rfl) dX3_firstFault_51
  refine v_lv (lv' := [(0, _), (1, _), (2, _)]) [2, 1, 0] rfl ?_
  exact LP4 0 (Nat.zero_le _) 0 hJ
set_option maxHeartbeats 4000000 in
set_option maxRecDepth 100000 in
theorem c_X3_characterAt (l : Launch) (D : va_G) (ad : Nat → Nat) (cI cC cZ cQ : ClassId) (σ : S9) (L : Nat) (hL : σ 7 0 = nI L) (hL6 : L ≤ 60) (hch : ∀ i, i < L → narrow .char (.int (σ 6 i)) = .int (σ 6 i)) (i : Nat) (hi : i < 1000) : CMi l (cW ad cI cC cZ cQ) D (cTy cI cC cZ cQ) yX3_characterAt wsX3_characterAt ({ frames := 0, cells := 0, slots := 0, locals := 0 } : Room) [.ref (ad 8), .int (nI i)] σ (fun r u => r = cha (σ 6) L i ∧ u = σ) := by
  refine v_starti (own := RX3) (cc := cX3_characterAt) (nL := 2) rfl (by decide) rfl (Nat.le_of_ble_eq_true rfl) ?_
  intro p e s m args below meth c A Q C K hend
  refine v_lv (lv' := [(0, .ref (ad 8)), (1, .int (nI i))]) [0, 1] rfl ?_
  refine v_iload_n C dX3_characterAt_0 rfl 1 1 rfl rfl ?_
  refine v_if_lt C 21 dX3_characterAt_1 (by decide) rfl (fun h9 => absurd h9 (nI_nneg (by omega))) (fun _ => ?_)
  refine v_iload_n C dX3_characterAt_4 rfl 1 1 rfl rfl ?_
  refine v_aload_n C dX3_characterAt_5 rfl 0 0 rfl rfl ?_
  refine v_get C K in_X3_characterAt_X3 8 rfl rfl 1 (by decide) fl_X3_characterAt_X3_1 rfl dX3_characterAt_6 rfl ?_
  refine v_top (nI L) (hL) ?_
  refine v_icmp_ge C 21 dX3_characterAt_9 (by decide) rfl (fun h9 => ?_) (fun h9f => ?_)
  · skip
    have hx : ¬ i < L := by
      have := (nI_leI (by omega) (by omega)).mp h9
      omega
    refine v_bipush (v := 44) C dX3_characterAt_21 rfl bp_44 ?_
    exact hend (⟨(if_neg hx).symm, rfl⟩) (by first | rfl | exact hch i hx) dX3_characterAt_23
  · skip
    have hx : i < L := by
      rcases Nat.lt_or_ge i L with q | q
      · exact q
      · exact absurd (nI_le q (by omega)) h9f
    refine v_aload_n C dX3_characterAt_12 rfl 0 0 rfl rfl ?_
    refine v_get C K in_X3_characterAt_X3 8 rfl rfl 0 (by decide) fl_X3_characterAt_X3_0 rfl dX3_characterAt_13 rfl ?_
    refine v_iload_n C dX3_characterAt_16 rfl 1 1 rfl rfl ?_
    refine v_cald C K 9 1 rfl rfl (i) (rfl) (by omega) (by decide) dX3_characterAt_17 rfl ?_
    refine v_goto C 23 dX3_characterAt_18 (by decide) ?_
    exact hend (⟨(if_pos hx).symm, rfl⟩) (by first | rfl | exact hch i hx) dX3_characterAt_23
set_option maxHeartbeats 4000000 in
set_option maxRecDepth 100000 in
theorem c_X3_isEndOfShow (l : Launch) (D : va_G) (ad : Nat → Nat) (cI cC cZ cQ : ClassId) (σ : S9) (L : Nat) (hL : σ 7 0 = nI L) (hL6 : L ≤ 60) (hch : ∀ i, i < L → narrow .char (.int (σ 6 i)) = .int (σ 6 i)) (i : Nat) (hi : i < 1000) : CMi l (cW ad cI cC cZ cQ) D (cTy cI cC cZ cQ) yX3_isEndOfShow wsX3_isEndOfShow ({ frames := 1, cells := 0, slots := 0, locals := 21 } : Room) [.ref (ad 8), .int (nI i)] σ (fun r u => r = (if cha (σ 6) L i = 44 then 1 else 0) ∧ u = σ) := by
  refine v_starti (own := RX3) (cc := cX3_isEndOfShow) (nL := 2) rfl (by decide) rfl (Nat.le_of_ble_eq_true rfl) ?_
  intro p e s m args below meth c A Q C K hend
  refine v_lv (lv' := [(0, .ref (ad 8)), (1, .int (nI i))]) [0, 1] rfl ?_
  refine v_aload_n C dX3_isEndOfShow_0 rfl 0 0 rfl rfl ?_
  refine v_iload_n C dX3_isEndOfShow_1 rfl 1 1 rfl rfl ?_
  refine v_callVid C K (c_X3_characterAt l D ad cI cC cZ cQ _ L hL hL6 hch i hi) gX3_isEndOfShow_X3_characterAt rfl hd_X3_characterAt ⟨rfl, rfl⟩ ⟨Nat.le_of_ble_eq_true rfl, Nat.le_of_ble_eq_true rfl⟩ 8 rfl rfl rfl rfl rfl (Nat.le_of_ble_eq_true rfl) ⟨Nat.le_refl _, Nat.le_refl _⟩ dX3_isEndOfShow_2 rfl ?_
  refine v_bipush (v := 44) C dX3_isEndOfShow_5 rfl bp_44 ?_
  refine v_icmp_ne C 14 dX3_isEndOfShow_7 (by decide) rfl (fun h7 => ?_) (fun h7f => ?_)
  · skip
    refine v_iconst (v := 0) C dX3_isEndOfShow_14 rfl ic_0 ?_
    exact hend (⟨(if_neg h7).symm, rfl⟩) (rfl) dX3_isEndOfShow_15
  · skip
    refine v_iconst (v := 1) C dX3_isEndOfShow_10 rfl ic_1 ?_
    refine v_goto C 15 dX3_isEndOfShow_11 (by decide) ?_
    exact hend (⟨(if_pos h7f).symm, rfl⟩) (rfl) dX3_isEndOfShow_15
set_option maxHeartbeats 4000000 in
set_option maxRecDepth 100000 in
theorem c_X3_filmAt (l : Launch) (D : va_G) (ad : Nat → Nat) (cI cC cZ cQ : ClassId) (σ : S9) (L : Nat) (hL : σ 7 0 = nI L) (hL6 : L ≤ 60) (hch : ∀ i, i < L → narrow .char (.int (σ 6 i)) = .int (σ 6 i)) (i : Nat) (hi : i < 1000) : CMi l (cW ad cI cC cZ cQ) D (cTy cI cC cZ cQ) yX3_filmAt wsX3_filmAt ({ frames := 1, cells := 0, slots := 0, locals := 21 } : Room) [.ref (ad 8), .int (nI i)] σ (fun r u => r = cha (σ 6) L i - 48 ∧ u = σ) := by
  refine v_starti (own := RX3) (cc := cX3_filmAt) (nL := 2) rfl (by decide) rfl (Nat.le_of_ble_eq_true rfl) ?_
  intro p e s m args below meth c A Q C K hend
  refine v_lv (lv' := [(0, .ref (ad 8)), (1, .int (nI i))]) [0, 1] rfl ?_
  refine v_aload_n C dX3_filmAt_0 rfl 0 0 rfl rfl ?_
  refine v_iload_n C dX3_filmAt_1 rfl 1 1 rfl rfl ?_
  refine v_callVid C K (c_X3_characterAt l D ad cI cC cZ cQ _ L hL hL6 hch i hi) gX3_filmAt_X3_characterAt rfl hd_X3_characterAt ⟨rfl, rfl⟩ ⟨Nat.le_of_ble_eq_true rfl, Nat.le_of_ble_eq_true rfl⟩ 8 rfl rfl rfl rfl rfl (Nat.le_of_ble_eq_true rfl) ⟨Nat.le_refl _, Nat.le_refl _⟩ dX3_filmAt_2 rfl ?_
  refine v_bipush (v := 48) C dX3_filmAt_5 rfl bp_48 ?_
  refine v_isub C dX3_filmAt_7 rfl ?_
  exact hend (⟨rfl, rfl⟩) (rfl) dX3_filmAt_8
set_option maxHeartbeats 4000000 in
set_option maxRecDepth 100000 in
theorem c_X3_partAt (l : Launch) (D : va_G) (ad : Nat → Nat) (cI cC cZ cQ : ClassId) (σ : S9) (L : Nat) (hL : σ 7 0 = nI L) (hL6 : L ≤ 60) (hch : ∀ i, i < L → narrow .char (.int (σ 6 i)) = .int (σ 6 i)) (i : Nat) (hi : i < 1000) : CMi l (cW ad cI cC cZ cQ) D (cTy cI cC cZ cQ) yX3_partAt wsX3_partAt ({ frames := 1, cells := 0, slots := 0, locals := 21 } : Room) [.ref (ad 8), .int (nI i)] σ (fun r u => r = (if cha (σ 6) L i = 97 then 0 else 1) ∧ u = σ) := by
  refine v_starti (own := RX3) (cc := cX3_partAt) (nL := 2) rfl (by decide) rfl (Nat.le_of_ble_eq_true rfl) ?_
  intro p e s m args below meth c A Q C K hend
  refine v_lv (lv' := [(0, .ref (ad 8)), (1, .int (nI i))]) [0, 1] rfl ?_
  refine v_aload_n C dX3_partAt_0 rfl 0 0 rfl rfl ?_
  refine v_iload_n C dX3_partAt_1 rfl 1 1 rfl rfl ?_
  refine v_callVid C K (c_X3_characterAt l D ad cI cC cZ cQ _ L hL hL6 hch i hi) gX3_partAt_X3_characterAt rfl hd_X3_characterAt ⟨rfl, rfl⟩ ⟨Nat.le_of_ble_eq_true rfl, Nat.le_of_ble_eq_true rfl⟩ 8 rfl rfl rfl rfl rfl (Nat.le_of_ble_eq_true rfl) ⟨Nat.le_refl _, Nat.le_refl _⟩ dX3_partAt_2 rfl ?_
  refine v_bipush (v := 97) C dX3_partAt_5 rfl bp_97 ?_
  refine v_icmp_ne C 14 dX3_partAt_7 (by decide) rfl (fun h7 => ?_) (fun h7f => ?_)
  · skip
    refine v_iconst (v := 1) C dX3_partAt_14 rfl ic_1 ?_
    exact hend (⟨(if_neg h7).symm, rfl⟩) (rfl) dX3_partAt_15
  · skip
    refine v_iconst (v := 0) C dX3_partAt_10 rfl ic_0 ?_
    refine v_goto C 15 dX3_partAt_11 (by decide) ?_
    exact hend (⟨(if_pos h7f).symm, rfl⟩) (rfl) dX3_partAt_15
set_option maxHeartbeats 4000000 in
set_option maxRecDepth 100000 in
theorem c_X3_dayAt (l : Launch) (D : va_G) (ad : Nat → Nat) (cI cC cZ cQ : ClassId) (σ : S9) (L : Nat) (hL : σ 7 0 = nI L) (hL6 : L ≤ 60) (hch : ∀ i, i < L → narrow .char (.int (σ 6 i)) = .int (σ 6 i)) (b n : Nat) (hbn : b + n < 1000) : CMi l (cW ad cI cC cZ cQ) D (cTy cI cC cZ cQ) yX3_dayAt wsX3_dayAt ({ frames := 1, cells := 0, slots := 0, locals := 21 } : Room) [.ref (ad 8), .int (nI b), .int (nI (b + n))] σ (fun r u => r = da (σ 6) L n 0 b ∧ u = σ) := by
  refine v_starti (own := RX3) (cc := cX3_dayAt) (nL := 5) rfl (by decide) rfl (Nat.le_of_ble_eq_true rfl) ?_
  intro p e s m args below meth c A Q C K hend
  refine v_lv (lv' := [(0, .ref (ad 8)), (1, .int (nI b)), (2, .int (nI (b + n)))]) [0, 1, 2] rfl ?_
  refine v_iconst (v := 0) C dX3_dayAt_0 rfl ic_0 ?_
  refine v_istore_n (lv' := [(3, _), (0, _), (1, _), (2, _)]) C dX3_dayAt_1 rfl 3 rfl (by decide) rfl ?_
  refine v_iload_n C dX3_dayAt_2 rfl 1 2 rfl rfl ?_
  refine v_istore (lv' := [(4, _), (3, _), (0, _), (1, _), (2, _)]) C dX3_dayAt_3 rfl (by decide) rfl ?_
  have LP5 : ∀ j, j ≤ n → ∀ v9 : Int32, da (σ 6) L (n - j) v9 (b + j) = da (σ 6) L n 0 b → VV p l e ({ frames := 1, cells := 0, slots := 0, locals := 21 } : Room) s m args below meth c 0 0 Q (cW ad cI cC cZ cQ) D A s.heap 5 σ 5 [(0, .ref (ad 8)), (2, .int (nI (b + n))), (3, .int v9), (4, .int (nI (b + j)))] [] := by
    refine lpB9 (fun j => ∀ v9 : Int32, da (σ 6) L (n - j) v9 (b + j) = da (σ 6) L n 0 b → VV p l e ({ frames := 1, cells := 0, slots := 0, locals := 21 } : Room) s m args below meth c 0 0 Q (cW ad cI cC cZ cQ) D A s.heap 5 σ 5 [(0, .ref (ad 8)), (2, .int (nI (b + n))), (3, .int v9), (4, .int (nI (b + j)))] []) n (fun j hj ih => ?_) ?_
    · intro v9 hre
      refine v_iload C dX3_dayAt_5 rfl 3 rfl ?_
      refine v_iload_n C dX3_dayAt_7 rfl 2 1 rfl rfl ?_
      refine v_icmp_ge C 32 dX3_dayAt_8 (by decide) rfl (fun h9 => absurd h9 (nI_ge (show b + j < b + n by omega) (by omega))) (fun _ => ?_)
      refine v_iload_n C dX3_dayAt_11 rfl 3 2 rfl rfl ?_
      refine v_bipush (v := 10) C dX3_dayAt_12 rfl bp_10 ?_
      refine v_imul C dX3_dayAt_14 rfl ?_
      refine v_aload_n C dX3_dayAt_15 rfl 0 0 rfl rfl ?_
      refine v_iload C dX3_dayAt_16 rfl 3 rfl ?_
      refine v_callVid C K (c_X3_characterAt l D ad cI cC cZ cQ _ L hL hL6 hch (b + j) (by omega)) gX3_dayAt_X3_characterAt rfl hd_X3_characterAt ⟨rfl, rfl⟩ ⟨Nat.le_of_ble_eq_true rfl, Nat.le_of_ble_eq_true rfl⟩ 8 rfl rfl rfl rfl rfl (Nat.le_of_ble_eq_true rfl) ⟨Nat.le_refl _, Nat.le_refl _⟩ dX3_dayAt_18 rfl ?_
      refine v_iadd C dX3_dayAt_21 rfl ?_
      refine v_bipush (v := 48) C dX3_dayAt_22 rfl bp_48 ?_
      refine v_isub C dX3_dayAt_24 rfl ?_
      refine v_istore_n (lv' := [(3, _), (0, _), (2, _), (4, _)]) C dX3_dayAt_25 rfl 3 rfl (by decide) rfl ?_
      refine v_iinc (lv' := [(4, _), (3, _), (0, _), (2, _)]) C dX3_dayAt_26 rfl 3 rfl (inc9 _) (by decide) rfl ?_
      refine v_goto C 5 dX3_dayAt_29 (by decide) ?_
      refine v_lv (lv' := [(0, _), (2, _), (3, _), (4, _)]) [2, 3, 1, 0] rfl ?_
      exact ih _ (by rw [← hre, show n - j = (n - (j + 1)) + 1 by omega, da]; rfl)
    · intro v9 hre
      refine v_iload C dX3_dayAt_5 rfl 3 rfl ?_
      refine v_iload_n C dX3_dayAt_7 rfl 2 1 rfl rfl ?_
      refine v_icmp_ge C 32 dX3_dayAt_8 (by decide) rfl (fun _ => ?_) (fun h9 => absurd (nI_le (Nat.le_refl _) (by omega)) h9)
      refine v_iload_n C dX3_dayAt_32 rfl 3 2 rfl rfl ?_
      exact hend (⟨by rw [← hre, Nat.sub_self]; rfl, rfl⟩) (rfl) dX3_dayAt_33
  refine v_lv (lv' := [(0, _), (2, _), (3, _), (4, _)]) [2, 4, 1, 0] rfl ?_
  exact LP5 0 (Nat.zero_le _) 0 rfl

/-! ===== what 'same' compares: sums over places, films, weeks ===== -/
theorem qat0 (g : Nat → Int32) (k : Nat) : q_at g k 0 = g (46 + k) := if_pos rfl
theorem qat1 (g : Nat → Int32) (k : Nat) : q_at g k 1 = q_ppa g k := by rw [q_at, if_neg (by decide), if_pos rfl]
theorem qat2 (g : Nat → Int32) (k : Nat) : q_at g k 2 = q_ppa g k * g 1 := by rw [q_at, if_neg (by decide), if_neg (by decide), if_pos rfl]
theorem qat3 (g : Nat → Int32) (k : Nat) : q_at g k 3 = q_bhd g k := by rw [q_at, if_neg (by decide), if_neg (by decide), if_neg (by decide), if_pos rfl]
theorem qof_k (g : Nat → Int32) (f : Nat) {k : Nat} (hk : k < 5) : q_of g f (nI k) = g (6 + 5 * f + k) := by
  rcases (show k = 0 ∨ k = 1 ∨ k = 2 ∨ k = 3 ∨ k = 4 by omega) with rfl | rfl | rfl | rfl | rfl
  · exact if_pos rfl
  · show q_of g f 1 = _
    rw [q_of, if_neg (by decide), if_pos rfl]
  · show q_of g f 2 = _
    rw [q_of, if_neg (by decide), if_neg (by decide), if_pos rfl]
  · show q_of g f 3 = _
    rw [q_of, if_neg (by decide), if_neg (by decide), if_neg (by decide), if_pos rfl]
  · show q_of g f 4 = _
    rw [q_of, if_neg (by decide), if_neg (by decide), if_neg (by decide), if_neg (by decide), if_pos rfl]
theorem qof5 (g : Nat → Int32) (f : Nat) : q_of g f 5 = sm9 (q_S g f) 5 := by rw [q_of, if_neg (by decide), if_neg (by decide), if_neg (by decide), if_neg (by decide), if_neg (by decide), if_pos rfl]
theorem qof6 (g : Nat → Int32) (f : Nat) : q_of g f 6 = sm9 (q_po g f) 70 := by rw [q_of, if_neg (by decide), if_neg (by decide), if_neg (by decide), if_neg (by decide), if_neg (by decide), if_neg (by decide), if_pos rfl]
theorem qof7 (g : Nat → Int32) (f : Nat) : q_of g f 7 = sm9 (q_T g f) 5 := by rw [q_of, if_neg (by decide), if_neg (by decide), if_neg (by decide), if_neg (by decide), if_neg (by decide), if_neg (by decide), if_neg (by decide), if_pos rfl]
theorem qof8 (g : Nat → Int32) (f : Nat) : q_of g f 8 = sm9 (q_D g f) 5 := by rw [q_of, if_neg (by decide), if_neg (by decide), if_neg (by decide), if_neg (by decide), if_neg (by decide), if_neg (by decide), if_neg (by decide), if_neg (by decide), if_pos rfl]
theorem qof9 (g : Nat → Int32) (f : Nat) : q_of g f 9 = q_L g f 70 := by rw [q_of, if_neg (by decide), if_neg (by decide), if_neg (by decide), if_neg (by decide), if_neg (by decide), if_neg (by decide), if_neg (by decide), if_neg (by decide), if_neg (by decide), if_pos rfl]
theorem qof10 (g : Nat → Int32) (f : Nat) : q_of g f 10 = fsh g (nI f) 70 := by rw [q_of, if_neg (by decide), if_neg (by decide), if_neg (by decide), if_neg (by decide), if_neg (by decide), if_neg (by decide), if_neg (by decide), if_neg (by decide), if_neg (by decide), if_neg (by decide), if_pos rfl]
theorem qiw0 (g : Nat → Int32) (f w : Nat) : q_iw g f w 0 = q_T g f w := if_pos rfl
theorem qiw1 (g : Nat → Int32) (f w : Nat) : q_iw g f w 1 = q_sh g f w := by rw [q_iw, if_neg (by decide), if_pos rfl]
theorem qiw2 (g : Nat → Int32) (f w : Nat) : q_iw g f w 2 = q_D g f w := by rw [q_iw, if_neg (by decide), if_neg (by decide), if_pos rfl]
theorem qiw3 (g : Nat → Int32) (f w : Nat) : q_iw g f w 3 = q_D g f w - q_so g f w := by rw [q_iw, if_neg (by decide), if_neg (by decide), if_neg (by decide), if_pos rfl]
def shw (g : Nat → Int32) (k : Nat) : Int32 := if g (46 + k) = -6 then 0 else 1
theorem shw_0 {g : Nat → Int32} {k : Nat} (h : g (46 + k) = -6) : sm9 (shw g) k + 0 = sm9 (shw g) (k + 1) := by rw [sm9, shw, if_pos h]
theorem shw_1 {g : Nat → Int32} {k f : Nat} (hf : f < 8) (h : g (46 + k) = nI f) : sm9 (shw g) k + 1 = sm9 (shw g) (k + 1) := by rw [sm9, shw, if_neg (by rw [h]; exact nI_ne6 (by omega))]
theorem fs_0 {g : Nat → Int32} {k : Nat} (h : ¬ (¬ g (46 + k) = -6 ∧ q_ppa g k = g 0)) : sm9 (q_fs g) k + 0 = sm9 (q_fs g) (k + 1) := by rw [sm9, q_fs, if_neg h]
theorem fs_1 {g : Nat → Int32} {k f : Nat} (hf : f < 8) (h : g (46 + k) = nI f) (h2 : q_ppa g k = g 0) : sm9 (q_fs g) k + 1 = sm9 (q_fs g) (k + 1) := by rw [sm9, q_fs, if_pos ⟨by rw [h]; exact nI_ne6 (by omega), h2⟩]
theorem bhd_f {g : Nat → Int32} {k f : Nat} (hf : f < 8) (hk : k < 70) (h : g (46 + k) = nI f) : q_bhd g k = q_LA g f k - q_ppa g k := by
  rw [← ppa_f (n := 0) hf h, q_LA, if_pos hk, q_bhd, h, if_neg (nI_ne6 (by omega)), nI_cl (by omega), q_L_s, if_pos h]
  rfl
theorem sh_6 {g : Nat → Int32} {f w : Nat} (h : ¬ 0 ≤ q_sh g f w) : q_sh g f w = -6 := by
  by_cases e : q_fw (q_S g f) (w + 1) = -6
  · exact if_pos e
  · exfalso
    apply h
    rw [q_sh, if_neg e, p_share]
    split
    · decide
    · rename_i h2
      exact Int32.le_trans (show (0 : Int32) ≤ 20 by decide) (Int32.le_of_lt (Int32.not_le.mp h2))
theorem so_ge {g : Nat → Int32} {f w : Nat} (h : 0 ≤ q_sh g f w) : q_so g f w = q_T g f w * q_sh g f w / 100 := if_neg (fun e => by
  rw [e] at h
  exact absurd h (by decide))
theorem so_lt {g : Nat → Int32} {f w : Nat} (h : ¬ 0 ≤ q_sh g f w) : q_so g f w = 0 := if_pos (sh_6 h)
theorem fd_e {j : Nat} (hj : j < 35) : nI (35 - j) + (-1) = nI (34 - j) := by
  rw [show 35 - j = (34 - j) + 1 by omega]
  exact pk_m1 _
theorem fd_dec {j : Nat} (hj : j < 35) : nI (35 - j) + (-1) + Int32.ofInt (-1) = nI (35 - (j + 1)) + (-1) := by
  rw [fd_e hj, show 35 - (j + 1) = 34 - j by omega]
  rfl
theorem fd_a {g : Nat → Int32} {f j : Nat} (hj : j < 35) (h : g (46 + 2 * (34 - j)) = nI f) : nI (35 - j) + (-1) = fsh g (nI f) (2 * (j + 1)) := by
  rw [fd_e hj, show 2 * (j + 1) = (2 * j + 1) + 1 by omega, fsh, show 46 + (69 - (2 * j + 1)) = 46 + 2 * (34 - j) by omega, if_pos h, show (69 - (2 * j + 1)) / 2 = 34 - j by omega]
theorem fd_b {g : Nat → Int32} {f j : Nat} (hj : j < 35) (h0 : ¬ g (46 + 2 * (34 - j)) = nI f) (h : g (46 + (2 * (34 - j) + 1)) = nI f) : nI (35 - j) + (-1) = fsh g (nI f) (2 * (j + 1)) := by
  rw [fd_e hj, show 2 * (j + 1) = (2 * j + 1) + 1 by omega, fsh, show 46 + (69 - (2 * j + 1)) = 46 + 2 * (34 - j) by omega, if_neg h0, fsh, show 46 + (69 - 2 * j) = 46 + (2 * (34 - j) + 1) by omega, if_pos h, show (69 - 2 * j) / 2 = 34 - j by omega]
theorem fd_c {g : Nat → Int32} {f j : Nat} (hj : j < 35) (h0 : ¬ g (46 + 2 * (34 - j)) = nI f) (h : ¬ g (46 + (2 * (34 - j) + 1)) = nI f) : fsh g (nI f) (2 * j) = fsh g (nI f) (2 * (j + 1)) := by
  rw [show 2 * (j + 1) = (2 * j + 1) + 1 by omega, fsh, show 46 + (69 - (2 * j + 1)) = 46 + 2 * (34 - j) by omega, if_neg h0, fsh, show 46 + (69 - 2 * j) = 46 + (2 * (34 - j) + 1) by omega, if_neg h]
theorem T_ps (g : Nat → Int32) {f w : Nat} (hf : f < 8) (hw : w < 5) : q_T g f w = q_ps g f w * g 1 := q_T_w g hf hw
theorem po_T (g : Nat → Int32) {f : Nat} (hf : f < 8) : sm9 (q_po g f) 70 * g 1 = sm9 (q_T g f) 5 := by
  rw [q_po_ps g hf, ← sm9_mulr]
  exact sm9_congr (fun w hw => (T_ps g hf hw).symm)
theorem wk_T {g : Nat → Int32} {n w : Nat} (hw : wfH g n) (h5 : w < 5) : sm9 (ppT (q_ppa g) (nI w)) 70 * g 1 = sm9 (fun f => q_T g f w) n := by
  have h8 := hw.1.2.1
  rw [ppl_week hw.1 h5, ← sm9_mulr]
  exact sm9_congr (fun f hf => (T_ps g (by omega) h5).symm)
theorem qwk0 {g : Nat → Int32} {n w : Nat} (hw : wfH g n) (h5 : w < 5) : q_wk g (nI w) 0 = sm9 (fun f => q_S g f w) n := by
  rw [q_wk, if_pos rfl]
  exact q_W_week hw.1.2.1 h5 (fun f a b w => q_S_0 hw.1 a b w)
theorem qwk1 (g : Nat → Int32) (w : Nat) : q_wk g (nI w) 1 = sm9 (ppT (q_ppa g) (nI w)) 70 := by rw [q_wk, if_neg (by decide), if_pos rfl]
theorem qwk2 {g : Nat → Int32} {n w : Nat} (hw : wfH g n) (h5 : w < 5) : q_wk g (nI w) 2 = sm9 (fun f => q_T g f w) n := by
  rw [q_wk, if_neg (by decide), if_neg (by decide), if_pos rfl]
  exact q_W_week hw.1.2.1 h5 (fun f a b w => q_T_0 hw.1 a b w)
theorem qwk3 {g : Nat → Int32} {n w : Nat} (hw : wfH g n) (h5 : w < 5) : q_wk g (nI w) 3 = sm9 (fun f => q_D g f w) n := by
  rw [q_wk, if_neg (by decide), if_neg (by decide), if_neg (by decide), if_pos rfl]
  exact q_W_week hw.1.2.1 h5 (fun f a b w => q_D_0 hw.1 a b w)
theorem qwk4 (g : Nat → Int32) (w : Nat) : q_wk g (nI w) 4 = q_left g (nI w) + 1000000 := by rw [q_wk, if_neg (by decide), if_neg (by decide), if_neg (by decide), if_neg (by decide), if_pos rfl]
theorem rn_week (g : Nat → Int32) {w : Nat} (hw5 : w < 5) : sm9 (rnT g (nI w)) 35 = sm9 (fun j => g (116 + (7 * w + j))) 7 := by
  have h0 : ∀ d, d < 35 → rnT g (nI w) d = if d / 7 = w then g (116 + d) else 0 := fun d hd => by
    unfold rnT
    by_cases q : d / 7 = w
    · rw [if_pos q, if_pos (Or.inr (by rw [q]))]
    · rw [if_neg q, if_neg]
      rintro (z | z)
      · exact nI_pos (by omega) z
      · exact q (nI_inj (by omega) (by omega) z)
  rw [sm9_congr h0, show (35 : Nat) = 7 * w + (7 + (35 - 7 * (w + 1))) by omega, sm9_split, sm9_split, sm9_zero (fun k hk => if_neg (fun q => by omega)), sm9_zero (n := 35 - 7 * (w + 1)) (fun k hk => if_neg (fun q => by omega)), Int32.zero_add, Int32.add_zero]
  exact sm9_congr (fun j hj => if_pos (by omega))
theorem wk_left {g : Nat → Int32} {n w : Nat} (hw : wfH g n) (h5 : w < 5) : q_left g (nI w) + 1000000 = sm9 (fun f => q_T g f w) n - sm9 (fun f => q_D g f w) n - g 2 * sm9 (fun f => q_S g f w) n + sm9 (fun j => g (116 + (7 * w + j))) 7 + 1000000 := by
  have h8 := hw.1.2.1
  rw [q_left, rn_week g h5, q_W_week h8 h5 (fun f a b w => q_T_0 hw.1 a b w), q_W_week h8 h5 (fun f a b w => q_D_0 hw.1 a b w), q_W_week h8 h5 (fun f a b w => q_S_0 hw.1 a b w)]
theorem sh_films {g : Nat → Int32} {n : Nat} (hw : wfH g n) : sm9 (shw g) 70 = sm9 (fun f => sm9 (q_S g f) 5) n := by
  have h8 := hw.1.2.1
  have e : sm9 (shw g) 70 = sm9 (fun k => sm9 (fun f => if g (46 + k) = nI f then 1 else 0) n) 70 := sm9_congr (fun k hk => by_films hw.1 hk (fun _ => 1) _ (fun h => if_pos h) (fun f hf h => if_neg (by rw [h]; exact nI_ne6 (by omega))))
  rw [e, sm9_swap (fun f k => if g (46 + k) = nI f then 1 else 0)]
  exact sm9_congr (fun f hf => by
    show sm9 (fun k => if g (46 + k) = nI f then 1 else 0) 70 = sm9 (fun w => sm9 (fun k => q_ct g f w k) 70) 5
    rw [sm9_swap (fun k w => q_ct g f w k)]
    exact sm9_congr (fun k hk => by
      rw [sm9_one (g := fun w => q_ct g f w k) (show k / 14 < 5 by omega) (fun w hw2 hne => if_neg (fun q => hne q.2.symm))]
      unfold q_ct
      by_cases z : g (46 + k) = nI f
      · rw [if_pos z, if_pos ⟨z, rfl⟩]
      · rw [if_neg z, if_neg (fun q => z q.1)]))
theorem qc0 (g : Nat → Int32) (a b : Int32) : q_cnt g a b 0 = g 5 := if_pos rfl
theorem qc1 {g : Nat → Int32} {n : Nat} (hw : wfH g n) (a b : Int32) : q_cnt g a b 1 = sm9 (shw g) 70 := by
  rw [q_cnt, if_neg (by decide), if_pos rfl, sh_films hw]
  exact q_W_all hw.1.2.1 (fun f a b w => q_S_0 hw.1 a b w)
theorem qc2 (g : Nat → Int32) (a b : Int32) : q_cnt g a b 2 = sm9 (q_ppa g) 70 := by
  rw [q_cnt, if_neg (by decide), if_neg (by decide), if_pos rfl]
  exact sm9_congr (fun k _ => if_pos (Or.inl (by decide)))
theorem qc3 {g : Nat → Int32} {n : Nat} (hw : wfH g n) (a b : Int32) : q_cnt g a b 3 = sm9 (fun f => sm9 (q_T g f) 5) n := by
  rw [q_cnt, if_neg (by decide), if_neg (by decide), if_neg (by decide), if_pos rfl]
  exact q_W_all hw.1.2.1 (fun f a b w => q_T_0 hw.1 a b w)
theorem qc4 {g : Nat → Int32} {n : Nat} (hw : wfH g n) (a b : Int32) : q_cnt g a b 4 = sm9 (fun f => sm9 (q_D g f) 5) n := by
  rw [q_cnt, if_neg (by decide), if_neg (by decide), if_neg (by decide), if_neg (by decide), if_pos rfl]
  exact q_W_all hw.1.2.1 (fun f a b w => q_D_0 hw.1 a b w)
theorem qc5 (g : Nat → Int32) (a b : Int32) : q_cnt g a b 5 = q_left g (-1) + 1000000 := by rw [q_cnt, if_neg (by decide), if_neg (by decide), if_neg (by decide), if_neg (by decide), if_neg (by decide), if_pos rfl]
theorem qc6 (g : Nat → Int32) (a b : Int32) : q_cnt g a b 6 = sm9 (fun j => g (116 + j)) 35 := by
  rw [q_cnt, if_neg (by decide), if_neg (by decide), if_neg (by decide), if_neg (by decide), if_neg (by decide), if_neg (by decide), if_pos rfl]
  exact sm9_congr (fun d _ => if_pos (Or.inl (by decide)))
theorem qc7 (g : Nat → Int32) (a b : Int32) : q_cnt g a b 7 = sm9 (q_fs g) 70 := by rw [q_cnt, if_neg (by decide), if_neg (by decide), if_neg (by decide), if_neg (by decide), if_neg (by decide), if_neg (by decide), if_neg (by decide), if_pos rfl]
theorem qc8 (g : Nat → Int32) (a b : Int32) : q_cnt g a b 8 = g 0 := by rw [q_cnt, if_neg (by decide), if_neg (by decide), if_neg (by decide), if_neg (by decide), if_neg (by decide), if_neg (by decide), if_neg (by decide), if_neg (by decide), if_pos rfl]
theorem qc12 (g : Nat → Int32) (a b : Int32) : q_cnt g a b 12 = g 4 := by rw [q_cnt, if_neg (by decide), if_neg (by decide), if_neg (by decide), if_neg (by decide), if_neg (by decide), if_neg (by decide), if_neg (by decide), if_neg (by decide), if_neg (by decide), if_neg (by decide), if_neg (by decide), if_neg (by decide), if_pos rfl]

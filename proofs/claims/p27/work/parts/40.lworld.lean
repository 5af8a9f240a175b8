/-! ===== the law: its five arrays (settings, films, afternoons, evenings, rents) as rows of numbers; what they have to do with the village ===== -/
def lW (la : Nat → Nat) (cI : ClassId) (τ : S9) : va_W := [(la 0, .inl (cI, 6, .inl (τ 0))), (la 1, .inl (cI, 40, .inl (τ 1))), (la 2, .inl (cI, 35, .inl (τ 2))), (la 3, .inl (cI, 35, .inl (τ 3))), (la 4, .inl (cI, 35, .inl (τ 4)))]
theorem lW_a0 (la : Nat → Nat) (cI : ClassId) (τ : S9) (g : Nat → Int32) : (lW la cI τ).set 0 (la 0, .inl (cI, 6, .inl g)) = lW la cI (st9 τ 0 g) := by simp [lW, st9]
theorem lW_a1 (la : Nat → Nat) (cI : ClassId) (τ : S9) (g : Nat → Int32) : (lW la cI τ).set 1 (la 1, .inl (cI, 40, .inl g)) = lW la cI (st9 τ 1 g) := by simp [lW, st9]
theorem lW_a2 (la : Nat → Nat) (cI : ClassId) (τ : S9) (g : Nat → Int32) : (lW la cI τ).set 2 (la 2, .inl (cI, 35, .inl g)) = lW la cI (st9 τ 2 g) := by simp [lW, st9]
theorem lW_a3 (la : Nat → Nat) (cI : ClassId) (τ : S9) (g : Nat → Int32) : (lW la cI τ).set 3 (la 3, .inl (cI, 35, .inl g)) = lW la cI (st9 τ 3 g) := by simp [lW, st9]
theorem lW_a4 (la : Nat → Nat) (cI : ClassId) (τ : S9) (g : Nat → Int32) : (lW la cI τ).set 4 (la 4, .inl (cI, 35, .inl g)) = lW la cI (st9 τ 4 g) := by simp [lW, st9]
section VL3
variable {p : Program} {l : Launch} {e : Env} {R : Room} {s : State} {m : MethodId} {args : Array Value} {below : List Frame} {meth : Method} {c : Code} {cells slots : Nat} {Q : State → Prop}
variable {τ : Type} {w : τ → va_W} {D : va_G} {A : Nat → Prop} {H0 : Heap} {nL : Nat} {cc : ByteArray} {Ts : List Cond} {own : String} {σ : τ} {pc pc' : Nat} {lv : List (Nat × Value)} {st : List Value}
theorem v_ishr (C : CX p m c cc nL s args Ts own A H0) {x y : Int32} (hdg : decode cc pc = .ok (.ishr, 1)) (hp : pc + 1 = pc') (kk : VV p l e R s m args below meth c cells slots Q w D A H0 nL σ pc' lv (.int (x >>> (y &&& 31)) :: st)) : VV p l e R s m args below meth c cells slots Q w D A H0 nL σ pc lv (.int y :: .int x :: st) := by
  subst hp
  exact fun H locs ls hP hD hS h => lv_ishr C.1.1 C.1.2.1 hdg (kk H locs ls hP hD hS h)
theorem v_dup_x2 (C : CX p m c cc nL s args Ts own A H0) {va vb vd : Value} (hdg : decode cc pc = .ok (.dup_x2, 1)) (hp : pc + 1 = pc') (hva : va.category = 1) (hvb : vb.category = 1) (hvd : vd.category = 1) (kk : VV p l e R s m args below meth c cells slots Q w D A H0 nL σ pc' lv (va :: vb :: vd :: va :: st)) : VV p l e R s m args below meth c cells slots Q w D A H0 nL σ pc lv (va :: vb :: vd :: st) := by
  subst hp
  exact fun H locs ls hP hD hS h => lv_dup_x2 C.1.1 C.1.2.1 hdg hva hvb hvd (kk H locs ls hP hD hS h)
end VL3
def sh0 (x : Int32) : Int32 := if x = -6 then 0 else x + 1
def fl0 (x : Int32) : Int32 := if x = -6 then -1 else x
def lw9 (v : Int32) (k : Nat) : Nat := v.toBitVec.toNat % 2 ^ 31 % k
theorem lw9_lt (v : Int32) {k : Nat} (h : 0 < k) : lw9 v k < k := Nat.mod_lt _ h
def LR (g : Nat → Int32) (n : Nat) (τ : S9) : Prop := wfH g n ∧ (∀ i, i < 6 → τ 0 i = g i) ∧ (∀ i, i < 5 * n → τ 1 i = g (6 + i)) ∧ (∀ d, d < 35 → τ 2 d = sh0 (g (46 + (2 * d + 0)))) ∧ (∀ d, d < 35 → τ 3 d = sh0 (g (46 + (2 * d + 1)))) ∧ ∀ d, d < 35 → τ 4 d = g (116 + d)
theorem LR.w {g : Nat → Int32} {n : Nat} {τ : S9} (h : LR g n τ) : wfH g n := h.1
theorem LR.q {g : Nat → Int32} {n : Nat} {τ : S9} (h : LR g n τ) {i : Nat} (hi : i < 6) : τ 0 i = g i := h.2.1 i hi
theorem LR.f {g : Nat → Int32} {n : Nat} {τ : S9} (h : LR g n τ) {f : Nat} (k : Nat) (hf : f < n) (hk : k < 5) : τ 1 (5 * f + k) = g (6 + 5 * f + k) := by
  rw [h.2.2.1 _ (by omega), show 6 + (5 * f + k) = 6 + 5 * f + k by omega]
theorem LR.a {g : Nat → Int32} {n : Nat} {τ : S9} (h : LR g n τ) {d : Nat} (hd : d < 35) : τ 2 d = sh0 (g (46 + 2 * d)) := h.2.2.2.1 d hd
theorem LR.e {g : Nat → Int32} {n : Nat} {τ : S9} (h : LR g n τ) {d : Nat} (hd : d < 35) : τ 3 d = sh0 (g (46 + (2 * d + 1))) := h.2.2.2.2.1 d hd
theorem LR.r {g : Nat → Int32} {n : Nat} {τ : S9} (h : LR g n τ) {d : Nat} (hd : d < 35) : τ 4 d = g (116 + d) := h.2.2.2.2.2 d hd
theorem LR.n8 {g : Nat → Int32} {n : Nat} {τ : S9} (h : LR g n τ) : n ≤ 8 := h.1.1.2.1
theorem LR.k {g : Nat → Int32} {n : Nat} {τ : S9} (h : LR g n τ) {k : Nat} (hk : k < 70) (hp : k % 2 = 0) : τ 2 (k / 2) = sh0 (g (46 + k)) := by
  rw [h.a (by omega), show 2 * (k / 2) = k by omega]
theorem LR.k1 {g : Nat → Int32} {n : Nat} {τ : S9} (h : LR g n τ) {k : Nat} (hk : k < 70) (hp : ¬ k % 2 = 0) : τ 3 (k / 2) = sh0 (g (46 + k)) := by
  rw [h.e (by omega), show 2 * (k / 2) + 1 = k by omega]
theorem ix5 (f k : Nat) : (5 : Int32) * nI f + nI k = nI (5 * f + k) := by rw [show (5 : Int32) = nI 5 from rfl, pk_mul, nI_add]
theorem ix2 (d p : Nat) : (2 : Int32) * nI d + nI p = nI (2 * d + p) := by rw [show (2 : Int32) = nI 2 from rfl, pk_mul, nI_add]
theorem ix7 (w k : Nat) : (7 : Int32) * nI w + nI k = nI (7 * w + k) := by rw [show (7 : Int32) = nI 7 from rfl, pk_mul, nI_add]
theorem ix70 (w : Nat) : (7 : Int32) * nI w = nI (7 * w) := by rw [show (7 : Int32) = nI 7 from rfl, pk_mul]
theorem nI_b {a b : Nat} (ha : a < 1000) (hb : b < 1000) (h : ¬ a = b) : ¬ nI a = nI b := fun q => h (nI_inj (by omega) (by omega) q)
theorem n6_ne {f : Nat} (hf : f < 100) : ¬ nI f = (-6 : Int32) := fun q => nI_nneg (n := f) (by omega) (by rw [q]; decide)
theorem sh0_m (x : Int32) : sh0 x - 1 = fl0 x := by
  unfold sh0 fl0
  by_cases h : x = -6
  · rw [if_pos h, if_pos h]; rfl
  · rw [if_neg h, if_neg h]; grind
theorem sh0_f {g : Nat → Int32} {n k f : Nat} (hw : wfH g n) (hk : k < 70) (hf : f < 8) : sh0 (g (46 + k)) = nI f + 1 ↔ g (46 + k) = nI f := by
  have h8 := hw.1.2.1
  rcases hw.1.2.2 k hk with h | ⟨f', hf', h⟩
  · rw [h, sh0, if_pos rfl, nI_1]
    exact ⟨fun q => absurd q.symm (nI_b (b := 0) (by omega) (by omega) (by omega)), fun q => absurd q.symm (n6_ne (by omega))⟩
  · rw [h, sh0, if_neg (n6_ne (by omega)), nI_1, nI_1]
    exact ⟨fun q => by rw [show f' = f from by have := nI_inj (by omega) (by omega) q; omega], fun q => by rw [show f' = f from nI_inj (by omega) (by omega) q]⟩
theorem sh0_z {g : Nat → Int32} {n k : Nat} (hw : wfH g n) (hk : k < 70) : 0 < sh0 (g (46 + k)) ↔ ¬ g (46 + k) = -6 := by
  have h8 := hw.1.2.1
  rcases hw.1.2.2 k hk with h | ⟨f', hf', h⟩
  · rw [h, sh0, if_pos rfl]
    exact ⟨fun q => absurd q (by decide), fun q => absurd rfl q⟩
  · rw [h, sh0, if_neg (n6_ne (by omega)), nI_1]
    exact ⟨fun _ => n6_ne (by omega), fun _ => nI_lt (a := 0) (by omega) (by omega)⟩
theorem fl0_f {g : Nat → Int32} {n k f : Nat} (hw : wfH g n) (hk : k < 70) (hf : f < 100) : fl0 (g (46 + k)) = nI f ↔ g (46 + k) = nI f := by
  have h8 := hw.1.2.1
  rcases hw.1.2.2 k hk with h | ⟨f', hf', h⟩
  · rw [h, fl0, if_pos rfl]
    exact ⟨fun q => absurd (show nI f < 0 by rw [← q]; decide) (nI_nneg (by omega)), fun q => absurd q.symm (n6_ne (by omega))⟩
  · rw [h, fl0, if_neg (n6_ne (by omega))]
theorem fl0_ge {g : Nat → Int32} {n k : Nat} (hw : wfH g n) (hk : k < 70) (h0 : 0 ≤ fl0 (g (46 + k))) : ∃ f : Nat, f < n ∧ g (46 + k) = nI f ∧ fl0 (g (46 + k)) = nI f := by
  have h8 := hw.1.2.1
  rcases hw.1.2.2 k hk with h | ⟨f', hf', h⟩
  · rw [h, fl0, if_pos rfl] at h0
    exact absurd h0 (by decide)
  · exact ⟨f', hf', h, by rw [h, fl0, if_neg (n6_ne (by omega))]⟩
theorem fl0_n {g : Nat → Int32} {n k : Nat} (hw : wfH g n) (hk : k < 70) (h0 : ¬ 0 ≤ fl0 (g (46 + k))) : g (46 + k) = -6 := by
  have h8 := hw.1.2.1
  rcases hw.1.2.2 k hk with h | ⟨f', hf', h⟩
  · exact h
  · rw [h, fl0, if_neg (n6_ne (by omega))] at h0
    exact absurd (nI_le (a := 0) (Nat.zero_le _) (by omega)) h0
theorem com_le {g : Nat → Int32} {k : Nat} {x : Int32} (h : q_c g k x ≤ g 0) : q_c g k x = q_ppl g k x := by
  unfold q_ppl
  by_cases h2 : g 0 ≤ q_c g k x
  · rw [if_pos h2]; exact Int32.le_antisymm h h2
  · rw [if_neg h2]
theorem com_gt {g : Nat → Int32} {k : Nat} {x : Int32} (h : ¬ q_c g k x ≤ g 0) : g 0 = q_ppl g k x := by
  unfold q_ppl
  rw [if_pos (by rcases Int32.le_total (a := g 0) (b := q_c g k x) with q | q; exact q; exact absurd q h)]
def q_LA (g : Nat → Int32) (f k : Nat) : Int32 := if k < 70 then q_Y g f k else q_L g f k
theorem ppa_f {g : Nat → Int32} {n k f : Nat} (hf : f < 8) (h : g (46 + k) = nI f) : q_ppl g k (q_Y g f k) = q_ppa g k := by
  rw [q_ppa, h, if_neg (n6_ne (by omega)), nI_cl (by omega)]
  rfl
theorem ppa_n {g : Nat → Int32} {k : Nat} (h : g (46 + k) = -6) : 0 = q_ppa g k := by rw [q_ppa, if_pos h]
theorem wk0 {t : Nat → Int32} {w : Nat} (h : ∀ k, ¬ k / 14 = w → t k = 0) : sm9 t (2 * (7 * w)) = 0 := sm9_zero (fun k hk => h k (by omega))
theorem wk70 {t : Nat → Int32} {w : Nat} (hw : w < 5) (h : ∀ k, ¬ k / 14 = w → t k = 0) : sm9 t (2 * (7 * w + 7)) = sm9 t 70 := (sm9_more (by omega) (fun k hk _ => h k (by omega))).symm
theorem ct0 (g : Nat → Int32) (f w : Nat) : ∀ k, ¬ k / 14 = w → q_ct g f w k = 0 := fun k h => if_neg (fun q => h q.2)
theorem tt0 (g : Nat → Int32) (f w : Nat) : ∀ k, ¬ k / 14 = w → q_tt g f w k = 0 := fun k h => if_neg (fun q => h q.2)
theorem S_nn {g : Nat → Int32} {f w : Nat} (h : ¬ q_S g f w = 0) : ¬ q_S g f w ≤ 0 := by
  have hb : ∀ m, m ≤ 70 → ∃ c : Nat, c ≤ m ∧ sm9 (q_ct g f w) m = nI c := by
    intro m
    induction m with
    | zero => exact fun _ => ⟨0, Nat.le_refl _, rfl⟩
    | succ m ih =>
      intro hm
      obtain ⟨c, hc, e⟩ := ih (by omega)
      rw [sm9, e, q_ct]
      split
      · exact ⟨c + 1, by omega, nI_1 c⟩
      · exact ⟨c, by omega, by grind⟩
  obtain ⟨c, hc, e⟩ := hb 70 (Nat.le_refl _)
  have e2 : q_S g f w = nI c := e
  rw [e2] at h ⊢
  intro q
  have := (nI_leI (b := 0) (by omega) (by omega)).mp q
  exact h (by rw [show c = 0 by omega]; rfl)
theorem fw_skip {S : Nat → Int32} {j : Nat} (h : q_fw S j = -6) (h0 : S j = 0) : q_fw S (j + 1) = -6 := by
  rw [q_fw, if_neg (fun q => q.2 (by rw [h0]; decide))]
  exact h
theorem fw_hit {S : Nat → Int32} {j : Nat} (h : q_fw S j = -6) (h0 : ¬ S j ≤ 0) (hj : j < 100) : ∀ w, j ≤ w → q_fw S (w + 1) = nI j
  | w, hw => by
    rw [q_fw]
    by_cases e : j = w
    · rw [← e, if_pos ⟨h, h0⟩]
    · obtain ⟨v, rfl⟩ : ∃ v, w = v + 1 := ⟨w - 1, by omega⟩
      have ih := fw_hit h h0 hj v (by omega)
      rw [ih, if_neg (fun q => n6_ne (by omega) q.1)]
theorem sh_ne {g : Nat → Int32} {n f w : Nat} (hw : wfH g n) (hf : f < n) (h5 : w < 5) (h : ¬ q_S g f w = 0) : ¬ q_sh g f w = -6 := by
  have hn : ¬ q_fw (q_S g f) (w + 1) = -6 := by
    rw [q_fw]
    by_cases e : q_fw (q_S g f) w = -6
    · rw [if_pos ⟨e, S_nn h⟩]
      exact n6_ne (by omega)
    · rw [if_neg (fun q => e q.1)]
      exact e
  rw [q_sh, if_neg hn, p_share]
  intro q
  split at q
  · exact absurd q (by decide)
  · rename_i h2
    rw [q] at h2
    exact h2 (by decide)
theorem so_e {g : Nat → Int32} {n f w : Nat} (hw : wfH g n) (hf : f < n) (h5 : w < 5) (h : ¬ q_S g f w = 0) : q_T g f w * q_sh g f w / 100 = q_so g f w := by rw [q_so, if_neg (sh_ne hw hf h5 h)]
def lsT (g : Nat → Int32) (w f : Nat) : Int32 := q_T g f w - q_D g f w - g 2 * q_S g f w
theorem left_e {g : Nat → Int32} {n : Nat} (hw : wfS g n) : sm9 (fun w => sm9 (lsT g w) n) 5 + sm9 (fun d => g (116 + d)) 35 = q_left g (-1) := by
  have h8 := hw.2.1
  have e1 : sm9 (fun w => sm9 (lsT g w) n) 5 = q_W (q_T g) (-1) - q_W (q_D g) (-1) - g 2 * q_W (q_S g) (-1) := by
    rw [q_W_all h8 (fun f h1 h2 w => q_T_0 hw h1 h2 w), q_W_all h8 (fun f h1 h2 w => q_D_0 hw h1 h2 w), q_W_all h8 (fun f h1 h2 w => q_S_0 hw h1 h2 w), sm9_swap (fun f w => lsT g w f) 5 n]
    rw [show (fun f => sm9 (fun w => lsT g w f) 5) = (fun f => sm9 (q_T g f) 5 - sm9 (q_D g f) 5 - sm9 (q_S g f) 5 * g 2) from funext fun f => by
      show sm9 (fun w => q_T g f w - q_D g f w - g 2 * q_S g f w) 5 = _
      rw [sm9_sub (fun w => q_T g f w - q_D g f w) (fun w => g 2 * q_S g f w), sm9_sub (q_T g f) (q_D g f), show (fun w => g 2 * q_S g f w) = (fun w => q_S g f w * g 2) from funext fun w => Int32.mul_comm _ _, sm9_mulr]]
    rw [sm9_sub (fun f => sm9 (q_T g f) 5 - sm9 (q_D g f) 5) (fun f => sm9 (q_S g f) 5 * g 2), sm9_sub (fun f => sm9 (q_T g f) 5) (fun f => sm9 (q_D g f) 5), sm9_mulr, Int32.mul_comm (g 2)]
  rw [e1, q_left, show rnT g (-1) = (fun d => g (116 + d)) from funext fun d => if_pos (Or.inl (by decide))]

/-! ===== one film's way through the weeks, in the words of the reference's rows ===== -/
theorem sm9_split (g : Nat → Int32) (a : Nat) : ∀ b, sm9 g (a + b) = sm9 g a + sm9 (fun j => g (a + j)) b
  | 0 => by rw [sm9]; exact (Int32.add_zero _).symm
  | b + 1 => by rw [show a + (b + 1) = (a + b) + 1 by omega, sm9, sm9_split g a b, sm9, Int32.add_assoc]
theorem sm9_zero {g : Nat → Int32} {n : Nat} (h : ∀ k, k < n → g k = 0) : sm9 g n = 0 := by
  induction n with
  | zero => rfl
  | succ n ih => rw [sm9, ih (fun k hk => h k (by omega)), h n (by omega)]; rfl
theorem sm9_week {P : Nat → Prop} [DecidablePred P] (t : Nat → Int32) {w : Nat} (hw : w < 5) : sm9 (fun k => if P k ∧ k / 14 = w then t k else 0) 70 = sm9 (fun j => if P (14 * w + j) then t (14 * w + j) else 0) 14 := by
  rw [show (70 : Nat) = 14 * w + (14 + (70 - 14 * (w + 1))) by omega, sm9_split, sm9_split]
  rw [sm9_zero (fun k hk => if_neg (fun q => by omega)), sm9_zero (n := 70 - 14 * (w + 1)) (fun k hk => if_neg (fun q => by omega)), Int32.zero_add, Int32.add_zero]
  exact sm9_congr (fun j hj => by
    by_cases e : P (14 * w + j)
    · rw [if_pos e, if_pos ⟨e, by omega⟩]
    · rw [if_neg e, if_neg (fun q => e q.1)])
def q_cj (r : Nat → Int32) (f w j : Nat) : Int32 := if r (46 + (14 * w + j)) = nI f then 1 else 0
theorem q_S_w (r : Nat → Int32) (f : Nat) {w : Nat} (hw : w < 5) : q_S r f w = sm9 (q_cj r f w) 14 := sm9_week (P := fun k => r (46 + k) = nI f) (fun _ => 1) hw
def q_Z (r : Nat → Int32) (f w j : Nat) : Int32 := if j = 0 then q_Y r f (14 * w) else q_L r f (14 * w + j)
theorem Z_Y (r : Nat → Int32) (f w : Nat) {j : Nat} (hj : j < 14) : q_Z r f w j = q_Y r f (14 * w + j) := by
  unfold q_Z
  by_cases e : j = 0
  · subst e
    rfl
  · rw [if_neg e]
    unfold q_Y q_pre
    rw [if_neg (by omega)]
theorem Z_s (r : Nat → Int32) (f w : Nat) {j : Nat} (hj : j < 14) : q_Z r f w (j + 1) = if r (46 + (14 * w + j)) = nI f then q_Z r f w j - q_P r f (14 * w + j) else q_Z r f w j := by
  rw [Z_Y r f w hj]
  unfold q_Z
  rw [if_neg (Nat.succ_ne_zero j), show 14 * w + (j + 1) = (14 * w + j) + 1 by omega, q_L_s]
theorem Z_14 (r : Nat → Int32) (f w : Nat) : q_Z r f w 14 = q_L r f (14 * w + 14) := if_neg (by decide)
def q_ps (r : Nat → Int32) (f w : Nat) : Int32 := q_Y r f (14 * w) - q_L r f (14 * w + 14)
theorem tele (r : Nat → Int32) (f w : Nat) : ∀ j, j ≤ 14 → sm9 (fun j => if r (46 + (14 * w + j)) = nI f then q_P r f (14 * w + j) else 0) j = q_Y r f (14 * w) - q_Z r f w j
  | 0, _ => by
    show (0 : Int32) = _ - q_Y r f (14 * w)
    grind
  | j + 1, h => by
    rw [sm9, tele r f w j (by omega), Z_s r f w (by omega)]
    by_cases e : r (46 + (14 * w + j)) = nI f
    · rw [if_pos e, if_pos e]
      grind
    · rw [if_neg e, if_neg e]
      grind
theorem sm9_mul {P : Nat → Prop} [DecidablePred P] (t : Nat → Int32) (p : Int32) : ∀ n, sm9 (fun j => if P j then t j * p else 0) n = sm9 (fun j => if P j then t j else 0) n * p
  | 0 => by simp [sm9]
  | n + 1 => by
    rw [sm9, sm9, sm9_mul t p n]
    by_cases e : P n
    · rw [if_pos e, if_pos e]
      grind
    · rw [if_neg e, if_neg e]
      grind
theorem q_ppa_nI {r : Nat → Int32} {f k : Nat} (hf : f < 100000) (h : r (46 + k) = nI f) : q_ppa r k = q_P r f k := by
  unfold q_ppa
  rw [h, if_neg (nI_ne6 hf), nI_cl hf]
theorem q_T_w (r : Nat → Int32) {f w : Nat} (hf : f < 8) (hw : w < 5) : q_T r f w = q_ps r f w * r 1 := by
  have e1 : q_T r f w = sm9 (fun k => if r (46 + k) = nI f ∧ k / 14 = w then q_P r f k * r 1 else 0) 70 := sm9_congr (fun k _ => by
    unfold q_tt
    by_cases e : r (46 + k) = nI f ∧ k / 14 = w
    · rw [if_pos e, if_pos e, q_ppa_nI (by omega) e.1]
    · rw [if_neg e, if_neg e])
  rw [e1, sm9_week (P := fun k => r (46 + k) = nI f) (fun k => q_P r f k * r 1) hw, sm9_mul (P := fun j => r (46 + (14 * w + j)) = nI f) (fun j => q_P r f (14 * w + j)) (r 1) 14, tele r f w 14 (Nat.le_refl _), Z_14]
  rfl
def q_ff (r : Nat → Int32) (f k : Nat) : Int32 := if r (46 + k) = nI f ∧ q_P r f k = r 0 then 1 else 0
theorem Y0 (r : Nat → Int32) (f w : Nat) : q_Y r f (14 * w) = q_L r f (14 * w) - (if nI w ≤ r (6 + 5 * f + 4) / 7 then 0 else q_L r f (14 * w) / 4) := by
  unfold q_Y q_pre
  rw [if_pos (by omega), show 14 * w / 14 = w by omega]
  rfl
/-! shares: the chain of the weeks -/
def p_next (s a b : Int32) : Int32 := if s = -6 then (if b = 0 then -6 else a) else (if s - 10 < 20 then 20 else s - 10)
theorem q_fw_c (S : Nat → Int32) : ∀ w, q_fw S w = -6 ∨ ∃ v : Nat, v < w ∧ q_fw S w = nI v
  | 0 => Or.inl rfl
  | w + 1 => by
    rw [q_fw]
    by_cases e : q_fw S w = -6 ∧ ¬ S w ≤ 0
    · rw [if_pos e]
      exact Or.inr ⟨w, Nat.lt_succ_self w, rfl⟩
    · rw [if_neg e]
      rcases q_fw_c S w with h | ⟨v, hv, h⟩
      · exact Or.inl h
      · exact Or.inr ⟨v, by omega, h⟩
theorem sub10 {s m : Nat} (hs : s ≤ 90) (hm : m ≤ 4) : nI s - 10 * nI m = if 10 * m ≤ s then nI (s - 10 * m) else -nI (10 * m - s) := by
  rw [show (10 : Int32) = nI 10 from rfl, pk_mul]
  by_cases h : 10 * m ≤ s
  · rw [if_pos h, pk_sub h]
  · rw [if_neg h]
    have e : nI (10 * m) = nI s + nI (10 * m - s) := by rw [nI_add]; congr 1; omega
    rw [e]
    grind
theorem p_share_nI {r : Nat → Int32} {f s m : Nat} (hr : r (6 + 5 * f + 3) = nI s) (hs : s ≤ 90) (hm : m ≤ 4) : p_share r f (nI m) = nI (if s ≤ 20 + 10 * m then 20 else s - 10 * m) := by
  unfold p_share
  rw [hr, sub10 hs hm]
  by_cases h : 10 * m ≤ s
  · rw [if_pos h]
    by_cases h2 : s ≤ 20 + 10 * m
    · rw [if_pos h2, if_pos (show nI (s - 10 * m) ≤ 20 from nI_le (b := 20) (by omega) (by decide))]
      rfl
    · rw [if_neg h2, if_neg (show ¬ nI (s - 10 * m) ≤ 20 from nI_ge (a := 20) (by omega) (by omega))]
  · rw [if_neg h, if_pos (show s ≤ 20 + 10 * m by omega), if_pos]
    · rfl
    · have h0 : (-nI (10 * m - s)).toInt = -((10 * m - s : Nat) : Int) := sb_negT (by omega)
      rw [Int32.le_iff_toInt_le, h0]
      have : (20 : Int32).toInt = 20 := by decide
      omega
def q_cs (r : Nat → Int32) (f w : Nat) : Int32 := if w = 0 then -6 else q_sh r f (w - 1)
theorem cs_next {r : Nat → Int32} {f s w : Nat} (hw : w < 5) (hr : r (6 + 5 * f + 3) = nI s) (h20 : 20 ≤ s) (h90 : s ≤ 90) : p_next (q_cs r f w) (r (6 + 5 * f + 3)) (if q_S r f w ≤ 0 then 0 else 1) = q_sh r f w := by
  have hcs : q_cs r f w = if q_fw (q_S r f) w = -6 then -6 else p_share r f (nI (w - 1) - q_fw (q_S r f) w) := by
    unfold q_cs
    by_cases e : w = 0
    · subst e
      rw [if_pos rfl, show q_fw (q_S r f) 0 = -6 from rfl, if_pos rfl]
    · rw [if_neg e]
      unfold q_sh
      rw [show w - 1 + 1 = w by omega]
  rw [hcs]
  unfold q_sh
  rcases q_fw_c (q_S r f) w with hF | ⟨v, hv, hF⟩
  · rw [if_pos hF, q_fw, hF]
    unfold p_next
    by_cases e : q_S r f w ≤ 0
    · have c : ¬ ((-6 : Int32) = -6 ∧ ¬ q_S r f w ≤ 0) := fun q => q.2 e
      rw [if_neg c, if_pos e]
      simp
    · have c : (-6 : Int32) = -6 ∧ ¬ q_S r f w ≤ 0 := ⟨rfl, e⟩
      rw [if_pos c, if_neg e, if_neg (nI_ne6 (by omega)), show nI w - nI w = nI 0 by rw [pk_sub (Nat.le_refl w)]; congr 1; omega, p_share_nI hr h90 (by decide), hr]
      rw [if_pos rfl, if_neg (by decide)]
      congr 1
      by_cases q : s ≤ 20 + 10 * 0
      · rw [if_pos q]
        omega
      · rw [if_neg q]
        omega
  · have hne : ¬ nI v = -6 := nI_ne6 (by omega)
    have c2 : ¬ (nI v = -6 ∧ ¬ q_S r f w ≤ 0) := fun q => hne q.1
    rw [q_fw, hF, if_neg hne, if_neg c2, if_neg hne, pk_sub (show v ≤ w - 1 by omega), pk_sub (show v ≤ w by omega), p_share_nI hr h90 (by omega), p_share_nI hr h90 (by omega)]
    unfold p_next
    generalize hM : (if s ≤ 20 + 10 * (w - 1 - v) then 20 else s - 10 * (w - 1 - v)) = M
    have hM1 : 20 ≤ M ∧ M ≤ 90 := by rw [← hM]; split <;> omega
    rw [if_neg (nI_ne6 (by omega)), show nI M - 10 = nI (M - 10) from pk_sub (a := M) (b := 10) (by omega)]
    by_cases q : M - 10 < 20
    · rw [if_pos (show nI (M - 10) < 20 from nI_lt (b := 20) q (by decide)), if_pos (show s ≤ 20 + 10 * (w - v) by
        rw [← hM] at q
        split at q <;> omega)]
      rfl
    · rw [if_neg (show ¬ nI (M - 10) < 20 from nI_nlt (b := 20) (by omega) (by omega))]
      congr 1
      by_cases b : s ≤ 20 + 10 * (w - v)
      · rw [if_pos b]
        by_cases a : s ≤ 20 + 10 * (w - 1 - v)
        · rw [if_pos a] at hM
          omega
        · rw [if_neg a] at hM
          omega
      · rw [if_neg b]
        rw [if_neg (show ¬ s ≤ 20 + 10 * (w - 1 - v) by omega)] at hM
        omega

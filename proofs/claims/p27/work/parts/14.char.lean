/-! ===== what the reference's reckoning leaves in its rows, said of the hall's row alone ===== -/
def q_fade (r : Nat → Int32) (f w : Nat) (x : Int32) : Int32 := x - (if nI w ≤ r (6 + 5 * f + 4) / 7 then 0 else x / 4)
def q_pre (r : Nat → Int32) (f k : Nat) (x : Int32) : Int32 := if k % 14 = 0 then q_fade r f (k / 14) x else x
def q_c (r : Nat → Int32) (k : Nat) (x : Int32) : Int32 := x * (if k % 2 = 0 then r 4 else r 3) / 100
def q_ppl (r : Nat → Int32) (k : Nat) (x : Int32) : Int32 := if r 0 ≤ q_c r k x then r 0 else q_c r k x
def q_L (r : Nat → Int32) (f : Nat) : Nat → Int32
  | 0 => r (6 + 5 * f + 1)
  | k + 1 => if r (46 + k) = nI f then q_pre r f k (q_L r f k) - q_ppl r k (q_pre r f k (q_L r f k)) else q_pre r f k (q_L r f k)
def q_Y (r : Nat → Int32) (f k : Nat) : Int32 := q_pre r f k (q_L r f k)
def q_P (r : Nat → Int32) (f k : Nat) : Int32 := q_ppl r k (q_Y r f k)
theorem q_L_s (r : Nat → Int32) (f k : Nat) : q_L r f (k + 1) = if r (46 + k) = nI f then q_Y r f k - q_P r f k else q_Y r f k := rfl
def q_ppa (r : Nat → Int32) (k : Nat) : Int32 := if r (46 + k) = -6 then 0 else q_P r (r (46 + k)).toNatClampNeg k
def q_bhd (r : Nat → Int32) (k : Nat) : Int32 := if r (46 + k) = -6 then -6 else q_L r (r (46 + k)).toNatClampNeg (k + 1)
theorem nI_ne6 {f : Nat} (h : f < 100000) : ¬ nI f = -6 := by
  intro e
  have h1 := nI_pos' (n := f) (by omega)
  rw [e] at h1
  exact absurd h1 (by decide)
theorem nI_inj {a b : Nat} (ha : a < 100000) (hb : b < 100000) (h : nI a = nI b) : a = b := (nI_eq (by omega) (by omega)).mp h
theorem fd_7 (wk : Int32) (u : S9) : ∀ n f, it9 (fdS wk) n u 7 f = if f < n then u 7 f - (if wk ≤ u 0 (6 + 5 * f + 4) / 7 then 0 else u 7 f / 4) else u 7 f
  | 0, f => by simp [it9]
  | n + 1, f => by
    rw [it9]
    unfold fdS
    rw [st9_s]
    have h0 : it9 (fdS wk) n u 0 = u 0 := fd_i wk 0 (by decide) u n
    by_cases e : f = n
    · subst e
      rw [upd_s, if_pos (Nat.lt_succ_self f)]
      have e1 := fd_7 wk u f f
      rw [if_neg (Nat.lt_irrefl f)] at e1
      show it9 (fdS wk) f u 7 f - (if wk ≤ it9 (fdS wk) f u 0 (6 + 5 * f + 4) / 7 then 0 else it9 (fdS wk) f u 7 f / 4) = _
      rw [e1, h0]
    · rw [upd_n _ _ e]
      refine (fd_7 wk u n f).trans ?_
      by_cases h : f < n
      · rw [if_pos h, if_pos (show f < n + 1 by omega)]
      · rw [if_neg h, if_neg (show ¬ f < n + 1 by omega)]
theorem fp0_7 (σ : S9) : ∀ n f, it9 fp0 n σ 7 f = if f < n then σ 0 (6 + 5 * f + 1) else σ 7 f
  | 0, f => by simp [it9]
  | n + 1, f => by
    rw [it9]
    unfold fp0
    rw [st9_s]
    by_cases e : f = n
    · subst e
      rw [upd_s, if_pos (Nat.lt_succ_self f)]
      exact congrFun (fp_i0 0 (by decide) σ f) _
    · rw [upd_n _ _ e]
      refine (fp0_7 σ n f).trans ?_
      by_cases h : f < n
      · rw [if_pos h, if_pos (by omega)]
      · rw [if_neg h, if_neg (by omega)]
/-- what holds after k turns of findPeople -/
def fpJ (r : Nat → Int32) (n k : Nat) (u : S9) : Prop := u 0 = r ∧ (∀ f, f < n → u 7 f = q_L r f k) ∧ (∀ j, j < k → u 5 j = q_ppa r j ∧ u 6 j = q_bhd r j)
theorem fpJ_s {r : Nat → Int32} {n k : Nat} {u : S9} (hw : wfS r n) (hk : k < 70) (h : fpJ r n k u) : fpJ r n (k + 1) (fpS n k u) := by
  obtain ⟨h0, h7, h56⟩ := h
  have h00 : fpS n k u 0 = r := (fpS_i n k 0 (by decide) (by decide) (by decide) u).trans h0
  have hU : ∀ f, f < n → (if k % 14 = 0 then it9 (fdS (nI (k / 14))) n u else u) 7 f = q_Y r f k := by
    intro f hf
    unfold q_Y q_pre
    by_cases e : k % 14 = 0
    · rw [if_pos e, if_pos e, fd_7, if_pos hf, h0, h7 f hf]
      rfl
    · rw [if_neg e, if_neg e, h7 f hf]
  refine ⟨h00, ?_⟩
  by_cases e6 : r (46 + k) = -6
  · have ee : fpS n k u = st9 (st9 (if k % 14 = 0 then it9 (fdS (nI (k / 14))) n u else u) 5 (upd (u 5) k 0)) 6 (upd (u 6) k (-6)) := by
      unfold fpS
      rw [h0, if_pos e6]
    rw [ee]
    refine ⟨fun f hf => ?_, fun j hj => ?_⟩
    · rw [st9_n _ _ (by decide), st9_n _ _ (by decide), hU f hf, q_L_s, if_neg]
      rw [e6]
      exact fun q => nI_ne6 (by have := hw.2.1; omega) q.symm
    · rw [st9_n _ _ (by decide), st9_s, st9_s]
      by_cases e : j = k
      · subst e
        rw [upd_s, upd_s, q_ppa, q_bhd, if_pos e6, if_pos e6]
        exact ⟨rfl, rfl⟩
      · rw [upd_n _ _ e, upd_n _ _ e]
        exact h56 j (by omega)
  · obtain ⟨g, hg, eg⟩ := (hw.2.2 k hk).resolve_left e6
    have hg8 : g < 8 := Nat.lt_of_lt_of_le hg hw.2.1
    have ecl : (nI g).toNatClampNeg = g := nI_cl (by omega)
    generalize hU1 : (if k % 14 = 0 then it9 (fdS (nI (k / 14))) n u else u) = U at hU
    have ee : fpS n k u = st9 (st9 (st9 U 5 (upd (u 5) k (q_P r g k))) 7 (upd (U 7) g (q_Y r g k - q_P r g k))) 6 (upd (u 6) k (q_Y r g k - q_P r g k)) := by
      unfold fpS
      rw [h0, if_neg e6, hU1, eg, ecl]
      show st9 (st9 (st9 U 5 _) 7 _) 6 _ = _
      rw [hU g hg]
      rfl
    rw [ee]
    refine ⟨fun f hf => ?_, fun j hj => ?_⟩
    · rw [st9_n _ _ (by decide), st9_s, q_L_s]
      by_cases e : f = g
      · subst e
        rw [upd_s, if_pos eg]
      · rw [upd_n _ _ e, hU f hf, if_neg]
        rw [eg]
        exact fun q => e (nI_inj (by omega) (by have := hw.2.1; omega) q).symm
    · rw [st9_n _ _ (by decide), st9_n _ _ (by decide), st9_s, st9_s]
      by_cases e : j = k
      · subst e
        rw [upd_s, upd_s, q_ppa, q_bhd, if_neg e6, if_neg e6, eg, ecl, q_L_s, if_pos eg]
        exact ⟨rfl, rfl⟩
      · rw [upd_n _ _ e, upd_n _ _ e]
        exact h56 j (by omega)
theorem fpJ_m {r : Nat → Int32} {u0 : S9} {n : Nat} (hw : wfS r n) (h0 : fpJ r n 0 u0) : ∀ k, k ≤ 70 → fpJ r n k (it9 (fpS n) k u0) := by
  intro k
  induction k with
  | zero => exact fun _ => h0
  | succ k ih =>
    intro h
    rw [it9]
    exact fpJ_s hw (by omega) (ih (by omega))
theorem fpM_J {σ : S9} {n : Nat} (hw : wfS (σ 0) n) : fpJ (σ 0) n 70 (fpM n σ) := by
  rw [fpM]
  exact fpJ_m hw ⟨fp_i0 0 (by decide) σ 8, fun f hf => by
    rw [fp0_7, if_pos (Nat.lt_of_lt_of_le hf hw.2.1), q_L], fun j hj => absurd hj (Nat.not_lt_zero j)⟩ 70 (Nat.le_refl _)
/-! counts and takings of a film in a week -/
def q_ct (r : Nat → Int32) (f w k : Nat) : Int32 := if r (46 + k) = nI f ∧ k / 14 = w then 1 else 0
def q_tt (r : Nat → Int32) (f w k : Nat) : Int32 := if r (46 + k) = nI f ∧ k / 14 = w then q_ppa r k * r 1 else 0
def q_S (r : Nat → Int32) (f w : Nat) : Int32 := sm9 (q_ct r f w) 70
def q_T (r : Nat → Int32) (f w : Nat) : Int32 := sm9 (q_tt r f w) 70
theorem ft0_89 (σ : S9) : ∀ n k, k < n → it9 ft0 n σ 8 k = 0 ∧ it9 ft0 n σ 9 k = 0
  | 0, k, h => absurd h (Nat.not_lt_zero k)
  | n + 1, k, h => by
    rw [it9]
    unfold ft0
    rw [st9_n _ _ (by decide), st9_s, st9_s]
    by_cases e : k = n
    · subst e
      rw [upd_s, upd_s]
      exact ⟨rfl, rfl⟩
    · rw [upd_n _ _ e, upd_n _ _ e]
      exact ft0_89 σ n k (by omega)
theorem ftJ_m {r : Nat → Int32} {u0 : S9} {n : Nat} (h0 : u0 0 = r) (hw : wfS r n) (hp : ∀ k, k < 70 → u0 5 k = q_ppa r k) (hz : ∀ f w, f < 8 → w < 5 → u0 8 (5 * f + w) = 0 ∧ u0 9 (5 * f + w) = 0) (f w : Nat) (hf : f < 8) (hw5 : w < 5) : ∀ k, k ≤ 70 → it9 ftS k u0 8 (5 * f + w) = sm9 (q_ct r f w) k ∧ it9 ftS k u0 9 (5 * f + w) = sm9 (q_tt r f w) k := by
  intro k
  induction k with
  | zero => exact fun _ => hz f w hf hw5
  | succ k ih =>
    intro hk
    obtain ⟨i1, i2⟩ := ih (by omega)
    have e0 : it9 ftS k u0 0 = r := (ftS_m 0 (by decide) (by decide) _ k).trans h0
    have e5 : it9 ftS k u0 5 k = q_ppa r k := by rw [ftS_m 5 (by decide) (by decide) _ k]; exact hp k (by omega)
    rw [it9, sm9, sm9]
    generalize it9 ftS k u0 = u at i1 i2 e0 e5
    unfold ftS ftI q_ct q_tt
    rw [e0]
    by_cases e6 : r (46 + k) = -6
    · have hne : ¬ (r (46 + k) = nI f ∧ k / 14 = w) := fun q => nI_ne6 (f := f) (by omega) (q.1.symm.trans e6)
      rw [if_pos e6, if_neg hne, if_neg hne, i1, i2]
      unfold q_ct q_tt
      simp
    · obtain ⟨g, hg, eg⟩ := (hw.2.2 k (by omega)).resolve_left e6
      have hg8 : g < 8 := Nat.lt_of_lt_of_le hg hw.2.1
      rw [if_neg e6, eg, nI_cl (show g < 100000 by omega), st9_n _ _ (by decide), st9_s, st9_s, e5]
      by_cases e : f = g ∧ k / 14 = w
      · obtain ⟨rfl, rfl⟩ := e
        rw [upd_s, upd_s, if_pos ⟨rfl, rfl⟩, if_pos ⟨rfl, rfl⟩, i1, i2]
        exact ⟨rfl, rfl⟩
      · have hx : 5 * f + w ≠ 5 * g + k / 14 := by
          intro q
          have : k / 14 < 5 := by omega
          exact e ⟨by omega, by omega⟩
        have hy : ¬ (nI g = nI f ∧ k / 14 = w) := fun q => e ⟨(nI_inj (by omega) (by omega) q.1).symm, q.2⟩
        rw [upd_n _ _ hx, upd_n _ _ hx, if_neg hy, if_neg hy, i1, i2]
        unfold q_ct q_tt
        simp
/-! what is due -/
def q_fw (S : Nat → Int32) : Nat → Int32
  | 0 => -6
  | w + 1 => if q_fw S w = -6 ∧ ¬ S w ≤ 0 then nI w else q_fw S w
def q_sh (r : Nat → Int32) (f w : Nat) : Int32 := if q_fw (q_S r f) (w + 1) = -6 then -6 else p_share r f (nI w - q_fw (q_S r f) (w + 1))
def q_so (r : Nat → Int32) (f w : Nat) : Int32 := if q_sh r f w = -6 then 0 else q_T r f w * q_sh r f w / 100
def q_D (r : Nat → Int32) (f w : Nat) : Int32 := if q_S r f w = 0 then 0 else if q_so r f w ≤ r (6 + 5 * f + 2) then r (6 + 5 * f + 2) else q_so r f w
theorem duI_J {r : Nat → Int32} {u : S9} (h0 : u 0 = r) {f : Nat} (hf : f < 8) (h8 : ∀ w, w < 5 → u 8 (5 * f + w) = q_S r f w) (h9 : ∀ w, w < 5 → u 9 (5 * f + w) = q_T r f w) : ∀ w, w ≤ 5 → (duI f u w).1 = q_fw (q_S r f) w ∧ (∀ v, v < w → (duI f u w).2 10 (5 * f + v) = q_sh r f v ∧ (duI f u w).2 11 (5 * f + v) = q_D r f v) ∧ (∀ j, (j < 5 * f ∨ 5 * f + 5 ≤ j) → (duI f u w).2 10 j = u 10 j ∧ (duI f u w).2 11 j = u 11 j)
  | 0, _ => ⟨rfl, fun v hv => absurd hv (Nat.not_lt_zero v), fun j _ => ⟨rfl, rfl⟩⟩
  | w + 1, hw => by
    obtain ⟨i1, i2, i3⟩ := duI_J h0 hf h8 h9 w (by omega)
    have e0 : (duI f u w).2 0 = r := (duI_i f 0 (by decide) (by decide) u w).trans h0
    have e8 : (duI f u w).2 8 (5 * f + w) = q_S r f w := by rw [duI_i f 8 (by decide) (by decide) u w]; exact h8 w (by omega)
    have e9 : (duI f u w).2 9 (5 * f + w) = q_T r f w := by rw [duI_i f 9 (by decide) (by decide) u w]; exact h9 w (by omega)
    rw [duI]
    generalize duI f u w = p at i1 i2 i3 e0 e8 e9
    have eF : duF f w p = q_fw (q_S r f) (w + 1) := by unfold duF; rw [i1, e8, q_fw]
    have eH : duH f w p = q_sh r f w := by unfold duH q_sh; rw [eF, e0]
    have eO : p_sot (duU f w p) (5 * f + w) = q_so r f w := by
      unfold p_sot duU q_so
      rw [st9_s, st9_n _ _ (by decide), upd_s, e9, eH]
    have eV : duV (duU f w p) f (5 * f + w) = q_D r f w := by
      unfold duV q_D
      rw [eO]
      unfold duU
      rw [st9_n _ _ (by decide), st9_n _ _ (by decide), e8, e0]
    refine ⟨eF, fun v hv => ?_, fun j hj => ?_⟩
    · rw [show (duS f w p).2 = st9 (duU f w p) 11 (upd ((duU f w p) 11) (5 * f + w) (duV (duU f w p) f (5 * f + w))) from rfl]
      rw [st9_n _ _ (by decide), st9_s, eV]
      unfold duU
      rw [st9_s, st9_n _ _ (by decide), eH]
      by_cases e : v = w
      · subst e
        rw [upd_s, upd_s]
        exact ⟨rfl, rfl⟩
      · rw [upd_n _ _ (by omega), upd_n _ _ (by omega)]
        exact i2 v (by omega)
    · rw [show (duS f w p).2 = st9 (duU f w p) 11 (upd ((duU f w p) 11) (5 * f + w) (duV (duU f w p) f (5 * f + w))) from rfl]
      rw [st9_n _ _ (by decide), st9_s]
      unfold duU
      rw [st9_s, st9_n _ _ (by decide), upd_n _ _ (by omega), upd_n _ _ (by omega)]
      exact i3 j hj
theorem duM_J {r : Nat → Int32} {σ : S9} (h0 : σ 0 = r) (h8 : ∀ f w, f < 8 → w < 5 → σ 8 (5 * f + w) = q_S r f w) (h9 : ∀ f w, f < 8 → w < 5 → σ 9 (5 * f + w) = q_T r f w) : ∀ n, n ≤ 8 → ∀ f w, f < n → w < 5 → it9 duT n σ 10 (5 * f + w) = q_sh r f w ∧ it9 duT n σ 11 (5 * f + w) = q_D r f w := by
  intro n
  induction n with
  | zero => exact fun _ f w hf _ => absurd hf (Nat.not_lt_zero f)
  | succ n ih =>
    intro hn f w hf hw
    have e0 := (duT_m 0 (by decide) (by decide) σ n).trans h0
    have e8 := duT_m 8 (by decide) (by decide) σ n
    have e9 := duT_m 9 (by decide) (by decide) σ n
    have ih := ih (by omega)
    rw [it9]
    generalize it9 duT n σ = u at e0 e8 e9 ih
    obtain ⟨-, j2, j3⟩ := duI_J (r := r) (u := u) e0 (f := n) (by omega) (fun w hw => by rw [e8]; exact h8 n w (by omega) hw) (fun w hw => by rw [e9]; exact h9 n w (by omega) hw) 5 (Nat.le_refl _)
    rw [duT]
    by_cases e : f = n
    · subst e
      exact j2 w hw
    · obtain ⟨g1, g2⟩ := j3 (5 * f + w) (by omega)
      rw [g1, g2]
      exact ih f w (by omega) hw
/-- what reckon leaves, of a hall's row that is as it must be -/
theorem rkM_J {σ : S9} {n : Nat} (hw : wfS (σ 0) n) : (∀ f, f < n → rkM n σ 7 f = q_L (σ 0) f 70) ∧ (∀ k, k < 70 → rkM n σ 5 k = q_ppa (σ 0) k ∧ rkM n σ 6 k = q_bhd (σ 0) k) ∧ (∀ f w, f < 8 → w < 5 → rkM n σ 8 (5 * f + w) = q_S (σ 0) f w ∧ rkM n σ 9 (5 * f + w) = q_T (σ 0) f w ∧ rkM n σ 10 (5 * f + w) = q_sh (σ 0) f w ∧ rkM n σ 11 (5 * f + w) = q_D (σ 0) f w) := by
  obtain ⟨h0, h7, h56⟩ := fpM_J hw
  unfold rkM
  generalize fpM n σ = u at h0 h7 h56
  have ht : ∀ f w, f < 8 → w < 5 → it9 ftS 70 (it9 ft0 40 u) 8 (5 * f + w) = q_S (σ 0) f w ∧ it9 ftS 70 (it9 ft0 40 u) 9 (5 * f + w) = q_T (σ 0) f w := fun f w hf hw5 =>
    ftJ_m (u0 := it9 ft0 40 u) ((ft0_m 0 (by decide) (by decide) u 40).trans h0) hw (fun k hk => by rw [ft0_m 5 (by decide) (by decide) u 40]; exact (h56 k hk).1) (fun f w hf hw => ft0_89 u 40 (5 * f + w) (by omega)) f w hf hw5 70 (Nat.le_refl _)
  have g0 := ftM_0 u
  have g5 := ftM_i 5 (by decide) (by decide) u
  have g6 := ftM_i 6 (by decide) (by decide) u
  have g7 := ftM_i 7 (by decide) (by decide) u
  have ht' : ∀ f w, f < 8 → w < 5 → ftM u 8 (5 * f + w) = q_S (σ 0) f w ∧ ftM u 9 (5 * f + w) = q_T (σ 0) f w := fun f w hf hw => by
    rw [ftM]
    exact ht f w hf hw
  generalize ftM u = v at g0 g5 g6 g7 ht'
  have hv0 : v 0 = σ 0 := g0.trans h0
  have hd := duM_J (σ := v) hv0 (fun f w hf hw => (ht' f w hf hw).1) (fun f w hf hw => (ht' f w hf hw).2) 8 (Nat.le_refl _)
  refine ⟨fun f hf => ?_, fun k hk => ?_, fun f w hf hw => ?_⟩
  · rw [duM_i 7 (by decide) (by decide), g7]
    exact h7 f hf
  · rw [duM_i 5 (by decide) (by decide), duM_i 6 (by decide) (by decide), g5, g6]
    exact h56 k hk
  · rw [duM_i 8 (by decide) (by decide), duM_i 9 (by decide) (by decide)]
    refine ⟨(ht' f w hf hw).1, (ht' f w hf hw).2, ?_⟩
    rw [duM]
    exact hd f w hf hw

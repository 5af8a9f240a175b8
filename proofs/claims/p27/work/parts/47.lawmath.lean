/-! ===== the law: what its acts do to its arrays, and to the village ===== -/
theorem ix50 (n : Nat) : (5 : Int32) * nI n = nI (5 * n) := by rw [show (5 : Int32) = nI 5 from rfl, pk_mul]
theorem st_tw (σ : S9) (i : Nat) (a b : Nat → Int32) : st9 (st9 σ i a) i b = st9 σ i b := by
  funext k
  unfold st9
  by_cases h : k = i
  · rw [if_pos h, if_pos h]
  · rw [if_neg h, if_neg h, if_neg h]
def fr5 (h : Nat → Int32) (n : Nat) (a b c d e : Int32) : Nat → Int32 := upd (upd (upd (upd (upd h (5 * n) a) (5 * n + 1) b) (5 * n + 2) c) (5 * n + 3) d) (5 * n + 4) e
theorem f5_0 (h : Nat → Int32) (n : Nat) (a b c d e : Int32) : fr5 h n a b c d e (5 * n) = a := by rw [fr5, upd_n _ _ (by omega), upd_n _ _ (by omega), upd_n _ _ (by omega), upd_n _ _ (by omega), upd_s]
theorem f5_1 (h : Nat → Int32) (n : Nat) (a b c d e : Int32) : fr5 h n a b c d e (5 * n + 1) = b := by rw [fr5, upd_n _ _ (by omega), upd_n _ _ (by omega), upd_n _ _ (by omega), upd_s]
theorem f5_2 (h : Nat → Int32) (n : Nat) (a b c d e : Int32) : fr5 h n a b c d e (5 * n + 2) = c := by rw [fr5, upd_n _ _ (by omega), upd_n _ _ (by omega), upd_s]
theorem f5_3 (h : Nat → Int32) (n : Nat) (a b c d e : Int32) : fr5 h n a b c d e (5 * n + 3) = d := by rw [fr5, upd_n _ _ (by omega), upd_s]
theorem f5_4 (h : Nat → Int32) (n : Nat) (a b c d e : Int32) : fr5 h n a b c d e (5 * n + 4) = e := by rw [fr5, upd_s]
theorem f5_n (h : Nat → Int32) (n : Nat) (a b c d e : Int32) {i : Nat} (hi : i < 5 * n) : fr5 h n a b c d e i = h i := by rw [fr5, upd_n _ _ (by omega), upd_n _ _ (by omega), upd_n _ _ (by omega), upd_n _ _ (by omega), upd_n _ _ (by omega)]
theorem fm_0 (r : Nat → Int32) (n : Nat) (d c m s f : Int32) (hn : n < 8) : film9 r n d c m s f (6 + 5 * n + 0) = d := by rw [film9, upd_n _ _ (by omega), upd_n _ _ (by omega), upd_n _ _ (by omega), upd_n _ _ (by omega), upd_n _ _ (by omega), upd_s]
theorem fm_1 (r : Nat → Int32) (n : Nat) (d c m s f : Int32) (hn : n < 8) : film9 r n d c m s f (6 + 5 * n + 1) = c := by rw [film9, upd_n _ _ (by omega), upd_n _ _ (by omega), upd_n _ _ (by omega), upd_n _ _ (by omega), upd_s]
theorem fm_2 (r : Nat → Int32) (n : Nat) (d c m s f : Int32) (hn : n < 8) : film9 r n d c m s f (6 + 5 * n + 2) = m := by rw [film9, upd_n _ _ (by omega), upd_n _ _ (by omega), upd_n _ _ (by omega), upd_s]
theorem fm_3 (r : Nat → Int32) (n : Nat) (d c m s f : Int32) (hn : n < 8) : film9 r n d c m s f (6 + 5 * n + 3) = s := by rw [film9, upd_n _ _ (by omega), upd_n _ _ (by omega), upd_s]
theorem fm_4 (r : Nat → Int32) (n : Nat) (d c m s f : Int32) (hn : n < 8) : film9 r n d c m s f (6 + 5 * n + 4) = f := by rw [film9, upd_n _ _ (by omega), upd_s]
theorem fm_n (r : Nat → Int32) (n : Nat) (d c m s f : Int32) {i : Nat} (h5 : i ≠ 5) (h : i < 6 + 5 * n ∨ 6 + 5 * n + 4 < i) : film9 r n d c m s f i = r i := by rw [film9, upd_n _ _ h5, upd_n _ _ (by omega), upd_n _ _ (by omega), upd_n _ _ (by omega), upd_n _ _ (by omega), upd_n _ _ (by omega)]
theorem LR.film {g : Nat → Int32} {n : Nat} {t : S9} (h : LR g n t) (hn : n < 8) {d c m s f : Int32} (hw : wfH (film9 g n d c m s f) (n + 1)) : LR (film9 g n d c m s f) (n + 1) (st9 (st9 t 1 (fr5 (t 1) n d c m s f)) 0 (upd (st9 t 1 (fr5 (t 1) n d c m s f) 0) 5 (nI (n + 1)))) := by
  refine ⟨hw, fun i hi => ?_, fun i hi => ?_, fun d' hd' => ?_, fun d' hd' => ?_, fun d' hd' => ?_⟩
  · rw [st9_s, st9_n _ _ (by decide)]
    by_cases e : i = 5
    · subst e
      rw [upd_s, film9, upd_s]
    · rw [upd_n _ _ e, fm_n _ _ _ _ _ _ _ e (by omega)]
      exact h.q hi
  · rw [st9_n _ _ (by decide), st9_s]
    rcases (show i < 5 * n ∨ i = 5 * n ∨ i = 5 * n + 1 ∨ i = 5 * n + 2 ∨ i = 5 * n + 3 ∨ i = 5 * n + 4 by omega) with e | e | e | e | e | e
    · rw [f5_n _ _ _ _ _ _ _ e, fm_n _ _ _ _ _ _ _ (by omega) (by omega)]
      exact h.2.2.1 i e
    · rw [e, f5_0, show 6 + 5 * n = 6 + 5 * n + 0 from rfl, fm_0 _ _ _ _ _ _ _ hn]
    · rw [e, f5_1, show 6 + (5 * n + 1) = 6 + 5 * n + 1 by omega, fm_1 _ _ _ _ _ _ _ hn]
    · rw [e, f5_2, show 6 + (5 * n + 2) = 6 + 5 * n + 2 by omega, fm_2 _ _ _ _ _ _ _ hn]
    · rw [e, f5_3, show 6 + (5 * n + 3) = 6 + 5 * n + 3 by omega, fm_3 _ _ _ _ _ _ _ hn]
    · rw [e, f5_4, show 6 + (5 * n + 4) = 6 + 5 * n + 4 by omega, fm_4 _ _ _ _ _ _ _ hn]
  · rw [st9_n _ _ (by decide), st9_n _ _ (by decide), fm_n _ _ _ _ _ _ _ (by omega) (by omega)]
    exact h.2.2.2.1 d' hd'
  · rw [st9_n _ _ (by decide), st9_n _ _ (by decide), fm_n _ _ _ _ _ _ _ (by omega) (by omega)]
    exact h.2.2.2.2.1 d' hd'
  · rw [st9_n _ _ (by decide), st9_n _ _ (by decide), fm_n _ _ _ _ _ _ _ (by omega) (by omega)]
    exact h.2.2.2.2.2 d' hd'
theorem LR.pa {g : Nat → Int32} {n : Nat} {t : S9} (h : LR g n t) {d q : Nat} (hd : d < 35) (hq : q = 0) {x : Int32} (hx : x = -6 ∨ ∃ f : Nat, f < n ∧ x = nI f) : LR (upd g (46 + (2 * d + q)) x) n (st9 t 2 (upd (t 2) d (sh0 x))) := by
  have h8 := h.n8
  subst hq
  refine ⟨wfH_upd h.1 (by omega) hx, fun i hi => ?_, fun i hi => ?_, fun d' hd' => ?_, fun d' hd' => ?_, fun d' hd' => ?_⟩
  · rw [st9_n _ _ (by decide), upd_n _ _ (by omega)]
    exact h.q hi
  · rw [st9_n _ _ (by decide), upd_n _ _ (by omega)]
    exact h.2.2.1 i hi
  · rw [st9_s]
    by_cases e : d' = d
    · subst e
      rw [upd_s, upd_s]
    · rw [upd_n _ _ e, upd_n _ _ (by omega)]
      exact h.2.2.2.1 d' hd'
  · rw [st9_n _ _ (by decide), upd_n _ _ (by omega)]
    exact h.2.2.2.2.1 d' hd'
  · rw [st9_n _ _ (by decide), upd_n _ _ (by omega)]
    exact h.2.2.2.2.2 d' hd'
theorem LR.pe {g : Nat → Int32} {n : Nat} {t : S9} (h : LR g n t) {d q : Nat} (hd : d < 35) (hq : q = 1) {x : Int32} (hx : x = -6 ∨ ∃ f : Nat, f < n ∧ x = nI f) : LR (upd g (46 + (2 * d + q)) x) n (st9 t 3 (upd (t 3) d (sh0 x))) := by
  have h8 := h.n8
  subst hq
  refine ⟨wfH_upd h.1 (by omega) hx, fun i hi => ?_, fun i hi => ?_, fun d' hd' => ?_, fun d' hd' => ?_, fun d' hd' => ?_⟩
  · rw [st9_n _ _ (by decide), upd_n _ _ (by omega)]
    exact h.q hi
  · rw [st9_n _ _ (by decide), upd_n _ _ (by omega)]
    exact h.2.2.1 i hi
  · rw [st9_n _ _ (by decide), upd_n _ _ (by omega)]
    exact h.2.2.2.1 d' hd'
  · rw [st9_s]
    by_cases e : d' = d
    · subst e
      rw [upd_s, upd_s]
    · rw [upd_n _ _ e, upd_n _ _ (by omega)]
      exact h.2.2.2.2.1 d' hd'
  · rw [st9_n _ _ (by decide), upd_n _ _ (by omega)]
    exact h.2.2.2.2.2 d' hd'
theorem LR.pr {g : Nat → Int32} {n : Nat} {t : S9} (h : LR g n t) {d v : Nat} (hd : d < 35) (hv : v ≤ 999) : LR (upd g (116 + d) (nI v)) n (st9 t 4 (upd (t 4) d (nI v))) := by
  have h8 := h.n8
  refine ⟨wfH_rent h.1 hv, fun i hi => ?_, fun i hi => ?_, fun d' hd' => ?_, fun d' hd' => ?_, fun d' hd' => ?_⟩
  · rw [st9_n _ _ (by decide), upd_n _ _ (by omega)]
    exact h.q hi
  · rw [st9_n _ _ (by decide), upd_n _ _ (by omega)]
    exact h.2.2.1 i hi
  · rw [st9_n _ _ (by decide), upd_n _ _ (by omega)]
    exact h.2.2.2.1 d' hd'
  · rw [st9_n _ _ (by decide), upd_n _ _ (by omega)]
    exact h.2.2.2.2.1 d' hd'
  · rw [st9_s]
    by_cases e : d' = d
    · subst e
      rw [upd_s, upd_s]
    · rw [upd_n _ _ e, upd_n _ _ (by omega)]
      exact h.2.2.2.2.2 d' hd'
theorem LR.ps {g : Nat → Int32} {n : Nat} {t : S9} (h : LR g n t) {i : Nat} (hi : i < 5) {v : Int32} : LR (upd g i v) n (st9 t 0 (upd (t 0) i v)) := by
  have h8 := h.n8
  refine ⟨wfH_set h.1 hi, fun j hj => ?_, fun j hj => ?_, fun d' hd' => ?_, fun d' hd' => ?_, fun d' hd' => ?_⟩
  · rw [st9_s]
    by_cases e : j = i
    · subst e
      rw [upd_s, upd_s]
    · rw [upd_n _ _ e, upd_n _ _ e]
      exact h.q hj
  · rw [st9_n _ _ (by decide), upd_n _ _ (by omega)]
    exact h.2.2.1 j hj
  · rw [st9_n _ _ (by decide), upd_n _ _ (by omega)]
    exact h.2.2.2.1 d' hd'
  · rw [st9_n _ _ (by decide), upd_n _ _ (by omega)]
    exact h.2.2.2.2.1 d' hd'
  · rw [st9_n _ _ (by decide), upd_n _ _ (by omega)]
    exact h.2.2.2.2.2 d' hd'
theorem LR.same {g : Nat → Int32} {n : Nat} {t : S9} {k : Nat} (h : LR (upd g (46 + k) (-6)) n t) (hs : g (46 + k) = -6) : LR g n t := by
  have e : upd g (46 + k) (-6) = g := by
    funext j
    by_cases q : j = 46 + k
    · rw [q, upd_s, hs]
    · rw [upd_n _ _ q]
  rw [e] at h
  exact h
theorem sh0_f1 {f : Nat} (h : f < 8) : nI f + 1 = sh0 (nI f) := (if_neg (n6_ne (by omega))).symm
theorem fl0_1 (x : Int32) : fl0 x + 1 = sh0 x := by
  unfold fl0 sh0
  by_cases h : x = -6
  · rw [if_pos h, if_pos h]; rfl
  · rw [if_neg h, if_neg h]
theorem fl0_e {x : Int32} (h : ¬ x = -6) : fl0 x = x := if_neg h
theorem fl0_6 {x : Int32} (h : x = -6) : ¬ 0 ≤ fl0 x := by
  rw [fl0, if_pos h]
  decide
theorem fl0_p {g : Nat → Int32} {n k : Nat} (hw : wfH g n) (hk : k < 70) (h : ¬ g (46 + k) = -6) : 0 ≤ fl0 (g (46 + k)) := by
  have h8 := hw.1.2.1
  rcases hw.1.2.2 k hk with e | ⟨f, hf, e⟩
  · exact absurd e h
  · rw [fl0_e h, e]
    exact nI_pos' (by omega)
theorem q01 {q : Nat} (hq : q < 2) (h : ¬ nI q = 0) : q = 1 := by
  rcases (show q = 0 ∨ q = 1 by omega) with e | e
  · exact absurd (by rw [e]; rfl) h
  · exact e
theorem q00 {q : Nat} (hq : q < 2) (h : nI q = 0) : q = 0 := nI_inj (b := 0) (by omega) (by omega) h
theorem let_1 {g : Nat → Int32} {n d : Nat} (hw : wfH g n) (hd : d < 35) (h : ¬ g (116 + d) = 0) : ¬ p_let g d = 0 := by
  obtain ⟨v, hv, e⟩ := hw.2.2 d hd
  rw [p_let, if_neg]
  · decide
  · rw [e] at h ⊢
    exact nI_nle (Nat.pos_of_ne_zero (fun z => h (by rw [z]; rfl))) (by omega)
theorem let_0 {g : Nat → Int32} {d : Nat} (h : g (116 + d) = 0) : p_let g d = 0 := by rw [p_let, if_pos (by rw [h]; decide)]
theorem cs_let {g : Nat → Int32} {n f d : Nat} (hw : wfH g n) (hd : d < 35) (h : ¬ g (116 + d) = 0) : p_canShow g f d = 0 := by rw [p_canShow, if_pos (let_1 hw hd h)]
theorem cs_first {g : Nat → Int32} {f d : Nat} (h : nI d < g (6 + 5 * f + 4)) : p_canShow g f d = 0 := by
  rw [p_canShow]
  by_cases e : ¬ p_let g d = 0
  · rw [if_pos e]
  · rw [if_neg e, if_pos h]
theorem cs_can {g : Nat → Int32} {f d : Nat} (h0 : g (116 + d) = 0) (h : ¬ nI d < g (6 + 5 * f + 4)) : ¬ p_canShow g f d = 0 := by
  rw [p_canShow, if_neg (fun q => q (let_0 h0)), if_neg h]
  decide
theorem cb_let {g : Nat → Int32} {n d : Nat} (hw : wfH g n) (hd : d < 35) (h : ¬ g (116 + d) = 0) (x : Int32) : p_canBe g x d = 0 := by rw [p_canBe, if_pos (let_1 hw hd h)]
theorem cb_n {g : Nat → Int32} {d : Nat} {x : Int32} (h0 : g (116 + d) = 0) (hx : x = -6) : ¬ p_canBe g x d = 0 := by
  rw [p_canBe, if_neg (fun q => q (let_0 h0)), if_pos hx]
  decide
theorem cb_lt {g : Nat → Int32} {f d : Nat} {x : Int32} (hf : f < 8) (hx : x = nI f) (h : nI d < g (6 + 5 * f + 4)) : p_canBe g x d = 0 := by
  rw [p_canBe]
  by_cases e : ¬ p_let g d = 0
  · rw [if_pos e]
  · rw [if_neg e, hx, if_neg (n6_ne (by omega)), nI_cl (by omega), if_pos h]
theorem cb_g {g : Nat → Int32} {f d : Nat} {x : Int32} (h0 : g (116 + d) = 0) (hf : f < 8) (hx : x = nI f) (h : ¬ nI d < g (6 + 5 * f + 4)) : ¬ p_canBe g x d = 0 := by
  rw [p_canBe, if_neg (fun q => q (let_0 h0)), hx, if_neg (n6_ne (by omega)), nI_cl (by omega), if_neg h]
  decide
theorem letR_0 (g : Nat → Int32) (d : Nat) : q_letR g d (nI 0) = upd g (116 + d) (nI 0) := by rw [q_letR, if_pos (by decide)]
theorem letR_1 (g : Nat → Int32) (d : Nat) {v : Nat} (h0 : 0 < v) (hv : v ≤ 999) : q_letR g d (nI v) = upd (upd (upd g (46 + (2 * d + 0)) (-6)) (46 + (2 * d + 1)) (-6)) (116 + d) (nI v) := by
  rw [q_letR, if_neg (nI_nle h0 (by omega))]
  congr 1
theorem lt_0z {g : Nat → Int32} {n d : Nat} (hw : wfH g n) (hd : d < 35) (h : sh0 (g (46 + 2 * d)) ≤ 0) : q_lt g d 0 = 0 := by
  have e : g (46 + 2 * d) = -6 := by
    by_cases q : g (46 + 2 * d) = -6
    · exact q
    · exact absurd h (Int32.not_le.mpr ((sh0_z hw (k := 2 * d) (by omega)).mpr q))
  exact if_pos e
theorem lt_0p {g : Nat → Int32} {n d : Nat} (hw : wfH g n) (hd : d < 35) (h : ¬ sh0 (g (46 + 2 * d)) ≤ 0) : q_lt g d 0 = 1 := if_neg (fun e => absurd (Int32.not_le.mp h) (fun q => (sh0_z hw (k := 2 * d) (by omega)).mp q e))
theorem lt_1z {g : Nat → Int32} {n d : Nat} (hw : wfH g n) (hd : d < 35) (h : sh0 (g (46 + (2 * d + 1))) ≤ 0) : q_lt g d 1 = 0 := by
  have e : g (46 + (2 * d + 1)) = -6 := by
    by_cases q : g (46 + (2 * d + 1)) = -6
    · exact q
    · exact absurd h (Int32.not_le.mpr ((sh0_z hw (k := 2 * d + 1) (by omega)).mpr q))
  rw [q_lt, show 46 + 2 * d + 1 = 46 + (2 * d + 1) by omega, if_pos e]
theorem lt_1p {g : Nat → Int32} {n d : Nat} (hw : wfH g n) (hd : d < 35) (h : ¬ sh0 (g (46 + (2 * d + 1))) ≤ 0) : q_lt g d 1 = 1 := by
  rw [q_lt, show 46 + 2 * d + 1 = 46 + (2 * d + 1) by omega, if_neg (fun e => absurd (Int32.not_le.mp h) (fun q => (sh0_z hw (k := 2 * d + 1) (by omega)).mp q e))]
theorem lq_s {g : Nat → Int32} {d : Nat} {a b : Int32} (ha : q_lt g d 0 = a) (hb : q_lt g d 1 = b) : a + b = sm9 (q_lt g d) 2 := by
  rw [sm9, sm9, sm9, ha, hb, Int32.zero_add]
theorem se_0 {x : Int32} {k : Nat} (hx : x = 0) (hk : k < 291) : q_setE x (10 + nI k) = 0 := by
  have e : p_in (10 + nI k) 10 300 = 1 := by
    rw [show (10 : Int32) + nI k = nI (10 + k) from nI_add 10 k]
    exact p_in_ok2 (b := 10) (n := 300) (by omega) (by omega) (by decide)
  have hv : p_val x (10 + nI k) = 1 := by rw [p_val, if_pos hx, e]
  rw [q_setE, hv, if_neg (by decide)]
theorem se_1 {x : Int32} {k : Nat} (hx : x = 1) (hk : k < 20) : q_setE x (1 + nI k) = 0 := by
  have e : p_in (1 + nI k) 1 20 = 1 := by
    rw [show (1 : Int32) + nI k = nI (1 + k) from nI_add 1 k]
    exact p_in_ok2 (b := 1) (n := 20) (by omega) (by omega) (by decide)
  have hv : p_val x (1 + nI k) = 1 := by rw [p_val, hx, if_neg (by decide), if_pos rfl, e]
  rw [q_setE, hv, if_neg (by decide)]
theorem se_2 {x : Int32} {k : Nat} (hx : x = 2) (hk : k < 201) : q_setE x (nI k) = 0 := by
  have e : p_in (nI k) 0 200 = 1 := p_in_ok (n := 200) (by omega) (by decide)
  have hv : p_val x (nI k) = 1 := by rw [p_val, hx, if_neg (by decide), if_neg (by decide), if_pos rfl, e]
  rw [q_setE, hv, if_neg (by decide)]
theorem se_3 {i k : Nat} (hi : i < 5) (h0 : ¬ nI i = 0) (h1 : ¬ nI i = 1) (h2 : ¬ nI i = 2) (hk : k < 100) : q_setE (nI i) (1 + nI k) = 0 := by
  have e : p_in (1 + nI k) 1 100 = 1 := by
    rw [show (1 : Int32) + nI k = nI (1 + k) from nI_add 1 k]
    exact p_in_ok2 (b := 1) (n := 100) (by omega) (by omega) (by decide)
  have hv : p_val (nI i) (1 + nI k) = 1 := by
    rw [p_val, if_neg h0, if_neg h1, if_neg h2, e]
    rcases (show i = 0 ∨ i = 1 ∨ i = 2 ∨ i = 3 ∨ i = 4 by omega) with z | z | z | z | z
    · exact absurd (by rw [z]; rfl) h0
    · exact absurd (by rw [z]; rfl) h1
    · exact absurd (by rw [z]; rfl) h2
    · rw [z, if_pos (show nI 3 = 3 from rfl)]
    · rw [z, if_neg (show ¬ nI 4 = 3 by decide), if_pos (show nI 4 = 4 from rfl)]
  rw [q_setE, hv, if_neg (by decide)]
/-! the beginning -/
theorem wf_r0 : wfH r0 0 := by
  refine ⟨⟨rfl, by decide, fun k hk => Or.inl ?_⟩, fun f hf => absurd hf (Nat.not_lt_zero f), fun d hd => ⟨0, by decide, ?_⟩⟩
  · show rF fsF 70 (46 + k) = -6
    rw [rF, if_pos (by omega)]
  · show rF fsF 70 (116 + d) = nI 0
    rw [rF, if_neg (by omega), show 116 + d = (111 + d) + 5 by omega]
    rfl
theorem IC_0 : IC r0 0 iC0 := ⟨rfl, wf_r0, 0, 0, rfl, by decide, rfl, by decide⟩
def t00 : S9 := fun _ _ => 0
def q00F : Nat → Int32 := upd (upd (upd (upd (upd (fun _ => 0) 0 80) 1 6) 2 30) 3 40) 4 20
theorem LR_0 : LR r0 0 (st9 t00 0 q00F) := by
  refine ⟨wf_r0, fun i hi => ?_, fun i hi => absurd hi (Nat.not_lt_zero i), fun d hd => ?_, fun d hd => ?_, fun d hd => ?_⟩
  · rw [st9_s]
    rcases (show i = 0 ∨ i = 1 ∨ i = 2 ∨ i = 3 ∨ i = 4 ∨ i = 5 by omega) with rfl | rfl | rfl | rfl | rfl | rfl <;> rfl
  · rw [st9_n _ _ (by decide), show r0 (46 + (2 * d + 0)) = -6 from (wf_r0.1.2.2 (2 * d + 0) (by omega)).elim id (fun ⟨f, hf, _⟩ => absurd hf (Nat.not_lt_zero f))]
    rfl
  · rw [st9_n _ _ (by decide), show r0 (46 + (2 * d + 1)) = -6 from (wf_r0.1.2.2 (2 * d + 1) (by omega)).elim id (fun ⟨f, hf, _⟩ => absurd hf (Nat.not_lt_zero f))]
    rfl
  · rw [st9_n _ _ (by decide)]
    show (0 : Int32) = rF fsF 70 (116 + d)
    rw [rF, if_neg (by omega), show 116 + d = (111 + d) + 5 by omega]
    rfl

/-! ===== the law: two worlds side by side; the answers of both sides ===== -/
theorem P_left {D : va_G} {cl : List vw_C} {W1 W2 : va_W} {H : Heap} (h : va_P D cl (W1 ++ W2) H) : va_P D cl W1 H := fun k q hq => h k q (by rw [List.getElem?_append_left (List.getElem?_eq_some_iff.mp hq).1]; exact hq)
theorem P_right {D : va_G} {cl : List vw_C} {W1 W2 : va_W} {H : Heap} (h : va_P D cl (W1 ++ W2) H) : va_P D cl W2 H := fun k q hq => h (W1.length + k) q (by rw [List.getElem?_append_right (by omega), Nat.add_sub_cancel_left]; exact hq)
theorem D_left {A : Nat → Prop} {W1 W2 : va_W} (h : va_D A (W1 ++ W2)) : va_D A W1 := ⟨fun i j p q hi hj e => h.1 i j p q (by rw [List.getElem?_append_left (List.getElem?_eq_some_iff.mp hi).1]; exact hi) (by rw [List.getElem?_append_left (List.getElem?_eq_some_iff.mp hj).1]; exact hj) e, fun k q hq => h.2 k q (by rw [List.getElem?_append_left (List.getElem?_eq_some_iff.mp hq).1]; exact hq)⟩
theorem D_right {A : Nat → Prop} {W1 W2 : va_W} (h : va_D A (W1 ++ W2)) : va_D A W2 := ⟨fun i j p q hi hj e => by
  have := h.1 (W1.length + i) (W1.length + j) p q (by rw [List.getElem?_append_right (by omega), Nat.add_sub_cancel_left]; exact hi) (by rw [List.getElem?_append_right (by omega), Nat.add_sub_cancel_left]; exact hj) e
  omega, fun k q hq => h.2 (W1.length + k) q (by rw [List.getElem?_append_right (by omega), Nat.add_sub_cancel_left]; exact hq)⟩
theorem D_apart {A : Nat → Prop} {W1 W2 : va_W} (h : va_D A (W1 ++ W2)) {i j : Nat} {p q : Nat × va_E} (hi : W1[i]? = some p) (hj : W2[j]? = some q) : p.1 ≠ q.1 := fun e => by
  have hl := (List.getElem?_eq_some_iff.mp hi).1
  have := h.1 i (W1.length + j) p q (by rw [List.getElem?_append_left hl]; exact hi) (by rw [List.getElem?_append_right (by omega), Nat.add_sub_cancel_left]; exact hj) e
  omega
theorem free_9 {A : Nat → Prop} {W : va_W} {H0 H : Heap} {locs : List Loc} (hD : va_D A W) (hS : va_S A H0 H locs) (hA : ∀ q, H0.size ≤ q → A q) : ∀ q, va_A W H.size q → A q := by
  intro q hq
  rcases hq with ⟨k, e, hk⟩ | hle
  · exact hD.2 k (q, e) hk
  · exact hA q (Nat.le_trans hS.1 hle)
theorem join_l {A : Nat → Prop} {D : va_G} {cl : List vw_C} {W1 W2 U1 : va_W} {H H1 : Heap} (hP : va_P D cl (W1 ++ W2) H) (hD : va_D A (W1 ++ W2)) (hF : ∀ q, va_A W1 H.size q → A q) (hk : ∀ q : Nat, q < H.size → ¬ va_A W1 H.size q → H1[q]? = H[q]?) (hP1 : va_P D cl U1 H1) (hD1 : va_D (va_A W1 H.size) U1) : va_P D cl (U1 ++ W2) H1 ∧ va_D A (U1 ++ W2) := by
  have hn : ∀ (k : Nat) (q : Nat × va_E), W2[k]? = some q → ¬ va_A W1 H.size q.1 := by
    rintro k q hq (⟨i, e, hi⟩ | hle)
    · exact D_apart hD hi hq rfl
    · have := (P_right hP k q hq).lt
      omega
  exact ⟨hP1.app ((P_right hP).kept (fun k q hq => hk q.1 ((P_right hP k q hq).lt) (hn k q hq))), (hD1.weaken (fun _ _ _ h => hF _ h)).app (D_right hD) (fun i j p q hi hj e => hn j q hj (e ▸ hD1.2 i p hi))⟩
theorem join_r {A : Nat → Prop} {D : va_G} {cl : List vw_C} {W1 W2 U2 : va_W} {H H1 : Heap} (hP : va_P D cl (W1 ++ W2) H) (hD : va_D A (W1 ++ W2)) (hF : ∀ q, va_A W2 H.size q → A q) (hk : ∀ q : Nat, q < H.size → ¬ va_A W2 H.size q → H1[q]? = H[q]?) (hP1 : va_P D cl U2 H1) (hD1 : va_D (va_A W2 H.size) U2) : va_P D cl (W1 ++ U2) H1 ∧ va_D A (W1 ++ U2) := by
  have hn : ∀ (k : Nat) (q : Nat × va_E), W1[k]? = some q → ¬ va_A W2 H.size q.1 := by
    rintro k q hq (⟨i, e, hi⟩ | hle)
    · exact D_apart hD hq hi rfl
    · have := (P_left hP k q hq).lt
      omega
  exact ⟨((P_left hP).kept (fun k q hq => hk q.1 ((P_left hP k q hq).lt) (hn k q hq))).app hP1, (D_left hD).app (hD1.weaken (fun _ _ _ h => hF _ h)) (fun i j p q hi hj e => hn i p hi (e ▸ hD1.2 j q hj))⟩
section VL2
variable {p : Program} {l : Launch} {e : Env} {R : Room} {s : State} {m : MethodId} {args : Array Value} {below : List Frame} {meth : Method} {c : Code} {cells slots : Nat} {Q : State → Prop}
variable {τ1 τ2 : Type} {w1 : τ1 → va_W} {w2 : τ2 → va_W} {D : va_G} {A : Nat → Prop} {nL : Nat} {cc : ByteArray} {Ts : List Cond} {own : String} {tys : List (ClassId × FieldType)} {σ1 : τ1} {σ2 : τ2} {pc pc' : Nat} {lv lv' : List (Nat × Value)} {st rest : List Value}
theorem v_callVL (C : CX p m c cc nL s args Ts own A s.heap) (K : va_K D vwCl tys s) {y : MethodName} {ws ws' : List Cond} {rm : Room} {bytes : ByteArray} {maxL n index : Nat} {ret : Option FieldType} {As st0 : List Value} {C' : String} {b ci : Nat} {fs : List Value} {q : vw_C} {post : Int32 → τ1 → Prop} (hM : CMi l w1 D tys y ws rm (.ref b :: As) σ1 post) (hG : GoodIn Ts (wsV own index C' y ws)) (hw : ws = Cond.code y bytes maxL ret :: ws') (hd : y.cls = C' ∧ y.cls ≠ "java/lang/invoke/MethodHandle" ∧ y.cls ≠ "java/lang/invoke/VarHandle" ∧ (parseMethodDescriptor y.desc).map (fun d => d.parameters.length) = some n) (hrm : rm.cells = 0 ∧ rm.slots = 0) (hR : rm.frames + 1 ≤ R.frames ∧ 8 + (maxL + 11) + rm.locals ≤ R.locals) (q0 : Nat) (he : (w1 σ1)[q0]? = some (b, .inr (ci, fs))) (hc : vwCl[ci]? = some q) (hq : q.1 = C') (hst : st0 = As.reverse ++ .ref b :: rest) (hn : As.length = n) (hcat : (rest.map fun v => v.category).sum ≤ 8) (hcs : cells ≤ R.cells ∧ slots ≤ R.slots) (hdg : decode cc pc = .ok (.invokevirtual index, 3)) (hp : pc + 3 = pc') (kk : ∀ (r : Int32) (u : τ1), post r u → VV p l e R s m args below meth c cells slots Q (fun u : τ1 × τ2 => w1 u.1 ++ w2 u.2) D A s.heap nL (u, σ2) pc' lv (.int r :: rest)) : VV p l e R s m args below meth c cells slots Q (fun u : τ1 × τ2 => w1 u.1 ++ w2 u.2) D A s.heap nL (σ1, σ2) pc lv st0 := by
  subst hst
  subst hp
  subst hq
  intro H locs ls hP hD hS h
  have hF := free_9 (D_left hD) hS C.2
  refine va_calli (va_runV (As := As) (rest := rest) C.1 (hM H.size) (cwV n C.1.2.2.2.2 hG hw hrm.1 hrm.2 hd hR) ⟨v9_blind, va_recv K (P_left hP) hc he, fun U hU hW => ⟨rfl, by rw [hU], by rw [hU]; exact P_left hP, va_K.moved hW.alike K, (D_left hD).weaken (fun _ _ _ _ => trivial)⟩⟩ rfl hn h.1 rfl (lv_room hcat) hdg hcs) hS (fun q _ h => hF q h) hF (fun r u t H1 locs1 ht hvm hq2 hB hz hk hS1 => ?_)
  obtain ⟨hP1, hK1, hD1⟩ := hB
  rw [ht] at hP1
  obtain ⟨hP2, hD2⟩ := join_l hP hD hF hk hP1 hD1
  exact kk r u hq2 H1 locs1 ls hP2 hD2 hS1 h
theorem v_callVLE (C : CX p m c cc nL s args Ts own A s.heap) (K : va_K D vwCl tys s) {tl tm tf : Nat} (hE : zS tl tm tf A s s.heap) {y : MethodName} {ws ws' : List Cond} {rm : Room} {bytes : ByteArray} {maxL n index : Nat} {ret : Option FieldType} {As st0 : List Value} {C' : String} {b ci : Nat} {fs : List Value} {q : vw_C} {post : Int32 → τ1 → Prop} (hM : CMiE l w1 D tys y ws rm (.ref b :: As) σ1 tl tm tf post) (hG : GoodIn Ts (wsV own index C' y ws)) (hw : ws = Cond.code y bytes maxL ret :: ws') (hd : y.cls = C' ∧ y.cls ≠ "java/lang/invoke/MethodHandle" ∧ y.cls ≠ "java/lang/invoke/VarHandle" ∧ (parseMethodDescriptor y.desc).map (fun d => d.parameters.length) = some n) (hrm : rm.cells = 0 ∧ rm.slots = 0) (hR : rm.frames + 1 ≤ R.frames ∧ 8 + (maxL + 11) + rm.locals ≤ R.locals) (q0 : Nat) (he : (w1 σ1)[q0]? = some (b, .inr (ci, fs))) (hc : vwCl[ci]? = some q) (hq : q.1 = C') (hst : st0 = As.reverse ++ .ref b :: rest) (hn : As.length = n) (hcat : (rest.map fun v => v.category).sum ≤ 8) (hcs : cells ≤ R.cells ∧ slots ≤ R.slots) (hdg : decode cc pc = .ok (.invokevirtual index, 3)) (hp : pc + 3 = pc') (kk : ∀ (r : Int32) (u : τ1), post r u → VV p l e R s m args below meth c cells slots Q (fun u : τ1 × τ2 => w1 u.1 ++ w2 u.2) D A s.heap nL (u, σ2) pc' lv (.int r :: rest)) : VV p l e R s m args below meth c cells slots Q (fun u : τ1 × τ2 => w1 u.1 ++ w2 u.2) D A s.heap nL (σ1, σ2) pc lv st0 := by
  subst hst
  subst hp
  subst hq
  intro H locs ls hP hD hS h
  have hF := free_9 (D_left hD) hS C.2
  refine va_calli (va_runV (As := As) (rest := rest) C.1 (hM H.size) (cwV n C.1.2.2.2.2 hG hw hrm.1 hrm.2 hd hR) ⟨v9_blindE, va_recv K (P_left hP) hc he, fun U hU hW => ⟨rfl, by rw [hU], ⟨by rw [hU]; exact P_left hP, va_K.moved hW.alike K, (D_left hD).weaken (fun _ _ _ _ => trivial)⟩, ?_⟩⟩ rfl hn h.1 rfl (lv_room hcat) hdg hcs) hS (fun q _ h => hF q h) hF (fun r u t H1 locs1 ht hvm hq2 hB hz hk hS1 => ?_)
  · show zS tl tm tf _ U U.heap
    rw [hU]
    exact ((hE.moved hW.alike).kept hS.2.1).narrow hF
  · obtain ⟨hP1, hK1, hD1⟩ := hB
    rw [ht] at hP1
    obtain ⟨hP2, hD2⟩ := join_l hP hD hF hk hP1 hD1
    exact kk r u hq2 H1 locs1 ls hP2 hD2 hS1 h
theorem v_callVR (C : CX p m c cc nL s args Ts own A s.heap) (K : va_K D vwCl tys s) {y : MethodName} {ws ws' : List Cond} {rm : Room} {bytes : ByteArray} {maxL n index : Nat} {ret : Option FieldType} {As st0 : List Value} {C' : String} {b ci : Nat} {fs : List Value} {q : vw_C} {post : Int32 → τ2 → Prop} (hM : CMi l w2 D tys y ws rm (.ref b :: As) σ2 post) (hG : GoodIn Ts (wsV own index C' y ws)) (hw : ws = Cond.code y bytes maxL ret :: ws') (hd : y.cls = C' ∧ y.cls ≠ "java/lang/invoke/MethodHandle" ∧ y.cls ≠ "java/lang/invoke/VarHandle" ∧ (parseMethodDescriptor y.desc).map (fun d => d.parameters.length) = some n) (hrm : rm.cells = 0 ∧ rm.slots = 0) (hR : rm.frames + 1 ≤ R.frames ∧ 8 + (maxL + 11) + rm.locals ≤ R.locals) (q0 : Nat) (he : (w2 σ2)[q0]? = some (b, .inr (ci, fs))) (hc : vwCl[ci]? = some q) (hq : q.1 = C') (hst : st0 = As.reverse ++ .ref b :: rest) (hn : As.length = n) (hcat : (rest.map fun v => v.category).sum ≤ 8) (hcs : cells ≤ R.cells ∧ slots ≤ R.slots) (hdg : decode cc pc = .ok (.invokevirtual index, 3)) (hp : pc + 3 = pc') (kk : ∀ (r : Int32) (u : τ2), post r u → VV p l e R s m args below meth c cells slots Q (fun u : τ1 × τ2 => w1 u.1 ++ w2 u.2) D A s.heap nL (σ1, u) pc' lv (.int r :: rest)) : VV p l e R s m args below meth c cells slots Q (fun u : τ1 × τ2 => w1 u.1 ++ w2 u.2) D A s.heap nL (σ1, σ2) pc lv st0 := by
  subst hst
  subst hp
  subst hq
  intro H locs ls hP hD hS h
  have hF := free_9 (D_right hD) hS C.2
  refine va_calli (va_runV (As := As) (rest := rest) C.1 (hM H.size) (cwV n C.1.2.2.2.2 hG hw hrm.1 hrm.2 hd hR) ⟨v9_blind, va_recv K (P_right hP) hc he, fun U hU hW => ⟨rfl, by rw [hU], by rw [hU]; exact P_right hP, va_K.moved hW.alike K, (D_right hD).weaken (fun _ _ _ _ => trivial)⟩⟩ rfl hn h.1 rfl (lv_room hcat) hdg hcs) hS (fun q _ h => hF q h) hF (fun r u t H1 locs1 ht hvm hq2 hB hz hk hS1 => ?_)
  obtain ⟨hP1, hK1, hD1⟩ := hB
  rw [ht] at hP1
  obtain ⟨hP2, hD2⟩ := join_r hP hD hF hk hP1 hD1
  exact kk r u hq2 H1 locs1 ls hP2 hD2 hS1 h
theorem v_sld {τ : Type} {w : τ → va_W} {τσ : τ} (C : CX p m c cc nL s args Ts own A s.heap) {b L : Nat} {xs : Nat → Int32} (hX : va_X b L xs s s.heap) (hbl : b < s.heap.size) (hbA : ¬ A b) {i : Int32} (j : Nat) (hi : i = nI j) (hj : j < L) (hL : L ≤ 100000) (hdg : decode cc pc = .ok (.iaload, 1)) (hp : pc + 1 = pc') (kk : VV p l e R s m args below meth c cells slots Q w D A s.heap nL τσ pc' lv (.int (xs j) :: st)) : VV p l e R s m args below meth c cells slots Q w D A s.heap nL τσ pc lv (.int i :: .ref b :: st) := by
  subst hp
  obtain ⟨h1, h2⟩ := i9_in hi hj hL
  exact fun H locs ls hP hD hS h => va_sld C.1.1 C.1.2.1 hX hbl hbA hS h1 hdg (by rw [h2]; exact kk H locs ls hP hD hS h)
theorem v_slen {τ : Type} {w : τ → va_W} {τσ : τ} (C : CX p m c cc nL s args Ts own A s.heap) {b L : Nat} {xs : Nat → Int32} (hX : va_X b L xs s s.heap) (hbl : b < s.heap.size) (hbA : ¬ A b) (hdg : decode cc pc = .ok (.arraylength, 1)) (hp : pc + 1 = pc') (kk : VV p l e R s m args below meth c cells slots Q w D A s.heap nL τσ pc' lv (.int (nI L) :: st)) : VV p l e R s m args below meth c cells slots Q w D A s.heap nL τσ pc lv (.ref b :: st) := by
  subst hp
  exact fun H locs ls hP hD hS h => va_slen C.1.1 C.1.2.1 hX hbl hbA hS hdg (kk H locs ls hP hD hS h)
end VL2
/-! the answers of both sides -/
def SMx (u v : S9) : Prop := ∃ n o h L : Nat, SM u v n o h L
theorem sm_read {σ τ u v : S9} {n o h L : Nat} {r1 r2 X : Int32} (hs : SM σ τ n o h L) (h1 : r1 = X ∧ cc9 σ u) (h2 : r2 = X ∧ ms9 τ v) : r1 = r2 ∧ SMx u v := ⟨h1.1.trans h2.1.symm, n, o, h, L, hs.fr h1.2 h2.2⟩
theorem sm_same {σ τ u v : S9} {n o h L : Nat} {r1 r2 X : Int32} (hs : SM σ τ n o h L) (h1 : r1 = X ∧ u = σ) (h2 : r2 = X ∧ v = τ) : r1 = r2 ∧ SMx u v := by
  rw [h1.2, h2.2]
  exact ⟨h1.1.trans h2.1.symm, n, o, h, L, hs⟩
/-- a change: refused on both sides alike, or recorded and then done -/
theorem sm_chg {σ τ u v : S9} {n o h L n2 : Nat} {r1 r2 E X : Int32} {row : Nat → Int32} (hs : SM σ τ n o h L) (hw : E = 0 → wfH row n2) (h1 : (E = 0 → r1 = X ∧ u = st9 (hsM σ o h) 0 row) ∧ (¬ E = 0 → r1 = E ∧ u = σ)) (h2 : (E = 0 → r2 = X ∧ v = st9 (rcM τ h) 0 row) ∧ (¬ E = 0 → r2 = E ∧ v = τ)) : r1 = r2 ∧ SMx u v := by
  by_cases hE : E = 0
  · obtain ⟨a1, rfl⟩ := h1.1 hE
    obtain ⟨b1, rfl⟩ := h2.1 hE
    obtain ⟨o2, h2', hr⟩ := hs.rec (hw hE)
    exact ⟨a1.trans b1.symm, n2, o2, h2', L, hr⟩
  · exact sm_same hs (h1.2 hE) (h2.2 hE)
theorem sm_chgF {σ τ u v : S9} {n o h L n2 : Nat} {r1 r2 E X : Int32} {row : Nat → Int32} (hs : SM σ τ n o h L) (hw : E = 0 → wfH row n2) (h1 : (E = 0 → r1 = X ∧ cc9 (st9 (hsM σ o h) 0 row) u) ∧ (¬ E = 0 → r1 = E ∧ u = σ)) (h2 : (E = 0 → r2 = X ∧ ms9 (st9 (rcM τ h) 0 row) v) ∧ (¬ E = 0 → r2 = E ∧ v = τ)) : r1 = r2 ∧ SMx u v := by
  by_cases hE : E = 0
  · obtain ⟨a1, a2⟩ := h1.1 hE
    obtain ⟨b1, b2⟩ := h2.1 hE
    obtain ⟨o2, h2', hr⟩ := hs.rec (hw hE)
    exact ⟨a1.trans b1.symm, n2, o2, h2', L, hr.fr a2 b2⟩
  · exact sm_same hs (h1.2 hE) (h2.2 hE)
theorem set_ix {x v : Int32} (h : q_setE x v = 0) : x.toNatClampNeg < 5 := by
  have h1 : ¬ p_val x v = 0 := fun e => by
    unfold q_setE at h
    rw [if_pos e] at h
    exact absurd h (by decide)
  have h2 : ¬ p_in x 0 4 = 0 := fun e => h1 (val_no v e)
  obtain ⟨j, hj, rfl⟩ := p_in_nI (n := 4) (by decide) h2
  rw [nI_cl (by omega)]
  omega
theorem wf_show {r : Nat → Int32} {n : Nat} {f d q : Int32} (hw : wfH r n) (hE : p_why r f d q = 0) : wfH (upd r (46 + q_k d q) f) n := by
  obtain ⟨-, f', d', q', hf, hd, hq, rfl, rfl, rfl, -⟩ := p_why_ge hw.1.1 hw.1.2.1 (show 0 ≤ p_why r f d q by rw [hE]; decide)
  rw [q_k, nI_cl (by omega), nI_cl (by omega)]
  exact wfH_upd hw (k70 hd hq) (Or.inr ⟨f', hf, rfl⟩)
theorem qk_lt {d q : Int32} (hp : ¬ p_part d q = 0) : q_k d q < 70 := by
  obtain ⟨i, j, hi, hj, rfl, rfl⟩ := p_part_ne hp
  rw [q_k, nI_cl (by omega), nI_cl (by omega)]
  exact k70 hi hj
theorem wf_drop {r : Nat → Int32} {n : Nat} {d q : Int32} (hw : wfH r n) (hp : ¬ p_part d q = 0) : wfH (upd r (46 + q_k d q) (-6)) n := wfH_upd hw (qk_lt hp) (Or.inl rfl)
theorem wf_ex {r : Nat → Int32} {n : Nat} {k k2 : Nat} (hw : wfH r n) (hk : k < 70) (hk2 : k2 < 70) : wfH (q_exR r k k2) n := wfH_upd (wfH_upd hw hk (hw.1.2.2 k2 hk2)) hk2 (hw.1.2.2 k hk)
theorem sm_carry {σ τ u v : S9} {n o h L : Nat} {r1 r2 : Int32} (hs : SM σ τ n o h L) (h1 : (ffl (σ 6) L 61 0 = -6 → r1 = nI (cy (σ 6) L 61 (σ 0) 0).1 ∧ u = st9 (st9 (hsM σ o h) 0 (cy (σ 6) L 61 (σ 0) 0).2) 7 (upd (σ 7) 0 0)) ∧ (¬ ffl (σ 6) L 61 0 = -6 → r1 = -3 ∧ u = σ)) (h2 : (ffl (τ 4) L 61 0 = -6 → r2 = nI (cy (τ 4) L 61 (τ 0) 0).1 ∧ cyE τ h L v) ∧ (¬ ffl (τ 4) L 61 0 = -6 → r2 = -3 ∧ tx9 τ v)) : r1 = r2 ∧ SMx u v := by
  have e0 : τ 0 = σ 0 := hs.2.1
  have ec := hs.chr
  rw [ffl_cg ec, cy_cg ec, e0] at h2
  by_cases hf : ffl (σ 6) L 61 0 = -6
  · obtain ⟨a1, rfl⟩ := h1.1 hf
    obtain ⟨b1, b2⟩ := h2.1 hf
    obtain ⟨o2, h2', hr⟩ := hs.carry b2
    exact ⟨a1.trans b1.symm, n, o2, h2', 0, hr⟩
  · obtain ⟨a1, rfl⟩ := h1.2 hf
    obtain ⟨b1, b2⟩ := h2.2 hf
    exact ⟨a1.trans b1.symm, n, o, h, L, hs.fr (cc9_rf _) (ms9_tx b2)⟩
theorem sm_undo {σ τ u v : S9} {n o h L : Nat} {r1 r2 : Int32} (hs : SM σ τ n o h L) (h1 : (h = 0 → r1 = -5 ∧ u = σ) ∧ (¬ h = 0 → r1 = nI (h - 1) ∧ u = tbM σ o (h - 1))) (h2 : (h = 0 → r2 = -5 ∧ v = τ) ∧ (¬ h = 0 → r2 = nI (h - 1) ∧ v = un9 τ h)) : r1 = r2 ∧ SMx u v := by
  by_cases h0 : h = 0
  · exact sm_same hs (h1.1 h0) (h2.1 h0)
  · obtain ⟨a1, rfl⟩ := h1.2 h0
    obtain ⟨b1, rfl⟩ := h2.2 h0
    obtain ⟨n2, hr⟩ := hs.undo h0
    exact ⟨a1.trans b1.symm, n2, o, h - 1, L, hr⟩
theorem sm_save {σ τ u v : S9} {n o h L : Nat} {r1 r2 t : Int32} (hs : SM σ τ n o h L) (h1 : (¬ p_in t 0 1 = 0 → r1 = sm9 (shT (σ 0)) 70 ∧ u = c_savS σ t.toNatClampNeg) ∧ (p_in t 0 1 = 0 → r1 = -2 ∧ u = σ)) (h2 : (¬ p_in t 0 1 = 0 → r2 = sm9 (shT (τ 0)) 70 ∧ v = q_savS τ t.toNatClampNeg) ∧ (p_in t 0 1 = 0 → r2 = -2 ∧ v = τ)) : r1 = r2 ∧ SMx u v := by
  by_cases h0 : p_in t 0 1 = 0
  · exact sm_same hs (h1.2 h0) (h2.2 h0)
  · obtain ⟨a1, rfl⟩ := h1.1 h0
    obtain ⟨b1, rfl⟩ := h2.1 h0
    rw [hs.2.1] at b1
    obtain ⟨j, hj, rfl⟩ := p_in_nI (n := 1) (by decide) h0
    rw [nI_cl (by omega)]
    exact ⟨a1.trans b1.symm, n, o, h, L, hs.save (by omega)⟩
theorem res_ok {σ : S9} {t : Int32} (h : c_resE σ t = 0) : t.toNatClampNeg < 2 ∧ ¬ σ 9 t.toNatClampNeg = 0 := by
  unfold c_resE at h
  by_cases h0 : p_in t 0 1 = 0
  · rw [if_pos h0] at h
    exact absurd h (by decide)
  · rw [if_neg h0] at h
    by_cases h1 : σ 9 t.toNatClampNeg = 0
    · rw [if_pos h1] at h
      exact absurd h (by decide)
    · refine ⟨?_, h1⟩
      obtain ⟨j, hj, rfl⟩ := p_in_nI (n := 1) (by decide) h0
      rw [nI_cl (by omega)]
      omega
theorem sm_res {σ τ u v : S9} {n o h L : Nat} {r1 r2 t : Int32} (hs : SM σ τ n o h L) (h1 : (c_resE σ t = 0 → ¬ p_in t 0 1 = 0 ∧ r1 = sm9 (shT (va_cpy (hsM σ o h (10 + (6 + t.toNatClampNeg))) (σ 0) 0 0 151)) 70 ∧ u = st9 (hsM σ o h) 0 (va_cpy (hsM σ o h (10 + (6 + t.toNatClampNeg))) (σ 0) 0 0 151)) ∧ (¬ c_resE σ t = 0 → r1 = c_resE σ t ∧ u = σ)) (h2 : (q_resE τ t = 0 → ¬ p_in t 0 1 = 0 ∧ r2 = sm9 (shT (mvF (τ 2) (τ 0) (151 * t.toNatClampNeg) 0 151)) 70 ∧ v = st9 (rcM τ h) 0 (mvF (τ 2) (τ 0) (151 * t.toNatClampNeg) 0 151)) ∧ (¬ q_resE τ t = 0 → r2 = q_resE τ t ∧ v = τ)) : r1 = r2 ∧ SMx u v := by
  rw [hs.resE] at h2
  by_cases hE : c_resE σ t = 0
  · obtain ⟨g1, g2⟩ := res_ok hE
    obtain ⟨e, m, hw⟩ := hs.res g1 g2
    rw [e] at h2
    obtain ⟨-, a1, rfl⟩ := h1.1 hE
    obtain ⟨-, b1, rfl⟩ := h2.1 hE
    obtain ⟨o2, h2', hr⟩ := hs.rec hw
    exact ⟨a1.trans b1.symm, m, o2, h2', L, hr⟩
  · exact sm_same hs (h1.2 hE) (h2.2 hE)
theorem sm_put {σ τ u v : S9} {n o h L : Nat} {r1 r2 : Int32} {x : Int64} (hs : SM σ τ n o h L) (h1 : (q_putE x L = 0 → r1 = nI (L + (put9 x).1) ∧ L + (put9 x).1 ≤ 60 ∧ u = st9 (st9 σ 6 (ptF (σ 6) x L (put9 x).1 (put9 x).1)) 7 (upd (σ 7) 0 (nI (L + (put9 x).1)))) ∧ (¬ q_putE x L = 0 → r1 = q_putE x L ∧ u = σ)) (h2 : (q_putE x L = 0 → r2 = nI (L + (put9 x).1) ∧ L + (put9 x).1 ≤ 60 ∧ v = st9 (st9 τ 4 (ptF (τ 4) x L (put9 x).1 (put9 x).1)) 12 (upd (τ 12) 1 (nI (L + (put9 x).1)))) ∧ (¬ q_putE x L = 0 → r2 = q_putE x L ∧ v = τ)) : r1 = r2 ∧ SMx u v := by
  by_cases hE : q_putE x L = 0
  · obtain ⟨a1, a2, rfl⟩ := h1.1 hE
    obtain ⟨b1, -, rfl⟩ := h2.1 hE
    exact ⟨a1.trans b1.symm, n, o, h, L + (put9 x).1, hs.put a2⟩
  · exact sm_same hs (h1.2 hE) (h2.2 hE)
theorem sm_wipe {σ τ u v : S9} {n o h L : Nat} {r1 r2 : Int32} (hs : SM σ τ n o h L) (h1 : r1 = σ 7 0 ∧ u = st9 σ 7 (upd (σ 7) 0 0)) (h2 : r2 = τ 12 1 ∧ v = st9 τ 12 (upd (τ 12) 1 0)) : r1 = r2 ∧ SMx u v := by
  obtain ⟨a1, rfl⟩ := h1
  obtain ⟨b1, rfl⟩ := h2
  have hl := hs.2.2.2.2.2.1
  exact ⟨by rw [a1, b1, hl.1, hl.2.2], n, o, h, 0, hs.wipe⟩
theorem sm_fault {σ τ u v : S9} {n o h L : Nat} {r1 r2 : Int32} (hs : SM σ τ n o h L) (h1 : r1 = ffl (σ 6) L 61 0 ∧ u = σ) (h2 : r2 = ffl (τ 4) L 61 0 ∧ tx9 τ v) : r1 = r2 ∧ SMx u v := by
  rw [ffl_cg hs.chr] at h2
  obtain ⟨a1, rfl⟩ := h1
  exact ⟨a1.trans h2.1.symm, n, o, h, L, hs.fr (cc9_rf _) (ms9_tx h2.2)⟩
/-! numbers of the law's loop -/
theorem and31 (y : Int32) : ∃ j : Nat, j < 32 ∧ y &&& 31 = nI j := by
  refine ⟨(y &&& 31).toBitVec.toNat, ?_, ?_⟩
  · rw [Int32.toBitVec_and, BitVec.toNat_and]
    exact Nat.lt_of_le_of_lt Nat.and_le_right (by decide)
  · apply Int32.toBitVec_inj.mp
    show _ = BitVec.ofNat 32 _
    rw [BitVec.ofNat_toNat, BitVec.setWidth_eq]
theorem sub6 {k L : Nat} (hk : k ≤ 4000) (hL : L ≤ 4000) (h : ¬ nI L - 6 < nI k) : k + 6 ≤ L := by
  by_cases h6 : 6 ≤ L
  · obtain ⟨d, rfl⟩ := Nat.exists_eq_add_of_le h6
    have e : nI (6 + d) - 6 = nI d := by
      rw [Nat.add_comm, ← nI_add]
      exact Int32.add_sub_cancel (nI d) 6
    rw [e] at h
    have h5 : ¬ d < k := fun q => h ((nI_ltI (by omega) (by omega)).mpr q)
    omega
  · have hneg : nI L - 6 < 0 := by
      rcases (show L = 0 ∨ L = 1 ∨ L = 2 ∨ L = 3 ∨ L = 4 ∨ L = 5 by omega) with rfl | rfl | rfl | rfl | rfl | rfl <;> decide
    exact absurd (Int32.lt_of_lt_of_le hneg (nI_pos' (by omega))) h
theorem inc6 (k : Nat) : nI k + Int32.ofInt 6 = nI (k + 6) := by
  rw [show Int32.ofInt 6 = nI 6 by decide]
  exact nI_add k 6
/-! the law's beginning: the tables' words -/
theorem wT {i : Nat} {w : Cond} (h : tables_1[i]? = some w) : w ∈ lw_tbl := List.mem_append_right _ (List.mem_of_getElem? h)
theorem arr_k {args : Array Value} {s : State} {ty : FieldType} (h : (Cond.arrayClass ty).before args s = true) : ∃ cA : ClassId, ArrOfT s cA ty ∧ s.vm.findClass ("[" ++ ty.toString) = some cA := by
  obtain ⟨cA, kA, comp, h1, h2, h3⟩ := Cond.arrayClass_spec h
  exact ⟨cA, fun n z => ⟨fun k h => (by cases h), kA, h2, comp, h3⟩, h1⟩
theorem arr_q {args : Array Value} {s : State} (h : (Cond.arrayOver (.array .int)).before args s = true) : ∃ cA : ClassId, ArrOfT s cA (.array .int) ∧ s.vm.findClass ("[" ++ (FieldType.array .int).toString) = some cA := by
  obtain ⟨comp, cA, kA, -, -, h2, h3, h4⟩ := arrayOverA_spec h
  exact ⟨cA, fun n z => ⟨fun k h => (by cases h), kA, h2, comp, h3⟩, h4⟩
theorem law_K {args : Array Value} {s : State} (hts : ∀ w ∈ lw_tbl, w.before args s = true) : ∃ (D : va_G) (cI cC cZ cQ : ClassId), va_K D vwCl (cTy cI cC cZ cQ) s := by
  obtain ⟨cI, a1, a2⟩ := arr_k (hts (.arrayClass .int) (wT (i := 32) (by decide +kernel)))
  obtain ⟨cC, b1, b2⟩ := arr_k (hts (.arrayClass .char) (wT (i := 71) (by decide +kernel)))
  obtain ⟨cZ, z1, z2⟩ := arr_k (hts (.arrayClass .boolean) (wT (i := 110) (by decide +kernel)))
  obtain ⟨cQ, q1, q2⟩ := arr_q (hts (.arrayOver (.array .int)) (wT (i := 79) (by decide +kernel)))
  obtain ⟨c0, i0, k0⟩ := u_known (C := RX0) (T := TX0) (N := 6) (n := 6) hts inX0 (hts (.instantiable RX0 6) (wT (i := 34) (by decide +kernel)))
  obtain ⟨c1, i1, k1⟩ := u_known (C := RX1) (T := TX1) (N := 1) (n := 1) hts inX1 (hts (.instantiable RX1 1) (wT (i := 18) (by decide +kernel)))
  obtain ⟨c2, i2, k2⟩ := u_known (C := RX2) (T := TX2) (N := 3) (n := 3) hts inX2 (hts (.instantiable RX2 3) (wT (i := 73) (by decide +kernel)))
  obtain ⟨c3, i3, k3⟩ := u_known (C := RX3) (T := TX3) (N := 2) (n := 2) hts inX3 (hts (.instantiable RX3 2) (wT (i := 59) (by decide +kernel)))
  obtain ⟨c4, i4, k4⟩ := u_known (C := RX4) (T := TX4) (N := 6) (n := 6) hts inX4 (hts (.instantiable RX4 6) (wT (i := 10) (by decide +kernel)))
  obtain ⟨c5, i5, k5⟩ := u_known (C := RX5) (T := TX5) (N := 18) (n := 18) hts inX5 (hts (.instantiable RX5 18) (wT (i := 465) (by decide +kernel)))
  refine ⟨(fun k => match k with | 0 => c0 | 1 => c1 | 2 => c2 | 3 => c3 | 4 => c4 | _ => c5, fun k => match k with | 0 => i0 | 1 => i1 | 2 => i2 | 3 => i3 | 4 => i4 | _ => i5), cI, cC, cZ, cQ, ?_, ?_⟩
  · intro k q hq
    match k, hq with
    | 0, hq => cases hq; exact k0
    | 1, hq => cases hq; exact k1
    | 2, hq => cases hq; exact k2
    | 3, hq => cases hq; exact k3
    | 4, hq => cases hq; exact k4
    | 5, hq => cases hq; exact k5
    | k + 6, hq => simp [vwCl] at hq
  · intro k q hq
    match k, hq with
    | 0, hq => cases hq; exact ⟨a1, a2⟩
    | 1, hq => cases hq; exact ⟨b1, b2⟩
    | 2, hq => cases hq; exact ⟨z1, z2⟩
    | 3, hq => cases hq; exact ⟨q1, q2⟩
    | k + 4, hq => simp [cTy] at hq
theorem z_sz {args : Array Value} {s : State} {t : Term} {b : Nat} {cell : Cell} {n : Value} (hv : (Term.length t).eval args s none [] s = some n) (ht : t.eval args s none [] s = some (.ref b)) (hc : s.heap[b]? = some cell) : cell.slots.size < 2 ^ 31 := by
  obtain ⟨b', cell', ht', harr, -⟩ := Term.length_spec hv
  cases ht.symm.trans ht'
  obtain ⟨hcell, -, -, -⟩ := State.arrayAt?_spec harr
  cases hc.symm.trans hcell
  simp only [Term.eval, ht, harr, Option.bind_eq_bind, Option.bind_some] at hv
  by_cases hlt : cell.slots.size < 2147483648
  · exact hlt
  · simp [hlt] at hv
theorem z_of {args : Array Value} {s : State} {nm : String} {f : Nat → Int32} {A : Nat → Prop} (hl : (Cond.laysStatic "VillageCinema" nm "[I").before args s = true) (hini : (Cond.initialized "VillageCinema").before args s = true) (harr : (Cond.arrayOf (.static "VillageCinema" nm "[I") .int).before args s = true) (hlen : (Cond.eq (.length (.static "VillageCinema" nm "[I")) (.int 5)).before args s = true) (hel : ∀ j : Nat, j < 5 → (Cond.eq (.elem (.static "VillageCinema" nm "[I") (.int (Int32.ofNat j))) (.int (f j))).before args s = true) (hA : ∀ a : Nat, a < s.heap.size → ¬ A a) : ∃ t : Nat, z9 "VillageCinema" nm "[I" t 5 f A s s.heap := by
  obtain ⟨t, ht, hT⟩ := va_Tof (N := 5) (f := fun j => .int (f j)) (by decide) harr (va_eqt hlen) (fun j hj => va_eqt (hel j hj)) hA
  refine ⟨t, va_Zref hl hini ht hA, hT, ?_⟩
  obtain ⟨cell, h1, h2, h3, h4, h5, h6, h7⟩ := hT
  refine ⟨cell, h1, h2, h3, ?_, h6⟩
  exact (nI_eq (z_sz (va_eqt hlen) ht h1) (by decide)).mp h5
theorem law_z {args : Array Value} {s : State} (hts : ∀ w ∈ lw_tbl, w.before args s = true) (hgv : (Jvm.Cond.and given_1 narrow_1).before args s = true) {A : Nat → Prop} (hA : ∀ a : Nat, a < s.heap.size → ¬ A a) : ∃ tl tm tf : Nat, zS tl tm tf A s s.heap := by
  have hs := flat_of_before _ hgv
  have hi := hts (.initialized "VillageCinema") (wT (i := 1) (by decide +kernel))
  obtain ⟨tl, h1⟩ := z_of (nm := "LEAST_SETTING") (f := lsF) (hts (.laysStatic "VillageCinema" "LEAST_SETTING" "[I") (wT (i := 119) (by decide +kernel))) hi (hs _ (by decide +kernel)) (hs _ (by decide +kernel)) (fun j hj => by rcases (show j = 0 ∨ j = 1 ∨ j = 2 ∨ j = 3 ∨ j = 4 by omega) with rfl | rfl | rfl | rfl | rfl <;> exact hs _ (by decide +kernel)) hA
  obtain ⟨tm, h2⟩ := z_of (nm := "MOST_SETTING") (f := msF) (hts (.laysStatic "VillageCinema" "MOST_SETTING" "[I") (wT (i := 121) (by decide +kernel))) hi (hs _ (by decide +kernel)) (hs _ (by decide +kernel)) (fun j hj => by rcases (show j = 0 ∨ j = 1 ∨ j = 2 ∨ j = 3 ∨ j = 4 by omega) with rfl | rfl | rfl | rfl | rfl <;> exact hs _ (by decide +kernel)) hA
  obtain ⟨tf, h3⟩ := z_of (nm := "FIRST_SETTING") (f := fsF) (hts (.laysStatic "VillageCinema" "FIRST_SETTING" "[I") (wT (i := 24) (by decide +kernel))) hi (hs _ (by decide +kernel)) (hs _ (by decide +kernel)) (fun j hj => by rcases (show j = 0 ∨ j = 1 ∨ j = 2 ∨ j = 3 ∨ j = 4 by omega) with rfl | rfl | rfl | rfl | rfl <;> exact hs _ (by decide +kernel)) hA
  exact ⟨tl, tm, tf, h1, h2, h3⟩
theorem law_iE {b : Nat} {s : State} (hts : ∀ w ∈ lw_tbl, w.before #[Value.ref b] s = true) {A : Nat → Prop} {tl tm tf : Nat} (hz : zS tl tm tf A s s.heap) : iE tl tm tf A s :=
  ⟨hz, over_moved (Vm.Alike.refl s.vm) (hts (.arrayOver (.array .int)) (wT (i := 79) (by decide +kernel))), va_Nw.of rfl (hts (.fieldLinkNest RX1 15 "VillageCinema" "FIRST_SETTING" "[I" "VillageCinema") (wT (i := 23) (by decide +kernel))), va_Nw.of rfl (hts (.methodLinkNest RX4 18 yX0_init RX4) (wT (i := 35) (by decide +kernel))), va_Nw.of rfl (hts (.methodLinkNest RX4 25 yX3_init RX4) (wT (i := 60) (by decide +kernel))), va_Nw.of rfl (hts (.methodLinkNest RX4 32 yX2_init RX4) (wT (i := 74) (by decide +kernel)))⟩

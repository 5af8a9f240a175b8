/-! ===== the law: two worlds side by side; calls of the class told by what they keep; the script ===== -/
theorem P_left {D : va_G} {cl : List vw_C} {W1 W2 : va_W} {H : Heap} (h : va_P D cl (W1 ++ W2) H) : va_P D cl W1 H := fun k q hq => h k q (by rw [List.getElem?_append_left (List.getElem?_eq_some_iff.mp hq).1]; exact hq)
theorem P_right {D : va_G} {cl : List vw_C} {W1 W2 : va_W} {H : Heap} (h : va_P D cl (W1 ++ W2) H) : va_P D cl W2 H := fun k q hq => h (W1.length + k) q (by rw [List.getElem?_append_right (by omega), Nat.add_sub_cancel_left]; exact hq)
theorem D_left {A : Nat → Prop} {W1 W2 : va_W} (h : va_D A (W1 ++ W2)) : va_D A W1 := ⟨fun i j p q hi hj e => h.1 i j p q (by rw [List.getElem?_append_left (List.getElem?_eq_some_iff.mp hi).1]; exact hi) (by rw [List.getElem?_append_left (List.getElem?_eq_some_iff.mp hj).1]; exact hj) e, fun k q hq => h.2 k q (by rw [List.getElem?_append_left (List.getElem?_eq_some_iff.mp hq).1]; exact hq)⟩
theorem D_right {A : Nat → Prop} {W1 W2 : va_W} (h : va_D A (W1 ++ W2)) : va_D A W2 := ⟨fun i j p q hi hj e => by
  have := h.1 (W1.length + i) (W1.length + j) p q (by rw [List.getElem?_append_right (by omega), Nat.add_sub_cancel_left]; exact hi) (by rw [List.getElem?_append_right (by omega), Nat.add_sub_cancel_left]; exact hj) e
  omega, fun k q hq => h.2 (W1.length + k) q (by rw [List.getElem?_append_right (by omega), Nat.add_sub_cancel_left]; exact hq)⟩
theorem D_apart {A : Nat → Prop} {W1 W2 : va_W} (h : va_D A (W1 ++ W2)) {i j : Nat} {p q : Nat × va_E} (hi : W1[i]? = some p) (hj : W2[j]? = some q) : p.1 ≠ q.1 := fun e => by
  have hl := (List.getElem?_eq_some_iff.mp hi).1
  have := h.1 i (W1.length + j) p q (by rw [List.getElem?_append_left hl]; exact hi) (by rw [List.getElem?_append_right (by omega), Nat.add_sub_cancel_left]; exact hj) e
  omega
theorem free_9 {A : Nat → Prop} {W : va_W} {H0 H : Heap} {locs : List Loc} (hD : va_D A W) (hS : va_S A H0 H locs) (hA : ∀ q, H0.size ≤ q → A q) : ∀ q, va_A W H.size q → A q := by
  intro q hq
  rcases hq with ⟨k, e, hk⟩ | hle
  · exact hD.2 k (q, e) hk
  · exact hA q (Nat.le_trans hS.1 hle)
theorem join_l {A : Nat → Prop} {D : va_G} {cl : List vw_C} {W1 W2 U1 : va_W} {H H1 : Heap} (hP : va_P D cl (W1 ++ W2) H) (hD : va_D A (W1 ++ W2)) (hF : ∀ q, va_A W1 H.size q → A q) (hk : ∀ q : Nat, q < H.size → ¬ va_A W1 H.size q → H1[q]? = H[q]?) (hP1 : va_P D cl U1 H1) (hD1 : va_D (va_A W1 H.size) U1) : va_P D cl (U1 ++ W2) H1 ∧ va_D A (U1 ++ W2) := by
  have hn : ∀ (k : Nat) (q : Nat × va_E), W2[k]? = some q → ¬ va_A W1 H.size q.1 := by
    rintro k q hq (⟨i, e, hi⟩ | hle)
    · exact D_apart hD hi hq rfl
    · have := (P_right hP k q hq).lt
      omega
  exact ⟨hP1.app ((P_right hP).kept (fun k q hq => hk q.1 ((P_right hP k q hq).lt) (hn k q hq))), (hD1.weaken (fun _ _ _ h => hF _ h)).app (D_right hD) (fun i j p q hi hj e => hn j q hj (e ▸ hD1.2 i p hi))⟩
theorem join_r {A : Nat → Prop} {D : va_G} {cl : List vw_C} {W1 W2 U2 : va_W} {H H1 : Heap} (hP : va_P D cl (W1 ++ W2) H) (hD : va_D A (W1 ++ W2)) (hF : ∀ q, va_A W2 H.size q → A q) (hk : ∀ q : Nat, q < H.size → ¬ va_A W2 H.size q → H1[q]? = H[q]?) (hP1 : va_P D cl U2 H1) (hD1 : va_D (va_A W2 H.size) U2) : va_P D cl (W1 ++ U2) H1 ∧ va_D A (W1 ++ U2) := by
  have hn : ∀ (k : Nat) (q : Nat × va_E), W1[k]? = some q → ¬ va_A W2 H.size q.1 := by
    rintro k q hq (⟨i, e, hi⟩ | hle)
    · exact D_apart hD hq hi rfl
    · have := (P_left hP k q hq).lt
      omega
  exact ⟨((P_left hP).kept (fun k q hq => hk q.1 ((P_left hP k q hq).lt) (hn k q hq))).app hP1, (D_left hD).app (hD1.weaken (fun _ _ _ h => hF _ h)) (fun i j p q hi hj e => hn i p hi (e ▸ hD1.2 j q hj))⟩
section VL2
variable {p : Program} {l : Launch} {e : Env} {R : Room} {s : State} {m : MethodId} {args : Array Value} {below : List Frame} {meth : Method} {c : Code} {cells slots : Nat} {Q : State → Prop}
variable {τ1 τ2 : Type} {w1 : τ1 → va_W} {w2 : τ2 → va_W} {D : va_G} {A : Nat → Prop} {nL : Nat} {cc : ByteArray} {Ts : List Cond} {own : String} {tys : List (ClassId × FieldType)} {σ1 : τ1} {σ2 : τ2} {pc pc' : Nat} {lv lv' : List (Nat × Value)} {st rest : List Value}
theorem v_callVL (C : CX p m c cc nL s args Ts own A s.heap) (K : va_K D vwCl tys s) {y : MethodName} {ws ws' : List Cond} {rm : Room} {bytes : ByteArray} {maxL n index : Nat} {ret : Option FieldType} {As st0 : List Value} {C' : String} {b ci : Nat} {fs : List Value} {q : vw_C} {post : Int32 → τ1 → Prop} (hM : CMi l w1 D tys y ws rm (.ref b :: As) σ1 post) (hG : GoodIn Ts (wsV own index C' y ws)) (hw : ws = Cond.code y bytes maxL ret :: ws') (hd : y.cls = C' ∧ y.cls ≠ "java/lang/invoke/MethodHandle" ∧ y.cls ≠ "java/lang/invoke/VarHandle" ∧ (parseMethodDescriptor y.desc).map (fun d => d.parameters.length) = some n) (hrm : rm.cells = 0 ∧ rm.slots = 0) (hR : rm.frames + 1 ≤ R.frames ∧ 8 + (maxL + 11) + rm.locals ≤ R.locals) (q0 : Nat) (he : (w1 σ1)[q0]? = some (b, .inr (ci, fs))) (hc : vwCl[ci]? = some q) (hq : q.1 = C') (hst : st0 = As.reverse ++ .ref b :: rest) (hn : As.length = n) (hcat : (rest.map fun v => v.category).sum ≤ 8) (hcs : cells ≤ R.cells ∧ slots ≤ R.slots) (hdg : decode cc pc = .ok (.invokevirtual index, 3)) (hp : pc + 3 = pc') (kk : ∀ (r : Int32) (u : τ1), post r u → VV p l e R s m args below meth c cells slots Q (fun u : τ1 × τ2 => w1 u.1 ++ w2 u.2) D A s.heap nL (u, σ2) pc' lv (.int r :: rest)) : VV p l e R s m args below meth c cells slots Q (fun u : τ1 × τ2 => w1 u.1 ++ w2 u.2) D A s.heap nL (σ1, σ2) pc lv st0 := by
  subst hst
  subst hp
  subst hq
  intro H locs ls hP hD hS h
  have hF := free_9 (D_left hD) hS C.2
  refine va_calli (va_runV (As := As) (rest := rest) C.1 (hM H.size) (cwV n C.1.2.2.2.2 hG hw hrm.1 hrm.2 hd hR) ⟨v9_blind, va_recv K (P_left hP) hc he, fun U hU hW => ⟨rfl, by rw [hU], by rw [hU]; exact P_left hP, va_K.moved hW.alike K, (D_left hD).weaken (fun _ _ _ _ => trivial)⟩⟩ rfl hn h.1 rfl (lv_room hcat) hdg hcs) hS (fun q _ h => hF q h) hF (fun r u t H1 locs1 ht hvm hq2 hB hz hk hS1 => ?_)
  obtain ⟨hP1, hK1, hD1⟩ := hB
  rw [ht] at hP1
  obtain ⟨hP2, hD2⟩ := join_l hP hD hF hk hP1 hD1
  exact kk r u hq2 H1 locs1 ls hP2 hD2 hS1 h
theorem v_callVLE (C : CX p m c cc nL s args Ts own A s.heap) (K : va_K D vwCl tys s) {tl tm tf : Nat} (hE : zS tl tm tf A s s.heap) {y : MethodName} {ws ws' : List Cond} {rm : Room} {bytes : ByteArray} {maxL n index : Nat} {ret : Option FieldType} {As st0 : List Value} {C' : String} {b ci : Nat} {fs : List Value} {q : vw_C} {post : Int32 → τ1 → Prop} (hM : CMiE l w1 D tys y ws rm (.ref b :: As) σ1 tl tm tf post) (hG : GoodIn Ts (wsV own index C' y ws)) (hw : ws = Cond.code y bytes maxL ret :: ws') (hd : y.cls = C' ∧ y.cls ≠ "java/lang/invoke/MethodHandle" ∧ y.cls ≠ "java/lang/invoke/VarHandle" ∧ (parseMethodDescriptor y.desc).map (fun d => d.parameters.length) = some n) (hrm : rm.cells = 0 ∧ rm.slots = 0) (hR : rm.frames + 1 ≤ R.frames ∧ 8 + (maxL + 11) + rm.locals ≤ R.locals) (q0 : Nat) (he : (w1 σ1)[q0]? = some (b, .inr (ci, fs))) (hc : vwCl[ci]? = some q) (hq : q.1 = C') (hst : st0 = As.reverse ++ .ref b :: rest) (hn : As.length = n) (hcat : (rest.map fun v => v.category).sum ≤ 8) (hcs : cells ≤ R.cells ∧ slots ≤ R.slots) (hdg : decode cc pc = .ok (.invokevirtual index, 3)) (hp : pc + 3 = pc') (kk : ∀ (r : Int32) (u : τ1), post r u → VV p l e R s m args below meth c cells slots Q (fun u : τ1 × τ2 => w1 u.1 ++ w2 u.2) D A s.heap nL (u, σ2) pc' lv (.int r :: rest)) : VV p l e R s m args below meth c cells slots Q (fun u : τ1 × τ2 => w1 u.1 ++ w2 u.2) D A s.heap nL (σ1, σ2) pc lv st0 := by
  subst hst
  subst hp
  subst hq
  intro H locs ls hP hD hS h
  have hF := free_9 (D_left hD) hS C.2
  refine va_calli (va_runV (As := As) (rest := rest) C.1 (hM H.size) (cwV n C.1.2.2.2.2 hG hw hrm.1 hrm.2 hd hR) ⟨v9_blindE, va_recv K (P_left hP) hc he, fun U hU hW => ⟨rfl, by rw [hU], ⟨by rw [hU]; exact P_left hP, va_K.moved hW.alike K, (D_left hD).weaken (fun _ _ _ _ => trivial)⟩, ?_⟩⟩ rfl hn h.1 rfl (lv_room hcat) hdg hcs) hS (fun q _ h => hF q h) hF (fun r u t H1 locs1 ht hvm hq2 hB hz hk hS1 => ?_)
  · show zS tl tm tf _ U U.heap
    rw [hU]
    exact ((hE.moved hW.alike).kept hS.2.1).narrow hF
  · obtain ⟨hP1, hK1, hD1⟩ := hB
    rw [ht] at hP1
    obtain ⟨hP2, hD2⟩ := join_l hP hD hF hk hP1 hD1
    exact kk r u hq2 H1 locs1 ls hP2 hD2 hS1 h
theorem v_sld {τ : Type} {w : τ → va_W} {τσ : τ} (C : CX p m c cc nL s args Ts own A s.heap) {b L : Nat} {xs : Nat → Int32} (hX : va_X b L xs s s.heap) (hbl : b < s.heap.size) (hbA : ¬ A b) {i : Int32} (j : Nat) (hi : i = nI j) (hj : j < L) (hL : L ≤ 100000) (hdg : decode cc pc = .ok (.iaload, 1)) (hp : pc + 1 = pc') (kk : VV p l e R s m args below meth c cells slots Q w D A s.heap nL τσ pc' lv (.int (xs j) :: st)) : VV p l e R s m args below meth c cells slots Q w D A s.heap nL τσ pc lv (.int i :: .ref b :: st) := by
  subst hp
  obtain ⟨h1, h2⟩ := i9_in hi hj hL
  exact fun H locs ls hP hD hS h => va_sld C.1.1 C.1.2.1 hX hbl hbA hS h1 hdg (by rw [h2]; exact kk H locs ls hP hD hS h)
theorem v_slen {τ : Type} {w : τ → va_W} {τσ : τ} (C : CX p m c cc nL s args Ts own A s.heap) {b L : Nat} {xs : Nat → Int32} (hX : va_X b L xs s s.heap) (hbl : b < s.heap.size) (hbA : ¬ A b) (hdg : decode cc pc = .ok (.arraylength, 1)) (hp : pc + 1 = pc') (kk : VV p l e R s m args below meth c cells slots Q w D A s.heap nL τσ pc' lv (.int (nI L) :: st)) : VV p l e R s m args below meth c cells slots Q w D A s.heap nL τσ pc lv (.ref b :: st) := by
  subst hp
  exact fun H locs ls hP hD hS h => va_slen C.1.1 C.1.2.1 hX hbl hbA hS hdg (kk H locs ls hP hD hS h)
theorem v_callSR (C : CX p m c cc nL s args Ts own A s.heap) (K : va_K D vwCl tys s) {y : MethodName} {ws ws' : List Cond} {rm : Room} {bytes : ByteArray} {maxL n index : Nat} {ret : Option FieldType} {As st0 : List Value} {post : Int32 → τ2 → Prop} (hM : CMi l w2 D tys y ws rm As σ2 post) (hG : GoodIn Ts (va_wsS own index y ws)) (hw : ws = Cond.code y bytes maxL ret :: ws') (hd : y.cls ≠ "java/lang/invoke/MethodHandle" ∧ y.cls ≠ "java/lang/invoke/VarHandle" ∧ (parseMethodDescriptor y.desc).map (fun d => d.parameters.length) = some n) (hrm : rm.cells = 0 ∧ rm.slots = 0) (hR : rm.frames + 1 ≤ R.frames ∧ 8 + (maxL + 11) + rm.locals ≤ R.locals) (hst : st0 = As.reverse ++ rest) (hn : As.length = n) (hcat : (rest.map fun v => v.category).sum ≤ 8) (hcs : cells ≤ R.cells ∧ slots ≤ R.slots) (hdg : decode cc pc = .ok (.invokestatic index, 3)) (hp : pc + 3 = pc') (kk : ∀ (r : Int32) (u : τ2), post r u → VV p l e R s m args below meth c cells slots Q (fun u : τ1 × τ2 => w1 u.1 ++ w2 u.2) D A s.heap nL (σ1, u) pc' lv (.int r :: rest)) : VV p l e R s m args below meth c cells slots Q (fun u : τ1 × τ2 => w1 u.1 ++ w2 u.2) D A s.heap nL (σ1, σ2) pc lv st0 := by
  subst hst
  subst hp
  intro H locs ls hP hD hS h
  have hF := free_9 (D_right hD) hS C.2
  refine va_calli (va_runS (As := As) (rest := rest) C.1 (hM H.size) (va_cwS n C.1.2.2.2.2 hG hw hrm.1 hrm.2 hd hR) ⟨v9_blind, fun U hU hW => ⟨rfl, by rw [hU], by rw [hU]; exact P_right hP, va_K.moved hW.alike K, (D_right hD).weaken (fun _ _ _ _ => trivial)⟩⟩ rfl hn h.1 rfl (lv_room hcat) hdg hcs) hS (fun q _ h => hF q h) hF (fun r u t H1 locs1 ht hvm hq2 hB hz hk hS1 => ?_)
  obtain ⟨hP1, hK1, hD1⟩ := hB
  rw [ht] at hP1
  obtain ⟨hP2, hD2⟩ := join_r hP hD hF hk hP1 hD1
  exact kk r u hq2 H1 locs1 ls hP2 hD2 hS1 h
end VL2
/-! the script: a static method that reads it -/
def CPX (l : Launch) (y : MethodName) (ws : List Cond) (rm : Room) (As : List Value) (b L : Nat) (xs : Nat → Int32) (post : Int32 → Prop) : Prop :=
  ∀ sz : Nat, Met l y ws rm (va_Pc As (fun U => U.heap.size = sz ∧ va_X b L xs U U.heap ∧ b < U.heap.size)) (va_Qi (fun r (_ : Unit) => post r) (fun _ _ => True) (va_A [] sz)) 0 0 (va_A [] sz)
theorem v9_blindX {As : List Value} {b L : Nat} {xs : Nat → Int32} {sz : Nat} : FrameBlind (va_Pc As (fun U => U.heap.size = sz ∧ va_X b L xs U U.heap ∧ b < U.heap.size)) := fun a U g mk q => by
  obtain ⟨q0, q1, qX, q2⟩ := q
  exact ⟨q0, q1, va_X.moved (u := U) (U := U.calling g mk a) (Vm.Alike.refl U.vm) qX, q2⟩
theorem v_startPX {l : Launch} {y : MethodName} {ws ws' : List Cond} {rm : Room} {ty : FieldType} {cc : ByteArray} {nL : Nat} {own : String} {As : List Value} {b L : Nat} {xs : Nat → Int32} {post : Int32 → Prop} (D : va_G) (ho : y.cls = own) (hy : plainName y.cls = true) (hw : ws = Cond.code y cc nL (some ty) :: ws') (hlg : (lg_sl As).length ≤ nL)
    (body : ∀ (p : Program) (e : Env) (s : State) (m : MethodId) (args : Array Value) (below : List Frame) (meth : Method) (c : Code) (A : Nat → Prop) (Q : State → Prop), CX p m c cc nL s args ws own A s.heap → va_X b L xs s s.heap → b < s.heap.size → ¬ A b → (∀ {pc1 : Nat} {lv1 : List (Nat × Value)} {r : Int32}, post r → narrow ty (.int r) = .int r → decode cc pc1 = .ok (.ireturn, 1) → VV p l e rm s m args below meth c 0 0 Q (fun _ : Unit => []) D A s.heap nL () pc1 lv1 [.int r]) → VV p l e rm s m args below meth c 0 0 Q (fun _ : Unit => []) D A s.heap nL () 0 (lv_args 0 As) []) : CPX l y ws rm As b L xs post := by
  subst ho
  intro sz
  refine Met.ofW (cc := cc) (maxL := nL) (ret := some ty) hy hw ?_
  intro p e s m args below meth c s₁ B hml hv
  obtain ⟨rfl, hsz, hX, hbl⟩ := hv
  subst hsz
  have hl := lv_entry As (n := nL) hlg
  rw [lg_entry_eq]
  have C : CX p m c cc nL s As.toArray ws y.cls (va_A [] s.heap.size) s.heap := ⟨⟨B.exec, B.bytes, hml, findClass_of_methodNamed B.named, atoms_spec (ws := ws) B.pre⟩, fun q h => Or.inr h⟩
  have hbA : ¬ va_A [] s.heap.size b := by
    rintro (⟨k, e9, h2⟩ | hle)
    · cases h2
    · omega
  exact body p e s m As.toArray below meth c (va_A [] s.heap.size) _ C hX hbl hbA (fun h1 h2 h3 => v_pret (w := fun _ : Unit => []) C B.returns B.notSynchronized h2 h1 h3) s.heap [] _ (fun k q h => by simp at h) ⟨(fun i j p q h => by simp at h), (fun k q h => by simp at h)⟩ va_S.rf hl
theorem v_callSX {p : Program} {l : Launch} {e : Env} {R : Room} {s : State} {m : MethodId} {args : Array Value} {below : List Frame} {meth : Method} {c : Code} {cells slots : Nat} {Q : State → Prop} {τ : Type} {w : τ → va_W} {D : va_G} {A : Nat → Prop} {nL : Nat} {cc : ByteArray} {Ts : List Cond} {own : String} {σ : τ} {pc pc' : Nat} {lv : List (Nat × Value)} {rest : List Value} (C : CX p m c cc nL s args Ts own A s.heap) {b L : Nat} {xs : Nat → Int32} (hX : va_X b L xs s s.heap) (hbl : b < s.heap.size) (hbA : ¬ A b) {y : MethodName} {ws ws' : List Cond} {rm : Room} {bytes : ByteArray} {maxL n index : Nat} {ret : Option FieldType} {As st0 : List Value} {post : Int32 → Prop} (hM : CPX l y ws rm As b L xs post) (hG : GoodIn Ts (va_wsS own index y ws)) (hw : ws = Cond.code y bytes maxL ret :: ws') (hd : y.cls ≠ "java/lang/invoke/MethodHandle" ∧ y.cls ≠ "java/lang/invoke/VarHandle" ∧ (parseMethodDescriptor y.desc).map (fun d => d.parameters.length) = some n) (hrm : rm.cells = 0 ∧ rm.slots = 0) (hR : rm.frames + 1 ≤ R.frames ∧ 8 + (maxL + 11) + rm.locals ≤ R.locals) (hst : st0 = As.reverse ++ rest) (hn : As.length = n) (hcat : (rest.map fun v => v.category).sum ≤ 8) (hcs : cells ≤ R.cells ∧ slots ≤ R.slots) (hdg : decode cc pc = .ok (.invokestatic index, 3)) (hp : pc + 3 = pc') (kk : ∀ (r : Int32), post r → VV p l e R s m args below meth c cells slots Q w D A s.heap nL σ pc' lv (.int r :: rest)) : VV p l e R s m args below meth c cells slots Q w D A s.heap nL σ pc lv st0 := by
  subst hst
  subst hp
  intro H locs ls hP hD hS h
  have hF : ∀ q, va_A [] H.size q → A q := by
    intro q hq
    rcases hq with ⟨k, e, hk⟩ | hle
    · cases hk
    · exact C.2 q (Nat.le_trans hS.1 hle)
  refine va_calli (va_runS (As := As) (rest := rest) C.1 (hM H.size) (va_cwS n C.1.2.2.2.2 hG hw hrm.1 hrm.2 hd hR) ⟨v9_blindX, fun U hU hW => ⟨rfl, by rw [hU], by rw [hU]; exact (hX.moved hW.alike).kept (hS.2.1 b hbl hbA), by rw [hU]; exact Nat.lt_of_lt_of_le hbl hS.1⟩⟩ rfl hn h.1 rfl (lv_room hcat) hdg hcs) hS (fun q _ h => hF q h) hF (fun r u t H1 locs1 ht hvm hq2 hB hz hk hS1 => ?_)
  refine kk r hq2 H1 locs1 ls (hP.kept (fun k q hq => hk q.1 ((hP k q hq).lt) ?_)) hD hS1 h
  rintro (⟨k2, e, h2⟩ | hle)
  · cases h2
  · have := (hP k q hq).lt
    omega
/-! both worlds -/
def PW (ad la : Nat → Nat) (cI cC cZ cQ : ClassId) : S9 × S9 → va_W := fun u => cW ad cI cC cZ cQ u.1 ++ lW la cI u.2
theorem PW_get {ad la : Nat → Nat} {cI cC cZ cQ : ClassId} {u t : S9} {i : Nat} {x : Nat × va_E} (h : (lW la cI t)[i]? = some x) : (PW ad la cI cC cZ cQ (u, t))[22 + i]? = some x := by
  show (cW ad cI cC cZ cQ u ++ lW la cI t)[22 + i]? = some x
  rw [List.getElem?_append_right (show (cW ad cI cC cZ cQ u).length ≤ 22 + i from Nat.le_add_right 22 i), show 22 + i - (cW ad cI cC cZ cQ u).length = i from Nat.add_sub_cancel_left 22 i]
  exact h
theorem PW_set {ad la : Nat → Nat} {cI cC cZ cQ : ClassId} {u t t2 : S9} {i : Nat} {x : Nat × va_E} (h : (lW la cI t).set i x = lW la cI t2) : (PW ad la cI cC cZ cQ (u, t)).set (22 + i) x = PW ad la cI cC cZ cQ (u, t2) := by
  show (cW ad cI cC cZ cQ u ++ lW la cI t).set (22 + i) x = cW ad cI cC cZ cQ u ++ lW la cI t2
  rw [List.set_append_right _ _ (show (cW ad cI cC cZ cQ u).length ≤ 22 + i from Nat.le_add_right 22 i), show 22 + i - (cW ad cI cC cZ cQ u).length = i from Nat.add_sub_cancel_left 22 i, h]
section PWR
variable {p : Program} {l : Launch} {e : Env} {R : Room} {s : State} {m : MethodId} {args : Array Value} {below : List Frame} {meth : Method} {c : Code} {cells slots : Nat} {Q : State → Prop}
variable {ad la : Nat → Nat} {cI cC cZ cQ : ClassId} {D : va_G} {A : Nat → Prop} {nL : Nat} {cc : ByteArray} {Ts : List Cond} {own : String} {u t : S9} {pc pc' : Nat} {lv lv' : List (Nat × Value)} {st rest : List Value}
theorem v_aldL (C : CX p m c cc nL s args Ts own A s.heap) (K : va_K D vwCl (cTy cI cC cZ cQ) s) (i N : Nat) (he : (lW la cI t)[i]? = some (la i, .inl (cI, N, .inl (t i)))) {x : Int32} (j : Nat) (hx : x = nI j) (hj : j < N) (hN : N ≤ 100000) (hdg : decode cc pc = .ok (.iaload, 1)) (hp : pc + 1 = pc') (kk : VV p l e R s m args below meth c cells slots Q (PW ad la cI cC cZ cQ) D A s.heap nL (u, t) pc' lv (.int (t i j) :: st)) : VV p l e R s m args below meth c cells slots Q (PW ad la cI cC cZ cQ) D A s.heap nL (u, t) pc lv (.int x :: .ref (la i) :: st) :=
  v_iald C K (22 + i) 0 (PW_get he) rfl j hx hj hN hdg hp kk
theorem v_astL (C : CX p m c cc nL s args Ts own A s.heap) (K : va_K D vwCl (cTy cI cC cZ cQ) s) (i N : Nat) (he : (lW la cI t)[i]? = some (la i, .inl (cI, N, .inl (t i)))) (hs : ∀ h : Nat → Int32, (lW la cI t).set i (la i, .inl (cI, N, .inl h)) = lW la cI (st9 t i h)) {x v : Int32} (j : Nat) (hx : x = nI j) (hj : j < N) (hN : N ≤ 100000) (hdg : decode cc pc = .ok (.iastore, 1)) (hp : pc + 1 = pc') (kk : VV p l e R s m args below meth c cells slots Q (PW ad la cI cC cZ cQ) D A s.heap nL (u, st9 t i (upd (t i) j v)) pc' lv st) : VV p l e R s m args below meth c cells slots Q (PW ad la cI cC cZ cQ) D A s.heap nL (u, t) pc lv (.int v :: .int x :: .ref (la i) :: st) :=
  v_iast C K (u, st9 t i (upd (t i) j v)) (22 + i) 0 (PW_get he) rfl j hx hj hN (PW_set (hs _)) hdg hp kk
theorem v_cI (C : CX p m c cc nL s args Ts own A s.heap) (K : va_K D vwCl (cTy cI cC cZ cQ) s) {y : MethodName} {ws ws' : List Cond} {rm : Room} {bytes : ByteArray} {maxL n index : Nat} {ret : Option FieldType} {As st0 : List Value} {C' : String} {b ci : Nat} {fs : List Value} {q : vw_C} {post : Int32 → S9 → Prop} (r2 : Int32) (I : S9 → Prop) (hM : CMi l (cW ad cI cC cZ cQ) D (cTy cI cC cZ cQ) y ws rm (.ref b :: As) u post) (hG : GoodIn Ts (wsV own index C' y ws)) (hw : ws = Cond.code y bytes maxL ret :: ws') (hd : y.cls = C' ∧ y.cls ≠ "java/lang/invoke/MethodHandle" ∧ y.cls ≠ "java/lang/invoke/VarHandle" ∧ (parseMethodDescriptor y.desc).map (fun d => d.parameters.length) = some n) (hrm : rm.cells = 0 ∧ rm.slots = 0) (hR : rm.frames + 1 ≤ R.frames ∧ 8 + (maxL + 11) + rm.locals ≤ R.locals) (q0 : Nat) (he : (cW ad cI cC cZ cQ u)[q0]? = some (b, .inr (ci, fs))) (hc : vwCl[ci]? = some q) (hq : q.1 = C') (hst : st0 = As.reverse ++ .ref b :: rest) (hn : As.length = n) (hcat : (rest.map fun v => v.category).sum ≤ 8) (hcs : cells ≤ R.cells ∧ slots ≤ R.slots) (hdg : decode cc pc = .ok (.invokevirtual index, 3)) (hp : pc + 3 = pc') (hpost : ∀ (r : Int32) (v : S9), post r v → r = r2 ∧ I v) (kk : ∀ v : S9, I v → VV p l e R s m args below meth c cells slots Q (PW ad la cI cC cZ cQ) D A s.heap nL (v, t) pc' lv (.int r2 :: rest)) : VV p l e R s m args below meth c cells slots Q (PW ad la cI cC cZ cQ) D A s.heap nL (u, t) pc lv st0 :=
  v_callVL (w1 := cW ad cI cC cZ cQ) (w2 := lW la cI) C K hM hG hw hd hrm hR q0 he hc hq hst hn hcat hcs hdg hp (fun r v hv => by rw [(hpost r v hv).1]; exact kk v (hpost r v hv).2)
theorem v_cIE (C : CX p m c cc nL s args Ts own A s.heap) (K : va_K D vwCl (cTy cI cC cZ cQ) s) {tl tm tf : Nat} (hE : zS tl tm tf A s s.heap) {y : MethodName} {ws ws' : List Cond} {rm : Room} {bytes : ByteArray} {maxL n index : Nat} {ret : Option FieldType} {As st0 : List Value} {C' : String} {b ci : Nat} {fs : List Value} {q : vw_C} {post : Int32 → S9 → Prop} (r2 : Int32) (I : S9 → Prop) (hM : CMiE l (cW ad cI cC cZ cQ) D (cTy cI cC cZ cQ) y ws rm (.ref b :: As) u tl tm tf post) (hG : GoodIn Ts (wsV own index C' y ws)) (hw : ws = Cond.code y bytes maxL ret :: ws') (hd : y.cls = C' ∧ y.cls ≠ "java/lang/invoke/MethodHandle" ∧ y.cls ≠ "java/lang/invoke/VarHandle" ∧ (parseMethodDescriptor y.desc).map (fun d => d.parameters.length) = some n) (hrm : rm.cells = 0 ∧ rm.slots = 0) (hR : rm.frames + 1 ≤ R.frames ∧ 8 + (maxL + 11) + rm.locals ≤ R.locals) (q0 : Nat) (he : (cW ad cI cC cZ cQ u)[q0]? = some (b, .inr (ci, fs))) (hc : vwCl[ci]? = some q) (hq : q.1 = C') (hst : st0 = As.reverse ++ .ref b :: rest) (hn : As.length = n) (hcat : (rest.map fun v => v.category).sum ≤ 8) (hcs : cells ≤ R.cells ∧ slots ≤ R.slots) (hdg : decode cc pc = .ok (.invokevirtual index, 3)) (hp : pc + 3 = pc') (hpost : ∀ (r : Int32) (v : S9), post r v → r = r2 ∧ I v) (kk : ∀ v : S9, I v → VV p l e R s m args below meth c cells slots Q (PW ad la cI cC cZ cQ) D A s.heap nL (v, t) pc' lv (.int r2 :: rest)) : VV p l e R s m args below meth c cells slots Q (PW ad la cI cC cZ cQ) D A s.heap nL (u, t) pc lv st0 :=
  v_callVLE (w1 := cW ad cI cC cZ cQ) (w2 := lW la cI) C K hE hM hG hw hd hrm hR q0 he hc hq hst hn hcat hcs hdg hp (fun r v hv => by rw [(hpost r v hv).1]; exact kk v (hpost r v hv).2)
theorem v_cR (C : CX p m c cc nL s args Ts own A s.heap) (K : va_K D vwCl (cTy cI cC cZ cQ) s) {y : MethodName} {ws ws' : List Cond} {rm : Room} {bytes : ByteArray} {maxL n index : Nat} {ret : Option FieldType} {As st0 : List Value} {r2 : Int32} (hM : CMi l (lW la cI) D (cTy cI cC cZ cQ) y ws rm As t (fun (r : Int32) (v : S9) => r = r2 ∧ v = t)) (hG : GoodIn Ts (va_wsS own index y ws)) (hw : ws = Cond.code y bytes maxL ret :: ws') (hd : y.cls ≠ "java/lang/invoke/MethodHandle" ∧ y.cls ≠ "java/lang/invoke/VarHandle" ∧ (parseMethodDescriptor y.desc).map (fun d => d.parameters.length) = some n) (hrm : rm.cells = 0 ∧ rm.slots = 0) (hR : rm.frames + 1 ≤ R.frames ∧ 8 + (maxL + 11) + rm.locals ≤ R.locals) (hst : st0 = As.reverse ++ rest) (hn : As.length = n) (hcat : (rest.map fun v => v.category).sum ≤ 8) (hcs : cells ≤ R.cells ∧ slots ≤ R.slots) (hdg : decode cc pc = .ok (.invokestatic index, 3)) (hp : pc + 3 = pc') (kk : VV p l e R s m args below meth c cells slots Q (PW ad la cI cC cZ cQ) D A s.heap nL (u, t) pc' lv (.int r2 :: rest)) : VV p l e R s m args below meth c cells slots Q (PW ad la cI cC cZ cQ) D A s.heap nL (u, t) pc lv st0 :=
  v_callSR (w1 := cW ad cI cC cZ cQ) (w2 := lW la cI) C K hM hG hw hd hrm hR hst hn hcat hcs hdg hp (fun r v hv => by rw [hv.1, hv.2]; exact kk)
end PWR
/-! what every call of the class keeps: its village, and where its history stands -/
def IC (g : Nat → Int32) (n : Nat) (u : S9) : Prop := u 0 = g ∧ wfH g n ∧ ∃ o h : Nat, u 8 0 = nI o ∧ o < 6 ∧ u 8 1 = nI h ∧ h ≤ 6
theorem IC.w {g : Nat → Int32} {n : Nat} {u : S9} (hI : IC g n u) : wfH (u 0) n := by rw [hI.1]; exact hI.2.1
theorem IC.cc {g : Nat → Int32} {n : Nat} {u v : S9} (hI : IC g n u) (hc : cc9 u v) : IC g n v := by
  have c0 := hc 0 (Or.inl rfl)
  have c8 := hc 8 (Or.inr (by decide))
  exact ⟨c0.trans hI.1, hI.2.1, by rw [c8]; exact hI.2.2⟩
theorem IC.rec {n n2 : Nat} {g r2 : Nat → Int32} {u : S9} (hI : IC g n u) {o h : Nat} (ho : u 8 0 = nI o) (ho6 : o < 6) (hh : u 8 1 = nI h) (hle : h ≤ 6) (hw : wfH r2 n2) : IC r2 n2 (st9 (hsM u o h) 0 r2) := by
  have e8 : st9 (hsM u o h) 0 r2 8 = if h < 6 then upd (u 8) 1 (nI (h + 1)) else upd (u 8) 0 (nI ((o + 1) % 6)) := (st9_n _ _ (by decide)).trans (by rw [hsM, st9_s])
  refine ⟨st9_s _ _ _, hw, ?_⟩
  rw [e8]
  by_cases h6 : h < 6
  · rw [if_pos h6]
    exact ⟨o, h + 1, by rw [upd_n _ _ (by decide)]; exact ho, ho6, upd_s _ _ _, by omega⟩
  · rw [if_neg h6]
    exact ⟨(o + 1) % 6, h, upd_s _ _ _, by omega, by rw [upd_n _ _ (by decide)]; exact hh, hle⟩
theorem ic_ok {n n2 : Nat} {g r2 : Nat → Int32} {u v : S9} {o h : Nat} {E r X : Int32} (hI : IC g n u) (ho : u 8 0 = nI o) (ho6 : o < 6) (hh : u 8 1 = nI h) (hle : h ≤ 6) (hw : wfH r2 n2) (hE : E = 0) (hp : (E = 0 → r = X ∧ v = st9 (hsM u o h) 0 r2) ∧ (¬ E = 0 → r = E ∧ v = u)) : r = X ∧ IC r2 n2 v := by
  obtain ⟨a, b⟩ := hp.1 hE
  exact ⟨a, by rw [b]; exact hI.rec ho ho6 hh hle hw⟩
theorem ic_no {n : Nat} {g : Nat → Int32} {u v : S9} {E r X : Int32} {W : Prop} (hI : IC g n u) (hE : E = X) (hX : ¬ X = 0) (hp : W ∧ (¬ E = 0 → r = E ∧ v = u)) : r = X ∧ IC g n v := by
  obtain ⟨a, b⟩ := hp.2 (by rw [hE]; exact hX)
  exact ⟨a.trans hE, by rw [b]; exact hI⟩
theorem p_in_ok {a n : Nat} (h : a ≤ n) (hn : n < 100000) : p_in (nI a) 0 (nI n) = 1 := by
  unfold p_in
  rw [if_neg (nI_pos (by omega)), if_neg (nI_nlt h (by omega))]
theorem p_in_ok2 {a b n : Nat} (hb : b ≤ a) (h : a ≤ n) (hn : n < 100000) : p_in (nI a) (nI b) (nI n) = 1 := by
  unfold p_in
  rw [if_neg (nI_nlt hb (by omega)), if_neg (nI_nlt h (by omega))]
theorem p_part_ok {d q : Nat} (hd : d < 35) (hq : q < 2) : p_part (nI d) (nI q) = 1 := by
  have e1 : p_in (nI d) 0 34 = 1 := p_in_ok (n := 34) (by omega) (by decide)
  have e2 : p_in (nI q) 0 1 = 1 := p_in_ok (n := 1) (by omega) (by decide)
  unfold p_part
  rw [e1, e2, if_neg (by decide), if_neg (by decide)]
theorem q_k_ok {d q : Nat} (hd : d < 35) (hq : q < 2) : q_k (nI d) (nI q) = 2 * d + q := by rw [q_k, nI_cl (by omega), nI_cl (by omega)]
theorem p_f_ok {g : Nat → Int32} {n f : Nat} (hw : wfH g n) (hf : f < n) : p_in (nI f) 0 (g 5 - 1) = 1 := by
  have h8 := hw.1.2.1
  obtain ⟨m, rfl⟩ : ∃ m, n = m + 1 := ⟨n - 1, by omega⟩
  rw [hw.1.1, nI_pred]
  exact p_in_ok (by omega) (by omega)
/-! reading calls -/
theorem ip_rent {g : Nat → Int32} {n : Nat} {u v : S9} {r : Int32} (hI : IC g n u) {d : Nat} (hd : d < 35) (h : r = (if p_in (nI d) 0 34 = 0 then -2 else u 0 (116 + (nI d).toNatClampNeg)) ∧ v = u) : r = g (116 + d) ∧ IC g n v := by
  have e1 : p_in (nI d) 0 34 = 1 := p_in_ok (n := 34) (by omega) (by decide)
  rw [e1, if_neg (by decide), nI_cl (by omega), hI.1] at h
  exact ⟨h.1, by rw [h.2]; exact hI⟩
theorem ip_at {g : Nat → Int32} {n : Nat} {u v : S9} {r X what : Int32} (hI : IC g n u) {d q : Nat} (hd : d < 35) (hq : q < 2) (hX : q_at g (2 * d + q) what = X) (h : r = (if p_part (nI d) (nI q) = 0 then -2 else q_at (u 0) (q_k (nI d) (nI q)) what) ∧ cc9 u v) : r = X ∧ IC g n v := by
  rw [p_part_ok hd hq, if_neg (by decide), q_k_ok hd hq, hI.1, hX] at h
  exact ⟨h.1, hI.cc h.2⟩
theorem ip_of {g : Nat → Int32} {n : Nat} {u v : S9} {r X what : Int32} (hI : IC g n u) {f : Nat} (hf : f < n) (hX : q_of g f what = X) (h : r = (if p_in (nI f) 0 (u 0 5 - 1) = 0 then -1 else q_of (u 0) (nI f).toNatClampNeg what) ∧ cc9 u v) : r = X ∧ IC g n v := by
  have h8 := hI.2.1.1.2.1
  rw [hI.1, p_f_ok hI.2.1 hf, if_neg (by decide), nI_cl (by omega), hX] at h
  exact ⟨h.1, hI.cc h.2⟩
theorem ip_iw {g : Nat → Int32} {n : Nat} {u v : S9} {r X what : Int32} (hI : IC g n u) {f w : Nat} (hf : f < n) (hw : w < 5) (hX : q_iw g f w what = X) (h : r = (if p_in (nI f) 0 (u 0 5 - 1) = 0 then -1 else if p_in (nI w) 0 4 = 0 then -2 else q_iw (u 0) (nI f).toNatClampNeg (nI w).toNatClampNeg what) ∧ cc9 u v) : r = X ∧ IC g n v := by
  have h8 := hI.2.1.1.2.1
  have e1 : p_in (nI w) 0 4 = 1 := p_in_ok (n := 4) (by omega) (by decide)
  rw [hI.1, p_f_ok hI.2.1 hf, if_neg (by decide), e1, if_neg (by decide), nI_cl (by omega), nI_cl (by omega), hX] at h
  exact ⟨h.1, hI.cc h.2⟩
theorem ip_wk {g : Nat → Int32} {n : Nat} {u v : S9} {r X what : Int32} (hI : IC g n u) {w : Nat} (hw : w < 5) (hX : q_wk g (nI w) what = X) (h : r = (if p_in (nI w) 0 4 = 0 then -2 else q_wk (u 0) (nI w) what) ∧ cc9 u v) : r = X ∧ IC g n v := by
  have e1 : p_in (nI w) 0 4 = 1 := p_in_ok (n := 4) (by omega) (by decide)
  rw [hI.1, e1, if_neg (by decide), hX] at h
  exact ⟨h.1, hI.cc h.2⟩
theorem ip_cnt {g : Nat → Int32} {n : Nat} {u v : S9} {r X what : Int32} (hI : IC g n u) (hX : ∀ a b : Int32, q_cnt g a b what = X) (h : r = q_cnt (u 0) (u 7 0) (u 8 1) what ∧ cc9 u v) : r = X ∧ IC g n v := by
  rw [hI.1, hX] at h
  exact ⟨h.1, hI.cc h.2⟩
/-! changes -/
theorem wfH_film {r : Nat → Int32} {n : Nat} {d c m s f : Int32} (hw : wfH r n) (hn : n < 8) (hE : q_filmE r d c m s f = 0) : wfH (film9 r n d c m s f) (n + 1) := by
  have hs : ¬ p_in s 20 90 = 0 := fun e => by
    unfold q_filmE at hE
    rw [if_pos e] at hE
    by_cases h1 : p_in d 0 3 = 0
    · rw [if_pos h1] at hE
      exact absurd hE (by decide)
    · rw [if_neg h1] at hE
      by_cases h2 : p_in c 1 999 = 0
      · rw [if_pos h2] at hE
        exact absurd hE (by decide)
      · rw [if_neg h2] at hE
        by_cases h3 : p_in m 0 500 = 0
        · rw [if_pos h3] at hE
          exact absurd hE (by decide)
        · rw [if_neg h3] at hE
          exact absurd hE (by decide)
  have hsv : ∃ v : Nat, 20 ≤ v ∧ v ≤ 90 ∧ s = nI v := by
    have h1 := p_in_ne hs
    obtain ⟨j, hj, rfl⟩ := nI_of2 (x := s) (M := 90) (n := 90) rfl (fun q => absurd (Int32.lt_of_lt_of_le q (show (0 : Int32) ≤ 20 by decide)) (Int32.not_lt.mpr h1.1)) h1.2
    exact ⟨j, (nI_leI (a := 20) (by decide) (by omega)).mp h1.1, hj, rfl⟩
  have old : ∀ i, i ≠ 5 → (i < 6 + 5 * n ∨ 6 + 5 * n + 4 < i) → film9 r n d c m s f i = r i := fun i h1 h2 => by
    unfold film9
    rw [upd_n _ _ h1, upd_n _ _ (by omega), upd_n _ _ (by omega), upd_n _ _ (by omega), upd_n _ _ (by omega), upd_n _ _ (by omega)]
  refine ⟨⟨upd_s _ _ _, by omega, fun k hk => ?_⟩, fun f' hf' => ?_, fun d' hd' => ?_⟩
  · rw [old _ (by omega) (by omega)]
    rcases hw.1.2.2 k hk with e | ⟨g, hg, e⟩
    · exact Or.inl e
    · exact Or.inr ⟨g, by omega, e⟩
  · by_cases e : f' = n
    · subst e
      obtain ⟨v, v1, v2, ev⟩ := hsv
      refine ⟨v, v1, v2, ?_⟩
      unfold film9
      rw [upd_n _ _ (by omega), upd_n _ _ (by omega), upd_s, ev]
    · rw [old _ (by omega) (by omega)]
      exact hw.2.1 f' (by omega)
  · rw [old _ (by omega) (by omega)]
    exact hw.2.2 d' hd'
theorem wfH_set {r : Nat → Int32} {n i : Nat} {v : Int32} (hw : wfH r n) (hi : i < 5) : wfH (upd r i v) n := by
  refine ⟨⟨by rw [upd_n _ _ (by omega)]; exact hw.1.1, hw.1.2.1, fun k hk => by rw [upd_n _ _ (by omega)]; exact hw.1.2.2 k hk⟩, fun f hf => by rw [upd_n _ _ (by omega)]; exact hw.2.1 f hf, fun d hd => by rw [upd_n _ _ (by omega)]; exact hw.2.2 d hd⟩
theorem wfH_rent {r : Nat → Int32} {n d0 v : Nat} (hw : wfH r n) (hv : v ≤ 999) : wfH (upd r (116 + d0) (nI v)) n := by
  have h8 := hw.1.2.1
  refine ⟨⟨by rw [upd_n _ _ (by omega)]; exact hw.1.1, h8, fun k hk => by rw [upd_n _ _ (by omega)]; exact hw.1.2.2 k hk⟩, fun f hf => by rw [upd_n _ _ (by omega)]; exact hw.2.1 f hf, fun d hd => ?_⟩
  by_cases e : d = d0
  · subst e
    exact ⟨v, hv, upd_s _ _ _⟩
  · rw [upd_n _ _ (by omega)]
    exact hw.2.2 d hd
theorem wfH_ltF {r : Nat → Int32} {n d : Nat} (hw : wfH r n) (hd : d < 35) : wfH (ltF r d 2) n := by
  have h1 := wfH_upd (k := 2 * d + 0) (x := -6) hw (by omega) (Or.inl rfl)
  have h2 := wfH_upd (k := 2 * d + 1) (x := -6) h1 (by omega) (Or.inl rfl)
  have e : ltF r d 2 = upd (upd r (46 + (2 * d + 0)) (-6)) (46 + (2 * d + 1)) (-6) := by
    show upd (upd r (46 + 2 * d + 0) (-6)) (46 + 2 * d + 1) (-6) = _
    rw [show 46 + 2 * d + 0 = 46 + (2 * d + 0) by omega, show 46 + 2 * d + 1 = 46 + (2 * d + 1) by omega]
  rw [e]
  exact h2
theorem wfH_let {r : Nat → Int32} {n : Nat} {d v : Int32} (hw : wfH r n) (h1 : ¬ p_in d 0 34 = 0) (h2 : ¬ p_in v 0 999 = 0) : wfH (q_letR r d.toNatClampNeg v) n := by
  obtain ⟨d, hd, rfl⟩ := p_in_nI (n := 34) (by decide) h1
  obtain ⟨v, hv, rfl⟩ := p_in_nI (n := 999) (by decide) h2
  rw [nI_cl (by omega)]
  unfold q_letR
  by_cases e : nI v ≤ 0
  · rw [if_pos e]
    exact wfH_rent hw hv
  · rw [if_neg e]
    exact wfH_rent (wfH_ltF hw (by omega)) hv
theorem set_ix {x v : Int32} (h : q_setE x v = 0) : x.toNatClampNeg < 5 := by
  have h1 : ¬ p_val x v = 0 := fun e => by
    unfold q_setE at h
    rw [if_pos e] at h
    exact absurd h (by decide)
  have h2 : ¬ p_in x 0 4 = 0 := fun e => h1 (val_no v e)
  obtain ⟨j, hj, rfl⟩ := p_in_nI (n := 4) (by decide) h2
  rw [nI_cl (by omega)]
  omega
theorem ip_film {g : Nat → Int32} {n : Nat} {u v : S9} {r : Int32} {o h : Nat} (hI : IC g n u) (ho : u 8 0 = nI o) (ho6 : o < 6) (hh : u 8 1 = nI h) (hle : h ≤ 6) (hn : n < 8) {xd xc xm xs xf : Nat} (hd : xd ≤ 3) (hc1 : 1 ≤ xc) (hc : xc ≤ 999) (hm : xm ≤ 500) (hs1 : 20 ≤ xs) (hs : xs ≤ 90) (hf : xf ≤ 34) (hp : (q_filmE (u 0) (nI xd) (nI xc) (nI xm) (nI xs) (nI xf) = 0 → n < 8 ∧ r = nI n ∧ v = st9 (hsM u o h) 0 (film9 (u 0) n (nI xd) (nI xc) (nI xm) (nI xs) (nI xf))) ∧ (¬ q_filmE (u 0) (nI xd) (nI xc) (nI xm) (nI xs) (nI xf) = 0 → r = q_filmE (u 0) (nI xd) (nI xc) (nI xm) (nI xs) (nI xf) ∧ v = u)) : r = nI n ∧ IC (film9 g n (nI xd) (nI xc) (nI xm) (nI xs) (nI xf)) (n + 1) v := by
  rw [hI.1] at hp
  have e1 : p_in (nI xd) 0 3 = 1 := p_in_ok (n := 3) hd (by decide)
  have e2 : p_in (nI xc) 1 999 = 1 := p_in_ok2 (b := 1) (n := 999) hc1 hc (by decide)
  have e3 : p_in (nI xm) 0 500 = 1 := p_in_ok (n := 500) hm (by decide)
  have e4 : p_in (nI xs) 20 90 = 1 := p_in_ok2 (b := 20) (n := 90) hs1 hs (by decide)
  have e5 : p_in (nI xf) 0 34 = 1 := p_in_ok (n := 34) hf (by decide)
  have e6 : ¬ g 5 = 8 := fun e => by
    rw [hI.2.1.1.1] at e
    have := nI_inj (b := 8) (by omega) (by omega) e
    omega
  have hE : q_filmE g (nI xd) (nI xc) (nI xm) (nI xs) (nI xf) = 0 := by
    unfold q_filmE
    rw [e1, e2, e3, e4, e5, if_neg (by decide), if_neg (by decide), if_neg (by decide), if_neg (by decide), if_neg (by decide), if_neg e6]
  exact ic_ok hI ho ho6 hh hle (wfH_film hI.2.1 hn hE) hE ⟨fun q => (hp.1 q).2, hp.2⟩
theorem k70 {d q : Nat} (hd : d < 35) (hq : q < 2) : 2 * d + q < 70 := by omega
theorem why_ok {g : Nat → Int32} {n f d q : Nat} (hw : wfH g n) (hf : f < n) (hd : d < 35) (hq : q < 2) : p_why g (nI f) (nI d) (nI q) = if p_canShow g f d = 0 then -5 else 0 := by
  have h8 := hw.1.2.1
  unfold p_why
  rw [p_f_ok hw hf, if_neg (by decide), p_part_ok hd hq, if_neg (by decide), nI_cl (by omega), nI_cl (by omega)]
theorem ip_show {g : Nat → Int32} {n : Nat} {u v : S9} {r : Int32} {o h : Nat} (hI : IC g n u) (ho : u 8 0 = nI o) (ho6 : o < 6) (hh : u 8 1 = nI h) (hle : h ≤ 6) {f d q : Nat} (hf : f < n) (hd : d < 35) (hq : q < 2) (hE : ¬ p_canShow g f d = 0) (hp : (p_why (u 0) (nI f) (nI d) (nI q) = 0 → r = u 0 (46 + q_k (nI d) (nI q)) ∧ v = st9 (hsM u o h) 0 (upd (u 0) (46 + q_k (nI d) (nI q)) (nI f))) ∧ (¬ p_why (u 0) (nI f) (nI d) (nI q) = 0 → r = p_why (u 0) (nI f) (nI d) (nI q) ∧ v = u)) : r = g (46 + (2 * d + q)) ∧ IC (upd g (46 + (2 * d + q)) (nI f)) n v := by
  rw [hI.1, q_k_ok hd hq, why_ok hI.2.1 hf hd hq] at hp
  exact ic_ok hI ho ho6 hh hle (wfH_upd hI.2.1 (k70 hd hq) (Or.inr ⟨f, hf, rfl⟩)) (if_neg hE) hp
theorem ip_showN {g : Nat → Int32} {n : Nat} {u v : S9} {r : Int32} {W : Prop} (hI : IC g n u) {f d q : Nat} (hf : f < n) (hd : d < 35) (hq : q < 2) (hE : p_canShow g f d = 0) (hp : W ∧ (¬ p_why (u 0) (nI f) (nI d) (nI q) = 0 → r = p_why (u 0) (nI f) (nI d) (nI q) ∧ v = u)) : r = -5 ∧ IC g n v := by
  rw [hI.1, why_ok hI.2.1 hf hd hq] at hp
  exact ic_no hI (if_pos hE) (by decide) hp
theorem ip_ifs {g : Nat → Int32} {n : Nat} {u v : S9} {r : Int32} (hI : IC g n u) {f d q : Nat} (hf : f < n) (hd : d < 35) (hq : q < 2) (hE : ¬ p_canShow g f d = 0) (hp : r = (if 0 ≤ p_why (u 0) (nI f) (nI d) (nI q) then q_more (u 0) (q_k (nI d) (nI q)) (nI f) + 1000000 else p_why (u 0) (nI f) (nI d) (nI q)) ∧ cc9 u v) : r = q_left (upd g (46 + (2 * d + q)) (nI f)) (-1) - q_left g (-1) + 1000000 ∧ IC g n v := by
  rw [hI.1, q_k_ok hd hq, why_ok hI.2.1 hf hd hq, if_neg hE, if_pos (by decide)] at hp
  exact ⟨hp.1, hI.cc hp.2⟩
theorem ip_ifsN {g : Nat → Int32} {n : Nat} {u v : S9} {r : Int32} (hI : IC g n u) {f d q : Nat} (hf : f < n) (hd : d < 35) (hq : q < 2) (hE : p_canShow g f d = 0) (hp : r = (if 0 ≤ p_why (u 0) (nI f) (nI d) (nI q) then q_more (u 0) (q_k (nI d) (nI q)) (nI f) + 1000000 else p_why (u 0) (nI f) (nI d) (nI q)) ∧ cc9 u v) : r = -5 ∧ IC g n v := by
  rw [hI.1, q_k_ok hd hq, why_ok hI.2.1 hf hd hq, if_pos hE, if_neg (by decide)] at hp
  exact ⟨hp.1, hI.cc hp.2⟩
theorem ip_drop {g : Nat → Int32} {n : Nat} {u v : S9} {r : Int32} {o h : Nat} (hI : IC g n u) (ho : u 8 0 = nI o) (ho6 : o < 6) (hh : u 8 1 = nI h) (hle : h ≤ 6) {d q : Nat} (hd : d < 35) (hq : q < 2) (hE : ¬ g (46 + (2 * d + q)) = -6) (hp : (q_dropE (u 0) (nI d) (nI q) = 0 → r = u 0 (46 + q_k (nI d) (nI q)) ∧ ¬ p_part (nI d) (nI q) = 0 ∧ v = st9 (hsM u o h) 0 (upd (u 0) (46 + q_k (nI d) (nI q)) (-6))) ∧ (¬ q_dropE (u 0) (nI d) (nI q) = 0 → r = q_dropE (u 0) (nI d) (nI q) ∧ v = u)) : r = g (46 + (2 * d + q)) ∧ IC (upd g (46 + (2 * d + q)) (-6)) n v := by
  rw [hI.1, q_k_ok hd hq] at hp
  have e : q_dropE g (nI d) (nI q) = 0 := by
    unfold q_dropE
    rw [p_part_ok hd hq, if_neg (by decide), q_k_ok hd hq, if_neg hE]
  exact ic_ok hI ho ho6 hh hle (wfH_upd hI.2.1 (k70 hd hq) (Or.inl rfl)) e ⟨fun z => ⟨(hp.1 z).1, (hp.1 z).2.2⟩, hp.2⟩
theorem ip_dropN {g : Nat → Int32} {n : Nat} {u v : S9} {r : Int32} {W : Prop} (hI : IC g n u) {d q : Nat} (hd : d < 35) (hq : q < 2) (hE : g (46 + (2 * d + q)) = -6) (hp : W ∧ (¬ q_dropE (u 0) (nI d) (nI q) = 0 → r = q_dropE (u 0) (nI d) (nI q) ∧ v = u)) : r = -5 ∧ IC g n v := by
  rw [hI.1] at hp
  refine ic_no hI ?_ (by decide) hp
  unfold q_dropE
  rw [p_part_ok hd hq, if_neg (by decide), q_k_ok hd hq, if_pos hE]
theorem exE_ok {g : Nat → Int32} {d q d2 q2 : Nat} (hd : d < 35) (hq : q < 2) (hd2 : d2 < 35) (hq2 : q2 < 2) : q_exE g (nI d) (nI q) (nI d2) (nI q2) = if p_canBe g (g (46 + (2 * d2 + q2))) d = 0 then -5 else if p_canBe g (g (46 + (2 * d + q))) d2 = 0 then -5 else 0 := by
  unfold q_exE
  rw [p_part_ok hd hq, p_part_ok hd2 hq2, if_neg (by decide), if_neg (by decide), q_k_ok hd hq, q_k_ok hd2 hq2, nI_cl (by omega), nI_cl (by omega)]

theorem ip_ex {g : Nat → Int32} {n : Nat} {u v : S9} {r : Int32} {o h : Nat} (hI : IC g n u) (ho : u 8 0 = nI o) (ho6 : o < 6) (hh : u 8 1 = nI h) (hle : h ≤ 6) {d q d2 q2 : Nat} (hd : d < 35) (hq : q < 2) (hd2 : d2 < 35) (hq2 : q2 < 2) (h1 : ¬ p_canBe g (g (46 + (2 * d2 + q2))) d = 0) (h2 : ¬ p_canBe g (g (46 + (2 * d + q))) d2 = 0) (hp : (q_exE (u 0) (nI d) (nI q) (nI d2) (nI q2) = 0 → ¬ p_part (nI d) (nI q) = 0 ∧ ¬ p_part (nI d2) (nI q2) = 0 ∧ r = q_left (q_exR (u 0) (q_k (nI d) (nI q)) (q_k (nI d2) (nI q2))) (-1) - q_left (u 0) (-1) + 1000000 ∧ cc9 (st9 (hsM u o h) 0 (q_exR (u 0) (q_k (nI d) (nI q)) (q_k (nI d2) (nI q2)))) v) ∧ (¬ q_exE (u 0) (nI d) (nI q) (nI d2) (nI q2) = 0 → r = q_exE (u 0) (nI d) (nI q) (nI d2) (nI q2) ∧ v = u)) : r = q_left (q_exR g (2 * d + q) (2 * d2 + q2)) (-1) - q_left g (-1) + 1000000 ∧ IC (q_exR g (2 * d + q) (2 * d2 + q2)) n v := by
  rw [hI.1, exE_ok hd hq hd2 hq2, q_k_ok hd hq, q_k_ok hd2 hq2, if_neg h1, if_neg h2] at hp
  obtain ⟨-, -, a, b⟩ := hp.1 rfl
  exact ⟨a, (hI.rec ho ho6 hh hle (wfH_ex hI.2.1 (k70 hd hq) (k70 hd2 hq2))).cc b⟩
theorem ip_exN {g : Nat → Int32} {n : Nat} {u v : S9} {r : Int32} {W : Prop} (hI : IC g n u) {d q d2 q2 : Nat} (hd : d < 35) (hq : q < 2) (hd2 : d2 < 35) (hq2 : q2 < 2) (hn : p_canBe g (g (46 + (2 * d2 + q2))) d = 0 ∨ p_canBe g (g (46 + (2 * d + q))) d2 = 0) (hp : W ∧ (¬ q_exE (u 0) (nI d) (nI q) (nI d2) (nI q2) = 0 → r = q_exE (u 0) (nI d) (nI q) (nI d2) (nI q2) ∧ v = u)) : r = -5 ∧ IC g n v := by
  rw [hI.1, exE_ok hd hq hd2 hq2] at hp
  refine ic_no hI ?_ (by decide) hp
  by_cases h1 : p_canBe g (g (46 + (2 * d2 + q2))) d = 0
  · rw [if_pos h1]
  · rw [if_neg h1, if_pos (hn.resolve_left h1)]
theorem ip_let {g : Nat → Int32} {n : Nat} {u v : S9} {r : Int32} {o h : Nat} (hI : IC g n u) (ho : u 8 0 = nI o) (ho6 : o < 6) (hh : u 8 1 = nI h) (hle : h ≤ 6) {d x : Nat} (hd : d < 35) (hx : x ≤ 999) (hp : (q_letE (nI d) (nI x) = 0 → ¬ p_in (nI d) 0 34 = 0 ∧ ¬ p_in (nI x) 0 999 = 0 ∧ r = (if nI x ≤ 0 then 0 else sm9 (q_lt (u 0) (nI d).toNatClampNeg) 2) ∧ v = st9 (hsM u o h) 0 (q_letR (u 0) (nI d).toNatClampNeg (nI x))) ∧ (¬ q_letE (nI d) (nI x) = 0 → r = q_letE (nI d) (nI x) ∧ v = u)) : r = (if nI x ≤ 0 then 0 else sm9 (q_lt g d) 2) ∧ IC (q_letR g d (nI x)) n v := by
  have e1 : p_in (nI d) 0 34 = 1 := p_in_ok (n := 34) (by omega) (by decide)
  have e2 : p_in (nI x) 0 999 = 1 := p_in_ok (n := 999) hx (by decide)
  have hE : q_letE (nI d) (nI x) = 0 := by
    unfold q_letE
    rw [e1, e2, if_neg (by decide), if_neg (by decide)]
  have hw := wfH_let (d := nI d) (v := nI x) hI.2.1 (by rw [e1]; decide) (by rw [e2]; decide)
  rw [nI_cl (by omega)] at hw
  rw [hI.1, nI_cl (by omega)] at hp
  exact ic_ok hI ho ho6 hh hle hw hE ⟨fun q => (hp.1 q).2.2, hp.2⟩
theorem ip_set {g : Nat → Int32} {n : Nat} {u v : S9} {r x : Int32} {o h : Nat} (hI : IC g n u) (ho : u 8 0 = nI o) (ho6 : o < 6) (hh : u 8 1 = nI h) (hle : h ≤ 6) {i : Nat} (hi : i < 5) (hE : q_setE (nI i) x = 0) (hp : (q_setE (nI i) x = 0 → r = u 0 (nI i).toNatClampNeg ∧ v = st9 (hsM u o h) 0 (upd (u 0) (nI i).toNatClampNeg x)) ∧ (¬ q_setE (nI i) x = 0 → r = q_setE (nI i) x ∧ v = u)) : r = g i ∧ IC (upd g i x) n v := by
  rw [hI.1, nI_cl (by omega)] at hp
  exact ic_ok hI ho ho6 hh hle (wfH_set hI.2.1 hi) hE hp


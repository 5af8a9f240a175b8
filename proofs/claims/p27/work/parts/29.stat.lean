/-! ===== static rows: the class's own tables of least, most and first settings ===== -/
/-- a static array of ints that nobody writes: the static, the row behind it, its length -/
def z9 (C n d : String) (t N : Nat) (f : Nat → Int32) (A : Nat → Prop) (U : State) (H : Heap) : Prop := va_Z C n d (.ref t) A U H ∧ va_T .int t N (fun j => .int (f j)) A U H ∧ va_X t N f U H
theorem z9.moved {C n d : String} {t N : Nat} {f : Nat → Int32} {A : Nat → Prop} {u U : State} {H : Heap} (hvm : u.vm.Alike U.vm) (h : z9 C n d t N f A u H) : z9 C n d t N f A U H := ⟨va_Z.moved hvm h.1, va_T.moved hvm h.2.1, va_X.moved hvm h.2.2⟩
theorem z9.kept {C n d : String} {t N : Nat} {f : Nat → Int32} {A : Nat → Prop} {U : State} {H H1 : Heap} (h : z9 C n d t N f A U H) (hq : ∀ a : Nat, a < H.size → ¬ A a → H1[a]? = H[a]?) : z9 C n d t N f A U H1 := by
  refine ⟨h.1.kept hq, h.2.1.kept hq, h.2.2.kept ?_⟩
  obtain ⟨cell, h1, h2, h3, h4, h5, h6, h7⟩ := h.2.1
  exact hq t (Array.getElem?_eq_some_iff.mp h1).1 h7
theorem z9.narrow {C n d : String} {t N : Nat} {f : Nat → Int32} {A B : Nat → Prop} {U : State} {H : Heap} (h : z9 C n d t N f A U H) (hAB : ∀ q, B q → A q) : z9 C n d t N f B U H := ⟨h.1.narrow hAB, h.2.1.narrow hAB, h.2.2⟩
def lsF : Nat → Int32 := fun j => ([10, 1, 0, 1, 1] : List Int32).getD j 0
def msF : Nat → Int32 := fun j => ([300, 20, 200, 100, 100] : List Int32).getD j 0
def fsF : Nat → Int32 := fun j => ([80, 6, 30, 40, 20] : List Int32).getD j 0
def zS (tl tm tf : Nat) (A : Nat → Prop) (U : State) (H : Heap) : Prop := z9 "VillageCinema" "LEAST_SETTING" "[I" tl 5 lsF A U H ∧ z9 "VillageCinema" "MOST_SETTING" "[I" tm 5 msF A U H ∧ z9 "VillageCinema" "FIRST_SETTING" "[I" tf 5 fsF A U H
theorem zS.moved {tl tm tf : Nat} {A : Nat → Prop} {u U : State} {H : Heap} (hvm : u.vm.Alike U.vm) (h : zS tl tm tf A u H) : zS tl tm tf A U H := ⟨h.1.moved hvm, h.2.1.moved hvm, h.2.2.moved hvm⟩
theorem zS.kept {tl tm tf : Nat} {A : Nat → Prop} {U : State} {H H1 : Heap} (h : zS tl tm tf A U H) (hq : ∀ a : Nat, a < H.size → ¬ A a → H1[a]? = H[a]?) : zS tl tm tf A U H1 := ⟨h.1.kept hq, h.2.1.kept hq, h.2.2.kept hq⟩
theorem zS.narrow {tl tm tf : Nat} {A B : Nat → Prop} {U : State} {H : Heap} (h : zS tl tm tf A U H) (hAB : ∀ q, B q → A q) : zS tl tm tf B U H := ⟨h.1.narrow hAB, h.2.1.narrow hAB, h.2.2.narrow hAB⟩
def zE (tl tm tf : Nat) (A : Nat → Prop) (U : State) : Prop := zS tl tm tf A U U.heap
def CMiE {τ : Type} (l : Launch) (w : τ → va_W) (D : va_G) (tys : List (ClassId × FieldType)) (y : MethodName) (ws : List Cond) (rm : Room) (As : List Value) (σ : τ) (tl tm tf : Nat) (post : Int32 → τ → Prop) : Prop :=
  ∀ sz : Nat, Met l y ws rm (va_Pc As (fun U => U.heap.size = sz ∧ v9_world D w tys (fun _ => True) σ U ∧ zE tl tm tf (va_A (w σ) sz) U)) (va_Qi post (v9_world D w tys (va_A (w σ) sz)) (va_A (w σ) sz)) 0 0 (va_A (w σ) sz)
theorem v9_blindE {τ : Type} {D : va_G} {w : τ → va_W} {tys : List (ClassId × FieldType)} {As : List Value} {σ : τ} {sz tl tm tf : Nat} {A : Nat → Prop} : FrameBlind (va_Pc As (fun U => U.heap.size = sz ∧ v9_world D w tys (fun _ => True) σ U ∧ zE tl tm tf A U)) := fun a U g mk q => by
  obtain ⟨q0, q1, ⟨qP, qK, qD⟩, qE⟩ := q
  exact ⟨q0, q1, ⟨qP, va_K.moved (u := U) (U := U.calling g mk a) (Vm.Alike.refl U.vm) qK, qD⟩, zS.moved (u := U) (U := U.calling g mk a) (Vm.Alike.refl U.vm) qE⟩
section V9E
variable {p : Program} {l : Launch} {e : Env} {R : Room} {s : State} {m : MethodId} {args : Array Value} {below : List Frame} {meth : Method} {c : Code} {cells slots : Nat} {Q : State → Prop}
variable {τ : Type} {w : τ → va_W} {D : va_G} {A : Nat → Prop} {H0 : Heap} {nL : Nat} {cc : ByteArray} {Ts : List Cond} {own : String} {tys : List (ClassId × FieldType)} {σ : τ} {pc pc' : Nat} {lv lv' : List (Nat × Value)} {st rest : List Value}
theorem v_gets (C : CX p m c cc nL s args Ts own A s.heap) {Cn n d : String} {v : Value} {index : Nat} (hZ : va_Z Cn n d v A s s.heap) (hm : Cond.fieldLink own index Cn n d ∈ Ts) (hdg : decode cc pc = .ok (.getstatic index, 3)) (hp : pc + 3 = pc') (kk : VV p l e R s m args below meth c cells slots Q w D A s.heap nL σ pc' lv (v :: st)) : VV p l e R s m args below meth c cells slots Q w D A s.heap nL σ pc lv st := by
  subst hp
  exact fun H locs ls hP hD hS h => va_gets C.1.1 C.1.2.1 hZ hS C.1.2.2.2.1 (C.1.2.2.2.2 _ hm) (fun x h9 => h9) hdg (kk H locs ls hP hD hS h)
theorem v_ti (C : CX p m c cc nL s args Ts own A s.heap) {t N : Nat} {f : Nat → Int32} (hT : va_T .int t N (fun j => .int (f j)) A s s.heap) (j : Nat) {i : Int32} (hi : i = nI j) (hj : j < N) (hN : N ≤ 100000) (hdg : decode cc pc = .ok (.iaload, 1)) (hp : pc + 1 = pc') (kk : VV p l e R s m args below meth c cells slots Q w D A s.heap nL σ pc' lv (.int (f j) :: st)) : VV p l e R s m args below meth c cells slots Q w D A s.heap nL σ pc lv (.int i :: .ref t :: st) := by
  subst hp
  obtain ⟨h1, h2⟩ := i9_in hi hj hN
  exact fun H locs ls hP hD hS h => va_ti C.1.1 C.1.2.1 hT hS h1 (by rw [h2]) hdg (kk H locs ls hP hD hS h)
theorem v_startiE {y : MethodName} {ws ws' : List Cond} {rm : Room} {ty : FieldType} {As : List Value} {tl tm tf : Nat} {post : Int32 → τ → Prop} (ho : y.cls = own) (hy : plainName y.cls = true) (hw : ws = Cond.code y cc nL (some ty) :: ws') (hlg : (lg_sl As).length ≤ nL)
    (body : ∀ (p : Program) (e : Env) (s : State) (m : MethodId) (args : Array Value) (below : List Frame) (meth : Method) (c : Code) (A : Nat → Prop) (Q : State → Prop), CX p m c cc nL s args ws own A s.heap → va_K D vwCl tys s → zS tl tm tf A s s.heap → (∀ {σ1 : τ} {pc1 : Nat} {lv1 : List (Nat × Value)} {r : Int32}, post r σ1 → narrow ty (.int r) = .int r → decode cc pc1 = .ok (.ireturn, 1) → VV p l e rm s m args below meth c 0 0 Q w D A s.heap nL σ1 pc1 lv1 [.int r]) → VV p l e rm s m args below meth c 0 0 Q w D A s.heap nL σ 0 (lv_args 0 As) []) : CMiE l w D tys y ws rm As σ tl tm tf post := by
  subst ho
  intro sz
  refine Met.ofW (cc := cc) (maxL := nL) (ret := some ty) hy hw ?_
  intro p e s m args below meth c s₁ B hml hv
  obtain ⟨rfl, hsz, ⟨hP, K, hD0⟩, hE⟩ := hv
  subst hsz
  have hl := lv_entry As (n := nL) hlg
  rw [lg_entry_eq]
  have C : CX p m c cc nL s As.toArray ws y.cls (va_A (w σ) s.heap.size) s.heap := ⟨⟨B.exec, B.bytes, hml, findClass_of_methodNamed B.named, atoms_spec (ws := ws) B.pre⟩, fun q h => Or.inr h⟩
  exact body p e s m As.toArray below meth c (va_A (w σ) s.heap.size) _ C K hE (fun h1 h2 h3 => v_iret C K B.returns B.notSynchronized h2 h1 h3) s.heap [] _ hP hD0.self va_S.rf hl
end V9E
set_option maxRecDepth 20000 in
theorem gs_X4_set_50 : Cond.fieldLink RX4 50 "VillageCinema" "LEAST_SETTING" "[I" ∈ wsX4_set := by decide +kernel
set_option maxRecDepth 20000 in
theorem gs_X4_set_54 : Cond.fieldLink RX4 54 "VillageCinema" "MOST_SETTING" "[I" ∈ wsX4_set := by decide +kernel
theorem val_tab (v : Int32) {i : Nat} (hi : i < 5) : p_in v (lsF i) (msF i) = p_val (nI i) v := by
  rcases (show i = 0 ∨ i = 1 ∨ i = 2 ∨ i = 3 ∨ i = 4 by omega) with rfl | rfl | rfl | rfl | rfl <;> rfl
theorem val_no {x : Int32} (v : Int32) (h : p_in x 0 4 = 0) : p_val x v = 0 := by
  have h' := p_in_no (n := 4) (by decide) h
  unfold p_val
  rw [if_neg (show ¬ x = 0 from h' 0 (by decide)), if_neg (show ¬ x = 1 from h' 1 (by decide)), if_neg (show ¬ x = 2 from h' 2 (by decide)), if_neg (show ¬ x = 3 from h' 3 (by decide)), if_neg (show ¬ x = 4 from h' 4 (by decide))]
theorem pf_s {x t : Int32} {j : Nat} (hj : j < 20) (h : x * nI (1 + j) < t) : q_pf x t (20 - j) = q_pf x t (20 - (j + 1)) := by
  rw [show 20 - j = (20 - (j + 1)) + 1 by omega, q_pf, show 20 - (20 - (j + 1)) = 1 + j by omega, if_pos h]
theorem pf_e {x t : Int32} {j : Nat} (hj : j < 20) (h : ¬ x * nI (1 + j) < t) : q_pf x t (20 - j) = nI (1 + j) := by
  rw [show 20 - j = (20 - (j + 1)) + 1 by omega, q_pf, show 20 - (20 - (j + 1)) = 1 + j by omega, if_neg h]
set_option maxHeartbeats 4000000 in
set_option maxRecDepth 100000 in
theorem c_X4_set (l : Launch) (D : va_G) (ad : Nat → Nat) (cI cC cZ cQ : ClassId) (σ : S9) (o : Nat) (ho : σ 8 0 = nI o) (ho6 : o < 6) (h : Nat) (hh : σ 8 1 = nI h) (hle : h ≤ 6) (tl tm tf : Nat) (x v : Int32) : CMiE l (cW ad cI cC cZ cQ) D (cTy cI cC cZ cQ) yX4_set wsX4_set ({ frames := 3, cells := 0, slots := 0, locals := 68 } : Room) [.ref (ad 0), .int x, .int v] σ tl tm tf (fun r u => (q_setE x v = 0 → r = σ 0 x.toNatClampNeg ∧ u = st9 (hsM σ o h) 0 (upd (σ 0) x.toNatClampNeg v)) ∧ (¬ q_setE x v = 0 → r = q_setE x v ∧ u = σ)) := by
  refine v_startiE (own := RX4) (cc := cX4_set) (nL := 3) rfl (by decide) rfl (Nat.le_of_ble_eq_true rfl) ?_
  intro p e s m args below meth c A Q C K hE9 hend
  refine v_lv (lv' := [(0, .ref (ad 0)), (1, .int x), (2, .int v)]) [0, 1, 2] rfl ?_
  refine v_iload_n C dX4_set_0 rfl 1 1 rfl rfl ?_
  refine v_iconst (v := 0) C dX4_set_1 rfl ic_0 ?_
  refine v_iconst (v := 4) C dX4_set_2 rfl ic_4 ?_
  refine v_callSpd C (c_X4_isWithin l _ _ _) gX4_set_X4_isWithin rfl hd_X4_isWithin.2 ⟨rfl, rfl⟩ ⟨Nat.le_of_ble_eq_true rfl, Nat.le_of_ble_eq_true rfl⟩ rfl rfl (Nat.le_of_ble_eq_true rfl) ⟨Nat.le_refl _, Nat.le_refl _⟩ dX4_set_3 rfl ?_
  refine v_if_ne C 12 dX4_set_6 (by decide) rfl (fun h6 => ?_) (fun h6t => ?_)
  · skip
    obtain ⟨i, hi, rfl⟩ := p_in_nI (n := 4) (by decide) h6
    replace hi : i < 5 := by omega
    have eci : (nI i).toNatClampNeg = i := nI_cl (by omega)
    refine v_iload_n C dX4_set_12 rfl 2 2 rfl rfl ?_
    refine v_gets C (hE9.1).1 gs_X4_set_50 dX4_set_13 rfl ?_
    refine v_iload_n C dX4_set_16 rfl 1 1 rfl rfl ?_
    refine v_ti C (hE9.1).2.1 (i) (rfl) (by omega) (by decide) dX4_set_17 rfl ?_
    refine v_gets C (hE9.2.1).1 gs_X4_set_54 dX4_set_18 rfl ?_
    refine v_iload_n C dX4_set_21 rfl 1 1 rfl rfl ?_
    refine v_ti C (hE9.2.1).2.1 (i) (rfl) (by omega) (by decide) dX4_set_22 rfl ?_
    refine v_callSpd C (c_X4_isWithin l _ _ _) gX4_set_X4_isWithin rfl hd_X4_isWithin.2 ⟨rfl, rfl⟩ ⟨Nat.le_of_ble_eq_true rfl, Nat.le_of_ble_eq_true rfl⟩ rfl rfl (Nat.le_of_ble_eq_true rfl) ⟨Nat.le_refl _, Nat.le_refl _⟩ dX4_set_23 rfl ?_
    refine v_top (p_val (nI i) v) (val_tab v hi) ?_
    refine v_if_ne C 32 dX4_set_26 (by decide) rfl (fun h26 => ?_) (fun h26t => ?_)
    · skip
      refine v_aload_n C dX4_set_32 rfl 0 0 rfl rfl ?_
      refine v_get C K in_X4_set_X4 0 rfl rfl 3 (by decide) fl_X4_set_X4_3 rfl dX4_set_33 rfl ?_
      refine v_aload_n C dX4_set_36 rfl 0 0 rfl rfl ?_
      refine v_get C K in_X4_set_X4 0 rfl rfl 0 (by decide) fl_X4_set_X4_0 rfl dX4_set_37 rfl ?_
      refine v_callVvd C K (c_X2_record l D ad cI cC cZ cQ _ o ho ho6 h hh hle) gX4_set_X2_record rfl hd_X2_record ⟨rfl, rfl⟩ ⟨Nat.le_of_ble_eq_true rfl, Nat.le_of_ble_eq_true rfl⟩ 10 rfl rfl rfl rfl rfl (Nat.le_of_ble_eq_true rfl) ⟨Nat.le_refl _, Nat.le_refl _⟩ dX4_set_40 rfl ?_
      refine v_aload_n C dX4_set_43 rfl 0 0 rfl rfl ?_
      refine v_get C K in_X4_set_X4 0 rfl rfl 0 (by decide) fl_X4_set_X4_0 rfl dX4_set_44 rfl ?_
      refine v_iload_n C dX4_set_47 rfl 1 1 rfl rfl ?_
      refine v_iload_n C dX4_set_48 rfl 2 2 rfl rfl ?_
      refine v_callVid C K (c_X1_changeSetting l D ad cI cC cZ cQ _ i hi _) gX4_set_X1_changeSetting rfl hd_X1_changeSetting ⟨rfl, rfl⟩ ⟨Nat.le_of_ble_eq_true rfl, Nat.le_of_ble_eq_true rfl⟩ 1 rfl rfl rfl rfl rfl (Nat.le_of_ble_eq_true rfl) ⟨Nat.le_refl _, Nat.le_refl _⟩ dX4_set_49 rfl ?_
      exact hend (⟨fun _ => ⟨by rw [eci, hsM_0], by rw [eci, hsM_0]⟩, fun q => absurd (by simp [q_setE, h26]) q⟩) (rfl) dX4_set_52
    · skip
      refine v_bipush (v := -2) C dX4_set_29 rfl bp_m2 ?_
      exact hend (⟨fun q => absurd q (by simp [q_setE, h26t]), fun _ => ⟨by simp [q_setE, h26t], rfl⟩⟩) (rfl) dX4_set_31
  · skip
    refine v_bipush (v := -2) C dX4_set_9 rfl bp_m2 ?_
    exact hend (⟨fun q => absurd q (by rw [q_setE, val_no v h6t]; decide), fun _ => ⟨by rw [q_setE, val_no v h6t]; rfl, rfl⟩⟩) (rfl) dX4_set_11

theorem vr_outer (c : ClassId) (N h0 : Nat) : ∀ i : Nat, Jvm.Free.Multi.outerC c N h0 i = arrV c N (fun j => va_rf (if j < i then some (h0 + 1 + j) else none))
  | 0 => by
    show ({ cls := c, slots := Array.replicate N .null, vm := .none } : Cell) = _
    rw [arrV_new]
    refine congrArg (arrV c N) (funext fun j => ?_)
    simp [va_rf]
  | i + 1 => by
    show (Jvm.Free.Multi.outerC c N h0 i).setSlot i (.ref (h0 + 1 + i)) = _
    rw [vr_outer c N h0 i, arrV_store]
    refine congrArg (arrV c N) (funext fun j => ?_)
    by_cases e : j = i
    · subst e
      simp [updV, va_rf]
    · by_cases h : j < i
      · simp [updV, e, h, Nat.lt_succ_of_lt h]
      · simp [updV, e, h, show ¬ j < i + 1 by omega]
/-! ===== constructors: a world that grows ===== -/
def aoa9 (U : State) : Prop := (Cond.arrayOver (.array .int)).before #[] U = true
theorem aoa9.moved {u U : State} (hvm : u.vm.Alike U.vm) (h : aoa9 u) : aoa9 U := Jvm.Stand.arrayOver_alikeB hvm h
/-- words of a nest: they hold warm too -/
def nwS (U : State) : Prop := va_Nw (.fieldLinkNest RX1 15 "VillageCinema" "FIRST_SETTING" "[I" "VillageCinema") U ∧ va_Nw (.methodLinkNest RX4 18 yX0_init RX4) U ∧ va_Nw (.methodLinkNest RX4 25 yX3_init RX4) U ∧ va_Nw (.methodLinkNest RX4 32 yX2_init RX4) U
theorem nwS.warm {s U : State} (hW : s.WarmedH U.vm) (h : nwS s) : nwS U := ⟨va_Nw.warmF hW h.1, va_Nw.warmM hW h.2.1, va_Nw.warmM hW h.2.2.1, va_Nw.warmM hW h.2.2.2⟩
theorem nwS.same {u U : State} (hvm : u.vm = U.vm) (h : nwS u) : nwS U := ⟨va_Nw.same rfl hvm h.1, va_Nw.same rfl hvm h.2.1, va_Nw.same rfl hvm h.2.2.1, va_Nw.same rfl hvm h.2.2.2⟩
def iE (tl tm tf : Nat) (A : Nat → Prop) (U : State) : Prop := zS tl tm tf A U U.heap ∧ aoa9 U ∧ nwS U
def CN (l : Launch) (D : va_G) (tys : List (ClassId × FieldType)) (y : MethodName) (ws : List Cond) (rm : Room) (As : List Value) (σ : va_W) (tl tm tf mc ms : Nat) (post : va_W → Prop) : Prop :=
  ∀ sz : Nat, Met l y ws rm (va_Pc As (fun U => U.heap.size = sz ∧ v9_world D (fun u : va_W => u) tys (fun _ => True) σ U ∧ iE tl tm tf (va_A σ sz) U)) (va_Qv post (v9_world D (fun u : va_W => u) tys (va_A σ sz)) (va_A σ sz)) mc ms (va_A σ sz)
theorem v9_blindN {D : va_G} {tys : List (ClassId × FieldType)} {As : List Value} {σ : va_W} {sz tl tm tf : Nat} {A : Nat → Prop} : FrameBlind (va_Pc As (fun U => U.heap.size = sz ∧ v9_world D (fun u : va_W => u) tys (fun _ => True) σ U ∧ iE tl tm tf A U)) := fun a U g mk q => by
  obtain ⟨q0, q1, ⟨qP, qK, qD⟩, qE, qo, qn⟩ := q
  exact ⟨q0, q1, ⟨qP, va_K.moved (u := U) (U := U.calling g mk a) (Vm.Alike.refl U.vm) qK, qD⟩, zS.moved (u := U) (U := U.calling g mk a) (Vm.Alike.refl U.vm) qE, aoa9.moved (u := U) (U := U.calling g mk a) (Vm.Alike.refl U.vm) qo, nwS.same (u := U) (U := U.calling g mk a) rfl qn⟩
theorem ra_int (s : State) : ∀ x y, va_RA s x .int → va_RA s y .int → x = y := fun _ _ h1 h2 => Option.some.inj (Eq.trans (Eq.symm h1) h2)
theorem ra_char (s : State) : ∀ x y, va_RA s x .char → va_RA s y .char → x = y := fun _ _ h1 h2 => Option.some.inj (Eq.trans (Eq.symm h1) h2)
theorem ra_bool (s : State) : ∀ x y, va_RA s x .boolean → va_RA s y .boolean → x = y := fun _ _ h1 h2 => Option.some.inj (Eq.trans (Eq.symm h1) h2)
section V9N
variable {p : Program} {l : Launch} {e : Env} {R : Room} {s : State} {m : MethodId} {args : Array Value} {below : List Frame} {meth : Method} {c : Code} {cells slots : Nat} {Q : State → Prop}
variable {D : va_G} {A : Nat → Prop} {H0 : Heap} {nL : Nat} {cc : ByteArray} {Ts : List Cond} {own : String} {tys : List (ClassId × FieldType)} {σ : va_W} {pc pc' : Nat} {lv lv' : List (Nat × Value)} {st rest : List Value}
theorem v_wid {τ : Type} {w : τ → va_W} {τσ : τ} {k n : Nat} (h1 : cells ≤ k) (h2 : slots ≤ n) (kk : VV p l e R s m args below meth c k n Q w D A H0 nL τσ pc lv st) : VV p l e R s m args below meth c cells slots Q w D A H0 nL τσ pc lv st := fun H locs ls hP hD hS h => W.widen h1 h2 (kk H locs ls hP hD hS h)
theorem v_objinit {τ : Type} {w : τ → va_W} {τσ : τ} (C : CX p m c cc nL s args Ts own A H0) {idx a : Nat} (h1 : Cond.methodLink own idx objectInit ∈ Ts) (h2 : Cond.instanceMethod objectInit ∈ Ts) (h3 : Cond.code objectInit ⟨#[0xb1]⟩ 1 none ∈ Ts) (hdg : decode cc pc = .ok (.invokespecial idx, 3)) (hp : pc + 3 = pc') (hframes : 1 ≤ R.frames) (hlocals : (rest.map fun v => v.category).sum + 12 ≤ R.locals) (kk : VV p l e R s m args below meth c cells slots Q w D A H0 nL τσ pc' lv rest) : VV p l e R s m args below meth c cells slots Q w D A H0 nL τσ pc lv (.ref a :: rest) := by
  subst hp
  intro H locs ls hP hD hS h
  refine W.objInit C.1.1 C.1.2.1 C.1.2.2.2.1 (C.1.2.2.2.2 _ h1) (C.1.2.2.2.2 _ h2) (C.1.2.2.2.2 _ h3) rfl (h.1.trans C.1.2.2.1.symm) rfl hdg hframes (by show 2 * 0 + _ + 12 ≤ _; omega) ?_
  exact W.eq (g2 := F0 m (pc + 3) ls rest) rfl (kk H locs ls hP hD hS h)
theorem v_newa (C : CX p m c cc nL s args Ts own A H0) (K : va_K D vwCl tys s) {atype : ArrayType} {ty : FieldType} {cA : ClassId} (hu : ∀ x y, va_RA s x ty → va_RA s y ty → x = y) (hty : newarray.typeOf atype = ty) (hm : Cond.arrayClass (newarray.typeOf atype) ∈ Ts) (t : Nat) (ht : tys[t]? = some (cA, ty)) {n : Int32} {N' : Nat} {a0 : vp_A} (ha : ∀ cA : ClassId, vp_cell cA a0 = arrV cA N' (fun _ => defaultValue ty)) (hn : n = nI N') (hN : N' ≤ 100000) (hbytes : N' * componentBytes ty ≤ 536870912) (hcells : cells + 1 ≤ R.cells) (hslots : slots + N' ≤ R.slots) (hdg : decode cc pc = .ok (.newarray atype, 2)) (hp : pc + 2 = pc')
    (kk : ∀ q : Nat, VV p l e R s m args below meth c (cells + 1) (slots + N') Q (fun u : va_W => u) D A H0 nL (σ ++ [(q, .inl (cA, a0))]) pc' lv (.ref q :: st)) : VV p l e R s m args below meth c cells slots Q (fun u : va_W => u) D A H0 nL σ pc lv (.int n :: st) := by
  subst hp
  subst hn
  intro H locs ls hP hD hS h
  refine va_newa C.1.1 C.1.2.1 (C.1.2.2.2.2 _ hm) hty K hP hD hS C.2 ha (nI_pos (by omega)) (nI_clamp (by omega)) hbytes hcells hslots hdg (fun q cA' H1 K1 hP1 hD1 hS1 => ?_)
  have e : cA' = cA := hu _ _ (K1.2 tys.length (cA', ty) (by simp)).2 (K.2 t _ ht).2
  subst e
  exact kk q H1 locs ls hP1 hD1 hS1 h
theorem v_newo (C : CX p m c cc nL s args Ts own A H0) (K : va_K D vwCl tys s) {C' : String} {T : u_T} {N ci index : Nat} (hin : ∀ w ∈ u_ws C' T N, w ∈ Ts) (ty : Nat → FieldType) (hty : ∀ k, k < N → parseFieldDescriptor (T k).2.2.1 = some (ty k)) (h1 : Cond.classLink own index C' ∈ Ts) (h2 : Cond.instantiable C' N ∈ Ts) (h3 : Cond.initialized C' ∈ Ts) (hc : vwCl[ci]? = some (C', T, N)) {fs : List Value} (hfs : ∀ j, j < N → defaultValue (ty j) = vp_V fs j) (hcells : cells + 1 ≤ R.cells) (hslots : slots + N ≤ R.slots) (hdg : decode cc pc = .ok (.new index, 3)) (hp : pc + 3 = pc')
    (kk : ∀ q : Nat, VV p l e R s m args below meth c (cells + 1) (slots + N) Q (fun u : va_W => u) D A H0 nL (σ ++ [(q, .inr (ci, fs))]) pc' lv (.ref q :: st)) : VV p l e R s m args below meth c cells slots Q (fun u : va_W => u) D A H0 nL σ pc lv st := by
  subst hp
  intro H locs ls hP hD hS h
  exact va_new C.1.1 C.1.2.1 C.1.2.2.2.2 hin ty hty C.1.2.2.2.1 (C.1.2.2.2.2 _ h1) (C.1.2.2.2.2 _ h2) (C.1.2.2.2.2 _ h3) K hP hD hS C.2 hc hfs hcells hslots hdg (fun q H1 hP1 hD1 hS1 => kk q H1 locs ls hP1 hD1 hS1 h)
theorem v_putF (C : CX p m c cc nL s args Ts own A H0) (K : va_K D vwCl tys s) (hin9 : meth.name = "<init>") {Cn : String} {T : u_T} {N ci index a : Nat} {fs : List Value} {v : Value} {ty : FieldType} {ty0 : Nat → FieldType} (σ2 : va_W) (hin : ∀ x ∈ u_ws Cn T N, x ∈ Ts) (hty : ∀ k, k < N → parseFieldDescriptor (T k).2.2.1 = some (ty0 k)) (hnm : ∀ a, a < N → ∀ b, b < N → a ≠ b → (T a).2.1 ≠ (T b).2.1) (q0 : Nat) (he : σ[q0]? = some (a, .inr (ci, fs))) (hc : vwCl[ci]? = some (Cn, T, N)) (k : Nat) (hk : k < N) (hlink : Cond.fieldLink own index (T k).1 (T k).2.1 (T k).2.2.1 ∈ Ts) (hfin : (T k).2.2.2 = true) (hdecl : (T k).1 = own) (hd : parseFieldDescriptor (T k).2.2.1 = some ty) (hn : narrow ty v = v) (hfit : fits ty v = true) (hl : k < fs.length) (hw : σ.set q0 (a, .inr (ci, fs.set k v)) = σ2) (hdg : decode cc pc = .ok (.putfield index, 3)) (hp : pc + 3 = pc')
    (kk : VV p l e R s m args below meth c cells slots Q (fun u : va_W => u) D A H0 nL σ2 pc' lv st) : VV p l e R s m args below meth c cells slots Q (fun u : va_W => u) D A H0 nL σ pc lv (v :: .ref a :: st) := by
  subst hp
  subst hw
  intro H locs ls hP hD hS h
  exact va_putF C.1.1 C.1.2.1 C.1.2.2.2.2 hin ty0 hty hnm C.1.2.2.2.1 K hP hD hS q0 he hc k hk (C.1.2.2.2.2 _ hlink) (fun x h9 => h9) hfin hin9 hdecl hd hn hfit hl hdg (fun H1 locs1 hP1 hD1 hS1 => kk H1 locs1 ls hP1 hD1 hS1 h)
theorem v_getsN (C : CX p m c cc nL s args Ts own A s.heap) {τ : Type} {w : τ → va_W} {τσ : τ} {Cn n d host : String} {v : Value} {index : Nat} (hZ : va_Z Cn n d v A s s.heap) (hm : va_Nw (.fieldLinkNest own index Cn n d host) s) (hdg : decode cc pc = .ok (.getstatic index, 3)) (hp : pc + 3 = pc') (kk : VV p l e R s m args below meth c cells slots Q w D A s.heap nL τσ pc' lv (v :: st)) : VV p l e R s m args below meth c cells slots Q w D A s.heap nL τσ pc lv st := by
  subst hp
  exact fun H locs ls hP hD hS h => va_getsN C.1.1 C.1.2.1 hZ hS C.1.2.2.2.1 (va_Nw.use rfl hm) (fun x h9 => h9) hdg (kk H locs ls hP hD hS h)
theorem v_copyx (C : CX p m c cc nL s args Ts own A s.heap) (K : va_K D vwCl tys s) {index : Nat} (h1 : Cond.methodLink own index arraycopyName ∈ Ts) (h2 : Cond.native arraycopyName ∈ Ts) (h3 : Cond.static arraycopyName ∈ Ts) (h4 : Cond.initialized "java/lang/System" ∈ Ts) (σ2 : va_W) {b0 n0 : Nat} {f : Nat → Int32} {C' n' d' : String} (hz : z9 C' n' d' b0 n0 f A s s.heap) (q1 t1 : Nat) {a : Nat} {c1 : ClassId} {n1 : Nat} {g : Nat → Int32} (ha1 : σ[q1]? = some (a, .inl (c1, n1, .inl g))) (ht1 : tys[t1]? = some (c1, .int)) {sj dj nj : Nat} {sp dp n : Int32} (hs : sp = nI sj) (hd : dp = nI dj) (hn : n = nI nj) (hb : sj ≤ 100000 ∧ dj ≤ 100000 ∧ nj ≤ 100000) (h5 : sj + nj ≤ n0) (h6 : dj + nj ≤ n1) (hframes : 1 ≤ R.frames) (hlocals : (st.map fun v => v.category).sum + (nativeFrameWords "java/lang/System" "arraycopy" 5 + 11) ≤ R.locals) (hw : σ.set q1 (a, .inl (c1, n1, .inl (va_cpy f g sj dj nj))) = σ2) (hdg : decode cc pc = .ok (.invokestatic index, 3)) (hp : pc + 3 = pc')
    (kk : VV p l e R s m args below meth c cells slots Q (fun u : va_W => u) D A s.heap nL σ2 pc' lv st) : VV p l e R s m args below meth c cells slots Q (fun u : va_W => u) D A s.heap nL σ pc lv (.int n :: .int dp :: .ref a :: .int sp :: .ref b0 :: st) := by
  subst hp
  subst hs
  subst hd
  subst hn
  subst hw
  have e1 : (nI sj).toNatClampNeg = sj := nI_clamp (by omega)
  have e2 : (nI dj).toNatClampNeg = dj := nI_clamp (by omega)
  have e3 : (nI nj).toNatClampNeg = nj := nI_clamp (by omega)
  obtain ⟨cell, c1', -, -, -, -, -, c7⟩ := hz.2.1
  intro H locs ls hP hD hS h
  exact va_copyx C.1.1 C.1.2.1 (C.1.2.2.1.trans h.1.symm) C.1.2.2.2.1 (C.1.2.2.2.2 _ h1) (C.1.2.2.2.2 _ h2) (C.1.2.2.2.2 _ h3) (C.1.2.2.2.2 _ h4) K hP hD hS hz.2.2 (Array.getElem?_eq_some_iff.mp c1').1 c7 q1 t1 ha1 ht1 (nI_pos (by omega)) (nI_pos (by omega)) (nI_pos (by omega)) (by rw [e1, e3]; exact h5) (by rw [e2, e3]; exact h6) hframes hlocals hdg (fun H1 locs1 hP1 hD1 hS1 => kk H1 locs1 ls (by simpa only [e1, e2, e3] using hP1) (by simpa only [e1, e2, e3] using hD1) hS1 h)
theorem v_initcall (C : CX p m c cc nL s args Ts own A s.heap) (K : va_K D vwCl tys s) {tl tm tf : Nat} (hE : iE tl tm tf A s) {y : MethodName} {ws ws' : List Cond} {rm : Room} {bytes : ByteArray} {maxL index b mc ms : Nat} {σc σr : va_W} {post : va_W → Prop} (hM : CN l D tys y ws rm [.ref b] σc tl tm tf mc ms post) (hG : GoodIn Ts ws) (hw : ws = Cond.code y bytes maxL none :: ws') (h1 : Cond.initialized y.cls ∈ Ts) (h2 : Cond.methodLink own index y ∈ Ts) (h3 : Cond.instanceMethod y ∈ Ts) (hy : y.name = "<init>") (hd : y.cls ≠ "java/lang/invoke/MethodHandle" ∧ y.cls ≠ "java/lang/invoke/VarHandle" ∧ (parseMethodDescriptor y.desc).map (fun d => d.parameters.length) = some 0) (hrc : rm.cells = mc ∧ rm.slots = ms) (hR : rm.frames + 1 ≤ R.frames ∧ 8 + (maxL + 11) + rm.locals ≤ R.locals)
    (isC isR : List Nat) (hC : isC.map (fun i => σ[i]?) = σc.map some) (hCf : isC.filterMap (fun i => σ[i]?) = σc) (hn1 : va_nd isC = true) (hRr : isR.map (fun i => σ[i]?) = σr.map some) (hn : va_nd isR = true) (hdis : ∀ i ∈ isR, i ∉ isC) (hcat : (rest.map fun v => v.category).sum ≤ 8) (hcs : cells + mc ≤ R.cells ∧ slots + ms ≤ R.slots) (hdg : decode cc pc = .ok (.invokespecial index, 3)) (hp : pc + 3 = pc')
    (kk : ∀ u : va_W, post u → VV p l e R s m args below meth c (cells + mc) (slots + ms) Q (fun u : va_W => u) D A s.heap nL (σr ++ u) pc' lv rest) : VV p l e R s m args below meth c cells slots Q (fun u : va_W => u) D A s.heap nL σ pc lv (.ref b :: rest) := by
  subst hp
  intro H locs ls hP hD hS h
  have hPc : va_P D vwCl σc H := va_P.sub hP isC hCf
  have hDc : va_D A σc := va_D.sub hD isC hn1 hC
  have hFc := va_free hD hS C.2 isC hC
  refine va_callv (va_runI (As := []) (rest := rest) C.1 (hM H.size) (cwI 0 C.1.2.2.2.2 hG hw hrc.1 hrc.2 (C.1.2.2.2.2 _ h1) (C.1.2.2.2.2 _ h2) (C.1.2.2.2.2 _ h3) hy hd hR) ⟨v9_blindN, fun U hU hW => ⟨rfl, by rw [hU], ⟨by rw [hU]; exact hPc, va_K.moved hW.alike K, hDc.weaken (fun _ _ _ _ => trivial)⟩, ?_, aoa9.moved hW.alike hE.2.1, hE.2.2.warm hW⟩⟩ rfl rfl h.1 rfl (lv_room hcat) hdg hcs) hS (fun q _ h => hFc q h) hFc (fun u t H1 locs1 ht hvm hq2 hB hz hk hS1 => ?_)
  · rw [hU]
    exact ((hE.1.moved hW.alike).kept hS.2.1).narrow hFc
  · obtain ⟨hP1, hK1, hD1⟩ := hB
    rw [ht] at hP1
    obtain ⟨hP2, hD2⟩ := va_join (wr := σr) (w1 := u) hP hD isC isR hC hRr hn hdis hk hFc hP1 hD1
    exact kk u hq2 H1 locs1 ls hP2 hD2 hS1 h
theorem v_initcallN (C : CX p m c cc nL s args Ts own A s.heap) (K : va_K D vwCl tys s) {tl tm tf : Nat} (hE : iE tl tm tf A s) {y : MethodName} {ws ws' : List Cond} {rm : Room} {bytes : ByteArray} {maxL index b mc ms : Nat} {host : String} {σc σr : va_W} {post : va_W → Prop} (hM : CN l D tys y ws rm [.ref b] σc tl tm tf mc ms post) (hG : GoodIn Ts ws) (hw : ws = Cond.code y bytes maxL none :: ws') (h1 : Cond.initialized y.cls ∈ Ts) (h2 : va_Nw (.methodLinkNest own index y host) s) (h3 : Cond.instanceMethod y ∈ Ts) (hy : y.name = "<init>") (hd : y.cls ≠ "java/lang/invoke/MethodHandle" ∧ y.cls ≠ "java/lang/invoke/VarHandle" ∧ (parseMethodDescriptor y.desc).map (fun d => d.parameters.length) = some 0) (hrc : rm.cells = mc ∧ rm.slots = ms) (hR : rm.frames + 1 ≤ R.frames ∧ 8 + (maxL + 11) + rm.locals ≤ R.locals)
    (isC isR : List Nat) (hC : isC.map (fun i => σ[i]?) = σc.map some) (hCf : isC.filterMap (fun i => σ[i]?) = σc) (hn1 : va_nd isC = true) (hRr : isR.map (fun i => σ[i]?) = σr.map some) (hn : va_nd isR = true) (hdis : ∀ i ∈ isR, i ∉ isC) (hcat : (rest.map fun v => v.category).sum ≤ 8) (hcs : cells + mc ≤ R.cells ∧ slots + ms ≤ R.slots) (hdg : decode cc pc = .ok (.invokespecial index, 3)) (hp : pc + 3 = pc')
    (kk : ∀ u : va_W, post u → VV p l e R s m args below meth c (cells + mc) (slots + ms) Q (fun u : va_W => u) D A s.heap nL (σr ++ u) pc' lv rest) : VV p l e R s m args below meth c cells slots Q (fun u : va_W => u) D A s.heap nL σ pc lv (.ref b :: rest) := by
  subst hp
  intro H locs ls hP hD hS h
  have hPc : va_P D vwCl σc H := va_P.sub hP isC hCf
  have hDc : va_D A σc := va_D.sub hD isC hn1 hC
  have hFc := va_free hD hS C.2 isC hC
  refine va_callv (va_runIN (As := []) (rest := rest) C.1 (hM H.size) ⟨va_cnB 0 C.1.2.2.2.2 hG hw hrc.1 hrc.2 h2 (C.1.2.2.2.2 _ h1) hd hR, hy, C.1.2.2.2.2 _ h3⟩ ⟨v9_blindN, fun U hU hW => ⟨rfl, by rw [hU], ⟨by rw [hU]; exact hPc, va_K.moved hW.alike K, hDc.weaken (fun _ _ _ _ => trivial)⟩, ?_, aoa9.moved hW.alike hE.2.1, hE.2.2.warm hW⟩⟩ rfl rfl h.1 rfl (lv_room hcat) hdg hcs) hS (fun q _ h => hFc q h) hFc (fun u t H1 locs1 ht hvm hq2 hB hz hk hS1 => ?_)
  · rw [hU]
    exact ((hE.1.moved hW.alike).kept hS.2.1).narrow hFc
  · obtain ⟨hP1, hK1, hD1⟩ := hB
    rw [ht] at hP1
    obtain ⟨hP2, hD2⟩ := va_join (wr := σr) (w1 := u) hP hD isC isR hC hRr hn hdis hk hFc hP1 hD1
    exact kk u hq2 H1 locs1 ls hP2 hD2 hS1 h
theorem v_nret {tys : List (ClassId × FieldType)} (C : CX p m c cc nL s args Ts own A H0) (K : va_K D vwCl tys s) {post : va_W → Prop} (hr : meth.sig.returnType = none) (hlocks : meth.locks = false) (hpost : post σ) (hdg : decode cc pc = .ok (.return_, 1)) : VV p l e R s m args below meth c cells slots (MQ below (va_Qv post (v9_world D (fun u : va_W => u) tys A) A) args s cells slots A) (fun u : va_W => u) D A s.heap nL σ pc lv [] :=
  fun H locs ls hP hD hS h => W.vret C.1.1 C.1.2.1 hr (fun t ht hW => ⟨⟨σ, rfl, hpost, by rw [ht]; exact hP, va_K.moved hW.alike K, hD⟩, hS.F ht⟩) hS.2.2 hdg
theorem v_startN {y : MethodName} {ws ws' : List Cond} {rm : Room} {As : List Value} {tl tm tf mc ms : Nat} {post : va_W → Prop} (ho : y.cls = own) (hi : y.name = "<init>") (hy : plainName y.cls = true) (hw : ws = Cond.code y cc nL none :: ws') (hlg : (lg_sl As).length ≤ nL)
    (body : ∀ (p : Program) (e : Env) (s : State) (m : MethodId) (args : Array Value) (below : List Frame) (meth : Method) (c : Code) (A : Nat → Prop) (Q : State → Prop), CX p m c cc nL s args ws own A s.heap → va_K D vwCl tys s → iE tl tm tf A s → meth.name = "<init>" → (∀ {σ1 : va_W} {pc1 : Nat} {lv1 : List (Nat × Value)}, post σ1 → decode cc pc1 = .ok (.return_, 1) → VV p l e rm s m args below meth c mc ms Q (fun u : va_W => u) D A s.heap nL σ1 pc1 lv1 []) → VV p l e rm s m args below meth c 0 0 Q (fun u : va_W => u) D A s.heap nL σ 0 (lv_args 0 As) []) : CN l D tys y ws rm As σ tl tm tf mc ms post := by
  subst ho
  intro sz
  refine Met.ofW (cc := cc) (maxL := nL) (ret := none) hy hw ?_
  intro p e s m args below meth c s₁ B hml hv
  obtain ⟨rfl, hsz, ⟨hP, K, hD0⟩, hE⟩ := hv
  subst hsz
  have hl := lv_entry As (n := nL) hlg
  rw [lg_entry_eq]
  have C : CX p m c cc nL s As.toArray ws y.cls (va_A σ s.heap.size) s.heap := ⟨⟨B.exec, B.bytes, hml, findClass_of_methodNamed B.named, atoms_spec (ws := ws) B.pre⟩, fun q h => Or.inr h⟩
  exact body p e s m As.toArray below meth c (va_A σ s.heap.size) _ C K hE ((name_of_methodNamed B.named B.method).1.trans hi) (fun h1 h3 => v_nret C K B.returns B.notSynchronized h1 h3) s.heap [] _ hP hD0.self va_S.rf hl
/-- an array of N arrays of K' ints -/
theorem v_mna (C : CX p m c cc nL s args Ts own A H0) (K : va_K D vwCl tys s) (hao : aoa9 s) {index : Nat} (hcl : Cond.classLink own index "[[I" ∈ Ts) (harr : Cond.arrayClass .int ∈ Ts) {cI cQ : ClassId} (tI tQ : Nat) (hI : tys[tI]? = some (cI, .int)) (hQ : tys[tQ]? = some (cQ, .array .int)) {n k : Int32} {N' K' : Nat} (hn : n = nI N') (hk : k = nI K') (hN : N' ≤ 1000) (hK' : K' ≤ 1000) (hcells : cells + (1 + N') ≤ R.cells) (hslots : slots + (N' + N' * K') ≤ R.slots) (hdg : decode cc pc = .ok (.multianewarray index 2, 4)) (hp : pc + 4 = pc')
    (kk : ∀ q : Nat, VV p l e R s m args below meth c (cells + 1 + N') (slots + N' + N' * K') Q (fun u : va_W => u) D A H0 nL ((σ ++ [(q, .inl (cQ, N', .inr (.inr (.inr (.inr (fun i => if i < N' then some (q + 1 + i) else none))))))]) ++ (List.range N').map (fun i => (q + 1 + i, .inl (cI, K', .inl (fun _ => 0))))) pc' lv (.ref q :: st)) : VV p l e R s m args below meth c cells slots Q (fun u : va_W => u) D A H0 nL σ pc lv (.int k :: .int n :: st) := by
  subst hp
  subst hn
  subst hk
  intro H locs ls hP hD hS h
  intro T hT Xs
  have eN : (nI N').toNatClampNeg = N' := nI_clamp (by omega)
  have eK : (nI K').toNatClampNeg = K' := nI_clamp (by omega)
  obtain ⟨vm₁, cA, comp, -, fA, fC, -, -, X', step⟩ := Xs.multianewarray2F (ty := .int) C.1.1 C.1.2.2.2.1 (C.1.2.2.2.2 _ hcl) hao (C.1.2.2.2.2 _ harr) (g := F0 m pc ls (.int (nI K') :: .int (nI N') :: st)) rfl (by rw [C.1.2.1]; exact hdg) rfl (nI_pos (by omega)) (nI_pos (by omega)) (by rw [eN]; omega) (by rw [eK]; show K' * 4 ≤ _; omega) (by rw [eK]; omega) rfl rfl (by rw [eN]; exact hcells) (by rw [eN, eK]; exact hslots)
  have ecA : cA = cQ := Option.some.inj (Eq.trans (Eq.symm fA) (K.2 tQ _ hQ).2)
  have ecC : comp = cI := Option.some.inj (Eq.trans (Eq.symm fC) (K.2 tI _ hI).2)
  subst ecA
  subst ecC
  rw [eN, eK] at X' step
  generalize hF : Jvm.Free.Multi.fill (T.setVm vm₁) cA comp N' K' (defaultValue .int) N' = F at X' step
  have hTh : (T.setVm vm₁).heap = H := hT
  obtain ⟨f1, f2, -, -⟩ := Jvm.Free.Multi.fill_facts (T.setVm vm₁) cA comp N' K' (defaultValue .int) N'
  rw [hF, hTh] at f1 f2
  have hold : ∀ x : Nat, x < H.size → F.heap[x]? = H[x]? := fun x hx => by
    have := Jvm.Free.Multi.fill_old (T.setVm vm₁) cA comp N' K' (defaultValue .int) (a := x) (by rw [hTh]; exact hx) N'
    rw [hF, hTh] at this
    exact this
  have hz : Jvm.Free.Multi.innerC comp K' (defaultValue .int) = vp_cell comp (K', .inl (fun _ => 0)) := by
    show ({ cls := comp, slots := Array.replicate K' (.int 0), vm := .none } : Cell) = _
    rw [arrV_new]
    rfl
  have hrow : ∀ j : Nat, j < N' → F.heap[H.size + 1 + j]? = some (vp_cell comp (K', .inl (fun _ => 0))) := fun j hj => by
    have := Jvm.Free.Multi.fill_inner (T.setVm vm₁) cA comp N' K' (defaultValue .int) N' j hj
    rw [hF, hTh, hz] at this
    exact this
  have hout : Jvm.Free.Multi.outerC cA N' H.size N' = vp_cell cA (N', .inr (.inr (.inr (.inr (fun i => if i < N' then some (H.size + 1 + i) else none))))) := by
    rw [vp_cell_q]
    exact vr_outer cA N' H.size N'
  rw [hout] at f2
  have hP0 : va_P D vwCl σ F.heap := hP.kept (fun k9 x hx => hold x.1 ((hP k9 x hx).lt))
  have hP1 : va_P D vwCl (σ ++ [(H.size, .inl (cA, N', .inr (.inr (.inr (.inr (fun i => if i < N' then some (H.size + 1 + i) else none))))))]) F.heap := hP0.app (fun k9 x hx => by
    have h0 : k9 < 1 := (List.getElem?_eq_some_iff.mp hx).1
    rw [show k9 = 0 by omega] at hx
    cases hx
    exact f2)
  have hP2 : va_P D vwCl ((σ ++ [(H.size, .inl (cA, N', .inr (.inr (.inr (.inr (fun i => if i < N' then some (H.size + 1 + i) else none))))))]) ++ (List.range N').map (fun i => (H.size + 1 + i, .inl (comp, K', .inl (fun _ => 0))))) F.heap := hP1.app (fun k9 x hx => by
    obtain ⟨i, hi, rfl⟩ := List.mem_map.mp (List.mem_of_getElem? hx)
    exact hrow i (List.mem_range.mp hi))
  have hD1 : va_D A (σ ++ [(H.size, .inl (cA, N', .inr (.inr (.inr (.inr (fun i => if i < N' then some (H.size + 1 + i) else none))))))]) := hD.push hP rfl (C.2 _ hS.1)
  have hr : ∀ (k9 : Nat) (x : Nat × va_E), ((List.range N').map (fun i => ((H.size + 1 + i, .inl (comp, K', .inl (fun _ => 0))) : Nat × va_E)))[k9]? = some x → x.1 = H.size + 1 + k9 := fun k9 x hx => by
    rw [List.getElem?_map] at hx
    by_cases h9 : k9 < N'
    · rw [List.getElem?_range h9] at hx
      cases hx
      rfl
    · have hn0 : (List.range N')[k9]? = none := List.getElem?_eq_none (by rw [List.length_range]; omega)
      rw [hn0] at hx
      cases hx
  have hle : ∀ (k9 : Nat) (x : Nat × va_E), (σ ++ [((H.size, .inl (cA, N', .inr (.inr (.inr (.inr (fun i => if i < N' then some (H.size + 1 + i) else none)))))) : Nat × va_E)])[k9]? = some x → x.1 ≤ H.size := fun k9 x hx => by
    by_cases hl : k9 < σ.length
    · rw [List.getElem?_append_left hl] at hx
      exact Nat.le_of_lt ((hP k9 x hx).lt)
    · rw [List.getElem?_append_right (by omega)] at hx
      have h0 : k9 - σ.length < 1 := (List.getElem?_eq_some_iff.mp hx).1
      rw [show k9 - σ.length = 0 by omega] at hx
      cases hx
      exact Nat.le_refl _
  have hD2 : va_D A ((σ ++ [(H.size, .inl (cA, N', .inr (.inr (.inr (.inr (fun i => if i < N' then some (H.size + 1 + i) else none))))))]) ++ (List.range N').map (fun i => (H.size + 1 + i, .inl (comp, K', .inl (fun _ => 0))))) := by
    refine hD1.app ⟨fun i j x y hi hj hxy => ?_, fun k9 x hx => ?_⟩ (fun i j x y hi hj e => ?_)
    · have := hr _ _ hi
      have := hr _ _ hj
      omega
    · have := hr _ _ hx
      exact C.2 _ (by have := hS.1; omega)
    · have := hle _ _ hi
      have := hr _ _ hj
      omega
  obtain ⟨t, a1, b1⟩ := kk H.size F.heap locs ls hP2 hD2 ⟨by rw [f1]; have := hS.1; omega, fun x h1 h2 => (hold x (Nat.lt_of_lt_of_le h1 hS.1)).trans (hS.2.1 x h1 h2), hS.2.2⟩ h F rfl X'
  refine ⟨t, step t ?_, b1⟩
  have e : T.heap.size = H.size := by rw [hT]
  rw [e]
  exact a1
end V9N

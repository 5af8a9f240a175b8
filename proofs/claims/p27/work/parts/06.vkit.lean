/-! ===== one judgement for a walk whose world is a function of a state of numbers: VV; rows that turn it on ===== -/
abbrev S9 : Type := Nat → Nat → Int32
def st9 (σ : S9) (i : Nat) (g : Nat → Int32) : S9 := fun k => if k = i then g else σ k
theorem st9_s (σ : S9) (i : Nat) (g : Nat → Int32) : st9 σ i g i = g := if_pos rfl
theorem st9_n (σ : S9) {i k : Nat} (g : Nat → Int32) (h : k ≠ i) : st9 σ i g k = σ k := if_neg h
theorem i9_in {i : Int32} {n j : Nat} (hi : i = nI j) (hj : j < n) (hn : n ≤ 100000) : vp_in i n ∧ i.toNatClampNeg = j := by
  subst hi
  exact ⟨vp_in_nI hj (by omega), nI_clamp (by omega)⟩
def v9_world {τ : Type} (D : va_G) (w : τ → va_W) (tys : List (ClassId × FieldType)) (A : Nat → Prop) (u : τ) (t : State) : Prop := va_P D vwCl (w u) t.heap ∧ va_K D vwCl tys t ∧ va_D A (w u)
def CX (p : Program) (m : MethodId) (c : Code) (cc : ByteArray) (nL : Nat) (s : State) (args : Array Value) (Ts : List Cond) (own : String) (A : Nat → Prop) (H0 : Heap) : Prop := CallFix p m c cc nL s args Ts own ∧ ∀ q : Nat, H0.size ≤ q → A q
def CMi {τ : Type} (l : Launch) (w : τ → va_W) (D : va_G) (tys : List (ClassId × FieldType)) (y : MethodName) (ws : List Cond) (rm : Room) (As : List Value) (σ : τ) (post : Int32 → τ → Prop) : Prop :=
  ∀ sz : Nat, Met l y ws rm (va_Pc As (fun U => U.heap.size = sz ∧ v9_world D w tys (fun _ => True) σ U)) (va_Qi post (v9_world D w tys (va_A (w σ) sz)) (va_A (w σ) sz)) 0 0 (va_A (w σ) sz)
def CMv {τ : Type} (l : Launch) (w : τ → va_W) (D : va_G) (tys : List (ClassId × FieldType)) (y : MethodName) (ws : List Cond) (rm : Room) (As : List Value) (σ : τ) (post : τ → Prop) : Prop :=
  ∀ sz : Nat, Met l y ws rm (va_Pc As (fun U => U.heap.size = sz ∧ v9_world D w tys (fun _ => True) σ U)) (va_Qv post (v9_world D w tys (va_A (w σ) sz)) (va_A (w σ) sz)) 0 0 (va_A (w σ) sz)
def CPi (l : Launch) (y : MethodName) (ws : List Cond) (rm : Room) (As : List Value) (post : Int32 → Prop) : Prop :=
  ∀ sz : Nat, Met l y ws rm (va_Pc As (fun U => U.heap.size = sz)) (va_Qi (fun r (_ : Unit) => post r) (fun _ _ => True) (va_A [] sz)) 0 0 (va_A [] sz)
theorem v9_blind {τ : Type} {D : va_G} {w : τ → va_W} {tys : List (ClassId × FieldType)} {As : List Value} {σ : τ} {sz : Nat} : FrameBlind (va_Pc As (fun U => U.heap.size = sz ∧ v9_world D w tys (fun _ => True) σ U)) := fun a U g mk q => by
  obtain ⟨q0, q1, qP, qK, qD⟩ := q
  exact ⟨q0, q1, qP, va_K.moved (u := U) (U := U.calling g mk a) (Vm.Alike.refl U.vm) qK, qD⟩
theorem v9_blindP {As : List Value} {sz : Nat} : FrameBlind (va_Pc As (fun U => U.heap.size = sz)) := fun a U g mk q => q
section V9
variable {p : Program} {l : Launch} {e : Env} {R : Room} {s : State} {m : MethodId} {args : Array Value} {below : List Frame} {meth : Method} {c : Code} {cells slots : Nat} {Q : State → Prop}
variable {τ : Type} {w : τ → va_W} {D : va_G} {A : Nat → Prop} {H0 : Heap} {nL : Nat} {cc : ByteArray} {Ts : List Cond} {own : String} {tys : List (ClassId × FieldType)} {σ : τ} {pc pc' : Nat} {lv lv' : List (Nat × Value)} {st rest : List Value}
def VV (p : Program) (l : Launch) (e : Env) (R : Room) (s : State) (m : MethodId) (args : Array Value) (below : List Frame) (meth : Method) (c : Code) (cells slots : Nat) (Q : State → Prop) {τ : Type} (w : τ → va_W) (D : va_G) (A : Nat → Prop) (H0 : Heap) (nL : Nat) (σ : τ) (pc : Nat) (lv : List (Nat × Value)) (st : List Value) : Prop :=
  ∀ (H : Heap) (locs : List Loc) (ls : Array Slot), va_P D vwCl (w σ) H → va_D A (w σ) → va_S A H0 H locs → lv_has ls nL lv → W p l e R s m args below meth c H locs cells slots Q (F0 m pc ls st)
theorem v_iload_n (C : CX p m c cc nL s args Ts own A H0) {k : Fin 4} {x : Int32} (hdg : decode cc pc = .ok (.iload_n k, 1)) (hp : pc + 1 = pc') (i j : Nat) (hi : (k : Nat) = i) (hl : lv[j]? = some (i, .int x)) (kk : VV p l e R s m args below meth c cells slots Q w D A H0 nL σ pc' lv (.int x :: st)) : VV p l e R s m args below meth c cells slots Q w D A H0 nL σ pc lv st := by
  subst hp
  exact fun H locs ls hP hD hS h => lv_iload_n C.1.1 C.1.2.1 hdg hi (lv_at h j hl) (kk H locs ls hP hD hS h)
theorem v_iload (C : CX p m c cc nL s args Ts own A H0) {x : Int32} {i : Nat} (hdg : decode cc pc = .ok (.iload i, 2)) (hp : pc + 2 = pc') (j : Nat) (hl : lv[j]? = some (i, .int x)) (kk : VV p l e R s m args below meth c cells slots Q w D A H0 nL σ pc' lv (.int x :: st)) : VV p l e R s m args below meth c cells slots Q w D A H0 nL σ pc lv st := by
  subst hp
  exact fun H locs ls hP hD hS h => lv_iload C.1.1 C.1.2.1 hdg (lv_at h j hl) (kk H locs ls hP hD hS h)
theorem v_lload_n (C : CX p m c cc nL s args Ts own A H0) {k : Fin 4} {x : Int64} (hdg : decode cc pc = .ok (.lload_n k, 1)) (hp : pc + 1 = pc') (i j : Nat) (hi : (k : Nat) = i) (hl : lv[j]? = some (i, .long x)) (kk : VV p l e R s m args below meth c cells slots Q w D A H0 nL σ pc' lv (.long x :: st)) : VV p l e R s m args below meth c cells slots Q w D A H0 nL σ pc lv st := by
  subst hp
  exact fun H locs ls hP hD hS h => lv_lload_n C.1.1 C.1.2.1 hdg hi (lv_at h j hl) (kk H locs ls hP hD hS h)
theorem v_lload (C : CX p m c cc nL s args Ts own A H0) {x : Int64} {i : Nat} (hdg : decode cc pc = .ok (.lload i, 2)) (hp : pc + 2 = pc') (j : Nat) (hl : lv[j]? = some (i, .long x)) (kk : VV p l e R s m args below meth c cells slots Q w D A H0 nL σ pc' lv (.long x :: st)) : VV p l e R s m args below meth c cells slots Q w D A H0 nL σ pc lv st := by
  subst hp
  exact fun H locs ls hP hD hS h => lv_lload C.1.1 C.1.2.1 hdg (lv_at h j hl) (kk H locs ls hP hD hS h)
theorem v_aload_n (C : CX p m c cc nL s args Ts own A H0) {k : Fin 4} {x : Nat} (hdg : decode cc pc = .ok (.aload_n k, 1)) (hp : pc + 1 = pc') (i j : Nat) (hi : (k : Nat) = i) (hl : lv[j]? = some (i, .ref x)) (kk : VV p l e R s m args below meth c cells slots Q w D A H0 nL σ pc' lv (.ref x :: st)) : VV p l e R s m args below meth c cells slots Q w D A H0 nL σ pc lv st := by
  subst hp
  exact fun H locs ls hP hD hS h => lv_aload_n C.1.1 C.1.2.1 hdg hi (lv_at h j hl) (kk H locs ls hP hD hS h)
theorem v_aload (C : CX p m c cc nL s args Ts own A H0) {x : Nat} {i : Nat} (hdg : decode cc pc = .ok (.aload i, 2)) (hp : pc + 2 = pc') (j : Nat) (hl : lv[j]? = some (i, .ref x)) (kk : VV p l e R s m args below meth c cells slots Q w D A H0 nL σ pc' lv (.ref x :: st)) : VV p l e R s m args below meth c cells slots Q w D A H0 nL σ pc lv st := by
  subst hp
  exact fun H locs ls hP hD hS h => lv_aload C.1.1 C.1.2.1 hdg (lv_at h j hl) (kk H locs ls hP hD hS h)
theorem v_istore_n (C : CX p m c cc nL s args Ts own A H0) {k : Fin 4} {x : Int32} (hdg : decode cc pc = .ok (.istore_n k, 1)) (hp : pc + 1 = pc') (i : Nat) (hi : (k : Nat) = i) (hn : i < nL) (hl : (i, Value.int x) :: lv.filter (fun q => !(q.1 == i) && !(q.1 + 1 == i && q.2.category == 2)) = lv') (kk : VV p l e R s m args below meth c cells slots Q w D A H0 nL σ pc' lv' st) : VV p l e R s m args below meth c cells slots Q w D A H0 nL σ pc lv (.int x :: st) := by
  subst hp
  exact fun H locs ls hP hD hS h => lv_istore_n C.1.1 C.1.2.1 hdg hi h hn hl (fun ls h => kk H locs ls hP hD hS h)
theorem v_istore (C : CX p m c cc nL s args Ts own A H0) {x : Int32} {i : Nat} (hdg : decode cc pc = .ok (.istore i, 2)) (hp : pc + 2 = pc') (hn : i < nL) (hl : (i, Value.int x) :: lv.filter (fun q => !(q.1 == i) && !(q.1 + 1 == i && q.2.category == 2)) = lv') (kk : VV p l e R s m args below meth c cells slots Q w D A H0 nL σ pc' lv' st) : VV p l e R s m args below meth c cells slots Q w D A H0 nL σ pc lv (.int x :: st) := by
  subst hp
  exact fun H locs ls hP hD hS h => lv_istore C.1.1 C.1.2.1 hdg h hn hl (fun ls h => kk H locs ls hP hD hS h)
theorem v_lstore_n (C : CX p m c cc nL s args Ts own A H0) {k : Fin 4} {x : Int64} (hdg : decode cc pc = .ok (.lstore_n k, 1)) (hp : pc + 1 = pc') (i : Nat) (hi : (k : Nat) = i) (hn : i + 1 < nL) (hl : (i, Value.long x) :: lv.filter (fun q => !(q.1 == i) && (!(q.1 == i + 1) && !(q.1 + 1 == i && q.2.category == 2))) = lv') (kk : VV p l e R s m args below meth c cells slots Q w D A H0 nL σ pc' lv' st) : VV p l e R s m args below meth c cells slots Q w D A H0 nL σ pc lv (.long x :: st) := by
  subst hp
  exact fun H locs ls hP hD hS h => lv_lstore_n C.1.1 C.1.2.1 hdg hi h hn hl (fun ls h => kk H locs ls hP hD hS h)
theorem v_lstore (C : CX p m c cc nL s args Ts own A H0) {x : Int64} {i : Nat} (hdg : decode cc pc = .ok (.lstore i, 2)) (hp : pc + 2 = pc') (hn : i + 1 < nL) (hl : (i, Value.long x) :: lv.filter (fun q => !(q.1 == i) && (!(q.1 == i + 1) && !(q.1 + 1 == i && q.2.category == 2))) = lv') (kk : VV p l e R s m args below meth c cells slots Q w D A H0 nL σ pc' lv' st) : VV p l e R s m args below meth c cells slots Q w D A H0 nL σ pc lv (.long x :: st) := by
  subst hp
  exact fun H locs ls hP hD hS h => lv_lstore C.1.1 C.1.2.1 hdg h hn hl (fun ls h => kk H locs ls hP hD hS h)
theorem v_astore_n (C : CX p m c cc nL s args Ts own A H0) {k : Fin 4} {x : Nat} (hdg : decode cc pc = .ok (.astore_n k, 1)) (hp : pc + 1 = pc') (i : Nat) (hi : (k : Nat) = i) (hn : i < nL) (hl : (i, Value.ref x) :: lv.filter (fun q => !(q.1 == i) && !(q.1 + 1 == i && q.2.category == 2)) = lv') (kk : VV p l e R s m args below meth c cells slots Q w D A H0 nL σ pc' lv' st) : VV p l e R s m args below meth c cells slots Q w D A H0 nL σ pc lv (.ref x :: st) := by
  subst hp
  exact fun H locs ls hP hD hS h => lv_astore_n C.1.1 C.1.2.1 hdg hi h hn hl (fun ls h => kk H locs ls hP hD hS h)
theorem v_astore (C : CX p m c cc nL s args Ts own A H0) {x : Nat} {i : Nat} (hdg : decode cc pc = .ok (.astore i, 2)) (hp : pc + 2 = pc') (hn : i < nL) (hl : (i, Value.ref x) :: lv.filter (fun q => !(q.1 == i) && !(q.1 + 1 == i && q.2.category == 2)) = lv') (kk : VV p l e R s m args below meth c cells slots Q w D A H0 nL σ pc' lv' st) : VV p l e R s m args below meth c cells slots Q w D A H0 nL σ pc lv (.ref x :: st) := by
  subst hp
  exact fun H locs ls hP hD hS h => lv_astore C.1.1 C.1.2.1 hdg h hn hl (fun ls h => kk H locs ls hP hD hS h)
theorem v_iinc (C : CX p m c cc nL s args Ts own A H0) {n : Int} {x v : Int32} {i : Nat} (hdg : decode cc pc = .ok (.iinc i n, 3)) (hp : pc + 3 = pc') (j : Nat) (hj : lv[j]? = some (i, .int x)) (hv : x + Int32.ofInt n = v) (hn : i < nL) (hl : (i, Value.int v) :: lv.filter (fun q => !(q.1 == i) && !(q.1 + 1 == i && q.2.category == 2)) = lv') (kk : VV p l e R s m args below meth c cells slots Q w D A H0 nL σ pc' lv' st) : VV p l e R s m args below meth c cells slots Q w D A H0 nL σ pc lv st := by
  subst hp
  exact fun H locs ls hP hD hS h => lv_iinc C.1.1 C.1.2.1 hdg h hj hv hn hl (fun ls h => kk H locs ls hP hD hS h)
theorem v_iconst (C : CX p m c cc nL s args Ts own A H0) {n : Int} {v : Int32} (hdg : decode cc pc = .ok (.iconst n, 1)) (hp : pc + 1 = pc') (hv : Int32.ofInt n = v) (kk : VV p l e R s m args below meth c cells slots Q w D A H0 nL σ pc' lv (.int v :: st)) : VV p l e R s m args below meth c cells slots Q w D A H0 nL σ pc lv st := by
  subst hp
  exact fun H locs ls hP hD hS h => lv_iconst C.1.1 C.1.2.1 hdg hv (kk H locs ls hP hD hS h)
theorem v_bipush (C : CX p m c cc nL s args Ts own A H0) {n : Int} {v : Int32} (hdg : decode cc pc = .ok (.bipush n, 2)) (hp : pc + 2 = pc') (hv : (Int8.ofInt n).toInt32 = v) (kk : VV p l e R s m args below meth c cells slots Q w D A H0 nL σ pc' lv (.int v :: st)) : VV p l e R s m args below meth c cells slots Q w D A H0 nL σ pc lv st := by
  subst hp
  exact fun H locs ls hP hD hS h => lv_bipush C.1.1 C.1.2.1 hdg hv (kk H locs ls hP hD hS h)
theorem v_sipush (C : CX p m c cc nL s args Ts own A H0) {n : Int} {v : Int32} (hdg : decode cc pc = .ok (.sipush n, 3)) (hp : pc + 3 = pc') (hv : (Int16.ofInt n).toInt32 = v) (kk : VV p l e R s m args below meth c cells slots Q w D A H0 nL σ pc' lv (.int v :: st)) : VV p l e R s m args below meth c cells slots Q w D A H0 nL σ pc lv st := by
  subst hp
  exact fun H locs ls hP hD hS h => lv_sipush C.1.1 C.1.2.1 hdg hv (kk H locs ls hP hD hS h)
theorem v_lconst (C : CX p m c cc nL s args Ts own A H0) {n : Fin 2} {v : Int64} (hdg : decode cc pc = .ok (.lconst n, 1)) (hp : pc + 1 = pc') (hv : Int64.ofNat (n : Nat) = v) (kk : VV p l e R s m args below meth c cells slots Q w D A H0 nL σ pc' lv (.long v :: st)) : VV p l e R s m args below meth c cells slots Q w D A H0 nL σ pc lv st := by
  subst hp
  exact fun H locs ls hP hD hS h => lv_lconst C.1.1 C.1.2.1 hdg hv (kk H locs ls hP hD hS h)
theorem v_ldc (C : CX p m c cc nL s args Ts own A H0) {index : Nat} {v : Int32} (hdg : decode cc pc = .ok (.ldc index, 2)) (hp : pc + 2 = pc') (hm : Cond.constant own index v ∈ Ts) (kk : VV p l e R s m args below meth c cells slots Q w D A H0 nL σ pc' lv (.int v :: st)) : VV p l e R s m args below meth c cells slots Q w D A H0 nL σ pc lv st := by
  subst hp
  exact fun H locs ls hP hD hS h => lv_ldc C.1.1 C.1.2.1 C.1.2.2.2.1 (C.1.2.2.2.2 _ hm) hdg (kk H locs ls hP hD hS h)
theorem v_ldc2 (C : CX p m c cc nL s args Ts own A H0) {index : Nat} {v : Int64} (hdg : decode cc pc = .ok (.ldc2_w index, 3)) (hp : pc + 3 = pc') (hm : Cond.constantLong own index v ∈ Ts) (kk : VV p l e R s m args below meth c cells slots Q w D A H0 nL σ pc' lv (.long v :: st)) : VV p l e R s m args below meth c cells slots Q w D A H0 nL σ pc lv st := by
  subst hp
  exact fun H locs ls hP hD hS h => lv_ldc2 C.1.1 C.1.2.1 C.1.2.2.2.1 (C.1.2.2.2.2 _ hm) hdg (kk H locs ls hP hD hS h)
theorem v_iadd (C : CX p m c cc nL s args Ts own A H0) {x y : Int32} (hdg : decode cc pc = .ok (.iadd, 1)) (hp : pc + 1 = pc') (kk : VV p l e R s m args below meth c cells slots Q w D A H0 nL σ pc' lv (.int (x + y) :: st)) : VV p l e R s m args below meth c cells slots Q w D A H0 nL σ pc lv (.int y :: .int x :: st) := by
  subst hp
  exact fun H locs ls hP hD hS h => lv_iadd C.1.1 C.1.2.1 hdg (kk H locs ls hP hD hS h)
theorem v_isub (C : CX p m c cc nL s args Ts own A H0) {x y : Int32} (hdg : decode cc pc = .ok (.isub, 1)) (hp : pc + 1 = pc') (kk : VV p l e R s m args below meth c cells slots Q w D A H0 nL σ pc' lv (.int (x - y) :: st)) : VV p l e R s m args below meth c cells slots Q w D A H0 nL σ pc lv (.int y :: .int x :: st) := by
  subst hp
  exact fun H locs ls hP hD hS h => lv_isub C.1.1 C.1.2.1 hdg (kk H locs ls hP hD hS h)
theorem v_imul (C : CX p m c cc nL s args Ts own A H0) {x y : Int32} (hdg : decode cc pc = .ok (.imul, 1)) (hp : pc + 1 = pc') (kk : VV p l e R s m args below meth c cells slots Q w D A H0 nL σ pc' lv (.int (x * y) :: st)) : VV p l e R s m args below meth c cells slots Q w D A H0 nL σ pc lv (.int y :: .int x :: st) := by
  subst hp
  exact fun H locs ls hP hD hS h => lv_imul C.1.1 C.1.2.1 hdg (kk H locs ls hP hD hS h)
theorem v_iand (C : CX p m c cc nL s args Ts own A H0) {x y : Int32} (hdg : decode cc pc = .ok (.iand, 1)) (hp : pc + 1 = pc') (kk : VV p l e R s m args below meth c cells slots Q w D A H0 nL σ pc' lv (.int (x &&& y) :: st)) : VV p l e R s m args below meth c cells slots Q w D A H0 nL σ pc lv (.int y :: .int x :: st) := by
  subst hp
  exact fun H locs ls hP hD hS h => lv_iand C.1.1 C.1.2.1 hdg (kk H locs ls hP hD hS h)
theorem v_ior (C : CX p m c cc nL s args Ts own A H0) {x y : Int32} (hdg : decode cc pc = .ok (.ior, 1)) (hp : pc + 1 = pc') (kk : VV p l e R s m args below meth c cells slots Q w D A H0 nL σ pc' lv (.int (x ||| y) :: st)) : VV p l e R s m args below meth c cells slots Q w D A H0 nL σ pc lv (.int y :: .int x :: st) := by
  subst hp
  exact fun H locs ls hP hD hS h => lv_ior C.1.1 C.1.2.1 hdg (kk H locs ls hP hD hS h)
theorem v_ixor (C : CX p m c cc nL s args Ts own A H0) {x y : Int32} (hdg : decode cc pc = .ok (.ixor, 1)) (hp : pc + 1 = pc') (kk : VV p l e R s m args below meth c cells slots Q w D A H0 nL σ pc' lv (.int (x ^^^ y) :: st)) : VV p l e R s m args below meth c cells slots Q w D A H0 nL σ pc lv (.int y :: .int x :: st) := by
  subst hp
  exact fun H locs ls hP hD hS h => lv_ixor C.1.1 C.1.2.1 hdg (kk H locs ls hP hD hS h)
theorem v_idiv (C : CX p m c cc nL s args Ts own A H0) {x y : Int32} (hdg : decode cc pc = .ok (.idiv, 1)) (hp : pc + 1 = pc') (hne : ¬ y = 0) (kk : VV p l e R s m args below meth c cells slots Q w D A H0 nL σ pc' lv (.int (x / y) :: st)) : VV p l e R s m args below meth c cells slots Q w D A H0 nL σ pc lv (.int y :: .int x :: st) := by
  subst hp
  exact fun H locs ls hP hD hS h => lv_idiv C.1.1 C.1.2.1 hdg hne (kk H locs ls hP hD hS h)
theorem v_irem (C : CX p m c cc nL s args Ts own A H0) {x y : Int32} (hdg : decode cc pc = .ok (.irem, 1)) (hp : pc + 1 = pc') (hne : ¬ y = 0) (kk : VV p l e R s m args below meth c cells slots Q w D A H0 nL σ pc' lv (.int (x - x / y * y) :: st)) : VV p l e R s m args below meth c cells slots Q w D A H0 nL σ pc lv (.int y :: .int x :: st) := by
  subst hp
  exact fun H locs ls hP hD hS h => lv_irem C.1.1 C.1.2.1 hdg hne (kk H locs ls hP hD hS h)
theorem v_ladd (C : CX p m c cc nL s args Ts own A H0) {x y : Int64} (hdg : decode cc pc = .ok (.ladd, 1)) (hp : pc + 1 = pc') (kk : VV p l e R s m args below meth c cells slots Q w D A H0 nL σ pc' lv (.long (x + y) :: st)) : VV p l e R s m args below meth c cells slots Q w D A H0 nL σ pc lv (.long y :: .long x :: st) := by
  subst hp
  exact fun H locs ls hP hD hS h => lv_ladd C.1.1 C.1.2.1 hdg (kk H locs ls hP hD hS h)
theorem v_land (C : CX p m c cc nL s args Ts own A H0) {x y : Int64} (hdg : decode cc pc = .ok (.land, 1)) (hp : pc + 1 = pc') (kk : VV p l e R s m args below meth c cells slots Q w D A H0 nL σ pc' lv (.long (x &&& y) :: st)) : VV p l e R s m args below meth c cells slots Q w D A H0 nL σ pc lv (.long y :: .long x :: st) := by
  subst hp
  exact fun H locs ls hP hD hS h => lv_land C.1.1 C.1.2.1 hdg (kk H locs ls hP hD hS h)
theorem v_lor (C : CX p m c cc nL s args Ts own A H0) {x y : Int64} (hdg : decode cc pc = .ok (.lor, 1)) (hp : pc + 1 = pc') (kk : VV p l e R s m args below meth c cells slots Q w D A H0 nL σ pc' lv (.long (x ||| y) :: st)) : VV p l e R s m args below meth c cells slots Q w D A H0 nL σ pc lv (.long y :: .long x :: st) := by
  subst hp
  exact fun H locs ls hP hD hS h => lv_lor C.1.1 C.1.2.1 hdg (kk H locs ls hP hD hS h)
theorem v_lshl (C : CX p m c cc nL s args Ts own A H0) {x v : Int64} {y : Int32} (hdg : decode cc pc = .ok (.lshl, 1)) (hp : pc + 1 = pc') (hv : x <<< (y.toInt64 &&& 63) = v) (kk : VV p l e R s m args below meth c cells slots Q w D A H0 nL σ pc' lv (.long v :: st)) : VV p l e R s m args below meth c cells slots Q w D A H0 nL σ pc lv (.int y :: .long x :: st) := by
  subst hp
  exact fun H locs ls hP hD hS h => lv_lshl C.1.1 C.1.2.1 hdg hv (kk H locs ls hP hD hS h)
theorem v_lushr (C : CX p m c cc nL s args Ts own A H0) {x v : Int64} {y : Int32} (hdg : decode cc pc = .ok (.lushr, 1)) (hp : pc + 1 = pc') (hv : (x.toUInt64 >>> (y.toInt64.toUInt64 &&& Int64.toUInt64 63)).toInt64 = v) (kk : VV p l e R s m args below meth c cells slots Q w D A H0 nL σ pc' lv (.long v :: st)) : VV p l e R s m args below meth c cells slots Q w D A H0 nL σ pc lv (.int y :: .long x :: st) := by
  subst hp
  exact fun H locs ls hP hD hS h => lv_lushr C.1.1 C.1.2.1 hdg hv (kk H locs ls hP hD hS h)
theorem v_i2l (C : CX p m c cc nL s args Ts own A H0) {x : Int32} {v : Int64} (hdg : decode cc pc = .ok (.i2l, 1)) (hp : pc + 1 = pc') (hv : x.toInt64 = v) (kk : VV p l e R s m args below meth c cells slots Q w D A H0 nL σ pc' lv (.long v :: st)) : VV p l e R s m args below meth c cells slots Q w D A H0 nL σ pc lv (.int x :: st) := by
  subst hp
  exact fun H locs ls hP hD hS h => lv_i2l C.1.1 C.1.2.1 hdg hv (kk H locs ls hP hD hS h)
theorem v_l2i (C : CX p m c cc nL s args Ts own A H0) {x : Int64} {v : Int32} (hdg : decode cc pc = .ok (.l2i, 1)) (hp : pc + 1 = pc') (hv : x.toInt32 = v) (kk : VV p l e R s m args below meth c cells slots Q w D A H0 nL σ pc' lv (.int v :: st)) : VV p l e R s m args below meth c cells slots Q w D A H0 nL σ pc lv (.long x :: st) := by
  subst hp
  exact fun H locs ls hP hD hS h => lv_l2i C.1.1 C.1.2.1 hdg hv (kk H locs ls hP hD hS h)
theorem v_i2c (C : CX p m c cc nL s args Ts own A H0) {x v : Int32} (hdg : decode cc pc = .ok (.i2c, 1)) (hp : pc + 1 = pc') (hv : (x.toUInt32 % 65536).toInt32 = v) (kk : VV p l e R s m args below meth c cells slots Q w D A H0 nL σ pc' lv (.int v :: st)) : VV p l e R s m args below meth c cells slots Q w D A H0 nL σ pc lv (.int x :: st) := by
  subst hp
  exact fun H locs ls hP hD hS h => lv_i2c C.1.1 C.1.2.1 hdg hv (kk H locs ls hP hD hS h)
theorem v_dup (C : CX p m c cc nL s args Ts own A H0) {va : Value} (hdg : decode cc pc = .ok (.dup, 1)) (hp : pc + 1 = pc') (hva : va.category = 1) (kk : VV p l e R s m args below meth c cells slots Q w D A H0 nL σ pc' lv (va :: va :: st)) : VV p l e R s m args below meth c cells slots Q w D A H0 nL σ pc lv (va :: st) := by
  subst hp
  exact fun H locs ls hP hD hS h => lv_dup C.1.1 C.1.2.1 hdg hva (kk H locs ls hP hD hS h)
theorem v_pop (C : CX p m c cc nL s args Ts own A H0) {va : Value} (hdg : decode cc pc = .ok (.pop, 1)) (hp : pc + 1 = pc') (hva : va.category = 1) (kk : VV p l e R s m args below meth c cells slots Q w D A H0 nL σ pc' lv (st)) : VV p l e R s m args below meth c cells slots Q w D A H0 nL σ pc lv (va :: st) := by
  subst hp
  exact fun H locs ls hP hD hS h => lv_pop C.1.1 C.1.2.1 hdg hva (kk H locs ls hP hD hS h)
theorem v_dup2 (C : CX p m c cc nL s args Ts own A H0) {va vb : Value} (hdg : decode cc pc = .ok (.dup2, 1)) (hp : pc + 1 = pc') (hva : va.category = 1) (hvb : vb.category = 1) (kk : VV p l e R s m args below meth c cells slots Q w D A H0 nL σ pc' lv (va :: vb :: va :: vb :: st)) : VV p l e R s m args below meth c cells slots Q w D A H0 nL σ pc lv (va :: vb :: st) := by
  subst hp
  exact fun H locs ls hP hD hS h => lv_dup2_11 C.1.1 C.1.2.1 hdg hva hvb (kk H locs ls hP hD hS h)
theorem v_lcmp (C : CX p m c cc nL s args Ts own A H0) {x y : Int64} (hdg : decode cc pc = .ok (.lcmp, 1)) (hp : pc + 1 = pc') (kk : VV p l e R s m args below meth c cells slots Q w D A H0 nL σ pc' lv (.int (lg_cmp x y) :: st)) : VV p l e R s m args below meth c cells slots Q w D A H0 nL σ pc lv (.long y :: .long x :: st) := by
  subst hp
  exact fun H locs ls hP hD hS h => W.lcmp C.1.1 C.1.2.1 hdg (kk H locs ls hP hD hS h)
theorem v_if_eq (C : CX p m c cc nL s args Ts own A H0) {x : Int32} {off : Int} (tgt : Nat) (hdg : decode cc pc = .ok (.ifCond .eq off, 3)) (ht : (pc : Int) + off = (tgt : Int)) (hp : pc + 3 = pc') (kt : x = 0 → VV p l e R s m args below meth c cells slots Q w D A H0 nL σ tgt lv st) (kf : ¬ x = 0 → VV p l e R s m args below meth c cells slots Q w D A H0 nL σ pc' lv st) : VV p l e R s m args below meth c cells slots Q w D A H0 nL σ pc lv (.int x :: st) := by
  subst hp
  exact fun H locs ls hP hD hS h => lv_if_eq C.1.1 C.1.2.1 hdg ht (fun h2 => kt h2 H locs ls hP hD hS h) (fun h2 => kf h2 H locs ls hP hD hS h)
theorem v_icmp_eq (C : CX p m c cc nL s args Ts own A H0) {x y : Int32} {off : Int} (tgt : Nat) (hdg : decode cc pc = .ok (.if_icmp .eq off, 3)) (ht : (pc : Int) + off = (tgt : Int)) (hp : pc + 3 = pc') (kt : x = y → VV p l e R s m args below meth c cells slots Q w D A H0 nL σ tgt lv st) (kf : ¬ x = y → VV p l e R s m args below meth c cells slots Q w D A H0 nL σ pc' lv st) : VV p l e R s m args below meth c cells slots Q w D A H0 nL σ pc lv (.int y :: .int x :: st) := by
  subst hp
  exact fun H locs ls hP hD hS h => lv_icmp_eq C.1.1 C.1.2.1 hdg ht (fun h2 => kt h2 H locs ls hP hD hS h) (fun h2 => kf h2 H locs ls hP hD hS h)
theorem v_if_ne (C : CX p m c cc nL s args Ts own A H0) {x : Int32} {off : Int} (tgt : Nat) (hdg : decode cc pc = .ok (.ifCond .ne off, 3)) (ht : (pc : Int) + off = (tgt : Int)) (hp : pc + 3 = pc') (kt : ¬ x = 0 → VV p l e R s m args below meth c cells slots Q w D A H0 nL σ tgt lv st) (kf : x = 0 → VV p l e R s m args below meth c cells slots Q w D A H0 nL σ pc' lv st) : VV p l e R s m args below meth c cells slots Q w D A H0 nL σ pc lv (.int x :: st) := by
  subst hp
  exact fun H locs ls hP hD hS h => lv_if_ne C.1.1 C.1.2.1 hdg ht (fun h2 => kt h2 H locs ls hP hD hS h) (fun h2 => kf h2 H locs ls hP hD hS h)
theorem v_icmp_ne (C : CX p m c cc nL s args Ts own A H0) {x y : Int32} {off : Int} (tgt : Nat) (hdg : decode cc pc = .ok (.if_icmp .ne off, 3)) (ht : (pc : Int) + off = (tgt : Int)) (hp : pc + 3 = pc') (kt : ¬ x = y → VV p l e R s m args below meth c cells slots Q w D A H0 nL σ tgt lv st) (kf : x = y → VV p l e R s m args below meth c cells slots Q w D A H0 nL σ pc' lv st) : VV p l e R s m args below meth c cells slots Q w D A H0 nL σ pc lv (.int y :: .int x :: st) := by
  subst hp
  exact fun H locs ls hP hD hS h => lv_icmp_ne C.1.1 C.1.2.1 hdg ht (fun h2 => kt h2 H locs ls hP hD hS h) (fun h2 => kf h2 H locs ls hP hD hS h)
theorem v_if_lt (C : CX p m c cc nL s args Ts own A H0) {x : Int32} {off : Int} (tgt : Nat) (hdg : decode cc pc = .ok (.ifCond .lt off, 3)) (ht : (pc : Int) + off = (tgt : Int)) (hp : pc + 3 = pc') (kt : x < 0 → VV p l e R s m args below meth c cells slots Q w D A H0 nL σ tgt lv st) (kf : ¬ x < 0 → VV p l e R s m args below meth c cells slots Q w D A H0 nL σ pc' lv st) : VV p l e R s m args below meth c cells slots Q w D A H0 nL σ pc lv (.int x :: st) := by
  subst hp
  exact fun H locs ls hP hD hS h => lv_if_lt C.1.1 C.1.2.1 hdg ht (fun h2 => kt h2 H locs ls hP hD hS h) (fun h2 => kf h2 H locs ls hP hD hS h)
theorem v_icmp_lt (C : CX p m c cc nL s args Ts own A H0) {x y : Int32} {off : Int} (tgt : Nat) (hdg : decode cc pc = .ok (.if_icmp .lt off, 3)) (ht : (pc : Int) + off = (tgt : Int)) (hp : pc + 3 = pc') (kt : x < y → VV p l e R s m args below meth c cells slots Q w D A H0 nL σ tgt lv st) (kf : ¬ x < y → VV p l e R s m args below meth c cells slots Q w D A H0 nL σ pc' lv st) : VV p l e R s m args below meth c cells slots Q w D A H0 nL σ pc lv (.int y :: .int x :: st) := by
  subst hp
  exact fun H locs ls hP hD hS h => lv_icmp_lt C.1.1 C.1.2.1 hdg ht (fun h2 => kt h2 H locs ls hP hD hS h) (fun h2 => kf h2 H locs ls hP hD hS h)
theorem v_if_ge (C : CX p m c cc nL s args Ts own A H0) {x : Int32} {off : Int} (tgt : Nat) (hdg : decode cc pc = .ok (.ifCond .ge off, 3)) (ht : (pc : Int) + off = (tgt : Int)) (hp : pc + 3 = pc') (kt : 0 ≤ x → VV p l e R s m args below meth c cells slots Q w D A H0 nL σ tgt lv st) (kf : ¬ 0 ≤ x → VV p l e R s m args below meth c cells slots Q w D A H0 nL σ pc' lv st) : VV p l e R s m args below meth c cells slots Q w D A H0 nL σ pc lv (.int x :: st) := by
  subst hp
  exact fun H locs ls hP hD hS h => lv_if_ge C.1.1 C.1.2.1 hdg ht (fun h2 => kt h2 H locs ls hP hD hS h) (fun h2 => kf h2 H locs ls hP hD hS h)
theorem v_icmp_ge (C : CX p m c cc nL s args Ts own A H0) {x y : Int32} {off : Int} (tgt : Nat) (hdg : decode cc pc = .ok (.if_icmp .ge off, 3)) (ht : (pc : Int) + off = (tgt : Int)) (hp : pc + 3 = pc') (kt : y ≤ x → VV p l e R s m args below meth c cells slots Q w D A H0 nL σ tgt lv st) (kf : ¬ y ≤ x → VV p l e R s m args below meth c cells slots Q w D A H0 nL σ pc' lv st) : VV p l e R s m args below meth c cells slots Q w D A H0 nL σ pc lv (.int y :: .int x :: st) := by
  subst hp
  exact fun H locs ls hP hD hS h => lv_icmp_ge C.1.1 C.1.2.1 hdg ht (fun h2 => kt h2 H locs ls hP hD hS h) (fun h2 => kf h2 H locs ls hP hD hS h)
theorem v_if_gt (C : CX p m c cc nL s args Ts own A H0) {x : Int32} {off : Int} (tgt : Nat) (hdg : decode cc pc = .ok (.ifCond .gt off, 3)) (ht : (pc : Int) + off = (tgt : Int)) (hp : pc + 3 = pc') (kt : 0 < x → VV p l e R s m args below meth c cells slots Q w D A H0 nL σ tgt lv st) (kf : ¬ 0 < x → VV p l e R s m args below meth c cells slots Q w D A H0 nL σ pc' lv st) : VV p l e R s m args below meth c cells slots Q w D A H0 nL σ pc lv (.int x :: st) := by
  subst hp
  exact fun H locs ls hP hD hS h => lv_if_gt C.1.1 C.1.2.1 hdg ht (fun h2 => kt h2 H locs ls hP hD hS h) (fun h2 => kf h2 H locs ls hP hD hS h)
theorem v_icmp_gt (C : CX p m c cc nL s args Ts own A H0) {x y : Int32} {off : Int} (tgt : Nat) (hdg : decode cc pc = .ok (.if_icmp .gt off, 3)) (ht : (pc : Int) + off = (tgt : Int)) (hp : pc + 3 = pc') (kt : y < x → VV p l e R s m args below meth c cells slots Q w D A H0 nL σ tgt lv st) (kf : ¬ y < x → VV p l e R s m args below meth c cells slots Q w D A H0 nL σ pc' lv st) : VV p l e R s m args below meth c cells slots Q w D A H0 nL σ pc lv (.int y :: .int x :: st) := by
  subst hp
  exact fun H locs ls hP hD hS h => lv_icmp_gt C.1.1 C.1.2.1 hdg ht (fun h2 => kt h2 H locs ls hP hD hS h) (fun h2 => kf h2 H locs ls hP hD hS h)
theorem v_if_le (C : CX p m c cc nL s args Ts own A H0) {x : Int32} {off : Int} (tgt : Nat) (hdg : decode cc pc = .ok (.ifCond .le off, 3)) (ht : (pc : Int) + off = (tgt : Int)) (hp : pc + 3 = pc') (kt : x ≤ 0 → VV p l e R s m args below meth c cells slots Q w D A H0 nL σ tgt lv st) (kf : ¬ x ≤ 0 → VV p l e R s m args below meth c cells slots Q w D A H0 nL σ pc' lv st) : VV p l e R s m args below meth c cells slots Q w D A H0 nL σ pc lv (.int x :: st) := by
  subst hp
  exact fun H locs ls hP hD hS h => lv_if_le C.1.1 C.1.2.1 hdg ht (fun h2 => kt h2 H locs ls hP hD hS h) (fun h2 => kf h2 H locs ls hP hD hS h)
theorem v_icmp_le (C : CX p m c cc nL s args Ts own A H0) {x y : Int32} {off : Int} (tgt : Nat) (hdg : decode cc pc = .ok (.if_icmp .le off, 3)) (ht : (pc : Int) + off = (tgt : Int)) (hp : pc + 3 = pc') (kt : x ≤ y → VV p l e R s m args below meth c cells slots Q w D A H0 nL σ tgt lv st) (kf : ¬ x ≤ y → VV p l e R s m args below meth c cells slots Q w D A H0 nL σ pc' lv st) : VV p l e R s m args below meth c cells slots Q w D A H0 nL σ pc lv (.int y :: .int x :: st) := by
  subst hp
  exact fun H locs ls hP hD hS h => lv_icmp_le C.1.1 C.1.2.1 hdg ht (fun h2 => kt h2 H locs ls hP hD hS h) (fun h2 => kf h2 H locs ls hP hD hS h)
theorem v_goto (C : CX p m c cc nL s args Ts own A H0) {off : Int} (tgt : Nat) (hdg : decode cc pc = .ok (.goto off, 3)) (ht : (pc : Int) + off = (tgt : Int)) (kk : VV p l e R s m args below meth c cells slots Q w D A H0 nL σ tgt lv st) : VV p l e R s m args below meth c cells slots Q w D A H0 nL σ pc lv st := fun H locs ls hP hD hS h => lv_goto C.1.1 C.1.2.1 hdg ht (kk H locs ls hP hD hS h)
theorem v_tableOut (C : CX p m c cc nL s args Ts own A H0) {dflt lo hi : Int} {offs : Array Int} {len : Nat} {x : Int32} (tgt : Nat) (hdg : decode cc pc = .ok (.tableswitch dflt lo hi offs, len)) (h1 : x.toInt < lo ∨ hi < x.toInt) (ht : (pc : Int) + dflt = (tgt : Int)) (kk : VV p l e R s m args below meth c cells slots Q w D A H0 nL σ tgt lv st) : VV p l e R s m args below meth c cells slots Q w D A H0 nL σ pc lv (.int x :: st) := fun H locs ls hP hD hS h => lv_tableOut C.1.1 C.1.2.1 hdg h1 ht (kk H locs ls hP hD hS h)
theorem v_tableIn (C : CX p m c cc nL s args Ts own A H0) {dflt lo hi : Int} {offs : Array Int} {len : Nat} {x : Int32} {off : Int} (tgt : Nat) (hdg : decode cc pc = .ok (.tableswitch dflt lo hi offs, len)) (h1 : ¬ x.toInt < lo) (h2 : ¬ hi < x.toInt) (ho : offs[(x.toInt - lo).toNat]? = some off) (ht : (pc : Int) + off = (tgt : Int)) (kk : VV p l e R s m args below meth c cells slots Q w D A H0 nL σ tgt lv st) : VV p l e R s m args below meth c cells slots Q w D A H0 nL σ pc lv (.int x :: st) := fun H locs ls hP hD hS h => lv_tableIn C.1.1 C.1.2.1 hdg h1 h2 ho ht (kk H locs ls hP hD hS h)
theorem v_lookup (C : CX p m c cc nL s args Ts own A H0) {dflt : Int} {ps : Array (Int × Int)} {len : Nat} {x : Int32} {off : Int} (tgt : Nat) (hdg : decode cc pc = .ok (.lookupswitch dflt ps, len)) (hp : (ps.toList.zip (ps.toList.drop 1)).all (fun (a, next) => a.1 < next.1) = true) (ho : Op.lookupswitch.offset ps.toList dflt x.toInt = off) (ht : (pc : Int) + off = (tgt : Int)) (kk : VV p l e R s m args below meth c cells slots Q w D A H0 nL σ tgt lv st) : VV p l e R s m args below meth c cells slots Q w D A H0 nL σ pc lv (.int x :: st) := fun H locs ls hP hD hS h => lv_lookup C.1.1 C.1.2.1 hdg hp ho ht (kk H locs ls hP hD hS h)
theorem v_lv (ks : List Nat) (hl : lv_pick lv ks = lv') (kk : VV p l e R s m args below meth c cells slots Q w D A H0 nL σ pc lv' st) : VV p l e R s m args below meth c cells slots Q w D A H0 nL σ pc lv st := fun H locs ls hP hD hS h => kk H locs ls hP hD hS (lv_sub h ks hl)
theorem v_top {x : Int32} (y : Int32) (hy : x = y) (kk : VV p l e R s m args below meth c cells slots Q w D A H0 nL σ pc lv (.int y :: st)) : VV p l e R s m args below meth c cells slots Q w D A H0 nL σ pc lv (.int x :: st) := by
  subst hy
  exact kk
theorem v_top2 {x z : Int32} (y : Int32) (hy : x = y) (kk : VV p l e R s m args below meth c cells slots Q w D A H0 nL σ pc lv (.int z :: .int y :: st)) : VV p l e R s m args below meth c cells slots Q w D A H0 nL σ pc lv (.int z :: .int x :: st) := by
  subst hy
  exact kk
theorem v_topN {x : Int32} (kk : ∀ y : Int32, y = x → VV p l e R s m args below meth c cells slots Q w D A H0 nL σ pc lv (.int y :: st)) : VV p l e R s m args below meth c cells slots Q w D A H0 nL σ pc lv (.int x :: st) := kk x rfl
theorem v_st {σ1 : τ} (σ2 : τ) (hw : σ1 = σ2) (kk : VV p l e R s m args below meth c cells slots Q w D A H0 nL σ2 pc lv st) : VV p l e R s m args below meth c cells slots Q w D A H0 nL σ1 pc lv st := by
  subst hw
  exact kk
theorem v_w {σ1 : τ} (σ2 : τ) (hw : w σ1 = w σ2) (kk : VV p l e R s m args below meth c cells slots Q w D A H0 nL σ2 pc lv st) : VV p l e R s m args below meth c cells slots Q w D A H0 nL σ1 pc lv st := fun H locs ls hP hD hS h => kk H locs ls (hw ▸ hP) (hw ▸ hD) hS h
theorem v_pc {pc1 : Nat} (pc2 : Nat) (hw : pc1 = pc2) (kk : VV p l e R s m args below meth c cells slots Q w D A H0 nL σ pc2 lv st) : VV p l e R s m args below meth c cells slots Q w D A H0 nL σ pc1 lv st := by
  subst hw
  exact kk
theorem v_get (C : CX p m c cc nL s args Ts own A H0) (K : va_K D vwCl tys s) {Cn : String} {T : u_T} {N ci index a : Nat} {fs : List Value} {v : Value} (hin : ∀ x ∈ u_ws Cn T N, x ∈ Ts) (q0 : Nat) (he : (w σ)[q0]? = some (a, .inr (ci, fs))) (hc : vwCl[ci]? = some (Cn, T, N)) (k : Nat) (hk : k < N) (hlink : Cond.fieldLink own index (T k).1 (T k).2.1 (T k).2.2.1 ∈ Ts) (hv : fs[k]? = some v) (hdg : decode cc pc = .ok (.getfield index, 3)) (hp : pc + 3 = pc') (kk : VV p l e R s m args below meth c cells slots Q w D A H0 nL σ pc' lv (v :: st)) : VV p l e R s m args below meth c cells slots Q w D A H0 nL σ pc lv (.ref a :: st) := by
  subst hp
  exact fun H locs ls hP hD hS h => va_get C.1.1 C.1.2.1 C.1.2.2.2.2 hin C.1.2.2.2.1 K hP q0 he hc k hk (C.1.2.2.2.2 _ hlink) (fun x h9 => h9) hv hdg (kk H locs ls hP hD hS h)
theorem v_put (C : CX p m c cc nL s args Ts own A H0) (K : va_K D vwCl tys s) {Cn : String} {T : u_T} {N ci index a : Nat} {fs : List Value} {v : Value} {ty : FieldType} {ty0 : Nat → FieldType} (σ2 : τ) (hin : ∀ x ∈ u_ws Cn T N, x ∈ Ts) (hty : ∀ k, k < N → parseFieldDescriptor (T k).2.2.1 = some (ty0 k)) (hnm : ∀ a, a < N → ∀ b, b < N → a ≠ b → (T a).2.1 ≠ (T b).2.1) (q0 : Nat) (he : (w σ)[q0]? = some (a, .inr (ci, fs))) (hc : vwCl[ci]? = some (Cn, T, N)) (k : Nat) (hk : k < N) (hlink : Cond.fieldLink own index (T k).1 (T k).2.1 (T k).2.2.1 ∈ Ts) (hfin : (T k).2.2.2 = false) (hd : parseFieldDescriptor (T k).2.2.1 = some ty) (hn : narrow ty v = v) (hfit : fits ty v = true) (hl : k < fs.length) (hw : (w σ).set q0 (a, .inr (ci, fs.set k v)) = w σ2) (hdg : decode cc pc = .ok (.putfield index, 3)) (hp : pc + 3 = pc') (kk : VV p l e R s m args below meth c cells slots Q w D A H0 nL σ2 pc' lv st) : VV p l e R s m args below meth c cells slots Q w D A H0 nL σ pc lv (v :: .ref a :: st) := by
  subst hp
  exact fun H locs ls hP hD hS h => va_put C.1.1 C.1.2.1 C.1.2.2.2.2 hin ty0 hty hnm C.1.2.2.2.1 K hP hD hS q0 he hc k hk (C.1.2.2.2.2 _ hlink) (fun x h9 => h9) hfin hd hn hfit hl hdg (fun H1 locs1 hP1 hD1 hS1 => kk H1 locs1 ls (by rw [← hw]; exact hP1) (by rw [← hw]; exact hD1) hS1 h)
theorem v_iald (C : CX p m c cc nL s args Ts own A H0) (K : va_K D vwCl tys s) {a n : Nat} {f : Nat → Int32} {cA : ClassId} (q0 t0 : Nat) (ha : (w σ)[q0]? = some (a, .inl (cA, n, .inl f))) (ht : tys[t0]? = some (cA, .int)) {i : Int32} (j : Nat) (hi : i = nI j) (hj : j < n) (hn : n ≤ 100000) (hdg : decode cc pc = .ok (.iaload, 1)) (hp : pc + 1 = pc') (kk : VV p l e R s m args below meth c cells slots Q w D A H0 nL σ pc' lv (.int (f j) :: st)) : VV p l e R s m args below meth c cells slots Q w D A H0 nL σ pc lv (.int i :: .ref a :: st) := by
  subst hp
  obtain ⟨g1, g2⟩ := i9_in hi hj hn
  exact fun H locs ls hP hD hS h => va_iald C.1.1 C.1.2.1 K hP q0 t0 ha ht g1 hdg (by rw [g2]; exact kk H locs ls hP hD hS h)
theorem v_cald (C : CX p m c cc nL s args Ts own A H0) (K : va_K D vwCl tys s) {a n : Nat} {f : Nat → Int32} {cA : ClassId} (q0 t0 : Nat) (ha : (w σ)[q0]? = some (a, .inl (cA, n, .inl f))) (ht : tys[t0]? = some (cA, .char)) {i : Int32} (j : Nat) (hi : i = nI j) (hj : j < n) (hn : n ≤ 100000) (hdg : decode cc pc = .ok (.caload, 1)) (hp : pc + 1 = pc') (kk : VV p l e R s m args below meth c cells slots Q w D A H0 nL σ pc' lv (.int (f j) :: st)) : VV p l e R s m args below meth c cells slots Q w D A H0 nL σ pc lv (.int i :: .ref a :: st) := by
  subst hp
  obtain ⟨g1, g2⟩ := i9_in hi hj hn
  exact fun H locs ls hP hD hS h => va_cald C.1.1 C.1.2.1 K hP q0 t0 ha ht g1 hdg (by rw [g2]; exact kk H locs ls hP hD hS h)
theorem v_zald (C : CX p m c cc nL s args Ts own A H0) (K : va_K D vwCl tys s) {a n : Nat} {f : Nat → Int32} {cA : ClassId} (q0 t0 : Nat) (ha : (w σ)[q0]? = some (a, .inl (cA, n, .inl f))) (ht : tys[t0]? = some (cA, .boolean)) {i : Int32} (j : Nat) (hi : i = nI j) (hj : j < n) (hn : n ≤ 100000) (hdg : decode cc pc = .ok (.baload, 1)) (hp : pc + 1 = pc') (kk : VV p l e R s m args below meth c cells slots Q w D A H0 nL σ pc' lv (.int (f j) :: st)) : VV p l e R s m args below meth c cells slots Q w D A H0 nL σ pc lv (.int i :: .ref a :: st) := by
  subst hp
  obtain ⟨g1, g2⟩ := i9_in hi hj hn
  exact fun H locs ls hP hD hS h => va_zald C.1.1 C.1.2.1 K hP q0 t0 ha ht g1 hdg (by rw [g2]; exact kk H locs ls hP hD hS h)
theorem v_iast (C : CX p m c cc nL s args Ts own A H0) (K : va_K D vwCl tys s) {a n : Nat} {f : Nat → Int32} {cA : ClassId} (σ2 : τ) (q0 t0 : Nat) (ha : (w σ)[q0]? = some (a, .inl (cA, n, .inl f))) (ht : tys[t0]? = some (cA, .int)) {i x : Int32} (j : Nat) (hi : i = nI j) (hj : j < n) (hn : n ≤ 100000) (hw : (w σ).set q0 (a, .inl (cA, n, .inl (upd f j x))) = w σ2) (hdg : decode cc pc = .ok (.iastore, 1)) (hp : pc + 1 = pc') (kk : VV p l e R s m args below meth c cells slots Q w D A H0 nL σ2 pc' lv st) : VV p l e R s m args below meth c cells slots Q w D A H0 nL σ pc lv (.int x :: .int i :: .ref a :: st) := by
  subst hp
  obtain ⟨g1, g2⟩ := i9_in hi hj hn
  exact fun H locs ls hP hD hS h => va_iast C.1.1 C.1.2.1 K hP hD hS q0 t0 ha ht g1 hdg (fun H1 locs1 hP1 hD1 hS1 => kk H1 locs1 ls (by rw [← hw, ← g2]; exact hP1) (by rw [← hw, ← g2]; exact hD1) hS1 h)
theorem v_cast (C : CX p m c cc nL s args Ts own A H0) (K : va_K D vwCl tys s) {a n : Nat} {f : Nat → Int32} {cA : ClassId} (σ2 : τ) (q0 t0 : Nat) (ha : (w σ)[q0]? = some (a, .inl (cA, n, .inl f))) (ht : tys[t0]? = some (cA, .char)) {i x : Int32} (j : Nat) (hi : i = nI j) (hj : j < n) (hn : n ≤ 100000) (hw : (w σ).set q0 (a, .inl (cA, n, .inl (upd f j (vp_nar .char x)))) = w σ2) (hdg : decode cc pc = .ok (.castore, 1)) (hp : pc + 1 = pc') (kk : VV p l e R s m args below meth c cells slots Q w D A H0 nL σ2 pc' lv st) : VV p l e R s m args below meth c cells slots Q w D A H0 nL σ pc lv (.int x :: .int i :: .ref a :: st) := by
  subst hp
  obtain ⟨g1, g2⟩ := i9_in hi hj hn
  exact fun H locs ls hP hD hS h => va_cast C.1.1 C.1.2.1 K hP hD hS q0 t0 ha ht g1 hdg (fun H1 locs1 hP1 hD1 hS1 => kk H1 locs1 ls (by rw [← hw, ← g2]; exact hP1) (by rw [← hw, ← g2]; exact hD1) hS1 h)
theorem v_zast (C : CX p m c cc nL s args Ts own A H0) (K : va_K D vwCl tys s) {a n : Nat} {f : Nat → Int32} {cA : ClassId} (σ2 : τ) (q0 t0 : Nat) (ha : (w σ)[q0]? = some (a, .inl (cA, n, .inl f))) (ht : tys[t0]? = some (cA, .boolean)) {i x : Int32} (j : Nat) (hi : i = nI j) (hj : j < n) (hn : n ≤ 100000) (hw : (w σ).set q0 (a, .inl (cA, n, .inl (upd f j (vp_nar .boolean x)))) = w σ2) (hdg : decode cc pc = .ok (.bastore, 1)) (hp : pc + 1 = pc') (kk : VV p l e R s m args below meth c cells slots Q w D A H0 nL σ2 pc' lv st) : VV p l e R s m args below meth c cells slots Q w D A H0 nL σ pc lv (.int x :: .int i :: .ref a :: st) := by
  subst hp
  obtain ⟨g1, g2⟩ := i9_in hi hj hn
  exact fun H locs ls hP hD hS h => va_zast C.1.1 C.1.2.1 K hP hD hS q0 t0 ha ht g1 hdg (fun H1 locs1 hP1 hD1 hS1 => kk H1 locs1 ls (by rw [← hw, ← g2]; exact hP1) (by rw [← hw, ← g2]; exact hD1) hS1 h)
theorem v_aald (C : CX p m c cc nL s args Ts own A H0) (K : va_K D vwCl tys s) {a n b : Nat} {f : Nat → Option Nat} {cA : ClassId} {ty : FieldType} (hty : ty.isReference = true) (q0 t0 : Nat) (ha : (w σ)[q0]? = some (a, .inl (cA, n, .inr (.inr (.inr (.inr f)))))) (ht : tys[t0]? = some (cA, ty)) {i : Int32} (j : Nat) (hi : i = nI j) (hj : j < n) (hn : n ≤ 100000) (hf : f j = some b) (hdg : decode cc pc = .ok (.aaload, 1)) (hp : pc + 1 = pc') (kk : VV p l e R s m args below meth c cells slots Q w D A H0 nL σ pc' lv (.ref b :: st)) : VV p l e R s m args below meth c cells slots Q w D A H0 nL σ pc lv (.int i :: .ref a :: st) := by
  subst hp
  obtain ⟨g1, g2⟩ := i9_in hi hj hn
  intro H locs ls hP hD hS h
  refine W.aald (v := .ref b) (ty := ty) C.1.1 C.1.2.1 (hP q0 _ ha) ((K.2 t0 _ ht).1 n (fun j => va_rf (f j))) hty (fun q => by cases q) (by show ¬ (i < 0 ∨ (arrV _ _ _).slots.size ≤ _); rw [arrV_size]; exact g1) ?_ rfl rfl hdg (kk H locs ls hP hD hS h)
  show (arrV _ _ _).slots[_]? = _
  rw [g2, arrV_read _ _ hj, hf]
  rfl
theorem v_mmax (C : CX p m c cc nL s args Ts own A H0) {index : Nat} {x y : Int32} (h1 : Cond.methodLink own index Lib.Math.max.name ∈ Ts) (h2 : Cond.static Lib.Math.max.name ∈ Ts) (h3 : Cond.initialized "java/lang/Math" ∈ Ts) (h4 : Cond.code Lib.Math.max.name Lib.Math.max.code 2 (some .int) ∈ Ts) (hframes : 1 ≤ R.frames) (hlocals : (st.map fun v => v.category).sum + 13 ≤ R.locals) (hcs : cells ≤ R.cells ∧ slots ≤ R.slots) (hdg : decode cc pc = .ok (.invokestatic index, 3)) (hp : pc + 3 = pc') (kk : VV p l e R s m args below meth c cells slots Q w D A H0 nL σ pc' lv (.int (if x < y then y else x) :: st)) : VV p l e R s m args below meth c cells slots Q w D A H0 nL σ pc lv (.int y :: .int x :: st) := by
  subst hp
  exact fun H locs ls hP hD hS h => va_mmax C.1.1 C.1.2.1 (C.1.2.2.1.trans h.1.symm) C.1.2.2.2.1 (C.1.2.2.2.2 _ h1) (C.1.2.2.2.2 _ h2) (C.1.2.2.2.2 _ h3) (C.1.2.2.2.2 _ h4) hframes hlocals hcs.1 hcs.2 hdg (kk H locs ls hP hD hS h)
theorem v_mmin (C : CX p m c cc nL s args Ts own A H0) {index : Nat} {x y : Int32} (h1 : Cond.methodLink own index Lib.Math.min.name ∈ Ts) (h2 : Cond.static Lib.Math.min.name ∈ Ts) (h3 : Cond.initialized "java/lang/Math" ∈ Ts) (h4 : Cond.code Lib.Math.min.name Lib.Math.min.code 2 (some .int) ∈ Ts) (hframes : 1 ≤ R.frames) (hlocals : (st.map fun v => v.category).sum + 13 ≤ R.locals) (hcs : cells ≤ R.cells ∧ slots ≤ R.slots) (hdg : decode cc pc = .ok (.invokestatic index, 3)) (hp : pc + 3 = pc') (kk : VV p l e R s m args below meth c cells slots Q w D A H0 nL σ pc' lv (.int (if y < x then y else x) :: st)) : VV p l e R s m args below meth c cells slots Q w D A H0 nL σ pc lv (.int y :: .int x :: st) := by
  subst hp
  exact fun H locs ls hP hD hS h => va_mmin C.1.1 C.1.2.1 (C.1.2.2.1.trans h.1.symm) C.1.2.2.2.1 (C.1.2.2.2.2 _ h1) (C.1.2.2.2.2 _ h2) (C.1.2.2.2.2 _ h3) (C.1.2.2.2.2 _ h4) hframes hlocals hcs.1 hcs.2 hdg (kk H locs ls hP hD hS h)
theorem v_copyi (C : CX p m c cc nL s args Ts own A H0) (K : va_K D vwCl tys s) {index : Nat} (h1 : Cond.methodLink own index arraycopyName ∈ Ts) (h2 : Cond.native arraycopyName ∈ Ts) (h3 : Cond.static arraycopyName ∈ Ts) (h4 : Cond.initialized "java/lang/System" ∈ Ts) (σ2 : τ) (q0 q1 t0 t1 : Nat) {a a0 : Nat} {c0 c1 : ClassId} {n0 n1 : Nat} {f g : Nat → Int32} (ha0 : (w σ)[q0]? = some (a0, .inl (c0, n0, .inl f))) (ha1 : (w σ)[q1]? = some (a, .inl (c1, n1, .inl g))) (ht0 : tys[t0]? = some (c0, .int)) (ht1 : tys[t1]? = some (c1, .int)) {sp dp n : Int32} (sj dj nj : Nat) (hs : sp = nI sj) (hd : dp = nI dj) (hn : n = nI nj) (h4' : sj + nj ≤ n0) (h5 : dj + nj ≤ n1) (hb : n0 ≤ 100000 ∧ n1 ≤ 100000) (hframes : 1 ≤ R.frames) (hlocals : (st.map fun v => v.category).sum + (nativeFrameWords "java/lang/System" "arraycopy" 5 + 11) ≤ R.locals) (hw : (w σ).set q1 (a, .inl (c1, n1, .inl (va_cpy f g sj dj nj))) = w σ2) (hdg : decode cc pc = .ok (.invokestatic index, 3)) (hp : pc + 3 = pc') (kk : VV p l e R s m args below meth c cells slots Q w D A H0 nL σ2 pc' lv st) : VV p l e R s m args below meth c cells slots Q w D A H0 nL σ pc lv (.int n :: .int dp :: .ref a :: .int sp :: .ref a0 :: st) := by
  subst hp
  subst hs
  subst hd
  subst hn
  have e1 : (nI sj).toNatClampNeg = sj := nI_clamp (by omega)
  have e2 : (nI dj).toNatClampNeg = dj := nI_clamp (by omega)
  have e3 : (nI nj).toNatClampNeg = nj := nI_clamp (by omega)
  intro H locs ls hP hD hS h
  exact va_copyi C.1.1 C.1.2.1 (C.1.2.2.1.trans h.1.symm) C.1.2.2.2.1 (C.1.2.2.2.2 _ h1) (C.1.2.2.2.2 _ h2) (C.1.2.2.2.2 _ h3) (C.1.2.2.2.2 _ h4) K hP hD hS q0 q1 t0 t1 ha0 ha1 ht0 ht1 rfl (nI_pos (by omega)) (nI_pos (by omega)) (nI_pos (by omega)) (by rw [e1, e3]; exact h4') (by rw [e2, e3]; exact h5) (fun i _ => rfl) hframes hlocals hdg (fun H1 locs1 hP1 hD1 hS1 => kk H1 locs1 ls (by rw [← hw, ← e1, ← e2, ← e3]; simpa only [e1, e2, e3] using hP1) (by rw [← hw, ← e1, ← e2, ← e3]; simpa only [e1, e2, e3] using hD1) hS1 h)
theorem v9_F (C : CX p m c cc nL s args Ts own A H0) {H : Heap} {locs : List Loc} (hD : va_D A (w σ)) (hS : va_S A H0 H locs) : ∀ q, va_A (w σ) H.size q → A q := by
  intro q hq
  rcases hq with ⟨k, e, hk⟩ | hle
  · exact hD.2 k (q, e) hk
  · exact C.2 q (Nat.le_trans hS.1 hle)
theorem v_callVi (C : CX p m c cc nL s args Ts own A H0) (K : va_K D vwCl tys s) {y : MethodName} {ws ws' : List Cond} {rm : Room} {bytes : ByteArray} {maxL n index : Nat} {ret : Option FieldType} {As st0 : List Value} {C' : String} {b ci : Nat} {fs : List Value} {q : vw_C} {post : Int32 → τ → Prop} (hM : CMi l w D tys y ws rm (.ref b :: As) σ post) (hG : GoodIn Ts (wsV own index C' y ws)) (hw : ws = Cond.code y bytes maxL ret :: ws') (hd : y.cls = C' ∧ y.cls ≠ "java/lang/invoke/MethodHandle" ∧ y.cls ≠ "java/lang/invoke/VarHandle" ∧ (parseMethodDescriptor y.desc).map (fun d => d.parameters.length) = some n) (hrm : rm.cells = 0 ∧ rm.slots = 0) (hR : rm.frames + 1 ≤ R.frames ∧ 8 + (maxL + 11) + rm.locals ≤ R.locals) (q0 : Nat) (he : (w σ)[q0]? = some (b, .inr (ci, fs))) (hc : vwCl[ci]? = some q) (hq : q.1 = C') (hst : st0 = As.reverse ++ .ref b :: rest) (hn : As.length = n) (hcat : (rest.map fun v => v.category).sum ≤ 8) (hcs : cells ≤ R.cells ∧ slots ≤ R.slots) (hdg : decode cc pc = .ok (.invokevirtual index, 3)) (hp : pc + 3 = pc') (kk : ∀ (r : Int32) (u : τ), post r u → VV p l e R s m args below meth c cells slots Q w D A H0 nL u pc' lv (.int r :: rest)) : VV p l e R s m args below meth c cells slots Q w D A H0 nL σ pc lv st0 := by
  subst hst
  subst hp
  subst hq
  intro H locs ls hP hD hS h
  have hF := v9_F C hD hS
  refine va_calli (va_runV (As := As) (rest := rest) C.1 (hM H.size) (cwV n C.1.2.2.2.2 hG hw hrm.1 hrm.2 hd hR) ⟨v9_blind, va_recv K hP hc he, fun U hU hW => ⟨rfl, by rw [hU], by rw [hU]; exact hP, va_K.moved hW.alike K, hD.weaken (fun _ _ _ _ => trivial)⟩⟩ rfl hn h.1 rfl (lv_room hcat) hdg hcs) hS (fun q _ h => hF q h) hF (fun r u t H1 locs1 ht hvm hq2 hB hz hk hS1 => ?_)
  obtain ⟨hP1, hK1, hD1⟩ := hB
  rw [ht] at hP1
  exact kk r u hq2 H1 locs1 ls hP1 ⟨hD1.1, fun k q hk => hF q.1 (hD1.2 k q hk)⟩ hS1 h
theorem v_callSi (C : CX p m c cc nL s args Ts own A H0) (K : va_K D vwCl tys s) {y : MethodName} {ws ws' : List Cond} {rm : Room} {bytes : ByteArray} {maxL n index : Nat} {ret : Option FieldType} {As st0 : List Value} {post : Int32 → τ → Prop} (hM : CMi l w D tys y ws rm As σ post) (hG : GoodIn Ts (va_wsS own index y ws)) (hw : ws = Cond.code y bytes maxL ret :: ws') (hd : y.cls ≠ "java/lang/invoke/MethodHandle" ∧ y.cls ≠ "java/lang/invoke/VarHandle" ∧ (parseMethodDescriptor y.desc).map (fun d => d.parameters.length) = some n) (hrm : rm.cells = 0 ∧ rm.slots = 0) (hR : rm.frames + 1 ≤ R.frames ∧ 8 + (maxL + 11) + rm.locals ≤ R.locals) (hst : st0 = As.reverse ++ rest) (hn : As.length = n) (hcat : (rest.map fun v => v.category).sum ≤ 8) (hcs : cells ≤ R.cells ∧ slots ≤ R.slots) (hdg : decode cc pc = .ok (.invokestatic index, 3)) (hp : pc + 3 = pc') (kk : ∀ (r : Int32) (u : τ), post r u → VV p l e R s m args below meth c cells slots Q w D A H0 nL u pc' lv (.int r :: rest)) : VV p l e R s m args below meth c cells slots Q w D A H0 nL σ pc lv st0 := by
  subst hst
  subst hp
  intro H locs ls hP hD hS h
  have hF := v9_F C hD hS
  refine va_calli (va_runS (As := As) (rest := rest) C.1 (hM H.size) (va_cwS n C.1.2.2.2.2 hG hw hrm.1 hrm.2 hd hR) ⟨v9_blind, fun U hU hW => ⟨rfl, by rw [hU], by rw [hU]; exact hP, va_K.moved hW.alike K, hD.weaken (fun _ _ _ _ => trivial)⟩⟩ rfl hn h.1 rfl (lv_room hcat) hdg hcs) hS (fun q _ h => hF q h) hF (fun r u t H1 locs1 ht hvm hq2 hB hz hk hS1 => ?_)
  obtain ⟨hP1, hK1, hD1⟩ := hB
  rw [ht] at hP1
  exact kk r u hq2 H1 locs1 ls hP1 ⟨hD1.1, fun k q hk => hF q.1 (hD1.2 k q hk)⟩ hS1 h
theorem v_callVv (C : CX p m c cc nL s args Ts own A H0) (K : va_K D vwCl tys s) {y : MethodName} {ws ws' : List Cond} {rm : Room} {bytes : ByteArray} {maxL n index : Nat} {ret : Option FieldType} {As st0 : List Value} {C' : String} {b ci : Nat} {fs : List Value} {q : vw_C} {post : τ → Prop} (hM : CMv l w D tys y ws rm (.ref b :: As) σ post) (hG : GoodIn Ts (wsV own index C' y ws)) (hw : ws = Cond.code y bytes maxL ret :: ws') (hd : y.cls = C' ∧ y.cls ≠ "java/lang/invoke/MethodHandle" ∧ y.cls ≠ "java/lang/invoke/VarHandle" ∧ (parseMethodDescriptor y.desc).map (fun d => d.parameters.length) = some n) (hrm : rm.cells = 0 ∧ rm.slots = 0) (hR : rm.frames + 1 ≤ R.frames ∧ 8 + (maxL + 11) + rm.locals ≤ R.locals) (q0 : Nat) (he : (w σ)[q0]? = some (b, .inr (ci, fs))) (hc : vwCl[ci]? = some q) (hq : q.1 = C') (hst : st0 = As.reverse ++ .ref b :: rest) (hn : As.length = n) (hcat : (rest.map fun v => v.category).sum ≤ 8) (hcs : cells ≤ R.cells ∧ slots ≤ R.slots) (hdg : decode cc pc = .ok (.invokevirtual index, 3)) (hp : pc + 3 = pc') (kk : ∀ (u : τ), post u → VV p l e R s m args below meth c cells slots Q w D A H0 nL u pc' lv rest) : VV p l e R s m args below meth c cells slots Q w D A H0 nL σ pc lv st0 := by
  subst hst
  subst hp
  subst hq
  intro H locs ls hP hD hS h
  have hF := v9_F C hD hS
  refine va_callv (va_runV (As := As) (rest := rest) C.1 (hM H.size) (cwV n C.1.2.2.2.2 hG hw hrm.1 hrm.2 hd hR) ⟨v9_blind, va_recv K hP hc he, fun U hU hW => ⟨rfl, by rw [hU], by rw [hU]; exact hP, va_K.moved hW.alike K, hD.weaken (fun _ _ _ _ => trivial)⟩⟩ rfl hn h.1 rfl (lv_room hcat) hdg hcs) hS (fun q _ h => hF q h) hF (fun u t H1 locs1 ht hvm hq2 hB hz hk hS1 => ?_)
  obtain ⟨hP1, hK1, hD1⟩ := hB
  rw [ht] at hP1
  exact kk u hq2 H1 locs1 ls hP1 ⟨hD1.1, fun k q hk => hF q.1 (hD1.2 k q hk)⟩ hS1 h
theorem v_callSv (C : CX p m c cc nL s args Ts own A H0) (K : va_K D vwCl tys s) {y : MethodName} {ws ws' : List Cond} {rm : Room} {bytes : ByteArray} {maxL n index : Nat} {ret : Option FieldType} {As st0 : List Value} {post : τ → Prop} (hM : CMv l w D tys y ws rm As σ post) (hG : GoodIn Ts (va_wsS own index y ws)) (hw : ws = Cond.code y bytes maxL ret :: ws') (hd : y.cls ≠ "java/lang/invoke/MethodHandle" ∧ y.cls ≠ "java/lang/invoke/VarHandle" ∧ (parseMethodDescriptor y.desc).map (fun d => d.parameters.length) = some n) (hrm : rm.cells = 0 ∧ rm.slots = 0) (hR : rm.frames + 1 ≤ R.frames ∧ 8 + (maxL + 11) + rm.locals ≤ R.locals) (hst : st0 = As.reverse ++ rest) (hn : As.length = n) (hcat : (rest.map fun v => v.category).sum ≤ 8) (hcs : cells ≤ R.cells ∧ slots ≤ R.slots) (hdg : decode cc pc = .ok (.invokestatic index, 3)) (hp : pc + 3 = pc') (kk : ∀ (u : τ), post u → VV p l e R s m args below meth c cells slots Q w D A H0 nL u pc' lv rest) : VV p l e R s m args below meth c cells slots Q w D A H0 nL σ pc lv st0 := by
  subst hst
  subst hp
  intro H locs ls hP hD hS h
  have hF := v9_F C hD hS
  refine va_callv (va_runS (As := As) (rest := rest) C.1 (hM H.size) (va_cwS n C.1.2.2.2.2 hG hw hrm.1 hrm.2 hd hR) ⟨v9_blind, fun U hU hW => ⟨rfl, by rw [hU], by rw [hU]; exact hP, va_K.moved hW.alike K, hD.weaken (fun _ _ _ _ => trivial)⟩⟩ rfl hn h.1 rfl (lv_room hcat) hdg hcs) hS (fun q _ h => hF q h) hF (fun u t H1 locs1 ht hvm hq2 hB hz hk hS1 => ?_)
  obtain ⟨hP1, hK1, hD1⟩ := hB
  rw [ht] at hP1
  exact kk u hq2 H1 locs1 ls hP1 ⟨hD1.1, fun k q hk => hF q.1 (hD1.2 k q hk)⟩ hS1 h
theorem v_callSp (C : CX p m c cc nL s args Ts own A H0) {y : MethodName} {ws ws' : List Cond} {rm : Room} {bytes : ByteArray} {maxL n index : Nat} {ret : Option FieldType} {As st0 : List Value} {post : Int32 → Prop} (hM : CPi l y ws rm As post) (hG : GoodIn Ts (va_wsS own index y ws)) (hw : ws = Cond.code y bytes maxL ret :: ws') (hd : y.cls ≠ "java/lang/invoke/MethodHandle" ∧ y.cls ≠ "java/lang/invoke/VarHandle" ∧ (parseMethodDescriptor y.desc).map (fun d => d.parameters.length) = some n) (hrm : rm.cells = 0 ∧ rm.slots = 0) (hR : rm.frames + 1 ≤ R.frames ∧ 8 + (maxL + 11) + rm.locals ≤ R.locals) (hst : st0 = As.reverse ++ rest) (hn : As.length = n) (hcat : (rest.map fun v => v.category).sum ≤ 8) (hcs : cells ≤ R.cells ∧ slots ≤ R.slots) (hdg : decode cc pc = .ok (.invokestatic index, 3)) (hp : pc + 3 = pc') (kk : ∀ (r : Int32), post r → VV p l e R s m args below meth c cells slots Q w D A H0 nL σ pc' lv (.int r :: rest)) : VV p l e R s m args below meth c cells slots Q w D A H0 nL σ pc lv st0 := by
  subst hst
  subst hp
  intro H locs ls hP hD hS h
  have hF : ∀ q, va_A [] H.size q → A q := by
    intro q hq
    rcases hq with ⟨k, e, hk⟩ | hle
    · cases hk
    · exact C.2 q (Nat.le_trans hS.1 hle)
  refine va_calli (va_runS (As := As) (rest := rest) C.1 (hM H.size) (va_cwS n C.1.2.2.2.2 hG hw hrm.1 hrm.2 hd hR) ⟨v9_blindP, fun U hU hW => ⟨rfl, by show U.heap.size = H.size; rw [hU]⟩⟩ rfl hn h.1 rfl (lv_room hcat) hdg hcs) hS (fun q _ h => hF q h) hF (fun r u t H1 locs1 ht hvm hq2 hB hz hk hS1 => ?_)
  refine kk r hq2 H1 locs1 ls (hP.kept (fun k q hq => hk q.1 ((hP k q hq).lt) ?_)) hD hS1 h
  rintro (⟨k2, e, h2⟩ | hle)
  · cases h2
  · have := (hP k q hq).lt
    omega
theorem v_callVid (C : CX p m c cc nL s args Ts own A H0) (K : va_K D vwCl tys s) {y : MethodName} {ws ws' : List Cond} {rm : Room} {bytes : ByteArray} {maxL n index : Nat} {ret : Option FieldType} {As st0 : List Value} {C' : String} {b ci : Nat} {fs : List Value} {q : vw_C} {r2 : Int32} {σ2 : τ} (hM : CMi l w D tys y ws rm (.ref b :: As) σ (fun (r : Int32) (u : τ) => r = r2 ∧ u = σ2)) (hG : GoodIn Ts (wsV own index C' y ws)) (hw : ws = Cond.code y bytes maxL ret :: ws') (hd : y.cls = C' ∧ y.cls ≠ "java/lang/invoke/MethodHandle" ∧ y.cls ≠ "java/lang/invoke/VarHandle" ∧ (parseMethodDescriptor y.desc).map (fun d => d.parameters.length) = some n) (hrm : rm.cells = 0 ∧ rm.slots = 0) (hR : rm.frames + 1 ≤ R.frames ∧ 8 + (maxL + 11) + rm.locals ≤ R.locals) (q0 : Nat) (he : (w σ)[q0]? = some (b, .inr (ci, fs))) (hc : vwCl[ci]? = some q) (hq : q.1 = C') (hst : st0 = As.reverse ++ .ref b :: rest) (hn : As.length = n) (hcat : (rest.map fun v => v.category).sum ≤ 8) (hcs : cells ≤ R.cells ∧ slots ≤ R.slots) (hdg : decode cc pc = .ok (.invokevirtual index, 3)) (hp : pc + 3 = pc') (kk : VV p l e R s m args below meth c cells slots Q w D A H0 nL σ2 pc' lv (.int r2 :: rest)) : VV p l e R s m args below meth c cells slots Q w D A H0 nL σ pc lv st0 :=
  v_callVi C K hM hG hw hd hrm hR q0 he hc hq hst hn hcat hcs hdg hp (fun r u hu => by rw [hu.1, hu.2]; exact kk)
theorem v_callSid (C : CX p m c cc nL s args Ts own A H0) (K : va_K D vwCl tys s) {y : MethodName} {ws ws' : List Cond} {rm : Room} {bytes : ByteArray} {maxL n index : Nat} {ret : Option FieldType} {As st0 : List Value} {r2 : Int32} {σ2 : τ} (hM : CMi l w D tys y ws rm As σ (fun (r : Int32) (u : τ) => r = r2 ∧ u = σ2)) (hG : GoodIn Ts (va_wsS own index y ws)) (hw : ws = Cond.code y bytes maxL ret :: ws') (hd : y.cls ≠ "java/lang/invoke/MethodHandle" ∧ y.cls ≠ "java/lang/invoke/VarHandle" ∧ (parseMethodDescriptor y.desc).map (fun d => d.parameters.length) = some n) (hrm : rm.cells = 0 ∧ rm.slots = 0) (hR : rm.frames + 1 ≤ R.frames ∧ 8 + (maxL + 11) + rm.locals ≤ R.locals) (hst : st0 = As.reverse ++ rest) (hn : As.length = n) (hcat : (rest.map fun v => v.category).sum ≤ 8) (hcs : cells ≤ R.cells ∧ slots ≤ R.slots) (hdg : decode cc pc = .ok (.invokestatic index, 3)) (hp : pc + 3 = pc') (kk : VV p l e R s m args below meth c cells slots Q w D A H0 nL σ2 pc' lv (.int r2 :: rest)) : VV p l e R s m args below meth c cells slots Q w D A H0 nL σ pc lv st0 :=
  v_callSi C K hM hG hw hd hrm hR hst hn hcat hcs hdg hp (fun r u hu => by rw [hu.1, hu.2]; exact kk)
theorem v_callVvd (C : CX p m c cc nL s args Ts own A H0) (K : va_K D vwCl tys s) {y : MethodName} {ws ws' : List Cond} {rm : Room} {bytes : ByteArray} {maxL n index : Nat} {ret : Option FieldType} {As st0 : List Value} {C' : String} {b ci : Nat} {fs : List Value} {q : vw_C} {σ2 : τ} (hM : CMv l w D tys y ws rm (.ref b :: As) σ (fun (u : τ) => u = σ2)) (hG : GoodIn Ts (wsV own index C' y ws)) (hw : ws = Cond.code y bytes maxL ret :: ws') (hd : y.cls = C' ∧ y.cls ≠ "java/lang/invoke/MethodHandle" ∧ y.cls ≠ "java/lang/invoke/VarHandle" ∧ (parseMethodDescriptor y.desc).map (fun d => d.parameters.length) = some n) (hrm : rm.cells = 0 ∧ rm.slots = 0) (hR : rm.frames + 1 ≤ R.frames ∧ 8 + (maxL + 11) + rm.locals ≤ R.locals) (q0 : Nat) (he : (w σ)[q0]? = some (b, .inr (ci, fs))) (hc : vwCl[ci]? = some q) (hq : q.1 = C') (hst : st0 = As.reverse ++ .ref b :: rest) (hn : As.length = n) (hcat : (rest.map fun v => v.category).sum ≤ 8) (hcs : cells ≤ R.cells ∧ slots ≤ R.slots) (hdg : decode cc pc = .ok (.invokevirtual index, 3)) (hp : pc + 3 = pc') (kk : VV p l e R s m args below meth c cells slots Q w D A H0 nL σ2 pc' lv rest) : VV p l e R s m args below meth c cells slots Q w D A H0 nL σ pc lv st0 :=
  v_callVv C K hM hG hw hd hrm hR q0 he hc hq hst hn hcat hcs hdg hp (fun u hu => by rw [hu]; exact kk)
theorem v_callSvd (C : CX p m c cc nL s args Ts own A H0) (K : va_K D vwCl tys s) {y : MethodName} {ws ws' : List Cond} {rm : Room} {bytes : ByteArray} {maxL n index : Nat} {ret : Option FieldType} {As st0 : List Value} {σ2 : τ} (hM : CMv l w D tys y ws rm As σ (fun (u : τ) => u = σ2)) (hG : GoodIn Ts (va_wsS own index y ws)) (hw : ws = Cond.code y bytes maxL ret :: ws') (hd : y.cls ≠ "java/lang/invoke/MethodHandle" ∧ y.cls ≠ "java/lang/invoke/VarHandle" ∧ (parseMethodDescriptor y.desc).map (fun d => d.parameters.length) = some n) (hrm : rm.cells = 0 ∧ rm.slots = 0) (hR : rm.frames + 1 ≤ R.frames ∧ 8 + (maxL + 11) + rm.locals ≤ R.locals) (hst : st0 = As.reverse ++ rest) (hn : As.length = n) (hcat : (rest.map fun v => v.category).sum ≤ 8) (hcs : cells ≤ R.cells ∧ slots ≤ R.slots) (hdg : decode cc pc = .ok (.invokestatic index, 3)) (hp : pc + 3 = pc') (kk : VV p l e R s m args below meth c cells slots Q w D A H0 nL σ2 pc' lv rest) : VV p l e R s m args below meth c cells slots Q w D A H0 nL σ pc lv st0 :=
  v_callSv C K hM hG hw hd hrm hR hst hn hcat hcs hdg hp (fun u hu => by rw [hu]; exact kk)
theorem v_callSpd (C : CX p m c cc nL s args Ts own A H0) {y : MethodName} {ws ws' : List Cond} {rm : Room} {bytes : ByteArray} {maxL n index : Nat} {ret : Option FieldType} {As st0 : List Value} {r2 : Int32} (hM : CPi l y ws rm As (fun (r : Int32) => r = r2)) (hG : GoodIn Ts (va_wsS own index y ws)) (hw : ws = Cond.code y bytes maxL ret :: ws') (hd : y.cls ≠ "java/lang/invoke/MethodHandle" ∧ y.cls ≠ "java/lang/invoke/VarHandle" ∧ (parseMethodDescriptor y.desc).map (fun d => d.parameters.length) = some n) (hrm : rm.cells = 0 ∧ rm.slots = 0) (hR : rm.frames + 1 ≤ R.frames ∧ 8 + (maxL + 11) + rm.locals ≤ R.locals) (hst : st0 = As.reverse ++ rest) (hn : As.length = n) (hcat : (rest.map fun v => v.category).sum ≤ 8) (hcs : cells ≤ R.cells ∧ slots ≤ R.slots) (hdg : decode cc pc = .ok (.invokestatic index, 3)) (hp : pc + 3 = pc') (kk : VV p l e R s m args below meth c cells slots Q w D A H0 nL σ pc' lv (.int r2 :: rest)) : VV p l e R s m args below meth c cells slots Q w D A H0 nL σ pc lv st0 :=
  v_callSp C hM hG hw hd hrm hR hst hn hcat hcs hdg hp (fun r hu => by rw [hu]; exact kk)
theorem v_iret (C : CX p m c cc nL s args Ts own A H0) (K : va_K D vwCl tys s) {post : Int32 → τ → Prop} {ty : FieldType} {r : Int32} (hr : meth.sig.returnType = some ty) (hlocks : meth.locks = false) (hn : narrow ty (.int r) = .int r) (hpost : post r σ) (hdg : decode cc pc = .ok (.ireturn, 1)) : VV p l e R s m args below meth c 0 0 (MQ below (va_Qi post (v9_world D w tys A) A) args s 0 0 A) w D A s.heap nL σ pc lv [.int r] :=
  fun H locs ls hP hD hS h => W.zret C.1.1 C.1.2.1 hr hn (fun t ht hW => ⟨⟨r, σ, rfl, hpost, by rw [ht]; exact hP, va_K.moved hW.alike K, hD⟩, hS.F ht⟩) hS.2.2 hdg
theorem v_vret (C : CX p m c cc nL s args Ts own A H0) (K : va_K D vwCl tys s) {post : τ → Prop} (hr : meth.sig.returnType = none) (hlocks : meth.locks = false) (hpost : post σ) (hdg : decode cc pc = .ok (.return_, 1)) : VV p l e R s m args below meth c 0 0 (MQ below (va_Qv post (v9_world D w tys A) A) args s 0 0 A) w D A s.heap nL σ pc lv [] :=
  fun H locs ls hP hD hS h => W.vret C.1.1 C.1.2.1 hr (fun t ht hW => ⟨⟨σ, rfl, hpost, by rw [ht]; exact hP, va_K.moved hW.alike K, hD⟩, hS.F ht⟩) hS.2.2 hdg
theorem v_pret (C : CX p m c cc nL s args Ts own A H0) {post : Int32 → Prop} {ty : FieldType} {r : Int32} (hr : meth.sig.returnType = some ty) (hlocks : meth.locks = false) (hn : narrow ty (.int r) = .int r) (hpost : post r) (hdg : decode cc pc = .ok (.ireturn, 1)) : VV p l e R s m args below meth c 0 0 (MQ below (va_Qi (fun r (_ : Unit) => post r) (fun _ _ => True) A) args s 0 0 A) w D A s.heap nL σ pc lv [.int r] :=
  fun H locs ls hP hD hS h => W.zret C.1.1 C.1.2.1 hr hn (fun t ht hW => ⟨⟨r, (), rfl, hpost, trivial⟩, hS.F ht⟩) hS.2.2 hdg
theorem v_starti {y : MethodName} {ws ws' : List Cond} {rm : Room} {ty : FieldType} {As : List Value} {post : Int32 → τ → Prop} (ho : y.cls = own) (hy : plainName y.cls = true) (hw : ws = Cond.code y cc nL (some ty) :: ws') (hlg : (lg_sl As).length ≤ nL)
    (body : ∀ (p : Program) (e : Env) (s : State) (m : MethodId) (args : Array Value) (below : List Frame) (meth : Method) (c : Code) (A : Nat → Prop) (Q : State → Prop), CX p m c cc nL s args ws own A s.heap → va_K D vwCl tys s → (∀ {σ1 : τ} {pc1 : Nat} {lv1 : List (Nat × Value)} {r : Int32}, post r σ1 → narrow ty (.int r) = .int r → decode cc pc1 = .ok (.ireturn, 1) → VV p l e rm s m args below meth c 0 0 Q w D A s.heap nL σ1 pc1 lv1 [.int r]) → VV p l e rm s m args below meth c 0 0 Q w D A s.heap nL σ 0 (lv_args 0 As) []) : CMi l w D tys y ws rm As σ post := by
  subst ho
  intro sz
  refine Met.ofW (cc := cc) (maxL := nL) (ret := some ty) hy hw ?_
  intro p e s m args below meth c s₁ B hml hv
  obtain ⟨rfl, hsz, hP, K, hD0⟩ := hv
  subst hsz
  have hl := lv_entry As (n := nL) hlg
  rw [lg_entry_eq]
  have C : CX p m c cc nL s As.toArray ws y.cls (va_A (w σ) s.heap.size) s.heap := ⟨⟨B.exec, B.bytes, hml, findClass_of_methodNamed B.named, atoms_spec (ws := ws) B.pre⟩, fun q h => Or.inr h⟩
  exact body p e s m As.toArray below meth c (va_A (w σ) s.heap.size) _ C K (fun h1 h2 h3 => v_iret C K B.returns B.notSynchronized h2 h1 h3) s.heap [] _ hP hD0.self va_S.rf hl
theorem v_startv {y : MethodName} {ws ws' : List Cond} {rm : Room} {As : List Value} {post : τ → Prop} (ho : y.cls = own) (hy : plainName y.cls = true) (hw : ws = Cond.code y cc nL (none) :: ws') (hlg : (lg_sl As).length ≤ nL)
    (body : ∀ (p : Program) (e : Env) (s : State) (m : MethodId) (args : Array Value) (below : List Frame) (meth : Method) (c : Code) (A : Nat → Prop) (Q : State → Prop), CX p m c cc nL s args ws own A s.heap → va_K D vwCl tys s → (∀ {σ1 : τ} {pc1 : Nat} {lv1 : List (Nat × Value)}, post σ1 → decode cc pc1 = .ok (.return_, 1) → VV p l e rm s m args below meth c 0 0 Q w D A s.heap nL σ1 pc1 lv1 []) → VV p l e rm s m args below meth c 0 0 Q w D A s.heap nL σ 0 (lv_args 0 As) []) : CMv l w D tys y ws rm As σ post := by
  subst ho
  intro sz
  refine Met.ofW (cc := cc) (maxL := nL) (ret := none) hy hw ?_
  intro p e s m args below meth c s₁ B hml hv
  obtain ⟨rfl, hsz, hP, K, hD0⟩ := hv
  subst hsz
  have hl := lv_entry As (n := nL) hlg
  rw [lg_entry_eq]
  have C : CX p m c cc nL s As.toArray ws y.cls (va_A (w σ) s.heap.size) s.heap := ⟨⟨B.exec, B.bytes, hml, findClass_of_methodNamed B.named, atoms_spec (ws := ws) B.pre⟩, fun q h => Or.inr h⟩
  exact body p e s m As.toArray below meth c (va_A (w σ) s.heap.size) _ C K (fun h1 h3 => v_vret C K B.returns B.notSynchronized h1 h3) s.heap [] _ hP hD0.self va_S.rf hl
theorem v_startP {y : MethodName} {ws ws' : List Cond} {rm : Room} {ty : FieldType} {As : List Value} {post : Int32 → Prop} (D : va_G) (ho : y.cls = own) (hy : plainName y.cls = true) (hw : ws = Cond.code y cc nL (some ty) :: ws') (hlg : (lg_sl As).length ≤ nL)
    (body : ∀ (p : Program) (e : Env) (s : State) (m : MethodId) (args : Array Value) (below : List Frame) (meth : Method) (c : Code) (A : Nat → Prop) (Q : State → Prop), CX p m c cc nL s args ws own A s.heap → (∀ {pc1 : Nat} {lv1 : List (Nat × Value)} {r : Int32}, post r → narrow ty (.int r) = .int r → decode cc pc1 = .ok (.ireturn, 1) → VV p l e rm s m args below meth c 0 0 Q (fun _ : Unit => []) D A s.heap nL () pc1 lv1 [.int r]) → VV p l e rm s m args below meth c 0 0 Q (fun _ : Unit => []) D A s.heap nL () 0 (lv_args 0 As) []) : CPi l y ws rm As post := by
  subst ho
  intro sz
  refine Met.ofW (cc := cc) (maxL := nL) (ret := some ty) hy hw ?_
  intro p e s m args below meth c s₁ B hml hv
  obtain ⟨rfl, hsz⟩ := hv
  subst hsz
  have hl := lv_entry As (n := nL) hlg
  rw [lg_entry_eq]
  have C : CX p m c cc nL s As.toArray ws y.cls (va_A [] s.heap.size) s.heap := ⟨⟨B.exec, B.bytes, hml, findClass_of_methodNamed B.named, atoms_spec (ws := ws) B.pre⟩, fun q h => Or.inr h⟩
  exact body p e s m As.toArray below meth c (va_A [] s.heap.size) _ C (fun h1 h2 h3 => v_pret (w := fun _ : Unit => []) C B.returns B.notSynchronized h2 h1 h3) s.heap [] _ (fun k q h => by simp at h) ⟨(fun i j p q h => by simp at h), (fun k q h => by simp at h)⟩ va_S.rf hl
theorem v9cast {σ1 : τ} {lv1 : List (Nat × Value)} {st1 : List Value} (kk : VV p l e R s m args below meth c cells slots Q w D A H0 nL σ1 pc lv1 st1) (h1 : σ = σ1) (h2 : lv = lv1) (h3 : st = st1) : VV p l e R s m args below meth c cells slots Q w D A H0 nL σ pc lv st := by
  subst h1
  subst h2
  subst h3
  exact kk
end V9
/-- a loop of counted turns, backward: what holds behind the last turn, and each turn -/
theorem lpB9 (V : Nat → Prop) (N : Nat) (hs : ∀ d, d < N → V (d + 1) → V d) (hN : V N) : ∀ d, d ≤ N → V d := by
  intro d hd
  have h : ∀ n d, d + n = N → V d := by
    intro n
    induction n with
    | zero => intro d h; rw [show d = N by omega]; exact hN
    | succ n ih => intro d h; exact hs d (by omega) (ih (d + 1) (by omega))
  exact h (N - d) d (by omega)

/-! ===== the law: its loop, its beginning, the claim ===== -/
set_option maxHeartbeats 4000000 in
set_option maxRecDepth 100000 in
theorem law_loop {p : Program} {l : Launch} {e : Env} {s : State} {m : MethodId} {below : List Frame} {meth : Method} {c : Code} {Q : State → Prop} {D : va_G} {cI cC cZ cQ : ClassId} {ad la : Nat → Nat} {b : Nat} (C : CX p m c cL_law 19 s #[Value.ref b] wsL_law RL (fun q => s.heap.size ≤ q) s.heap) (K : va_K D vwCl (cTy cI cC cZ cQ) s) {tl tm tf : Nat} (hE : zS tl tm tf (fun q => s.heap.size ≤ q) s s.heap) {L : Nat} {xs : Nat → Int32} (hX : va_X b L xs s s.heap) (hbl : b < s.heap.size) (hL : L ≤ 260) (hend : ∀ (T : Nat) (u t : S9), VV p l e room_1 s m #[Value.ref b] below meth c 600000 7302250 Q (PW ad la cI cC cZ cQ) D (fun q => s.heap.size ≤ q) s.heap 19 (u, t) 1100 [(0, .ref b), (1, .ref (ad 0)), (2, .ref (la 0)), (3, .ref (la 1)), (4, .ref (la 2)), (5, .ref (la 3)), (6, .ref (la 4)), (7, .int (nI T))] []) : ∀ (N T : Nat) (g : Nat → Int32) (n : Nat) (u t : S9), 16 ≤ T + N → T ≤ 16 → IC g n u → LR g n t → (3 ≤ n ∨ n = T) → n ≤ T → VV p l e room_1 s m #[Value.ref b] below meth c 600000 7302250 Q (PW ad la cI cC cZ cQ) D (fun q => s.heap.size ≤ q) s.heap 19 (u, t) 64 [(0, .ref b), (1, .ref (ad 0)), (2, .ref (la 0)), (3, .ref (la 1)), (4, .ref (la 2)), (5, .ref (la 3)), (6, .ref (la 4)), (7, .int (nI T))] [] := by
  intro N
  induction N with
  | zero =>
    intro T g n u t hN hT hI hR hn hnT
    refine v_iload C dL_law_64 rfl 7 rfl ?_
    refine v_bipush (v := 16) C dL_law_66 rfl bp_16 ?_
    refine v_icmp_ge C 1100 dL_law_68 (by decide) rfl (fun _ => hend T u t) (fun h9 => ?_)
    have hT2 : T < 16 := by
      rcases Nat.lt_or_ge T 16 with z | z
      · exact z
      · exact absurd (nI_le z (by omega)) h9
    exact absurd hT2 (by omega)
  | succ N ih =>
    intro T g n u t hN hT hI hR hn hnT
    refine v_iload C dL_law_64 rfl 7 rfl ?_
    refine v_bipush (v := 16) C dL_law_66 rfl bp_16 ?_
    refine v_icmp_ge C 1100 dL_law_68 (by decide) rfl (fun _ => hend T u t) (fun h9 => ?_)
    have hT2 : T < 16 := by
      rcases Nat.lt_or_ge T 16 with z | z
      · exact z
      · exact absurd (nI_le z (by omega)) h9
    exact lc_head C K hE hX hbl hL hI hR hT2 hn hnT (fun x g2 u2 t2 hI2 hR2 => lc_same C K hI2 hR2 (fun u3 hI3 => ih (T + 1) g2 (n + 1) u3 t2 (by omega) (by omega) hI3 hR2 (by omega) (by omega))) (fun x h3 g2 u2 t2 hI2 hR2 => lc_same C K hI2 hR2 (fun u3 hI3 => ih (T + 1) g2 n u3 t2 (by omega) (by omega) hI3 hR2 (by omega) (by omega)))
theorem cmL_law_0 : Cond.classLink RL 41 RX4 ∈ wsL_law := List.mem_of_getElem? (i := 0) (by decide +kernel)
theorem cmL_law_1 : Cond.instantiable RX4 6 ∈ wsL_law := List.mem_of_getElem? (i := 1) (by decide +kernel)
theorem cmL_law_2 : Cond.initialized RX4 ∈ wsL_law := List.mem_of_getElem? (i := 2) (by decide +kernel)
theorem cmL_law_3 : Cond.arrayClass .int ∈ wsL_law := List.mem_of_getElem? (i := 3) (by decide +kernel)
theorem cmL_law_5 : Cond.methodLink RL 71 yX4_init ∈ wsL_law := List.mem_of_getElem? (i := 5) (by decide +kernel)
theorem cmL_law_6 : Cond.instanceMethod yX4_init ∈ wsL_law := List.mem_of_getElem? (i := 6) (by decide +kernel)
theorem PW_0 (W : va_W) (cI : ClassId) (a b c d e : Nat) : W ++ [(a, .inl (cI, (6, .inl (fun _ => 0))))] ++ [(b, .inl (cI, (40, .inl (fun _ => 0))))] ++ [(c, .inl (cI, (35, .inl (fun _ => 0))))] ++ [(d, .inl (cI, (35, .inl (fun _ => 0))))] ++ [(e, .inl (cI, (35, .inl (fun _ => 0))))] = W ++ lW (fun i => [a, b, c, d, e].getD i 0) cI t00 := by
  rw [List.append_assoc, List.append_assoc, List.append_assoc, List.append_assoc]
  rfl
theorem vv_PW {p : Program} {l : Launch} {e : Env} {s : State} {m : MethodId} {args : Array Value} {below : List Frame} {meth : Method} {c : Code} {Q : State → Prop} {R : Room} {cells slots nL : Nat} {A : Nat → Prop} {H0 : Heap} {D : va_G} {ad la : Nat → Nat} {cI cC cZ cQ : ClassId} {u t : S9} {pc : Nat} {lv : List (Nat × Value)} {st : List Value} (kk : VV p l e R s m args below meth c cells slots Q (PW ad la cI cC cZ cQ) D A H0 nL (u, t) pc lv st) : VV p l e R s m args below meth c cells slots Q (fun u : va_W => u) D A H0 nL (cW ad cI cC cZ cQ u ++ lW la cI t) pc lv st := fun H locs ls hP hD hS h => kk H locs ls hP hD hS h
/-! THE CLAIM OUT OF ONE WALK OF THE LAW'S BODY. Your part is whole_start (and what it stands on); all else here is the same for every law, but numbers. -/
def R_law : String := "VillageCinemaLaw"
def lw_P (b : Addr) (xs : List Int32) (args : Array Value) (s : State) : Prop := args = #[.ref b] ∧ s.IntsAt b xs ∧ xs.length ≤ 260 ∧ (Jvm.Cond.and given_1 narrow_1).before args s = true
def lw_Q (_ : Array Value) (s : State) (o : Outcome) (t : State) : Prop := o = .returned (some (.int 1)) ∧ Framed s o t [] 600000 7302250
def lw_Z (below : List Frame) (a : Array Value) (s : State) : State → Prop := fun t => ∃ o, t.status = .running ∧ Ended t below o ∧ lw_Q a s o t
/-- the law's own end, with 1 on the stack, nothing written that was there before, its room as the claim has it -/
theorem lw_ret {p : Program} {l : Launch} {e : Env} {s : State} {m : MethodId} {below : List Frame} {meth : Method} {c : Code} {b : Nat} (hx : p.tables.exec = Jvm.exec) (hb : c.code = code) (hr : meth.sig.returnType = ret) (hlocks : meth.locks = false) {pc : Nat} {H : Heap} {ls : Array Slot} (hdg : decode code pc = .ok (.ireturn, 1)) : W p l e room_1 s m #[Value.ref b] below meth c H [] 600000 7302250 (lw_Z below #[Value.ref b] s) (F0 m pc ls [.int 1]) := by
  intro T hT X
  obtain ⟨fs, hret, hrun, hended, hW, hframe⟩ := X.leave (v := some (.int 1)) (hlocks := hlocks) (fun h => by rw [hr] at h; cases h)
  have hmeth' : T.vm.method? m = some meth := X.method'
  refine ⟨T.setFrames fs, ?_, .returned (some (.int 1)), hrun, hended, rfl, ⟨_, rfl⟩, hW, hframe⟩
  jvm_step X.here [X.here.top, hx, hb, hdg, hmeth', hr, ret, narrow_b1]
  (try refine ⟨rfl, ?_⟩); (try refine ⟨rfl, ?_⟩)
  first | (intro acts; rw [hret _ acts rfl rfl rfl]) | rw [hret _ _ rfl rfl rfl]
  exact Steps.refl _
/-- what holds at the law's entry: the machine, the code, the tables' words (any of lw_tbl by 'hts w (by decide +kernel)'), the script of L ints xs at the cell b, what the Statement gives of the start (any of its parts by flat_of_before) -/
def lw_At (p : Program) (s : State) (m : MethodId) (meth : Method) (c : Code) (b L : Nat) (xs : Nat → Int32) : Prop :=
  p.tables.exec = Jvm.exec ∧ c.code = code ∧ meth.sig.returnType = ret ∧ c.maxLocals = 19 ∧ s.vm.findClass R_law = some m.cls ∧ (∀ w ∈ lw_tbl, w.before #[Value.ref b] s = true) ∧ va_X b L xs s s.heap ∧ b < s.heap.size ∧ meth.locks = false ∧ (Jvm.Cond.and given_1 narrow_1).before #[Value.ref b] s = true
-- ===== the walk =====
set_option maxHeartbeats 4000000 in
set_option maxRecDepth 100000 in
theorem whole_start {p : Program} {e : Env} {s : State} {m : MethodId} {below : List Frame} {meth : Method} {c : Code} (l : Launch) (hflags : l.flags = flags0) {b L : Nat} {xs : Nat → Int32} (hL : L ≤ 260) (C0 : lw_At p s m meth c b L xs) : W p l e room_1 s m #[Value.ref b] below meth c s.heap [] 0 0 (lw_Z below #[Value.ref b] s) (entryFrame m ([Value.ref b] : List Value).toArray 19) := by
  obtain ⟨hx, hb, hr, hml, hown, hts, hX, hbl, hlocks, hgv⟩ := id C0
  obtain ⟨D, cI, cC, cZ, cQ, K⟩ := law_K hts
  obtain ⟨tl, tm, tf, hz⟩ := law_z hts hgv (A := fun q => s.heap.size ≤ q) (fun a h => Nat.not_le.mpr h)
  have hE9 := law_iE hts hz
  have C : CX p m c cL_law 19 s #[Value.ref b] wsL_law RL (fun q => s.heap.size ≤ q) s.heap := ⟨⟨hx, hb, hml, hown, fun w h => hts w (wsL_law_in w h)⟩, fun q h => h⟩
  have hP0 : va_P D vwCl [] s.heap := fun k q h => by simp at h
  have hD0 : va_D (fun q : Nat => s.heap.size ≤ q) [] := ⟨fun i j p q h => by simp at h, fun k q h => by simp at h⟩
  have hl := lv_entry ([.ref b]) (n := 19) (Nat.le_of_ble_eq_true rfl)
  rw [lg_entry_eq]
  suffices V : VV p l e room_1 s m #[Value.ref b] below meth c 0 0 (lw_Z below #[Value.ref b] s) (fun u : va_W => u) D (fun q => s.heap.size ≤ q) s.heap 19 [] 0 (lv_args 0 [.ref b]) [] from V s.heap [] _ hP0 hD0 va_S.rf hl
  refine v_lv (lv' := [(0, .ref b)]) [0] rfl ?_
  refine v_newo C K (N := 6) (ci := 4) inlX4 tyX4 tyX4_ok cmL_law_0 cmL_law_1 cmL_law_2 rfl (fs := [.null, .null, .null, .null, .null, .null]) (fun j hj => by rcases (show j = 0 ∨ j = 1 ∨ j = 2 ∨ j = 3 ∨ j = 4 ∨ j = 5 by omega) with rfl | rfl | rfl | rfl | rfl | rfl <;> rfl) (Nat.le_of_ble_eq_true rfl) (Nat.le_of_ble_eq_true rfl) dL_law_0 rfl (fun q0 => ?_)
  refine v_st [(q0, .inr (4, [.null, .null, .null, .null, .null, .null]))] rfl ?_
  refine v_dup C dL_law_3 rfl rfl ?_
  refine v_initcall C K hE9 (c_X4_init l D cI cC cZ cQ tl tm tf q0) ggL_law_X4_init rfl cmL_law_2 cmL_law_5 cmL_law_6 rfl hd_X4_init.2 ⟨rfl, rfl⟩ ⟨(Nat.le_of_ble_eq_true rfl), (Nat.le_of_ble_eq_true rfl)⟩ [0] [] (σr := []) rfl rfl (by decide) rfl (by decide) (by decide) (Nat.le_of_ble_eq_true rfl) ⟨(Nat.le_of_ble_eq_true rfl), (Nat.le_of_ble_eq_true rfl)⟩ dL_law_4 rfl (fun u4 hu4 => ?_)
  obtain ⟨ad, rfl, rfl⟩ := hu4
  refine v_st (cW ad cI cC cZ cQ iC0) rfl ?_
  refine v_astore_n (lv' := [(1, _), (0, _)]) C dL_law_7 rfl 1 rfl (by decide) rfl ?_
  refine v_bipush (v := 6) C dL_law_8 rfl bp_6 ?_
  refine v_newa (atype := .int) (ty := .int) C K (ra_int s) rfl cmL_law_3 0 rfl (N' := 6) (a0 := (6, .inl (fun _ => 0))) (fun _ => rfl) rfl (by decide) (Nat.le_of_ble_eq_true rfl) (Nat.le_of_ble_eq_true rfl) (Nat.le_of_ble_eq_true rfl) dL_law_10 rfl (fun q10 => ?_)
  refine v_astore_n (lv' := [(2, _), (1, _), (0, _)]) C dL_law_12 rfl 2 rfl (by decide) rfl ?_
  refine v_bipush (v := 40) C dL_law_13 rfl bp_40 ?_
  refine v_newa (atype := .int) (ty := .int) C K (ra_int s) rfl cmL_law_3 0 rfl (N' := 40) (a0 := (40, .inl (fun _ => 0))) (fun _ => rfl) rfl (by decide) (Nat.le_of_ble_eq_true rfl) (Nat.le_of_ble_eq_true rfl) (Nat.le_of_ble_eq_true rfl) dL_law_15 rfl (fun q15 => ?_)
  refine v_astore_n (lv' := [(3, _), (2, _), (1, _), (0, _)]) C dL_law_17 rfl 3 rfl (by decide) rfl ?_
  refine v_bipush (v := 35) C dL_law_18 rfl bp_35 ?_
  refine v_newa (atype := .int) (ty := .int) C K (ra_int s) rfl cmL_law_3 0 rfl (N' := 35) (a0 := (35, .inl (fun _ => 0))) (fun _ => rfl) rfl (by decide) (Nat.le_of_ble_eq_true rfl) (Nat.le_of_ble_eq_true rfl) (Nat.le_of_ble_eq_true rfl) dL_law_20 rfl (fun q20 => ?_)
  refine v_astore (lv' := [(4, _), (3, _), (2, _), (1, _), (0, _)]) C dL_law_22 rfl (by decide) rfl ?_
  refine v_bipush (v := 35) C dL_law_24 rfl bp_35 ?_
  refine v_newa (atype := .int) (ty := .int) C K (ra_int s) rfl cmL_law_3 0 rfl (N' := 35) (a0 := (35, .inl (fun _ => 0))) (fun _ => rfl) rfl (by decide) (Nat.le_of_ble_eq_true rfl) (Nat.le_of_ble_eq_true rfl) (Nat.le_of_ble_eq_true rfl) dL_law_26 rfl (fun q26 => ?_)
  refine v_astore (lv' := [(5, _), (4, _), (3, _), (2, _), (1, _), (0, _)]) C dL_law_28 rfl (by decide) rfl ?_
  refine v_bipush (v := 35) C dL_law_30 rfl bp_35 ?_
  refine v_newa (atype := .int) (ty := .int) C K (ra_int s) rfl cmL_law_3 0 rfl (N' := 35) (a0 := (35, .inl (fun _ => 0))) (fun _ => rfl) rfl (by decide) (Nat.le_of_ble_eq_true rfl) (Nat.le_of_ble_eq_true rfl) (Nat.le_of_ble_eq_true rfl) dL_law_32 rfl (fun q32 => ?_)
  refine v_astore (lv' := [(6, _), (5, _), (4, _), (3, _), (2, _), (1, _), (0, _)]) C dL_law_34 rfl (by decide) rfl ?_
  rw [PW_0]
  generalize ela : (fun i => [q10, q15, q20, q26, q32].getD i 0) = la
  obtain rfl : q10 = la 0 := by rw [← ela]; rfl
  obtain rfl : q15 = la 1 := by rw [← ela]; rfl
  obtain rfl : q20 = la 2 := by rw [← ela]; rfl
  obtain rfl : q26 = la 3 := by rw [← ela]; rfl
  obtain rfl : q32 = la 4 := by rw [← ela]; rfl
  refine vv_PW ?_
  refine v_wid (k := 600000) (n := 7302250) (Nat.le_of_ble_eq_true rfl) (Nat.le_of_ble_eq_true rfl) ?_
  refine v_aload_n C dL_law_36 rfl 2 4 rfl rfl ?_
  refine v_iconst (v := 0) C dL_law_37 rfl ic_0 ?_
  refine v_bipush (v := 80) C dL_law_38 rfl bp_80 ?_
  refine v_astL C K 0 6 rfl (lW_a0 la cI _) (0) (rfl) (by omega) (by decide) dL_law_40 rfl ?_
  refine v_aload_n C dL_law_41 rfl 2 4 rfl rfl ?_
  refine v_iconst (v := 1) C dL_law_42 rfl ic_1 ?_
  refine v_bipush (v := 6) C dL_law_43 rfl bp_6 ?_
  refine v_astL C K 0 6 rfl (lW_a0 la cI _) (1) (rfl) (by omega) (by decide) dL_law_45 rfl ?_
  refine v_aload_n C dL_law_46 rfl 2 4 rfl rfl ?_
  refine v_iconst (v := 2) C dL_law_47 rfl ic_2 ?_
  refine v_bipush (v := 30) C dL_law_48 rfl bp_30 ?_
  refine v_astL C K 0 6 rfl (lW_a0 la cI _) (2) (rfl) (by omega) (by decide) dL_law_50 rfl ?_
  refine v_aload_n C dL_law_51 rfl 2 4 rfl rfl ?_
  refine v_iconst (v := 3) C dL_law_52 rfl ic_3 ?_
  refine v_bipush (v := 40) C dL_law_53 rfl bp_40 ?_
  refine v_astL C K 0 6 rfl (lW_a0 la cI _) (3) (rfl) (by omega) (by decide) dL_law_55 rfl ?_
  refine v_aload_n C dL_law_56 rfl 2 4 rfl rfl ?_
  refine v_iconst (v := 4) C dL_law_57 rfl ic_4 ?_
  refine v_bipush (v := 20) C dL_law_58 rfl bp_20 ?_
  refine v_astL C K 0 6 rfl (lW_a0 la cI _) (4) (rfl) (by omega) (by decide) dL_law_60 rfl ?_
  refine v_st (iC0, st9 t00 0 q00F) (congrArg (Prod.mk iC0) (by simp only [st9_s, st_tw]; rfl)) ?_
  refine v_iconst (v := 0) C dL_law_61 rfl ic_0 ?_
  refine v_istore (lv' := [(7, .int (nI 0)), (6, _), (5, _), (4, _), (3, _), (2, _), (1, _), (0, _)]) C dL_law_62 rfl (by decide) rfl ?_
  refine v_lv (lv' := [(0, _), (1, _), (2, _), (3, _), (4, _), (5, _), (6, _), (7, _)]) [7, 6, 5, 4, 3, 2, 1, 0] rfl ?_
  refine law_loop C K hz hX hbl hL (fun T u t => ?_) 16 0 r0 0 iC0 _ (by omega) (by omega) IC_0 LR_0 (Or.inr rfl) (Nat.le_refl _)
  refine v_iconst (v := 1) C dL_law_1100 rfl ic_1 ?_
  intro H locs ls hP hD hS h
  exact va_forget hS.2.2 (lw_ret hx hb hr hlocks dL_law_1101)
-- ===== YOUR PART ENDS =====
set_option maxHeartbeats 4000000 in
theorem lw_walk (l : Launch) (hflags : l.flags = flags0) (b : Addr) (xs : List Int32) : MetFree l x (headSpec (Jvm.Cond.code x code maxLocals ret :: tables_1) room_1) (lw_P b xs) (fun _ _ _ _ _ => True) lw_Q := by
  refine MetFree.of_bodyS (code := code) (maxLocals := maxLocals) (ret := ret) (by decide) ?_ ?_
  · intro args s m h hn
    obtain ⟨meth, c, h1, h2, h3, h4, h5, h6, -, -⟩ := Cond.code_spec hn (atoms_spec (ws := Jvm.Cond.code x code maxLocals ret :: tables_1) h _ List.mem_cons_self)
    exact ⟨meth, c, h1, h2, h3, h4, h5, h6⟩
  · intro p e s m args below meth c s₁ B hml0 hP _
    obtain ⟨rfl, hx, hbd, hgv⟩ := hP
    obtain ⟨scr, harrAt, hlist, hof, hsmall⟩ := hx
    obtain ⟨hcb, hkn, -, -⟩ := State.arrayAt?_spec harrAt
    have hown : s.vm.findClass R_law = some m.cls := findClass_of_methodNamed B.named
    have hts0 : ∀ c ∈ (Jvm.Cond.code x code maxLocals ret :: tables_1), c.before #[Value.ref b] s = true := atoms_spec (ws := Jvm.Cond.code x code maxLocals ret :: tables_1) B.pre
    have hts : ∀ w ∈ lw_tbl, w.before #[Value.ref b] s = true := k2_hts_sels lw_privs (fun w hw => hts0 w (List.mem_cons_of_mem _ hw)) lw_privs_ok
    have hml : c.maxLocals = 19 := B.maxLocals_eq (hts0 _ List.mem_cons_self)
    have X₀ : Stand p l e room_1 s m #[Value.ref b] below meth c s₁ [] 0 0 := Stand.of_body B
    have hh0 : s₁.heap = s.heap := by rw [B.state]; rfl
    have hsz : scr.slots.size = xs.length := by rw [← Array.length_toList, hlist, List.length_map]
    have hval : ∀ j : Nat, j < xs.length → scr.slots[j]? = some (.int (xs.getD j 0)) := fun j hj => by
      rw [← Array.getElem?_toList, hlist]
      simp [hj]
    have hbl : b < s.heap.size := (Array.getElem?_eq_some_iff.mp hcb).1
    have hX : va_X b xs.length (fun j => xs.getD j 0) s s.heap := ⟨scr, hcb, hof, hkn, hsz, hval⟩
    have K : W p l e room_1 s m #[Value.ref b] below meth c s₁.heap [] 0 0 (lw_Z below #[Value.ref b] s) (entryFrame m ([Value.ref b] : List Value).toArray 19) := by
      rw [hh0]
      exact whole_start l hflags hbd ⟨B.exec, B.bytes, B.returns, hml, hown, hts, hX, hbl, B.notSynchronized, hgv⟩
    obtain ⟨t, a1, o, b1, b2, b3⟩ := K s₁ rfl X₀
    exact ⟨t, o, a1, b1, b2, b3⟩
theorem lw_pre_spec {args : Array Value} {s : State} (h : (Jvm.Cond.and given_1 narrow_1).before args s = true) (hr : rest_1_c.before args s = true) : ∃ (b : Addr) (xs : List Int32), lw_P b xs args s := by
  have hs := flat_of_before _ h
  have hq := flat_of_before _ hr
  have hc : (Cond.count 1).before args s = true := hs _ (by decide +kernel)
  have harr : (Cond.arrayOf (.arg 0) .int).before args s = true := hs _ (by decide +kernel)
  have hle : (Cond.le (.length (.arg 0)) (.int 260)).before args s = true := hs _ (by decide +kernel)
  have hlen : (Cond.isInt (.length (.arg 0))).before args s = true := hq _ (by decide +kernel)
  have hall : (Cond.all (.arg 0) (.isInt (.elem (.arg 0) (.index 0)))).before args s = true := hq _ (by decide +kernel)
  obtain ⟨b, xs, hb, hx⟩ := State.ints_of_pre rfl harr hlen hall
  have hsm : xs.length < 2 ^ 31 := hx.choose_spec.2.2.2
  have hev : (Term.length (.arg 0)).eval args s none [] s = some (.int xs.length.toInt32) := hx.length_eval hb
  have hv := Cond.le_ints hev (show (Term.int 260).eval args s none [] s = some (.int 260) from rfl)
  have hd : xs.length.toInt32 ≤ 260 := by
    simpa [Cond.before, Cond.holds, hv] using hle
  have hN : xs.length ≤ 260 := (Int32.ofNat_le_ofNat hsm (by decide)).mp (show Int32.ofNat xs.length ≤ Int32.ofNat 260 from hd)
  exact ⟨b, xs, Cond.one_arg hc (show args[0]? = some (.ref b) from hb), hx, hN, h⟩
theorem lw_comes (l : Launch) (hflags : l.flags = flags0) : Comes l x (Jvm.Cond.code x code maxLocals ret :: tables_1) room_1 (fun tb e args s => Calls_1 tb e args s ∧ rest_1 tb e args s ∧ Pre_1 tb e args s)
    (fun _ _ args s o t => lw_Q args s o t) := by
  intro p e ha hc hk s m args below hf hfit hheap happ hpre
  obtain ⟨b, xs, hP⟩ := lw_pre_spec hpre.2.2 hpre.2.1
  obtain ⟨k, o, h1, h2, h3, hQ⟩ := lw_walk l hflags b xs p e ha hc hk s m args below hf ((Spec.applies_iff_loose hf).mp happ).1 hP trivial
  exact ⟨k, o, h1, h2, h3, hQ⟩
theorem lw_frame {s t : State} {o : Outcome} {args : Array Value} (h : Framed s o t [] 600000 7302250) :
    Framed s o t (fieldLocs frame_1_writes args s ++ arrayLocs frame_1_arrays args s ++ staticLocs frame_1_statics s) 600000 7302250 := h
theorem lw_limb (L : Cond) (hL : ∀ (args : Array Value) (s t : State), L.after args s (.returned (some (.int 1))) t = true) :
    ArmFor flags0 classFile x code maxLocals ret World_1 tables_1 room_1 Calls_1 rest_1 Pre_1
      (fun tb e a s o t => postC L tb e a s o t ∧ Framed s o t (fieldLocs frame_1_writes a s ++ arrayLocs frame_1_arrays a s ++ staticLocs frame_1_statics s) 600000 7302250) := by
  intro l hflags _ _ p e ha hc hk s m args below hf hfit hheap happ hpre
  obtain ⟨k, o, h1, h2, h3, rfl, hF⟩ := lw_comes l hflags p e ha hc hk s m args below hf hfit hheap happ hpre
  exact ⟨k, _, h1, h2, h3, hL args s _, lw_frame hF⟩
theorem i_vc : Claimed_1_1 ∧ Claimed_1_2 := ⟨lw_limb limb_1_1 (fun args s t => by simp [limb_1_1, Cond.after, Cond.holds, Cond.value]), lw_limb limb_1_2 (fun args s t => Cond.after_iff.mpr (by
  first | (rw [show limb_1_2 = Cond.eq .result (.int 1) from rfl, Cond.eq_ints (x := 1) (y := 1) rfl rfl]; simp; done) | (simp [limb_1_2, Cond.value, Term.eval]; done)))⟩

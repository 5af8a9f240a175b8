/-! ===== the law: its loop, its beginning, the claim ===== -/
set_option maxHeartbeats 4000000 in
set_option maxRecDepth 100000 in
theorem law_loop {p : Program} {l : Launch} {e : Env} {s : State} {m : MethodId} {below : List Frame} {meth : Method} {c : Code} {Q : State → Prop} {D : va_G} {cI cC cZ cQ : ClassId} {ad1 ad2 : Nat → Nat} {tl tm tf b Ls : Nat} {xs : Nat → Int32} (C : CX p m c cL_law 4 s #[Value.ref b] wsL_law RL (fun q => s.heap.size ≤ q) s.heap) (K : va_K D vwCl (cTy cI cC cZ cQ) s) (hE : zS tl tm tf (fun q => s.heap.size ≤ q) s s.heap) (hX : va_X b Ls xs s s.heap) (hbl : b < s.heap.size) (hL : Ls ≤ 3072) (hend : ∀ (σ τ : S9) (x9 : Int32), VV p l e room_1 s m #[Value.ref b] below meth c 600000 7302250 Q (fun u : S9 × S9 => cW ad1 cI cC cZ cQ u.1 ++ mW ad2 cI u.2) D (fun q => s.heap.size ≤ q) s.heap 4 (σ, τ) 942 [(3, .int (x9)), (2, .ref (ad2 0)), (1, .ref (ad1 0)), (0, .ref b)] []) : ∀ (N k : Nat) (σ τ : S9), Ls ≤ k + N → k ≤ Ls → SMx σ τ → VV p l e room_1 s m #[Value.ref b] below meth c 600000 7302250 Q (fun u : S9 × S9 => cW ad1 cI cC cZ cQ u.1 ++ mW ad2 cI u.2) D (fun q => s.heap.size ≤ q) s.heap 4 (σ, τ) 18 [(3, .int (nI k)), (2, .ref (ad2 0)), (1, .ref (ad1 0)), (0, .ref b)] [] := by
  have hbA : ¬ (fun q : Nat => s.heap.size ≤ q) b := Nat.not_le.mpr hbl
  intro N
  induction N with
  | zero =>
    intro k σ τ hN hkL hx
    refine v_iload_n C dL_law_18 rfl 3 0 rfl rfl ?_
    refine v_aload_n C dL_law_19 rfl 0 3 rfl rfl ?_
    refine v_slen C hX hbl hbA dL_law_20 rfl ?_
    refine v_bipush (v := 6) C dL_law_21 rfl bp_6 ?_
    refine v_isub C dL_law_23 rfl ?_
    refine v_icmp_gt C 942 dL_law_24 (by decide) rfl (fun _ => hend σ τ _) (fun h9 => ?_)
    have hk : k + 6 ≤ Ls := sub6 (by omega) (by omega) h9
    exact absurd hk (by omega)
  | succ N ih =>
    intro k σ τ hN hkL hx
    refine v_iload_n C dL_law_18 rfl 3 0 rfl rfl ?_
    refine v_aload_n C dL_law_19 rfl 0 3 rfl rfl ?_
    refine v_slen C hX hbl hbA dL_law_20 rfl ?_
    refine v_bipush (v := 6) C dL_law_21 rfl bp_6 ?_
    refine v_isub C dL_law_23 rfl ?_
    refine v_icmp_gt C 942 dL_law_24 (by decide) rfl (fun _ => hend σ τ _) (fun h9 => ?_)
    have hk : k + 6 ≤ Ls := sub6 (by omega) (by omega) h9
    have kk : ∀ u v : S9, SMx u v → VV p l e room_1 s m #[Value.ref b] below meth c 600000 7302250 Q (fun u : S9 × S9 => cW ad1 cI cC cZ cQ u.1 ++ mW ad2 cI u.2) D (fun q => s.heap.size ≤ q) s.heap 4 (u, v) 936 [(3, .int (nI k)), (2, .ref (ad2 0)), (1, .ref (ad1 0)), (0, .ref b)] [] := fun u v hz => by
      refine v_iinc (lv' := [(3, .int (nI (k + 6))), (2, _), (1, _), (0, _)]) C dL_law_936 rfl 0 rfl (inc6 k) (by decide) rfl ?_
      refine v_goto C 18 dL_law_939 (by decide) ?_
      exact ih (k + 6) u v (by omega) hk hz
    refine v_aload_n C dL_law_27 rfl 0 3 rfl rfl ?_
    refine v_iload_n C dL_law_28 rfl 3 0 rfl rfl ?_
    refine v_sld C hX hbl hbA k rfl (by omega) (by omega) dL_law_29 rfl ?_
    refine v_bipush (v := 31) C dL_law_30 rfl bp_31 ?_
    refine v_iand C dL_law_32 rfl ?_
    obtain ⟨j, hj, ej⟩ := and31 (xs k)
    rw [ej]
    rcases (show j = 0 ∨ j = 1 ∨ j = 2 ∨ j = 3 ∨ j = 4 ∨ j = 5 ∨ j = 6 ∨ j = 7 ∨ j = 8 ∨ j = 9 ∨ j = 10 ∨ j = 11 ∨ j = 12 ∨ j = 13 ∨ j = 14 ∨ j = 15 ∨ j = 16 ∨ j = 17 ∨ j = 18 ∨ j = 19 ∨ j = 20 ∨ j = 21 ∨ j = 22 ∨ j = 23 ∨ 24 ≤ j by omega) with rfl | rfl | rfl | rfl | rfl | rfl | rfl | rfl | rfl | rfl | rfl | rfl | rfl | rfl | rfl | rfl | rfl | rfl | rfl | rfl | rfl | rfl | rfl | rfl | h24
    · exact v_tableIn C 144 dL_law_33 (by decide) (by decide) (off := 111) (by decide +kernel) (by decide) (lc_set C K hE hX hbl hL hk hx kk)
    · exact v_tableIn C 177 dL_law_33 (by decide) (by decide) (off := 144) (by decide +kernel) (by decide) (lc_film C K hE hX hbl hL hk hx kk)
    · exact v_tableIn C 240 dL_law_33 (by decide) (by decide) (off := 207) (by decide +kernel) (by decide) (lc_show C K hE hX hbl hL hk hx kk)
    · exact v_tableIn C 283 dL_law_33 (by decide) (by decide) (off := 250) (by decide +kernel) (by decide) (lc_drop C K hE hX hbl hL hk hx kk)
    · exact v_tableIn C 316 dL_law_33 (by decide) (by decide) (off := 283) (by decide +kernel) (by decide) (lc_exchange C K hE hX hbl hL hk hx kk)
    · exact v_tableIn C 369 dL_law_33 (by decide) (by decide) (off := 336) (by decide +kernel) (by decide) (lc_let C K hE hX hbl hL hk hx kk)
    · exact v_tableIn C 402 dL_law_33 (by decide) (by decide) (off := 369) (by decide +kernel) (by decide) (lc_carryOut C K hE hX hbl hL hk hx kk)
    · exact v_tableIn C 415 dL_law_33 (by decide) (by decide) (off := 382) (by decide +kernel) (by decide) (lc_at C K hE hX hbl hL hk hx kk)
    · exact v_tableIn C 458 dL_law_33 (by decide) (by decide) (off := 425) (by decide +kernel) (by decide) (lc_of C K hE hX hbl hL hk hx kk)
    · exact v_tableIn C 491 dL_law_33 (by decide) (by decide) (off := 458) (by decide +kernel) (by decide) (lc_inWeek C K hE hX hbl hL hk hx kk)
    · exact v_tableIn C 534 dL_law_33 (by decide) (by decide) (off := 501) (by decide +kernel) (by decide) (lc_week C K hE hX hbl hL hk hx kk)
    · exact v_tableIn C 567 dL_law_33 (by decide) (by decide) (off := 534) (by decide +kernel) (by decide) (lc_distributor C K hE hX hbl hL hk hx kk)
    · exact v_tableIn C 600 dL_law_33 (by decide) (by decide) (off := 567) (by decide +kernel) (by decide) (lc_rent C K hE hX hbl hL hk hx kk)
    · exact v_tableIn C 623 dL_law_33 (by decide) (by decide) (off := 590) (by decide +kernel) (by decide) (lc_count C K hE hX hbl hL hk hx kk)
    · exact v_tableIn C 646 dL_law_33 (by decide) (by decide) (off := 613) (by decide +kernel) (by decide) (lc_ifShown C K hE hX hbl hL hk hx kk)
    · exact v_tableIn C 689 dL_law_33 (by decide) (by decide) (off := 656) (by decide +kernel) (by decide) (lc_bestFilm C K hE hX hbl hL hk hx kk)
    · exact v_tableIn C 732 dL_law_33 (by decide) (by decide) (off := 699) (by decide +kernel) (by decide) (lc_worstShow C K hE hX hbl hL hk hx kk)
    · exact v_tableIn C 755 dL_law_33 (by decide) (by decide) (off := 722) (by decide +kernel) (by decide) (lc_priceFor C K hE hX hbl hL hk hx kk)
    · exact v_tableIn C 798 dL_law_33 (by decide) (by decide) (off := 765) (by decide +kernel) (by decide) (lc_put C K hE hX hbl hL hk hx kk)
    · exact v_tableIn C 851 dL_law_33 (by decide) (by decide) (off := 818) (by decide +kernel) (by decide) (lc_wipe C K hE hX hbl hL hk hx kk)
    · exact v_tableIn C 864 dL_law_33 (by decide) (by decide) (off := 831) (by decide +kernel) (by decide) (lc_fault C K hE hX hbl hL hk hx kk)
    · exact v_tableIn C 877 dL_law_33 (by decide) (by decide) (off := 844) (by decide +kernel) (by decide) (lc_undo C K hE hX hbl hL hk hx kk)
    · exact v_tableIn C 890 dL_law_33 (by decide) (by decide) (off := 857) (by decide +kernel) (by decide) (lc_save C K hE hX hbl hL hk hx kk)
    · exact v_tableIn C 913 dL_law_33 (by decide) (by decide) (off := 880) (by decide +kernel) (by decide) (lc_restore C K hE hX hbl hL hk hx kk)
    · exact v_tableOut C 936 dL_law_33 (Or.inr (by rw [nI_toInt (by omega)]; omega)) (by decide) (kk σ τ hx)
theorem cmL_law_0 : Cond.classLink RL 7 RX4 ∈ wsL_law := List.mem_of_getElem? (i := 0) (by decide +kernel)
theorem cmL_law_1 : Cond.instantiable RX4 6 ∈ wsL_law := List.mem_of_getElem? (i := 1) (by decide +kernel)
theorem cmL_law_2 : Cond.initialized RX4 ∈ wsL_law := List.mem_of_getElem? (i := 2) (by decide +kernel)
theorem cmL_law_3 : Cond.classLink RL 10 RX5 ∈ wsL_law := List.mem_of_getElem? (i := 3) (by decide +kernel)
theorem cmL_law_4 : Cond.instantiable RX5 18 ∈ wsL_law := List.mem_of_getElem? (i := 4) (by decide +kernel)
theorem cmL_law_5 : Cond.initialized RX5 ∈ wsL_law := List.mem_of_getElem? (i := 5) (by decide +kernel)
theorem cmL_law_7 : Cond.methodLink RL 9 yX4_init ∈ wsL_law := List.mem_of_getElem? (i := 7) (by decide +kernel)
theorem cmL_law_8 : Cond.instanceMethod yX4_init ∈ wsL_law := List.mem_of_getElem? (i := 8) (by decide +kernel)
theorem cmL_law_60 : Cond.methodLink RL 12 yX5_init ∈ wsL_law := List.mem_of_getElem? (i := 60) (by decide +kernel)
theorem cmL_law_61 : Cond.instanceMethod yX5_init ∈ wsL_law := List.mem_of_getElem? (i := 61) (by decide +kernel)
theorem mW_0 (cI : ClassId) (b q8 q17 q26 q33 q41 q49 q57 q65 q73 q81 q89 q97 : Nat) : ([(b, .inr (5, [.ref q8, .ref q17, .int 0, .ref q26, .ref q33, .ref q41, .int 0, .ref q49, .ref q57, .ref q65, .ref q73, .ref q81, .ref q89, .ref q97, .int 0, .int 0, .int 0, .int 0])), (q8, .inl (cI, 151, .inl r0)), (q17, .inl (cI, 906, .inl (fun _ => 0))), (q26, .inl (cI, 302, .inl (fun _ => 0))), (q33, .inl (cI, 2, .inl (fun _ => 0))), (q41, .inl (cI, 60, .inl (fun _ => 0))), (q49, .inl (cI, 70, .inl (fun _ => 0))), (q57, .inl (cI, 70, .inl (fun _ => 0))), (q65, .inl (cI, 8, .inl (fun _ => 0))), (q73, .inl (cI, 40, .inl (fun _ => 0))), (q81, .inl (cI, 40, .inl (fun _ => 0))), (q89, .inl (cI, 40, .inl (fun _ => 0))), (q97, .inl (cI, 40, .inl (fun _ => 0)))] : va_W) = mW (fun i => [b, q8, q17, q26, q33, q41, q49, q57, q65, q73, q81, q89, q97].getD i 0) cI iM0 := rfl
theorem vv_pair {p : Program} {l : Launch} {e : Env} {s : State} {m : MethodId} {args : Array Value} {below : List Frame} {meth : Method} {c : Code} {Q : State → Prop} {R : Room} {cells slots nL : Nat} {A : Nat → Prop} {H0 : Heap} {τ1 τ2 : Type} {w1 : τ1 → va_W} {w2 : τ2 → va_W} {D : va_G} {σ1 : τ1} {σ2 : τ2} {pc : Nat} {lv : List (Nat × Value)} {st : List Value} (kk : VV p l e R s m args below meth c cells slots Q (fun u : τ1 × τ2 => w1 u.1 ++ w2 u.2) D A H0 nL (σ1, σ2) pc lv st) : VV p l e R s m args below meth c cells slots Q (fun u : va_W => u) D A H0 nL (w1 σ1 ++ w2 σ2) pc lv st := fun H locs ls hP hD hS h => kk H locs ls hP hD hS h
/-! THE CLAIM OUT OF ONE WALK OF THE LAW'S BODY. Your part is whole_start (and what it stands on); all else here is the same for every law, but numbers. -/
def R_law : String := "VillageCinemaLaw"
def lw_P (b : Addr) (xs : List Int32) (args : Array Value) (s : State) : Prop := args = #[.ref b] ∧ s.IntsAt b xs ∧ xs.length ≤ 3072 ∧ (Jvm.Cond.and given_1 narrow_1).before args s = true
def lw_Q (_ : Array Value) (s : State) (o : Outcome) (t : State) : Prop := o = .returned (some (.int 1)) ∧ Framed s o t [] 600000 7302250
def lw_Z (below : List Frame) (a : Array Value) (s : State) : State → Prop := fun t => ∃ o, t.status = .running ∧ Ended t below o ∧ lw_Q a s o t
/-- the law's own end, with 1 on the stack, nothing written that was there before, its room as the claim has it -/
theorem lw_ret {p : Program} {l : Launch} {e : Env} {s : State} {m : MethodId} {below : List Frame} {meth : Method} {c : Code} {b : Nat} (hx : p.tables.exec = Jvm.exec) (hb : c.code = code) (hr : meth.sig.returnType = ret) (hlocks : meth.locks = false) {pc : Nat} {H : Heap} {ls : Array Slot} (hdg : decode code pc = .ok (.ireturn, 1)) : W p l e room_1 s m #[Value.ref b] below meth c H [] 600000 7302250 (lw_Z below #[Value.ref b] s) (F0 m pc ls [.int 1]) := by
  intro T hT X
  obtain ⟨fs, hret, hrun, hended, hW, hframe⟩ := X.leave (v := some (.int 1)) (hlocks := hlocks) (fun h => by rw [hr] at h; cases h)
  have hmeth' : T.vm.method? m = some meth := X.method'
  refine ⟨T.setFrames fs, ?_, .returned (some (.int 1)), hrun, hended, rfl, ⟨_, rfl⟩, hW, hframe⟩
  jvm_step X.here [X.here.top, hx, hb, hdg, hmeth', hr, ret, narrow_b1]
  (try refine ⟨rfl, ?_⟩); (try refine ⟨rfl, ?_⟩)
  first | (intro acts; rw [hret _ acts rfl rfl rfl]) | rw [hret _ _ rfl rfl rfl]
  exact Steps.refl _
/-- what holds at the law's entry: the machine, the code, the tables' words (any of lw_tbl by 'hts w (by decide +kernel)'), the script of L ints xs at the cell b, what the Statement gives of the start (any of its parts by flat_of_before) -/
def lw_At (p : Program) (s : State) (m : MethodId) (meth : Method) (c : Code) (b L : Nat) (xs : Nat → Int32) : Prop :=
  p.tables.exec = Jvm.exec ∧ c.code = code ∧ meth.sig.returnType = ret ∧ c.maxLocals = 4 ∧ s.vm.findClass R_law = some m.cls ∧ (∀ w ∈ lw_tbl, w.before #[Value.ref b] s = true) ∧ va_X b L xs s s.heap ∧ b < s.heap.size ∧ meth.locks = false ∧ (Jvm.Cond.and given_1 narrow_1).before #[Value.ref b] s = true
-- ===== the walk =====
set_option maxHeartbeats 4000000 in
set_option maxRecDepth 100000 in
theorem whole_start {p : Program} {e : Env} {s : State} {m : MethodId} {below : List Frame} {meth : Method} {c : Code} (l : Launch) (hflags : l.flags = flags0) {b L : Nat} {xs : Nat → Int32} (hL : L ≤ 3072) (C0 : lw_At p s m meth c b L xs) : W p l e room_1 s m #[Value.ref b] below meth c s.heap [] 0 0 (lw_Z below #[Value.ref b] s) (entryFrame m ([Value.ref b] : List Value).toArray 4) := by
  obtain ⟨hx, hb, hr, hml, hown, hts, hX, hbl, hlocks, hgv⟩ := id C0
  obtain ⟨D, cI, cC, cZ, cQ, K⟩ := law_K hts
  obtain ⟨tl, tm, tf, hz⟩ := law_z hts hgv (A := fun q => s.heap.size ≤ q) (fun a h => Nat.not_le.mpr h)
  have hE9 := law_iE hts hz
  have C : CX p m c cL_law 4 s #[Value.ref b] wsL_law RL (fun q => s.heap.size ≤ q) s.heap := ⟨⟨hx, hb, hml, hown, fun w h => hts w (wsL_law_in w h)⟩, fun q h => h⟩
  have hP0 : va_P D vwCl [] s.heap := fun k q h => by simp at h
  have hD0 : va_D (fun q : Nat => s.heap.size ≤ q) [] := ⟨fun i j p q h => by simp at h, fun k q h => by simp at h⟩
  have hl := lv_entry ([.ref b]) (n := 4) (Nat.le_of_ble_eq_true rfl)
  rw [lg_entry_eq]
  suffices V : VV p l e room_1 s m #[Value.ref b] below meth c 0 0 (lw_Z below #[Value.ref b] s) (fun u : va_W => u) D (fun q => s.heap.size ≤ q) s.heap 4 [] 0 (lv_args 0 [.ref b]) [] from V s.heap [] _ hP0 hD0 va_S.rf hl
  refine v_lv (lv' := [(0, .ref b)]) [0] rfl ?_
  refine v_newo C K (N := 6) (ci := 4) inlX4 tyX4 tyX4_ok cmL_law_0 cmL_law_1 cmL_law_2 rfl (fs := [.null, .null, .null, .null, .null, .null]) (fun j hj => by rcases (show j = 0 ∨ j = 1 ∨ j = 2 ∨ j = 3 ∨ j = 4 ∨ j = 5 by omega) with rfl | rfl | rfl | rfl | rfl | rfl <;> rfl) (Nat.le_of_ble_eq_true rfl) (Nat.le_of_ble_eq_true rfl) dL_law_0 rfl (fun q0 => ?_)
  refine v_st [(q0, .inr (4, [.null, .null, .null, .null, .null, .null]))] rfl ?_
  refine v_dup C dL_law_3 rfl rfl ?_
  refine v_initcall C K hE9 (c_X4_init l D cI cC cZ cQ tl tm tf q0) ggL_law_X4_init rfl cmL_law_2 cmL_law_7 cmL_law_8 rfl hd_X4_init.2 ⟨rfl, rfl⟩ ⟨(Nat.le_of_ble_eq_true rfl), (Nat.le_of_ble_eq_true rfl)⟩ [0] [] (σr := []) rfl rfl (by decide) rfl (by decide) (by decide) (Nat.le_of_ble_eq_true rfl) ⟨(Nat.le_of_ble_eq_true rfl), (Nat.le_of_ble_eq_true rfl)⟩ dL_law_4 rfl (fun u4 hu4 => ?_)
  obtain ⟨ad1, rfl, rfl⟩ := hu4
  refine v_st (cW ad1 cI cC cZ cQ iC0) rfl ?_
  refine v_astore_n (lv' := [(1, _), (0, _)]) C dL_law_7 rfl 1 rfl (by decide) rfl ?_
  refine v_newo C K (N := 18) (ci := 5) inlX5 tyX5 tyX5_ok cmL_law_3 cmL_law_4 cmL_law_5 rfl (fs := [.null, .null, .int 0, .null, .null, .null, .int 0, .null, .null, .null, .null, .null, .null, .null, .int 0, .int 0, .int 0, .int 0]) (fun j hj => by rcases (show j = 0 ∨ j = 1 ∨ j = 2 ∨ j = 3 ∨ j = 4 ∨ j = 5 ∨ j = 6 ∨ j = 7 ∨ j = 8 ∨ j = 9 ∨ j = 10 ∨ j = 11 ∨ j = 12 ∨ j = 13 ∨ j = 14 ∨ j = 15 ∨ j = 16 ∨ j = 17 by omega) with rfl | rfl | rfl | rfl | rfl | rfl | rfl | rfl | rfl | rfl | rfl | rfl | rfl | rfl | rfl | rfl | rfl | rfl <;> rfl) (Nat.le_of_ble_eq_true rfl) (Nat.le_of_ble_eq_true rfl) dL_law_8 rfl (fun q8 => ?_)
  refine v_dup C dL_law_11 rfl rfl ?_
  refine v_initcall C K hE9 (c_X5_init l D cI cC cZ cQ tl tm tf q8) ggL_law_X5_init rfl cmL_law_5 cmL_law_60 cmL_law_61 rfl hd_X5_init.2 ⟨rfl, rfl⟩ ⟨(Nat.le_of_ble_eq_true rfl), (Nat.le_of_ble_eq_true rfl)⟩ [22] [0, 1, 2, 3, 4, 5, 6, 7, 8, 9, 10, 11, 12, 13, 14, 15, 16, 17, 18, 19, 20, 21] (σr := cW ad1 cI cC cZ cQ iC0) rfl rfl (by decide) rfl (by decide) (by decide) (Nat.le_of_ble_eq_true rfl) ⟨(Nat.le_of_ble_eq_true rfl), (Nat.le_of_ble_eq_true rfl)⟩ dL_law_12 rfl (fun u12 hu12 => ?_)
  obtain ⟨r8, r17, r26, r33, r41, r49, r57, r65, r73, r81, r89, r97, rfl⟩ := hu12
  rw [mW_0]
  generalize ead : (fun i => [q8, r8, r17, r26, r33, r41, r49, r57, r65, r73, r81, r89, r97].getD i 0) = ad2
  obtain rfl : q8 = ad2 0 := by rw [← ead]; rfl
  refine vv_pair (w1 := cW ad1 cI cC cZ cQ) (w2 := mW ad2 cI) ?_
  refine v_wid (k := 600000) (n := 7302250) (Nat.le_of_ble_eq_true rfl) (Nat.le_of_ble_eq_true rfl) ?_
  refine v_astore_n (lv' := [(2, _), (1, _), (0, _)]) C dL_law_15 rfl 2 rfl (by decide) rfl ?_
  refine v_iconst (v := 0) C dL_law_16 rfl ic_0 ?_
  refine v_istore_n (lv' := [(3, .int (nI 0)), (2, _), (1, _), (0, _)]) C dL_law_17 rfl 3 rfl (by decide) rfl ?_
  refine law_loop C K hz hX hbl hL (fun σ τ x9 => ?_) L 0 iC0 iM0 (by omega) (by omega) ⟨0, 0, 0, 0, SM_0⟩
  refine v_iconst (v := 1) C dL_law_942 rfl ic_1 ?_
  intro H locs ls hP hD hS h
  exact va_forget hS.2.2 (lw_ret hx hb hr hlocks dL_law_943)
-- ===== YOUR PART ENDS =====
set_option maxHeartbeats 4000000 in
theorem lw_walk (l : Launch) (hflags : l.flags = flags0) (b : Addr) (xs : List Int32) : MetFree l x (headSpec (Jvm.Cond.code x code maxLocals ret :: tables_1) room_1) (lw_P b xs) (fun _ _ _ _ _ => True) lw_Q := by
  refine MetFree.of_bodyS (code := code) (maxLocals := maxLocals) (ret := ret) (by decide) ?_ ?_
  · intro args s m h hn
    obtain ⟨meth, c, h1, h2, h3, h4, h5, h6, -, -⟩ := Cond.code_spec hn (atoms_spec (ws := Jvm.Cond.code x code maxLocals ret :: tables_1) h _ List.mem_cons_self)
    exact ⟨meth, c, h1, h2, h3, h4, h5, h6⟩
  · intro p e s m args below meth c s₁ B hml0 hP _
    obtain ⟨rfl, hx, hbd, hgv⟩ := hP
    obtain ⟨scr, harrAt, hlist, hof, hsmall⟩ := hx
    obtain ⟨hcb, hkn, -, -⟩ := State.arrayAt?_spec harrAt
    have hown : s.vm.findClass R_law = some m.cls := findClass_of_methodNamed B.named
    have hts0 : ∀ c ∈ (Jvm.Cond.code x code maxLocals ret :: tables_1), c.before #[Value.ref b] s = true := atoms_spec (ws := Jvm.Cond.code x code maxLocals ret :: tables_1) B.pre
    have hts : ∀ w ∈ lw_tbl, w.before #[Value.ref b] s = true := k2_hts_sels lw_privs (fun w hw => hts0 w (List.mem_cons_of_mem _ hw)) lw_privs_ok
    have hml : c.maxLocals = 4 := B.maxLocals_eq (hts0 _ List.mem_cons_self)
    have X₀ : Stand p l e room_1 s m #[Value.ref b] below meth c s₁ [] 0 0 := Stand.of_body B
    have hh0 : s₁.heap = s.heap := by rw [B.state]; rfl
    have hsz : scr.slots.size = xs.length := by rw [← Array.length_toList, hlist, List.length_map]
    have hval : ∀ j : Nat, j < xs.length → scr.slots[j]? = some (.int (xs.getD j 0)) := fun j hj => by
      rw [← Array.getElem?_toList, hlist]
      simp [hj]
    have hbl : b < s.heap.size := (Array.getElem?_eq_some_iff.mp hcb).1
    have hX : va_X b xs.length (fun j => xs.getD j 0) s s.heap := ⟨scr, hcb, hof, hkn, hsz, hval⟩
    have K : W p l e room_1 s m #[Value.ref b] below meth c s₁.heap [] 0 0 (lw_Z below #[Value.ref b] s) (entryFrame m ([Value.ref b] : List Value).toArray 4) := by
      rw [hh0]
      exact whole_start l hflags hbd ⟨B.exec, B.bytes, B.returns, hml, hown, hts, hX, hbl, B.notSynchronized, hgv⟩
    obtain ⟨t, a1, o, b1, b2, b3⟩ := K s₁ rfl X₀
    exact ⟨t, o, a1, b1, b2, b3⟩
theorem lw_pre_spec {args : Array Value} {s : State} (h : (Jvm.Cond.and given_1 narrow_1).before args s = true) (hr : rest_1_c.before args s = true) : ∃ (b : Addr) (xs : List Int32), lw_P b xs args s := by
  have hs := flat_of_before _ h
  have hq := flat_of_before _ hr
  have hc : (Cond.count 1).before args s = true := hs _ (by decide +kernel)
  have harr : (Cond.arrayOf (.arg 0) .int).before args s = true := hs _ (by decide +kernel)
  have hle : (Cond.le (.length (.arg 0)) (.int 3072)).before args s = true := hs _ (by decide +kernel)
  have hlen : (Cond.isInt (.length (.arg 0))).before args s = true := hq _ (by decide +kernel)
  have hall : (Cond.all (.arg 0) (.isInt (.elem (.arg 0) (.index 0)))).before args s = true := hq _ (by decide +kernel)
  obtain ⟨b, xs, hb, hx⟩ := State.ints_of_pre rfl harr hlen hall
  have hsm : xs.length < 2 ^ 31 := hx.choose_spec.2.2.2
  have hev : (Term.length (.arg 0)).eval args s none [] s = some (.int xs.length.toInt32) := hx.length_eval hb
  have hv := Cond.le_ints hev (show (Term.int 3072).eval args s none [] s = some (.int 3072) from rfl)
  have hd : xs.length.toInt32 ≤ 3072 := by
    simpa [Cond.before, Cond.holds, hv] using hle
  have hN : xs.length ≤ 3072 := (Int32.ofNat_le_ofNat hsm (by decide)).mp (show Int32.ofNat xs.length ≤ Int32.ofNat 3072 from hd)
  exact ⟨b, xs, Cond.one_arg hc (show args[0]? = some (.ref b) from hb), hx, hN, h⟩
theorem lw_comes (l : Launch) (hflags : l.flags = flags0) : Comes l x (Jvm.Cond.code x code maxLocals ret :: tables_1) room_1 (fun tb e args s => Calls_1 tb e args s ∧ rest_1 tb e args s ∧ Pre_1 tb e args s)
    (fun _ _ args s o t => lw_Q args s o t) := by
  intro p e ha hc hk s m args below hf hfit hheap happ hpre
  obtain ⟨b, xs, hP⟩ := lw_pre_spec hpre.2.2 hpre.2.1
  obtain ⟨k, o, h1, h2, h3, hQ⟩ := lw_walk l hflags b xs p e ha hc hk s m args below hf ((Spec.applies_iff_loose hf).mp happ).1 hP trivial
  exact ⟨k, o, h1, h2, h3, hQ⟩
theorem lw_frame {s t : State} {o : Outcome} {args : Array Value} (h : Framed s o t [] 600000 7302250) :
    Framed s o t (fieldLocs frame_1_writes args s ++ arrayLocs frame_1_arrays args s ++ staticLocs frame_1_statics s) 600000 7302250 := h
theorem lw_limb (L : Cond) (hL : ∀ (args : Array Value) (s t : State), L.after args s (.returned (some (.int 1))) t = true) :
    ArmFor flags0 classFile x code maxLocals ret World_1 tables_1 room_1 Calls_1 rest_1 Pre_1
      (fun tb e a s o t => postC L tb e a s o t ∧ Framed s o t (fieldLocs frame_1_writes a s ++ arrayLocs frame_1_arrays a s ++ staticLocs frame_1_statics s) 600000 7302250) := by
  intro l hflags _ _ p e ha hc hk s m args below hf hfit hheap happ hpre
  obtain ⟨k, o, h1, h2, h3, rfl, hF⟩ := lw_comes l hflags p e ha hc hk s m args below hf hfit hheap happ hpre
  exact ⟨k, _, h1, h2, h3, hL args s _, lw_frame hF⟩
theorem i_vc : Claimed_1_1 ∧ Claimed_1_2 := ⟨lw_limb limb_1_1 (fun args s t => by simp [limb_1_1, Cond.after, Cond.holds, Cond.value]), lw_limb limb_1_2 (fun args s t => Cond.after_iff.mpr (by
  first | (rw [show limb_1_2 = Cond.eq .result (.int 1) from rfl, Cond.eq_ints (x := 1) (y := 1) rfl rfl]; simp; done) | (simp [limb_1_2, Cond.value, Term.eval]; done)))⟩

/-! ===== the law: its acts: a film, three shows, a show dropped ===== -/
set_option maxHeartbeats 4000000 in
set_option maxRecDepth 100000 in
theorem lc_film {p : Program} {l : Launch} {e : Env} {s : State} {m : MethodId} {below : List Frame} {meth : Method} {c : Code} {Q : State → Prop} {D : va_G} {cI cC cZ cQ : ClassId} {ad la : Nat → Nat} {b : Nat} (C : CX p m c cL_law 19 s #[Value.ref b] wsL_law RL (fun q => s.heap.size ≤ q) s.heap) (K : va_K D vwCl (cTy cI cC cZ cQ) s) {T : Nat} {x : Int32} {g : Nat → Int32} {n : Nat} {u t : S9} (hI : IC g n u) (hR : LR g n t) (hn : n < 8) (kk : ∀ (g : Nat → Int32) (u t : S9), IC g (n + 1) u → LR g (n + 1) t → VV p l e room_1 s m #[Value.ref b] below meth c 600000 7302250 Q (PW ad la cI cC cZ cQ) D (fun q => s.heap.size ≤ q) s.heap 19 (u, t) 1073 [(0, .ref b), (1, .ref (ad 0)), (2, .ref (la 0)), (3, .ref (la 1)), (4, .ref (la 2)), (5, .ref (la 3)), (6, .ref (la 4)), (7, .int (nI T)), (8, .int x)] []) : VV p l e room_1 s m #[Value.ref b] below meth c 600000 7302250 Q (PW ad la cI cC cZ cQ) D (fun q => s.heap.size ≤ q) s.heap 19 (u, t) 154 [(0, .ref b), (1, .ref (ad 0)), (2, .ref (la 0)), (3, .ref (la 1)), (4, .ref (la 2)), (5, .ref (la 3)), (6, .ref (la 4)), (7, .int (nI T)), (8, .int x)] [] := by
  obtain ⟨o, h8, ho, ho6, hh, hle⟩ := id hI.2.2
  refine v_iconst (v := 5) C dL_law_154 rfl ic_5 ?_
  refine v_aload_n C dL_law_155 rfl 2 2 rfl rfl ?_
  refine v_iconst (v := 5) C dL_law_156 rfl ic_5 ?_
  refine v_aldL C K 0 6 rfl (5) (rfl) (by omega) (by decide) dL_law_157 rfl ?_
  refine v_top (nI n) ((hR.q (by decide)).trans hR.w.1.1) ?_
  refine v_imul C dL_law_158 rfl ?_
  refine v_top (nI (5 * n)) (ix50 n) ?_
  refine v_istore (lv' := [(12, _), (0, _), (1, _), (2, _), (3, _), (4, _), (5, _), (6, _), (7, _), (8, _)]) C dL_law_159 rfl (by decide) rfl ?_
  refine v_aload_n C dL_law_161 rfl 3 4 rfl rfl ?_
  refine v_iload C dL_law_162 rfl 0 rfl ?_
  refine v_iload C dL_law_164 rfl 9 rfl ?_
  refine v_iconst (v := 3) C dL_law_166 rfl ic_3 ?_
  refine v_ishr C dL_law_167 rfl ?_
  refine v_iconst (v := 4) C dL_law_168 rfl ic_4 ?_
  refine v_callSpd C (c_L_low l _ 4 (by decide) (by decide)) gL_law_L_low rfl hd_L_low.2 ⟨rfl, rfl⟩ ⟨Nat.le_of_ble_eq_true rfl, Nat.le_of_ble_eq_true rfl⟩ rfl rfl (Nat.le_of_ble_eq_true rfl) ⟨Nat.le_of_ble_eq_true rfl, Nat.le_of_ble_eq_true rfl⟩ dL_law_169 rfl ?_
  obtain ⟨a0, ha0, ea0⟩ : ∃ z : Nat, z < 4 ∧ nI (lw9 (x >>> ((3 : Int32) &&& 31)) 4) = nI z := ⟨lw9 (x >>> ((3 : Int32) &&& 31)) 4, lw9_lt _ (by decide), rfl⟩
  refine v_top (nI a0) (ea0) ?_
  refine v_astL C K 1 40 rfl (lW_a1 la cI _) (5 * n) (rfl) (by omega) (by decide) dL_law_172 rfl ?_
  refine v_aload_n C dL_law_173 rfl 3 4 rfl rfl ?_
  refine v_iload C dL_law_174 rfl 0 rfl ?_
  refine v_iconst (v := 1) C dL_law_176 rfl ic_1 ?_
  refine v_iadd C dL_law_177 rfl ?_
  refine v_iconst (v := 1) C dL_law_178 rfl ic_1 ?_
  refine v_iload C dL_law_179 rfl 9 rfl ?_
  refine v_iconst (v := 5) C dL_law_181 rfl ic_5 ?_
  refine v_ishr C dL_law_182 rfl ?_
  refine v_sipush (v := 999) C dL_law_183 rfl sp_999 ?_
  refine v_callSpd C (c_L_low l _ 999 (by decide) (by decide)) gL_law_L_low rfl hd_L_low.2 ⟨rfl, rfl⟩ ⟨Nat.le_of_ble_eq_true rfl, Nat.le_of_ble_eq_true rfl⟩ rfl rfl (Nat.le_of_ble_eq_true rfl) ⟨Nat.le_of_ble_eq_true rfl, Nat.le_of_ble_eq_true rfl⟩ dL_law_186 rfl ?_
  obtain ⟨a1, ha1, ea1⟩ : ∃ z : Nat, z < 999 ∧ nI (lw9 (x >>> ((5 : Int32) &&& 31)) 999) = nI z := ⟨lw9 (x >>> ((5 : Int32) &&& 31)) 999, lw9_lt _ (by decide), rfl⟩
  refine v_top (nI a1) (ea1) ?_
  refine v_iadd C dL_law_189 rfl ?_
  refine v_top (nI (1 + a1)) (nI_add 1 a1) ?_
  refine v_astL C K 1 40 rfl (lW_a1 la cI _) (5 * n + 1) (nI_add (5 * n) 1) (by omega) (by decide) dL_law_190 rfl ?_
  refine v_aload_n C dL_law_191 rfl 3 4 rfl rfl ?_
  refine v_iload C dL_law_192 rfl 0 rfl ?_
  refine v_iconst (v := 2) C dL_law_194 rfl ic_2 ?_
  refine v_iadd C dL_law_195 rfl ?_
  refine v_iload C dL_law_196 rfl 9 rfl ?_
  refine v_bipush (v := 7) C dL_law_198 rfl bp_7 ?_
  refine v_ishr C dL_law_200 rfl ?_
  refine v_sipush (v := 501) C dL_law_201 rfl sp_501 ?_
  refine v_callSpd C (c_L_low l _ 501 (by decide) (by decide)) gL_law_L_low rfl hd_L_low.2 ⟨rfl, rfl⟩ ⟨Nat.le_of_ble_eq_true rfl, Nat.le_of_ble_eq_true rfl⟩ rfl rfl (Nat.le_of_ble_eq_true rfl) ⟨Nat.le_of_ble_eq_true rfl, Nat.le_of_ble_eq_true rfl⟩ dL_law_204 rfl ?_
  obtain ⟨a2, ha2, ea2⟩ : ∃ z : Nat, z < 501 ∧ nI (lw9 (x >>> ((7 : Int32) &&& 31)) 501) = nI z := ⟨lw9 (x >>> ((7 : Int32) &&& 31)) 501, lw9_lt _ (by decide), rfl⟩
  refine v_top (nI a2) (ea2) ?_
  refine v_astL C K 1 40 rfl (lW_a1 la cI _) (5 * n + 2) (nI_add (5 * n) 2) (by omega) (by decide) dL_law_207 rfl ?_
  refine v_aload_n C dL_law_208 rfl 3 4 rfl rfl ?_
  refine v_iload C dL_law_209 rfl 0 rfl ?_
  refine v_iconst (v := 3) C dL_law_211 rfl ic_3 ?_
  refine v_iadd C dL_law_212 rfl ?_
  refine v_bipush (v := 20) C dL_law_213 rfl bp_20 ?_
  refine v_iload C dL_law_215 rfl 9 rfl ?_
  refine v_bipush (v := 9) C dL_law_217 rfl bp_9 ?_
  refine v_ishr C dL_law_219 rfl ?_
  refine v_bipush (v := 71) C dL_law_220 rfl bp_71 ?_
  refine v_callSpd C (c_L_low l _ 71 (by decide) (by decide)) gL_law_L_low rfl hd_L_low.2 ⟨rfl, rfl⟩ ⟨Nat.le_of_ble_eq_true rfl, Nat.le_of_ble_eq_true rfl⟩ rfl rfl (Nat.le_of_ble_eq_true rfl) ⟨Nat.le_of_ble_eq_true rfl, Nat.le_of_ble_eq_true rfl⟩ dL_law_222 rfl ?_
  obtain ⟨a3, ha3, ea3⟩ : ∃ z : Nat, z < 71 ∧ nI (lw9 (x >>> ((9 : Int32) &&& 31)) 71) = nI z := ⟨lw9 (x >>> ((9 : Int32) &&& 31)) 71, lw9_lt _ (by decide), rfl⟩
  refine v_top (nI a3) (ea3) ?_
  refine v_iadd C dL_law_225 rfl ?_
  refine v_top (nI (20 + a3)) (nI_add 20 a3) ?_
  refine v_astL C K 1 40 rfl (lW_a1 la cI _) (5 * n + 3) (nI_add (5 * n) 3) (by omega) (by decide) dL_law_226 rfl ?_
  refine v_aload_n C dL_law_227 rfl 3 4 rfl rfl ?_
  refine v_iload C dL_law_228 rfl 0 rfl ?_
  refine v_iconst (v := 4) C dL_law_230 rfl ic_4 ?_
  refine v_iadd C dL_law_231 rfl ?_
  refine v_iload C dL_law_232 rfl 9 rfl ?_
  refine v_bipush (v := 11) C dL_law_234 rfl bp_11 ?_
  refine v_ishr C dL_law_236 rfl ?_
  refine v_bipush (v := 20) C dL_law_237 rfl bp_20 ?_
  refine v_callSpd C (c_L_low l _ 20 (by decide) (by decide)) gL_law_L_low rfl hd_L_low.2 ⟨rfl, rfl⟩ ⟨Nat.le_of_ble_eq_true rfl, Nat.le_of_ble_eq_true rfl⟩ rfl rfl (Nat.le_of_ble_eq_true rfl) ⟨Nat.le_of_ble_eq_true rfl, Nat.le_of_ble_eq_true rfl⟩ dL_law_239 rfl ?_
  obtain ⟨a4, ha4, ea4⟩ : ∃ z : Nat, z < 20 ∧ nI (lw9 (x >>> ((11 : Int32) &&& 31)) 20) = nI z := ⟨lw9 (x >>> ((11 : Int32) &&& 31)) 20, lw9_lt _ (by decide), rfl⟩
  refine v_top (nI a4) (ea4) ?_
  refine v_astL C K 1 40 rfl (lW_a1 la cI _) (5 * n + 4) (nI_add (5 * n) 4) (by omega) (by decide) dL_law_242 rfl ?_
  refine v_st (u, st9 t 1 (fr5 (t 1) n (nI a0) (nI (1 + a1)) (nI a2) (nI (20 + a3)) (nI a4))) (congrArg (Prod.mk u) (by simp only [st9_s, st_tw, fr5])) ?_
  refine v_aload_n C dL_law_243 rfl 1 2 rfl rfl ?_
  refine v_aload_n C dL_law_244 rfl 3 4 rfl rfl ?_
  refine v_iload C dL_law_245 rfl 0 rfl ?_
  refine v_aldL C K 1 40 rfl (5 * n) (rfl) (by omega) (by decide) dL_law_247 rfl ?_
  refine v_top (nI a0) (by rw [st9_s, f5_0]) ?_
  refine v_aload_n C dL_law_248 rfl 3 4 rfl rfl ?_
  refine v_iload C dL_law_249 rfl 0 rfl ?_
  refine v_iconst (v := 1) C dL_law_251 rfl ic_1 ?_
  refine v_iadd C dL_law_252 rfl ?_
  refine v_aldL C K 1 40 rfl (5 * n + 1) (nI_add (5 * n) 1) (by omega) (by decide) dL_law_253 rfl ?_
  refine v_top (nI (1 + a1)) (by rw [st9_s, f5_1]) ?_
  refine v_aload_n C dL_law_254 rfl 3 4 rfl rfl ?_
  refine v_iload C dL_law_255 rfl 0 rfl ?_
  refine v_iconst (v := 2) C dL_law_257 rfl ic_2 ?_
  refine v_iadd C dL_law_258 rfl ?_
  refine v_aldL C K 1 40 rfl (5 * n + 2) (nI_add (5 * n) 2) (by omega) (by decide) dL_law_259 rfl ?_
  refine v_top (nI a2) (by rw [st9_s, f5_2]) ?_
  refine v_aload_n C dL_law_260 rfl 3 4 rfl rfl ?_
  refine v_iload C dL_law_261 rfl 0 rfl ?_
  refine v_iconst (v := 3) C dL_law_263 rfl ic_3 ?_
  refine v_iadd C dL_law_264 rfl ?_
  refine v_aldL C K 1 40 rfl (5 * n + 3) (nI_add (5 * n) 3) (by omega) (by decide) dL_law_265 rfl ?_
  refine v_top (nI (20 + a3)) (by rw [st9_s, f5_3]) ?_
  refine v_aload_n C dL_law_266 rfl 3 4 rfl rfl ?_
  refine v_iload C dL_law_267 rfl 0 rfl ?_
  refine v_iconst (v := 4) C dL_law_269 rfl ic_4 ?_
  refine v_iadd C dL_law_270 rfl ?_
  refine v_aldL C K 1 40 rfl (5 * n + 4) (nI_add (5 * n) 4) (by omega) (by decide) dL_law_271 rfl ?_
  refine v_top (nI a4) (by rw [st9_s, f5_4]) ?_
  refine v_cI C K (nI n) (IC (film9 g n (nI a0) (nI (1 + a1)) (nI a2) (nI (20 + a3)) (nI a4)) (n + 1)) (c_X4_film l D ad cI cC cZ cQ u n hI.w o ho ho6 h8 hh hle (nI a0) (nI (1 + a1)) (nI a2) (nI (20 + a3)) (nI a4)) gL_law_X4_film rfl hd_X4_film ⟨rfl, rfl⟩ ⟨Nat.le_of_ble_eq_true rfl, Nat.le_of_ble_eq_true rfl⟩ 0 rfl rfl rfl rfl rfl (Nat.le_of_ble_eq_true rfl) ⟨Nat.le_of_ble_eq_true rfl, Nat.le_of_ble_eq_true rfl⟩ dL_law_272 rfl (fun r v h => ip_film hI ho ho6 hh hle hn (by omega) (by omega) (by omega) (by omega) (by omega) (by omega) (by omega) h) (fun u hI => ?_)
  refine v_aload_n C dL_law_275 rfl 2 3 rfl rfl ?_
  refine v_iconst (v := 5) C dL_law_276 rfl ic_5 ?_
  refine v_dup2 C dL_law_277 rfl rfl rfl ?_
  refine v_aldL C K 0 6 rfl (5) (rfl) (by omega) (by decide) dL_law_278 rfl ?_
  refine v_top (nI n) (by rw [st9_n _ _ (by decide)]; exact (hR.q (by decide)).trans hR.w.1.1) ?_
  refine v_dup_x2 C dL_law_279 rfl rfl rfl rfl ?_
  refine v_iconst (v := 1) C dL_law_280 rfl ic_1 ?_
  refine v_iadd C dL_law_281 rfl ?_
  refine v_top (nI (n + 1)) (nI_1 n) ?_
  refine v_astL C K 0 6 rfl (lW_a0 la cI _) (5) (rfl) (by omega) (by decide) dL_law_282 rfl ?_
  refine v_icmp_eq C 288 dL_law_283 (by decide) rfl (fun _ => ?_) (fun h9 => absurd (rfl) h9)
  refine v_goto C 1073 dL_law_288 (by decide) ?_
  refine v_lv (lv' := [(0, _), (1, _), (2, _), (3, _), (4, _), (5, _), (6, _), (7, _), (8, _)]) [1, 2, 3, 4, 5, 6, 7, 8, 9] rfl ?_
  exact kk _ _ _ hI (hR.film hn hI.2.1)
set_option maxHeartbeats 4000000 in
set_option maxRecDepth 100000 in
theorem lc_show {p : Program} {l : Launch} {e : Env} {s : State} {m : MethodId} {below : List Frame} {meth : Method} {c : Code} {Q : State → Prop} {D : va_G} {cI cC cZ cQ : ClassId} {ad la : Nat → Nat} {b : Nat} (C : CX p m c cL_law 19 s #[Value.ref b] wsL_law RL (fun q => s.heap.size ≤ q) s.heap) (K : va_K D vwCl (cTy cI cC cZ cQ) s) {T : Nat} {x : Int32} {g : Nat → Int32} {n : Nat} {u t : S9} (hI : IC g n u) (hR : LR g n t) {d q : Nat} (hd : d < 35) (hq : q < 2) (hn3 : 3 ≤ n) (kk : ∀ (g : Nat → Int32) (u t : S9), IC g n u → LR g n t → VV p l e room_1 s m #[Value.ref b] below meth c 600000 7302250 Q (PW ad la cI cC cZ cQ) D (fun q => s.heap.size ≤ q) s.heap 19 (u, t) 1073 [(0, .ref b), (1, .ref (ad 0)), (2, .ref (la 0)), (3, .ref (la 1)), (4, .ref (la 2)), (5, .ref (la 3)), (6, .ref (la 4)), (7, .int (nI T)), (8, .int x)] []) : VV p l e room_1 s m #[Value.ref b] below meth c 600000 7302250 Q (PW ad la cI cC cZ cQ) D (fun q => s.heap.size ≤ q) s.heap 19 (u, t) 298 [(0, .ref b), (1, .ref (ad 0)), (2, .ref (la 0)), (3, .ref (la 1)), (4, .ref (la 2)), (5, .ref (la 3)), (6, .ref (la 4)), (7, .int (nI T)), (8, .int x), (10, .int (nI d)), (11, .int (nI q))] [] := by
  have hn8 := hR.n8
  refine v_iconst (v := 0) C dL_law_298 rfl ic_0 ?_
  refine v_istore (lv' := [(12, _), (0, _), (1, _), (2, _), (3, _), (4, _), (5, _), (6, _), (7, _), (8, _), (10, _), (11, _)]) C dL_law_299 rfl (by decide) rfl ?_
  have LP301 : ∀ i, i ≤ 3 → ∀ (g : Nat → Int32) (u t : S9), IC g n u → LR g n t → VV p l e room_1 s m #[Value.ref b] below meth c 600000 7302250 Q (PW ad la cI cC cZ cQ) D (fun q => s.heap.size ≤ q) s.heap 19 (u, t) 301 [(0, .ref b), (1, .ref (ad 0)), (2, .ref (la 0)), (3, .ref (la 1)), (4, .ref (la 2)), (5, .ref (la 3)), (6, .ref (la 4)), (7, .int (nI T)), (8, .int x), (10, .int (nI d)), (11, .int (nI q)), (12, .int (nI i))] [] := by
    refine lpB9 (fun i => ∀ (g : Nat → Int32) (u t : S9), IC g n u → LR g n t → VV p l e room_1 s m #[Value.ref b] below meth c 600000 7302250 Q (PW ad la cI cC cZ cQ) D (fun q => s.heap.size ≤ q) s.heap 19 (u, t) 301 [(0, .ref b), (1, .ref (ad 0)), (2, .ref (la 0)), (3, .ref (la 1)), (4, .ref (la 2)), (5, .ref (la 3)), (6, .ref (la 4)), (7, .int (nI T)), (8, .int x), (10, .int (nI d)), (11, .int (nI q)), (12, .int (nI i))] []) 3 (fun i hi ih => ?_) ?_
    · intro g u t hI hR
      refine v_iload C dL_law_301 rfl 11 rfl ?_
      refine v_iconst (v := 3) C dL_law_303 rfl ic_3 ?_
      refine v_icmp_ge C 517 dL_law_304 (by decide) rfl (fun h9 => absurd h9 (nI_ge hi (by decide))) (fun _ => ?_)
      refine v_iload C dL_law_307 rfl 9 rfl ?_
      refine v_iconst (v := 5) C dL_law_309 rfl ic_5 ?_
      refine v_iload C dL_law_310 rfl 11 rfl ?_
      refine v_imul C dL_law_312 rfl ?_
      refine v_iadd C dL_law_313 rfl ?_
      refine v_top (nI (d + 5 * i)) (by rw [ix50, nI_add]) ?_
      refine v_bipush (v := 35) C dL_law_314 rfl bp_35 ?_
      refine v_irem C dL_law_316 rfl (by decide) ?_
      obtain ⟨d2, hd2, ed2⟩ : ∃ z : Nat, z < 35 ∧ nI ((d + 5 * i) % 35) = nI z := ⟨(d + 5 * i) % 35, Nat.mod_lt _ (by decide), rfl⟩
      refine v_top (nI d2) ((pk_rem (by omega) (by decide) (by decide)).trans ed2) ?_
      refine v_istore (lv' := [(13, _), (0, _), (1, _), (2, _), (3, _), (4, _), (5, _), (6, _), (7, _), (8, _), (10, _), (11, _), (12, _)]) C dL_law_317 rfl (by decide) rfl ?_
      refine v_iload C dL_law_319 rfl 9 rfl ?_
      refine v_bipush (v := 8) C dL_law_321 rfl bp_8 ?_
      refine v_iload C dL_law_323 rfl 12 rfl ?_
      refine v_iadd C dL_law_325 rfl ?_
      refine v_ishr C dL_law_326 rfl ?_
      refine v_aload_n C dL_law_327 rfl 2 3 rfl rfl ?_
      refine v_iconst (v := 5) C dL_law_328 rfl ic_5 ?_
      refine v_aldL C K 0 6 rfl (5) (rfl) (by omega) (by decide) dL_law_329 rfl ?_
      refine v_top (nI n) ((hR.q (by decide)).trans hR.w.1.1) ?_
      refine v_callSpd C (c_L_low l _ n (by omega) (by omega)) gL_law_L_low rfl hd_L_low.2 ⟨rfl, rfl⟩ ⟨Nat.le_of_ble_eq_true rfl, Nat.le_of_ble_eq_true rfl⟩ rfl rfl (Nat.le_of_ble_eq_true rfl) ⟨Nat.le_of_ble_eq_true rfl, Nat.le_of_ble_eq_true rfl⟩ dL_law_330 rfl ?_
      obtain ⟨f, hf, ef⟩ : ∃ z : Nat, z < n ∧ nI (lw9 (x >>> (((8 : Int32) + nI i) &&& 31)) n) = nI z := ⟨lw9 (x >>> (((8 : Int32) + nI i) &&& 31)) n, lw9_lt _ (by omega), rfl⟩
      refine v_top (nI f) (ef) ?_
      refine v_istore (lv' := [(14, _), (13, _), (0, _), (1, _), (2, _), (3, _), (4, _), (5, _), (6, _), (7, _), (8, _), (10, _), (11, _), (12, _)]) C dL_law_333 rfl (by decide) rfl ?_
      refine v_aload C dL_law_335 rfl 8 rfl ?_
      refine v_iload C dL_law_337 rfl 1 rfl ?_
      refine v_aldL C K 4 35 rfl (d2) (rfl) (by omega) (by decide) dL_law_339 rfl ?_
      refine v_top (g (116 + d2)) (hR.r hd2) ?_
      refine v_if_ne C 360 dL_law_340 (by decide) rfl (fun h340 => ?_) (fun h340f => ?_)
      · skip
        have hcs : p_canShow g f d2 = 0 := cs_let hR.w hd2 h340
        refine v_iconst (v := 0) C dL_law_360 rfl ic_0 ?_
        refine v_istore (lv' := [(15, _), (14, _), (13, _), (0, _), (1, _), (2, _), (3, _), (4, _), (5, _), (6, _), (7, _), (8, _), (10, _), (11, _), (12, _)]) C dL_law_361 rfl (by decide) rfl ?_
        have hk9 : 2 * d2 + q < 70 := by omega
        refine v_iload C dL_law_363 rfl 2 rfl ?_
        refine v_iload C dL_law_365 rfl 13 rfl ?_
        refine v_aload C dL_law_367 rfl 7 rfl ?_
        refine v_aload C dL_law_369 rfl 8 rfl ?_
        refine v_cR C K (c_L_film l D la cI cC cZ cQ _ g n hR d2 q hd2 hq) gL_law_L_film rfl hd_L_film.2 ⟨rfl, rfl⟩ ⟨Nat.le_of_ble_eq_true rfl, Nat.le_of_ble_eq_true rfl⟩ rfl rfl (Nat.le_of_ble_eq_true rfl) ⟨Nat.le_of_ble_eq_true rfl, Nat.le_of_ble_eq_true rfl⟩ dL_law_371 rfl ?_
        refine v_istore (lv' := [(16, _), (15, _), (14, _), (13, _), (0, _), (1, _), (2, _), (3, _), (4, _), (5, _), (6, _), (7, _), (8, _), (10, _), (11, _), (12, _)]) C dL_law_374 rfl (by decide) rfl ?_
        refine v_aload_n C dL_law_376 rfl 2 6 rfl rfl ?_
        refine v_aload_n C dL_law_377 rfl 3 7 rfl rfl ?_
        refine v_aload C dL_law_378 rfl 8 rfl ?_
        refine v_aload C dL_law_380 rfl 9 rfl ?_
        refine v_aload C dL_law_382 rfl 10 rfl ?_
        refine v_cR C K (c_L_left l D la cI cC cZ cQ _ g n hR) gL_law_L_left rfl hd_L_left.2 ⟨rfl, rfl⟩ ⟨Nat.le_of_ble_eq_true rfl, Nat.le_of_ble_eq_true rfl⟩ rfl rfl (Nat.le_of_ble_eq_true rfl) ⟨Nat.le_of_ble_eq_true rfl, Nat.le_of_ble_eq_true rfl⟩ dL_law_384 rfl ?_
        refine v_istore (lv' := [(17, _), (16, _), (15, _), (14, _), (13, _), (0, _), (1, _), (2, _), (3, _), (4, _), (5, _), (6, _), (7, _), (8, _), (10, _), (11, _), (12, _)]) C dL_law_387 rfl (by decide) rfl ?_
        refine v_aload_n C dL_law_389 rfl 1 6 rfl rfl ?_
        refine v_iload C dL_law_390 rfl 3 rfl ?_
        refine v_iload C dL_law_392 rfl 4 rfl ?_
        refine v_iload C dL_law_394 rfl 15 rfl ?_
        refine v_cI C K (-5) (IC g n) (c_X4_ifShown l D ad cI cC cZ cQ u n hI.w (nI f) (nI d2) (nI q)) gL_law_X4_ifShown rfl hd_X4_ifShown ⟨rfl, rfl⟩ ⟨Nat.le_of_ble_eq_true rfl, Nat.le_of_ble_eq_true rfl⟩ 0 rfl rfl rfl rfl rfl (Nat.le_of_ble_eq_true rfl) ⟨Nat.le_of_ble_eq_true rfl, Nat.le_of_ble_eq_true rfl⟩ dL_law_396 rfl (fun r v h => ip_ifsN hI hf hd2 hq hcs h) (fun u hI => ?_)
        refine v_istore (lv' := [(18, _), (17, _), (16, _), (15, _), (14, _), (13, _), (0, _), (1, _), (2, _), (3, _), (4, _), (5, _), (6, _), (7, _), (8, _), (10, _), (11, _), (12, _)]) C dL_law_399 rfl (by decide) rfl ?_
        obtain ⟨o, h8, ho, ho6, hh, hle⟩ := id hI.2.2
        refine v_aload_n C dL_law_401 rfl 1 7 rfl rfl ?_
        refine v_iload C dL_law_402 rfl 4 rfl ?_
        refine v_iload C dL_law_404 rfl 5 rfl ?_
        refine v_iload C dL_law_406 rfl 16 rfl ?_
        refine v_cI C K (-5) (IC g n) (c_X4_show l D ad cI cC cZ cQ u n hI.w o ho ho6 h8 hh hle (nI f) (nI d2) (nI q)) gL_law_X4_show rfl hd_X4_show ⟨rfl, rfl⟩ ⟨Nat.le_of_ble_eq_true rfl, Nat.le_of_ble_eq_true rfl⟩ 0 rfl rfl rfl rfl rfl (Nat.le_of_ble_eq_true rfl) ⟨Nat.le_of_ble_eq_true rfl, Nat.le_of_ble_eq_true rfl⟩ dL_law_408 rfl (fun r v h => ip_showN hI hf hd2 hq hcs h) (fun u hI => ?_)
        refine v_iload C dL_law_411 rfl 3 rfl ?_
        refine v_if_eq C 431 dL_law_413 (by decide) rfl (fun _ => ?_) (fun h9 => absurd (rfl) h9)
        refine v_bipush (v := -5) C dL_law_431 rfl bp_m5 ?_
        refine v_icmp_eq C 438 dL_law_433 (by decide) rfl (fun _ => ?_) (fun h9 => absurd (rfl) h9)
        refine v_iload C dL_law_438 rfl 3 rfl ?_
        refine v_if_eq C 457 dL_law_440 (by decide) rfl (fun _ => ?_) (fun h9 => absurd (rfl) h9)
        refine v_iload C dL_law_457 rfl 3 rfl ?_
        refine v_if_eq C 477 dL_law_459 (by decide) rfl (fun _ => ?_) (fun h9 => absurd (rfl) h9)
        refine v_iload C dL_law_477 rfl 0 rfl ?_
        refine v_iload C dL_law_479 rfl 3 rfl ?_
        refine v_if_eq C 504 dL_law_481 (by decide) rfl (fun _ => ?_) (fun h9 => absurd (rfl) h9)
        refine v_bipush (v := -5) C dL_law_504 rfl bp_m5 ?_
        refine v_icmp_eq C 511 dL_law_506 (by decide) rfl (fun _ => ?_) (fun h9 => absurd (rfl) h9)
        refine v_iinc (lv' := [(12, _), (18, _), (17, _), (16, _), (15, _), (14, _), (13, _), (0, _), (1, _), (2, _), (3, _), (4, _), (5, _), (6, _), (7, _), (8, _), (10, _), (11, _)]) C dL_law_511 rfl 17 rfl (inc9 _) (by decide) rfl ?_
        refine v_goto C 301 dL_law_514 (by decide) ?_
        refine v_lv (lv' := [(0, _), (1, _), (2, _), (3, _), (4, _), (5, _), (6, _), (7, _), (8, _), (10, _), (11, _), (12, _)]) [7, 8, 9, 10, 11, 12, 13, 14, 15, 16, 17, 0] rfl ?_
        exact ih _ _ _ hI hR
      · skip
        refine v_iload C dL_law_343 rfl 1 rfl ?_
        refine v_aload_n C dL_law_345 rfl 3 5 rfl rfl ?_
        refine v_iconst (v := 5) C dL_law_346 rfl ic_5 ?_
        refine v_iload C dL_law_347 rfl 0 rfl ?_
        refine v_imul C dL_law_349 rfl ?_
        refine v_iconst (v := 4) C dL_law_350 rfl ic_4 ?_
        refine v_iadd C dL_law_351 rfl ?_
        refine v_aldL C K 1 40 rfl (5 * f + 4) (ix5 f 4) (by omega) (by decide) dL_law_352 rfl ?_
        refine v_top (g (6 + 5 * f + 4)) (hR.f 4 hf (by decide)) ?_
        refine v_icmp_lt C 360 dL_law_353 (by decide) rfl (fun h353 => ?_) (fun h353f => ?_)
        · skip
          have hcs : p_canShow g f d2 = 0 := cs_first h353
          refine v_iconst (v := 0) C dL_law_360 rfl ic_0 ?_
          refine v_istore (lv' := [(15, _), (14, _), (13, _), (0, _), (1, _), (2, _), (3, _), (4, _), (5, _), (6, _), (7, _), (8, _), (10, _), (11, _), (12, _)]) C dL_law_361 rfl (by decide) rfl ?_
          have hk9 : 2 * d2 + q < 70 := by omega
          refine v_iload C dL_law_363 rfl 2 rfl ?_
          refine v_iload C dL_law_365 rfl 13 rfl ?_
          refine v_aload C dL_law_367 rfl 7 rfl ?_
          refine v_aload C dL_law_369 rfl 8 rfl ?_
          refine v_cR C K (c_L_film l D la cI cC cZ cQ _ g n hR d2 q hd2 hq) gL_law_L_film rfl hd_L_film.2 ⟨rfl, rfl⟩ ⟨Nat.le_of_ble_eq_true rfl, Nat.le_of_ble_eq_true rfl⟩ rfl rfl (Nat.le_of_ble_eq_true rfl) ⟨Nat.le_of_ble_eq_true rfl, Nat.le_of_ble_eq_true rfl⟩ dL_law_371 rfl ?_
          refine v_istore (lv' := [(16, _), (15, _), (14, _), (13, _), (0, _), (1, _), (2, _), (3, _), (4, _), (5, _), (6, _), (7, _), (8, _), (10, _), (11, _), (12, _)]) C dL_law_374 rfl (by decide) rfl ?_
          refine v_aload_n C dL_law_376 rfl 2 6 rfl rfl ?_
          refine v_aload_n C dL_law_377 rfl 3 7 rfl rfl ?_
          refine v_aload C dL_law_378 rfl 8 rfl ?_
          refine v_aload C dL_law_380 rfl 9 rfl ?_
          refine v_aload C dL_law_382 rfl 10 rfl ?_
          refine v_cR C K (c_L_left l D la cI cC cZ cQ _ g n hR) gL_law_L_left rfl hd_L_left.2 ⟨rfl, rfl⟩ ⟨Nat.le_of_ble_eq_true rfl, Nat.le_of_ble_eq_true rfl⟩ rfl rfl (Nat.le_of_ble_eq_true rfl) ⟨Nat.le_of_ble_eq_true rfl, Nat.le_of_ble_eq_true rfl⟩ dL_law_384 rfl ?_
          refine v_istore (lv' := [(17, _), (16, _), (15, _), (14, _), (13, _), (0, _), (1, _), (2, _), (3, _), (4, _), (5, _), (6, _), (7, _), (8, _), (10, _), (11, _), (12, _)]) C dL_law_387 rfl (by decide) rfl ?_
          refine v_aload_n C dL_law_389 rfl 1 6 rfl rfl ?_
          refine v_iload C dL_law_390 rfl 3 rfl ?_
          refine v_iload C dL_law_392 rfl 4 rfl ?_
          refine v_iload C dL_law_394 rfl 15 rfl ?_
          refine v_cI C K (-5) (IC g n) (c_X4_ifShown l D ad cI cC cZ cQ u n hI.w (nI f) (nI d2) (nI q)) gL_law_X4_ifShown rfl hd_X4_ifShown ⟨rfl, rfl⟩ ⟨Nat.le_of_ble_eq_true rfl, Nat.le_of_ble_eq_true rfl⟩ 0 rfl rfl rfl rfl rfl (Nat.le_of_ble_eq_true rfl) ⟨Nat.le_of_ble_eq_true rfl, Nat.le_of_ble_eq_true rfl⟩ dL_law_396 rfl (fun r v h => ip_ifsN hI hf hd2 hq hcs h) (fun u hI => ?_)
          refine v_istore (lv' := [(18, _), (17, _), (16, _), (15, _), (14, _), (13, _), (0, _), (1, _), (2, _), (3, _), (4, _), (5, _), (6, _), (7, _), (8, _), (10, _), (11, _), (12, _)]) C dL_law_399 rfl (by decide) rfl ?_
          obtain ⟨o, h8, ho, ho6, hh, hle⟩ := id hI.2.2
          refine v_aload_n C dL_law_401 rfl 1 7 rfl rfl ?_
          refine v_iload C dL_law_402 rfl 4 rfl ?_
          refine v_iload C dL_law_404 rfl 5 rfl ?_
          refine v_iload C dL_law_406 rfl 16 rfl ?_
          refine v_cI C K (-5) (IC g n) (c_X4_show l D ad cI cC cZ cQ u n hI.w o ho ho6 h8 hh hle (nI f) (nI d2) (nI q)) gL_law_X4_show rfl hd_X4_show ⟨rfl, rfl⟩ ⟨Nat.le_of_ble_eq_true rfl, Nat.le_of_ble_eq_true rfl⟩ 0 rfl rfl rfl rfl rfl (Nat.le_of_ble_eq_true rfl) ⟨Nat.le_of_ble_eq_true rfl, Nat.le_of_ble_eq_true rfl⟩ dL_law_408 rfl (fun r v h => ip_showN hI hf hd2 hq hcs h) (fun u hI => ?_)
          refine v_iload C dL_law_411 rfl 3 rfl ?_
          refine v_if_eq C 431 dL_law_413 (by decide) rfl (fun _ => ?_) (fun h9 => absurd (rfl) h9)
          refine v_bipush (v := -5) C dL_law_431 rfl bp_m5 ?_
          refine v_icmp_eq C 438 dL_law_433 (by decide) rfl (fun _ => ?_) (fun h9 => absurd (rfl) h9)
          refine v_iload C dL_law_438 rfl 3 rfl ?_
          refine v_if_eq C 457 dL_law_440 (by decide) rfl (fun _ => ?_) (fun h9 => absurd (rfl) h9)
          refine v_iload C dL_law_457 rfl 3 rfl ?_
          refine v_if_eq C 477 dL_law_459 (by decide) rfl (fun _ => ?_) (fun h9 => absurd (rfl) h9)
          refine v_iload C dL_law_477 rfl 0 rfl ?_
          refine v_iload C dL_law_479 rfl 3 rfl ?_
          refine v_if_eq C 504 dL_law_481 (by decide) rfl (fun _ => ?_) (fun h9 => absurd (rfl) h9)
          refine v_bipush (v := -5) C dL_law_504 rfl bp_m5 ?_
          refine v_icmp_eq C 511 dL_law_506 (by decide) rfl (fun _ => ?_) (fun h9 => absurd (rfl) h9)
          refine v_iinc (lv' := [(12, _), (18, _), (17, _), (16, _), (15, _), (14, _), (13, _), (0, _), (1, _), (2, _), (3, _), (4, _), (5, _), (6, _), (7, _), (8, _), (10, _), (11, _)]) C dL_law_511 rfl 17 rfl (inc9 _) (by decide) rfl ?_
          refine v_goto C 301 dL_law_514 (by decide) ?_
          refine v_lv (lv' := [(0, _), (1, _), (2, _), (3, _), (4, _), (5, _), (6, _), (7, _), (8, _), (10, _), (11, _), (12, _)]) [7, 8, 9, 10, 11, 12, 13, 14, 15, 16, 17, 0] rfl ?_
          exact ih _ _ _ hI hR
        · skip
          have hcs : ¬ p_canShow g f d2 = 0 := cs_can h340f h353f
          refine v_iconst (v := 1) C dL_law_356 rfl ic_1 ?_
          refine v_goto C 361 dL_law_357 (by decide) ?_
          refine v_istore (lv' := [(15, _), (14, _), (13, _), (0, _), (1, _), (2, _), (3, _), (4, _), (5, _), (6, _), (7, _), (8, _), (10, _), (11, _), (12, _)]) C dL_law_361 rfl (by decide) rfl ?_
          have hk9 : 2 * d2 + q < 70 := by omega
          refine v_iload C dL_law_363 rfl 2 rfl ?_
          refine v_iload C dL_law_365 rfl 13 rfl ?_
          refine v_aload C dL_law_367 rfl 7 rfl ?_
          refine v_aload C dL_law_369 rfl 8 rfl ?_
          refine v_cR C K (c_L_film l D la cI cC cZ cQ _ g n hR d2 q hd2 hq) gL_law_L_film rfl hd_L_film.2 ⟨rfl, rfl⟩ ⟨Nat.le_of_ble_eq_true rfl, Nat.le_of_ble_eq_true rfl⟩ rfl rfl (Nat.le_of_ble_eq_true rfl) ⟨Nat.le_of_ble_eq_true rfl, Nat.le_of_ble_eq_true rfl⟩ dL_law_371 rfl ?_
          refine v_istore (lv' := [(16, _), (15, _), (14, _), (13, _), (0, _), (1, _), (2, _), (3, _), (4, _), (5, _), (6, _), (7, _), (8, _), (10, _), (11, _), (12, _)]) C dL_law_374 rfl (by decide) rfl ?_
          refine v_aload_n C dL_law_376 rfl 2 6 rfl rfl ?_
          refine v_aload_n C dL_law_377 rfl 3 7 rfl rfl ?_
          refine v_aload C dL_law_378 rfl 8 rfl ?_
          refine v_aload C dL_law_380 rfl 9 rfl ?_
          refine v_aload C dL_law_382 rfl 10 rfl ?_
          refine v_cR C K (c_L_left l D la cI cC cZ cQ _ g n hR) gL_law_L_left rfl hd_L_left.2 ⟨rfl, rfl⟩ ⟨Nat.le_of_ble_eq_true rfl, Nat.le_of_ble_eq_true rfl⟩ rfl rfl (Nat.le_of_ble_eq_true rfl) ⟨Nat.le_of_ble_eq_true rfl, Nat.le_of_ble_eq_true rfl⟩ dL_law_384 rfl ?_
          refine v_istore (lv' := [(17, _), (16, _), (15, _), (14, _), (13, _), (0, _), (1, _), (2, _), (3, _), (4, _), (5, _), (6, _), (7, _), (8, _), (10, _), (11, _), (12, _)]) C dL_law_387 rfl (by decide) rfl ?_
          refine v_aload_n C dL_law_389 rfl 1 6 rfl rfl ?_
          refine v_iload C dL_law_390 rfl 3 rfl ?_
          refine v_iload C dL_law_392 rfl 4 rfl ?_
          refine v_iload C dL_law_394 rfl 15 rfl ?_
          refine v_cI C K (q_left (upd g (46 + (2 * d2 + q)) (nI f)) (-1) - q_left g (-1) + 1000000) (IC g n) (c_X4_ifShown l D ad cI cC cZ cQ u n hI.w (nI f) (nI d2) (nI q)) gL_law_X4_ifShown rfl hd_X4_ifShown ⟨rfl, rfl⟩ ⟨Nat.le_of_ble_eq_true rfl, Nat.le_of_ble_eq_true rfl⟩ 0 rfl rfl rfl rfl rfl (Nat.le_of_ble_eq_true rfl) ⟨Nat.le_of_ble_eq_true rfl, Nat.le_of_ble_eq_true rfl⟩ dL_law_396 rfl (fun r v h => ip_ifs hI hf hd2 hq hcs h) (fun u hI => ?_)
          refine v_istore (lv' := [(18, _), (17, _), (16, _), (15, _), (14, _), (13, _), (0, _), (1, _), (2, _), (3, _), (4, _), (5, _), (6, _), (7, _), (8, _), (10, _), (11, _), (12, _)]) C dL_law_399 rfl (by decide) rfl ?_
          obtain ⟨o, h8, ho, ho6, hh, hle⟩ := id hI.2.2
          refine v_aload_n C dL_law_401 rfl 1 7 rfl rfl ?_
          refine v_iload C dL_law_402 rfl 4 rfl ?_
          refine v_iload C dL_law_404 rfl 5 rfl ?_
          refine v_iload C dL_law_406 rfl 16 rfl ?_
          refine v_cI C K (g (46 + (2 * d2 + q))) (IC (upd g (46 + (2 * d2 + q)) (nI f)) n) (c_X4_show l D ad cI cC cZ cQ u n hI.w o ho ho6 h8 hh hle (nI f) (nI d2) (nI q)) gL_law_X4_show rfl hd_X4_show ⟨rfl, rfl⟩ ⟨Nat.le_of_ble_eq_true rfl, Nat.le_of_ble_eq_true rfl⟩ 0 rfl rfl rfl rfl rfl (Nat.le_of_ble_eq_true rfl) ⟨Nat.le_of_ble_eq_true rfl, Nat.le_of_ble_eq_true rfl⟩ dL_law_408 rfl (fun r v h => ip_show hI ho ho6 hh hle hf hd2 hq hcs h) (fun u hI => ?_)
          refine v_iload C dL_law_411 rfl 3 rfl ?_
          refine v_if_eq C 431 dL_law_413 (by decide) rfl (fun h9 => absurd h9 (by decide)) (fun _ => ?_)
          refine v_iload C dL_law_416 rfl 2 rfl ?_
          refine v_if_ge C 426 dL_law_418 (by decide) rfl (fun h418 => ?_) (fun h418f => ?_)
          · skip
            obtain ⟨f3, hf3, ef3, e63⟩ := fl0_ge hR.w hk9 h418
            refine v_iload C dL_law_426 rfl 2 rfl ?_
            refine v_goto C 433 dL_law_428 (by decide) ?_
            refine v_icmp_eq C 438 dL_law_433 (by decide) rfl (fun _ => ?_) (fun h9 => absurd (ef3.trans e63.symm) h9)
            refine v_iload C dL_law_438 rfl 3 rfl ?_
            refine v_if_eq C 457 dL_law_440 (by decide) rfl (fun h9 => absurd h9 (by decide)) (fun _ => ?_)
            refine v_iload C dL_law_443 rfl 16 rfl ?_
            refine v_if_ne C 457 dL_law_445 (by decide) rfl (fun h445 => ?_) (fun h445f => ?_)
            · skip
              have hq1 := q01 hq h445
              refine v_iload C dL_law_457 rfl 3 rfl ?_
              refine v_if_eq C 477 dL_law_459 (by decide) rfl (fun h9 => absurd h9 (by decide)) (fun _ => ?_)
              refine v_iload C dL_law_462 rfl 16 rfl ?_
              refine v_iconst (v := 1) C dL_law_464 rfl ic_1 ?_
              refine v_icmp_ne C 477 dL_law_465 (by decide) rfl (fun h9 => absurd h9 (fun z => z (by rw [hq1]; rfl))) (fun _ => ?_)
              refine v_aload C dL_law_468 rfl 11 rfl ?_
              refine v_iload C dL_law_470 rfl 5 rfl ?_
              refine v_iload C dL_law_472 rfl 4 rfl ?_
              refine v_iconst (v := 1) C dL_law_474 rfl ic_1 ?_
              refine v_iadd C dL_law_475 rfl ?_
              refine v_top (sh0 (nI f)) (sh0_f1 (by omega)) ?_
              refine v_astL C K 3 35 rfl (lW_a3 la cI _) (d2) (rfl) (by omega) (by decide) dL_law_476 rfl ?_
              refine v_iload C dL_law_477 rfl 0 rfl ?_
              refine v_iload C dL_law_479 rfl 3 rfl ?_
              refine v_if_eq C 504 dL_law_481 (by decide) rfl (fun h9 => absurd h9 (by decide)) (fun _ => ?_)
              have hR2 := hR.pe (x := nI f) hd2 hq1 (Or.inr ⟨f, hf, rfl⟩)
              refine v_aload_n C dL_law_484 rfl 2 8 rfl rfl ?_
              refine v_aload_n C dL_law_485 rfl 3 9 rfl rfl ?_
              refine v_aload C dL_law_486 rfl 10 rfl ?_
              refine v_aload C dL_law_488 rfl 11 rfl ?_
              refine v_aload C dL_law_490 rfl 12 rfl ?_
              refine v_cR C K (c_L_left l D la cI cC cZ cQ _ (upd g (46 + (2 * d2 + q)) (nI f)) n hR2) gL_law_L_left rfl hd_L_left.2 ⟨rfl, rfl⟩ ⟨Nat.le_of_ble_eq_true rfl, Nat.le_of_ble_eq_true rfl⟩ rfl rfl (Nat.le_of_ble_eq_true rfl) ⟨Nat.le_of_ble_eq_true rfl, Nat.le_of_ble_eq_true rfl⟩ dL_law_492 rfl ?_
              refine v_iload C dL_law_495 rfl 1 rfl ?_
              refine v_isub C dL_law_497 rfl ?_
              refine v_ldc C dL_law_498 rfl ct_L_law_63 ?_
              refine v_iadd C dL_law_500 rfl ?_
              refine v_goto C 506 dL_law_501 (by decide) ?_
              refine v_icmp_eq C 511 dL_law_506 (by decide) rfl (fun _ => ?_) (fun h9 => absurd (rfl) h9)
              refine v_iinc (lv' := [(12, _), (18, _), (17, _), (16, _), (15, _), (14, _), (13, _), (0, _), (1, _), (2, _), (3, _), (4, _), (5, _), (6, _), (7, _), (8, _), (10, _), (11, _)]) C dL_law_511 rfl 17 rfl (inc9 _) (by decide) rfl ?_
              refine v_goto C 301 dL_law_514 (by decide) ?_
              refine v_lv (lv' := [(0, _), (1, _), (2, _), (3, _), (4, _), (5, _), (6, _), (7, _), (8, _), (10, _), (11, _), (12, _)]) [7, 8, 9, 10, 11, 12, 13, 14, 15, 16, 17, 0] rfl ?_
              exact ih _ _ _ hI hR2
            · skip
              have hq0 := q00 hq h445f
              refine v_aload C dL_law_448 rfl 10 rfl ?_
              refine v_iload C dL_law_450 rfl 5 rfl ?_
              refine v_iload C dL_law_452 rfl 4 rfl ?_
              refine v_iconst (v := 1) C dL_law_454 rfl ic_1 ?_
              refine v_iadd C dL_law_455 rfl ?_
              refine v_top (sh0 (nI f)) (sh0_f1 (by omega)) ?_
              refine v_astL C K 2 35 rfl (lW_a2 la cI _) (d2) (rfl) (by omega) (by decide) dL_law_456 rfl ?_
              refine v_iload C dL_law_457 rfl 3 rfl ?_
              refine v_if_eq C 477 dL_law_459 (by decide) rfl (fun h9 => absurd h9 (by decide)) (fun _ => ?_)
              refine v_iload C dL_law_462 rfl 16 rfl ?_
              refine v_iconst (v := 1) C dL_law_464 rfl ic_1 ?_
              refine v_icmp_ne C 477 dL_law_465 (by decide) rfl (fun _ => ?_) (fun h9 => absurd h9 (by rw [hq0]; decide))
              refine v_iload C dL_law_477 rfl 0 rfl ?_
              refine v_iload C dL_law_479 rfl 3 rfl ?_
              refine v_if_eq C 504 dL_law_481 (by decide) rfl (fun h9 => absurd h9 (by decide)) (fun _ => ?_)
              have hR2 := hR.pa (x := nI f) hd2 hq0 (Or.inr ⟨f, hf, rfl⟩)
              refine v_aload_n C dL_law_484 rfl 2 8 rfl rfl ?_
              refine v_aload_n C dL_law_485 rfl 3 9 rfl rfl ?_
              refine v_aload C dL_law_486 rfl 10 rfl ?_
              refine v_aload C dL_law_488 rfl 11 rfl ?_
              refine v_aload C dL_law_490 rfl 12 rfl ?_
              refine v_cR C K (c_L_left l D la cI cC cZ cQ _ (upd g (46 + (2 * d2 + q)) (nI f)) n hR2) gL_law_L_left rfl hd_L_left.2 ⟨rfl, rfl⟩ ⟨Nat.le_of_ble_eq_true rfl, Nat.le_of_ble_eq_true rfl⟩ rfl rfl (Nat.le_of_ble_eq_true rfl) ⟨Nat.le_of_ble_eq_true rfl, Nat.le_of_ble_eq_true rfl⟩ dL_law_492 rfl ?_
              refine v_iload C dL_law_495 rfl 1 rfl ?_
              refine v_isub C dL_law_497 rfl ?_
              refine v_ldc C dL_law_498 rfl ct_L_law_63 ?_
              refine v_iadd C dL_law_500 rfl ?_
              refine v_goto C 506 dL_law_501 (by decide) ?_
              refine v_icmp_eq C 511 dL_law_506 (by decide) rfl (fun _ => ?_) (fun h9 => absurd (rfl) h9)
              refine v_iinc (lv' := [(12, _), (18, _), (17, _), (16, _), (15, _), (14, _), (13, _), (0, _), (1, _), (2, _), (3, _), (4, _), (5, _), (6, _), (7, _), (8, _), (10, _), (11, _)]) C dL_law_511 rfl 17 rfl (inc9 _) (by decide) rfl ?_
              refine v_goto C 301 dL_law_514 (by decide) ?_
              refine v_lv (lv' := [(0, _), (1, _), (2, _), (3, _), (4, _), (5, _), (6, _), (7, _), (8, _), (10, _), (11, _), (12, _)]) [7, 8, 9, 10, 11, 12, 13, 14, 15, 16, 17, 0] rfl ?_
              exact ih _ _ _ hI hR2
          · skip
            have e63 := fl0_n hR.w hk9 h418f
            refine v_bipush (v := -6) C dL_law_421 rfl bp_m6 ?_
            refine v_goto C 433 dL_law_423 (by decide) ?_
            refine v_icmp_eq C 438 dL_law_433 (by decide) rfl (fun _ => ?_) (fun h9 => absurd (e63) h9)
            refine v_iload C dL_law_438 rfl 3 rfl ?_
            refine v_if_eq C 457 dL_law_440 (by decide) rfl (fun h9 => absurd h9 (by decide)) (fun _ => ?_)
            refine v_iload C dL_law_443 rfl 16 rfl ?_
            refine v_if_ne C 457 dL_law_445 (by decide) rfl (fun h445 => ?_) (fun h445f => ?_)
            · skip
              have hq1 := q01 hq h445
              refine v_iload C dL_law_457 rfl 3 rfl ?_
              refine v_if_eq C 477 dL_law_459 (by decide) rfl (fun h9 => absurd h9 (by decide)) (fun _ => ?_)
              refine v_iload C dL_law_462 rfl 16 rfl ?_
              refine v_iconst (v := 1) C dL_law_464 rfl ic_1 ?_
              refine v_icmp_ne C 477 dL_law_465 (by decide) rfl (fun h9 => absurd h9 (fun z => z (by rw [hq1]; rfl))) (fun _ => ?_)
              refine v_aload C dL_law_468 rfl 11 rfl ?_
              refine v_iload C dL_law_470 rfl 5 rfl ?_
              refine v_iload C dL_law_472 rfl 4 rfl ?_
              refine v_iconst (v := 1) C dL_law_474 rfl ic_1 ?_
              refine v_iadd C dL_law_475 rfl ?_
              refine v_top (sh0 (nI f)) (sh0_f1 (by omega)) ?_
              refine v_astL C K 3 35 rfl (lW_a3 la cI _) (d2) (rfl) (by omega) (by decide) dL_law_476 rfl ?_
              refine v_iload C dL_law_477 rfl 0 rfl ?_
              refine v_iload C dL_law_479 rfl 3 rfl ?_
              refine v_if_eq C 504 dL_law_481 (by decide) rfl (fun h9 => absurd h9 (by decide)) (fun _ => ?_)
              have hR2 := hR.pe (x := nI f) hd2 hq1 (Or.inr ⟨f, hf, rfl⟩)
              refine v_aload_n C dL_law_484 rfl 2 8 rfl rfl ?_
              refine v_aload_n C dL_law_485 rfl 3 9 rfl rfl ?_
              refine v_aload C dL_law_486 rfl 10 rfl ?_
              refine v_aload C dL_law_488 rfl 11 rfl ?_
              refine v_aload C dL_law_490 rfl 12 rfl ?_
              refine v_cR C K (c_L_left l D la cI cC cZ cQ _ (upd g (46 + (2 * d2 + q)) (nI f)) n hR2) gL_law_L_left rfl hd_L_left.2 ⟨rfl, rfl⟩ ⟨Nat.le_of_ble_eq_true rfl, Nat.le_of_ble_eq_true rfl⟩ rfl rfl (Nat.le_of_ble_eq_true rfl) ⟨Nat.le_of_ble_eq_true rfl, Nat.le_of_ble_eq_true rfl⟩ dL_law_492 rfl ?_
              refine v_iload C dL_law_495 rfl 1 rfl ?_
              refine v_isub C dL_law_497 rfl ?_
              refine v_ldc C dL_law_498 rfl ct_L_law_63 ?_
              refine v_iadd C dL_law_500 rfl ?_
              refine v_goto C 506 dL_law_501 (by decide) ?_
              refine v_icmp_eq C 511 dL_law_506 (by decide) rfl (fun _ => ?_) (fun h9 => absurd (rfl) h9)
              refine v_iinc (lv' := [(12, _), (18, _), (17, _), (16, _), (15, _), (14, _), (13, _), (0, _), (1, _), (2, _), (3, _), (4, _), (5, _), (6, _), (7, _), (8, _), (10, _), (11, _)]) C dL_law_511 rfl 17 rfl (inc9 _) (by decide) rfl ?_
              refine v_goto C 301 dL_law_514 (by decide) ?_
              refine v_lv (lv' := [(0, _), (1, _), (2, _), (3, _), (4, _), (5, _), (6, _), (7, _), (8, _), (10, _), (11, _), (12, _)]) [7, 8, 9, 10, 11, 12, 13, 14, 15, 16, 17, 0] rfl ?_
              exact ih _ _ _ hI hR2
            · skip
              have hq0 := q00 hq h445f
              refine v_aload C dL_law_448 rfl 10 rfl ?_
              refine v_iload C dL_law_450 rfl 5 rfl ?_
              refine v_iload C dL_law_452 rfl 4 rfl ?_
              refine v_iconst (v := 1) C dL_law_454 rfl ic_1 ?_
              refine v_iadd C dL_law_455 rfl ?_
              refine v_top (sh0 (nI f)) (sh0_f1 (by omega)) ?_
              refine v_astL C K 2 35 rfl (lW_a2 la cI _) (d2) (rfl) (by omega) (by decide) dL_law_456 rfl ?_
              refine v_iload C dL_law_457 rfl 3 rfl ?_
              refine v_if_eq C 477 dL_law_459 (by decide) rfl (fun h9 => absurd h9 (by decide)) (fun _ => ?_)
              refine v_iload C dL_law_462 rfl 16 rfl ?_
              refine v_iconst (v := 1) C dL_law_464 rfl ic_1 ?_
              refine v_icmp_ne C 477 dL_law_465 (by decide) rfl (fun _ => ?_) (fun h9 => absurd h9 (by rw [hq0]; decide))
              refine v_iload C dL_law_477 rfl 0 rfl ?_
              refine v_iload C dL_law_479 rfl 3 rfl ?_
              refine v_if_eq C 504 dL_law_481 (by decide) rfl (fun h9 => absurd h9 (by decide)) (fun _ => ?_)
              have hR2 := hR.pa (x := nI f) hd2 hq0 (Or.inr ⟨f, hf, rfl⟩)
              refine v_aload_n C dL_law_484 rfl 2 8 rfl rfl ?_
              refine v_aload_n C dL_law_485 rfl 3 9 rfl rfl ?_
              refine v_aload C dL_law_486 rfl 10 rfl ?_
              refine v_aload C dL_law_488 rfl 11 rfl ?_
              refine v_aload C dL_law_490 rfl 12 rfl ?_
              refine v_cR C K (c_L_left l D la cI cC cZ cQ _ (upd g (46 + (2 * d2 + q)) (nI f)) n hR2) gL_law_L_left rfl hd_L_left.2 ⟨rfl, rfl⟩ ⟨Nat.le_of_ble_eq_true rfl, Nat.le_of_ble_eq_true rfl⟩ rfl rfl (Nat.le_of_ble_eq_true rfl) ⟨Nat.le_of_ble_eq_true rfl, Nat.le_of_ble_eq_true rfl⟩ dL_law_492 rfl ?_
              refine v_iload C dL_law_495 rfl 1 rfl ?_
              refine v_isub C dL_law_497 rfl ?_
              refine v_ldc C dL_law_498 rfl ct_L_law_63 ?_
              refine v_iadd C dL_law_500 rfl ?_
              refine v_goto C 506 dL_law_501 (by decide) ?_
              refine v_icmp_eq C 511 dL_law_506 (by decide) rfl (fun _ => ?_) (fun h9 => absurd (rfl) h9)
              refine v_iinc (lv' := [(12, _), (18, _), (17, _), (16, _), (15, _), (14, _), (13, _), (0, _), (1, _), (2, _), (3, _), (4, _), (5, _), (6, _), (7, _), (8, _), (10, _), (11, _)]) C dL_law_511 rfl 17 rfl (inc9 _) (by decide) rfl ?_
              refine v_goto C 301 dL_law_514 (by decide) ?_
              refine v_lv (lv' := [(0, _), (1, _), (2, _), (3, _), (4, _), (5, _), (6, _), (7, _), (8, _), (10, _), (11, _), (12, _)]) [7, 8, 9, 10, 11, 12, 13, 14, 15, 16, 17, 0] rfl ?_
              exact ih _ _ _ hI hR2
    · intro g u t hI hR
      refine v_iload C dL_law_301 rfl 11 rfl ?_
      refine v_iconst (v := 3) C dL_law_303 rfl ic_3 ?_
      refine v_icmp_ge C 517 dL_law_304 (by decide) rfl (fun _ => ?_) (fun h9 => absurd (nI_le (Nat.le_refl _) (by decide)) h9)
      refine v_goto C 1073 dL_law_517 (by decide) ?_
      refine v_lv (lv' := [(0, _), (1, _), (2, _), (3, _), (4, _), (5, _), (6, _), (7, _), (8, _)]) [0, 1, 2, 3, 4, 5, 6, 7, 8] rfl ?_
      exact kk _ _ _ hI hR
  refine v_lv (lv' := [(0, _), (1, _), (2, _), (3, _), (4, _), (5, _), (6, _), (7, _), (8, _), (10, _), (11, _), (12, _)]) [1, 2, 3, 4, 5, 6, 7, 8, 9, 10, 11, 0] rfl ?_
  exact LP301 0 (by omega) g u t hI hR
set_option maxHeartbeats 4000000 in
set_option maxRecDepth 100000 in
theorem lc_dropN {p : Program} {l : Launch} {e : Env} {s : State} {m : MethodId} {below : List Frame} {meth : Method} {c : Code} {Q : State → Prop} {D : va_G} {cI cC cZ cQ : ClassId} {ad la : Nat → Nat} {b : Nat} (C : CX p m c cL_law 19 s #[Value.ref b] wsL_law RL (fun q => s.heap.size ≤ q) s.heap) (K : va_K D vwCl (cTy cI cC cZ cQ) s) {T : Nat} {x : Int32} {g : Nat → Int32} {n : Nat} {u t : S9} (hI : IC g n u) (hR : LR g n t) {d q : Nat} (hd : d < 35) (hq : q < 2) (hs : g (46 + (2 * d + q)) = -6) (kk : ∀ (g : Nat → Int32) (u t : S9), IC g n u → LR g n t → VV p l e room_1 s m #[Value.ref b] below meth c 600000 7302250 Q (PW ad la cI cC cZ cQ) D (fun q => s.heap.size ≤ q) s.heap 19 (u, t) 1073 [(0, .ref b), (1, .ref (ad 0)), (2, .ref (la 0)), (3, .ref (la 1)), (4, .ref (la 2)), (5, .ref (la 3)), (6, .ref (la 4)), (7, .int (nI T)), (8, .int x)] []) : VV p l e room_1 s m #[Value.ref b] below meth c 600000 7302250 Q (PW ad la cI cC cZ cQ) D (fun q => s.heap.size ≤ q) s.heap 19 (u, t) 527 [(0, .ref b), (1, .ref (ad 0)), (2, .ref (la 0)), (3, .ref (la 1)), (4, .ref (la 2)), (5, .ref (la 3)), (6, .ref (la 4)), (7, .int (nI T)), (8, .int x), (10, .int (nI d)), (11, .int (nI q))] [] := by
  have hn8 := hR.n8
  have hk9 : 2 * d + q < 70 := by omega
  refine v_iload C dL_law_527 rfl 9 rfl ?_
  refine v_iload C dL_law_529 rfl 10 rfl ?_
  refine v_aload C dL_law_531 rfl 4 rfl ?_
  refine v_aload C dL_law_533 rfl 5 rfl ?_
  refine v_cR C K (c_L_film l D la cI cC cZ cQ _ g n hR d q hd hq) gL_law_L_film rfl hd_L_film.2 ⟨rfl, rfl⟩ ⟨Nat.le_of_ble_eq_true rfl, Nat.le_of_ble_eq_true rfl⟩ rfl rfl (Nat.le_of_ble_eq_true rfl) ⟨Nat.le_of_ble_eq_true rfl, Nat.le_of_ble_eq_true rfl⟩ dL_law_535 rfl ?_
  refine v_istore (lv' := [(12, _), (0, _), (1, _), (2, _), (3, _), (4, _), (5, _), (6, _), (7, _), (8, _), (10, _), (11, _)]) C dL_law_538 rfl (by decide) rfl ?_
  obtain ⟨o, h8, ho, ho6, hh, hle⟩ := id hI.2.2
  refine v_aload_n C dL_law_540 rfl 1 2 rfl rfl ?_
  refine v_iload C dL_law_541 rfl 10 rfl ?_
  refine v_iload C dL_law_543 rfl 11 rfl ?_
  refine v_cI C K (-5) (IC g n) (c_X4_drop l D ad cI cC cZ cQ u o ho ho6 h8 hh hle (nI d) (nI q)) gL_law_X4_drop rfl hd_X4_drop ⟨rfl, rfl⟩ ⟨Nat.le_of_ble_eq_true rfl, Nat.le_of_ble_eq_true rfl⟩ 0 rfl rfl rfl rfl rfl (Nat.le_of_ble_eq_true rfl) ⟨Nat.le_of_ble_eq_true rfl, Nat.le_of_ble_eq_true rfl⟩ dL_law_545 rfl (fun r v h => ip_dropN hI hd hq hs h) (fun u hI => ?_)
  refine v_iload C dL_law_548 rfl 0 rfl ?_
  refine v_if_ge C 558 dL_law_550 (by decide) rfl (fun h9 => absurd h9 (fl0_6 hs)) (fun _ => ?_)
  refine v_bipush (v := -5) C dL_law_553 rfl bp_m5 ?_
  refine v_goto C 560 dL_law_555 (by decide) ?_
  refine v_icmp_eq C 565 dL_law_560 (by decide) rfl (fun _ => ?_) (fun h9 => absurd (rfl) h9)
  refine v_iload C dL_law_565 rfl 11 rfl ?_
  refine v_if_ne C 579 dL_law_567 (by decide) rfl (fun h567 => ?_) (fun h567f => ?_)
  · skip
    have hq1 := q01 hq h567
    refine v_aload C dL_law_579 rfl 6 rfl ?_
    refine v_iload C dL_law_581 rfl 10 rfl ?_
    refine v_iconst (v := 0) C dL_law_583 rfl ic_0 ?_
    refine v_top (sh0 (-6)) (by decide) ?_
    refine v_astL C K 3 35 rfl (lW_a3 la cI _) (d) (rfl) (by omega) (by decide) dL_law_584 rfl ?_
    refine v_goto C 1073 dL_law_585 (by decide) ?_
    refine v_lv (lv' := [(0, _), (1, _), (2, _), (3, _), (4, _), (5, _), (6, _), (7, _), (8, _)]) [1, 2, 3, 4, 5, 6, 7, 8, 9] rfl ?_
    exact kk _ _ _ hI ((hR.pe hd hq1 (Or.inl rfl)).same hs)
  · skip
    have hq0 := q00 hq h567f
    refine v_aload C dL_law_570 rfl 5 rfl ?_
    refine v_iload C dL_law_572 rfl 10 rfl ?_
    refine v_iconst (v := 0) C dL_law_574 rfl ic_0 ?_
    refine v_top (sh0 (-6)) (by decide) ?_
    refine v_astL C K 2 35 rfl (lW_a2 la cI _) (d) (rfl) (by omega) (by decide) dL_law_575 rfl ?_
    refine v_goto C 585 dL_law_576 (by decide) ?_
    refine v_goto C 1073 dL_law_585 (by decide) ?_
    refine v_lv (lv' := [(0, _), (1, _), (2, _), (3, _), (4, _), (5, _), (6, _), (7, _), (8, _)]) [1, 2, 3, 4, 5, 6, 7, 8, 9] rfl ?_
    exact kk _ _ _ hI ((hR.pa hd hq0 (Or.inl rfl)).same hs)
set_option maxHeartbeats 4000000 in
set_option maxRecDepth 100000 in
theorem lc_drop {p : Program} {l : Launch} {e : Env} {s : State} {m : MethodId} {below : List Frame} {meth : Method} {c : Code} {Q : State → Prop} {D : va_G} {cI cC cZ cQ : ClassId} {ad la : Nat → Nat} {b : Nat} (C : CX p m c cL_law 19 s #[Value.ref b] wsL_law RL (fun q => s.heap.size ≤ q) s.heap) (K : va_K D vwCl (cTy cI cC cZ cQ) s) {T : Nat} {x : Int32} {g : Nat → Int32} {n : Nat} {u t : S9} (hI : IC g n u) (hR : LR g n t) {d q : Nat} (hd : d < 35) (hq : q < 2) (hs : ¬ g (46 + (2 * d + q)) = -6) (kk : ∀ (g : Nat → Int32) (u t : S9), IC g n u → LR g n t → VV p l e room_1 s m #[Value.ref b] below meth c 600000 7302250 Q (PW ad la cI cC cZ cQ) D (fun q => s.heap.size ≤ q) s.heap 19 (u, t) 1073 [(0, .ref b), (1, .ref (ad 0)), (2, .ref (la 0)), (3, .ref (la 1)), (4, .ref (la 2)), (5, .ref (la 3)), (6, .ref (la 4)), (7, .int (nI T)), (8, .int x)] []) : VV p l e room_1 s m #[Value.ref b] below meth c 600000 7302250 Q (PW ad la cI cC cZ cQ) D (fun q => s.heap.size ≤ q) s.heap 19 (u, t) 527 [(0, .ref b), (1, .ref (ad 0)), (2, .ref (la 0)), (3, .ref (la 1)), (4, .ref (la 2)), (5, .ref (la 3)), (6, .ref (la 4)), (7, .int (nI T)), (8, .int x), (10, .int (nI d)), (11, .int (nI q))] [] := by
  have hn8 := hR.n8
  have hk9 : 2 * d + q < 70 := by omega
  refine v_iload C dL_law_527 rfl 9 rfl ?_
  refine v_iload C dL_law_529 rfl 10 rfl ?_
  refine v_aload C dL_law_531 rfl 4 rfl ?_
  refine v_aload C dL_law_533 rfl 5 rfl ?_
  refine v_cR C K (c_L_film l D la cI cC cZ cQ _ g n hR d q hd hq) gL_law_L_film rfl hd_L_film.2 ⟨rfl, rfl⟩ ⟨Nat.le_of_ble_eq_true rfl, Nat.le_of_ble_eq_true rfl⟩ rfl rfl (Nat.le_of_ble_eq_true rfl) ⟨Nat.le_of_ble_eq_true rfl, Nat.le_of_ble_eq_true rfl⟩ dL_law_535 rfl ?_
  refine v_istore (lv' := [(12, _), (0, _), (1, _), (2, _), (3, _), (4, _), (5, _), (6, _), (7, _), (8, _), (10, _), (11, _)]) C dL_law_538 rfl (by decide) rfl ?_
  obtain ⟨o, h8, ho, ho6, hh, hle⟩ := id hI.2.2
  refine v_aload_n C dL_law_540 rfl 1 2 rfl rfl ?_
  refine v_iload C dL_law_541 rfl 10 rfl ?_
  refine v_iload C dL_law_543 rfl 11 rfl ?_
  refine v_cI C K (g (46 + (2 * d + q))) (IC (upd g (46 + (2 * d + q)) (-6)) n) (c_X4_drop l D ad cI cC cZ cQ u o ho ho6 h8 hh hle (nI d) (nI q)) gL_law_X4_drop rfl hd_X4_drop ⟨rfl, rfl⟩ ⟨Nat.le_of_ble_eq_true rfl, Nat.le_of_ble_eq_true rfl⟩ 0 rfl rfl rfl rfl rfl (Nat.le_of_ble_eq_true rfl) ⟨Nat.le_of_ble_eq_true rfl, Nat.le_of_ble_eq_true rfl⟩ dL_law_545 rfl (fun r v h => ip_drop hI ho ho6 hh hle hd hq hs h) (fun u hI => ?_)
  refine v_iload C dL_law_548 rfl 0 rfl ?_
  refine v_if_ge C 558 dL_law_550 (by decide) rfl (fun _ => ?_) (fun h9 => absurd (fl0_p hR.w hk9 hs) h9)
  refine v_iload C dL_law_558 rfl 0 rfl ?_
  refine v_icmp_eq C 565 dL_law_560 (by decide) rfl (fun _ => ?_) (fun h9 => absurd ((fl0_e hs).symm) h9)
  refine v_iload C dL_law_565 rfl 11 rfl ?_
  refine v_if_ne C 579 dL_law_567 (by decide) rfl (fun h567 => ?_) (fun h567f => ?_)
  · skip
    have hq1 := q01 hq h567
    refine v_aload C dL_law_579 rfl 6 rfl ?_
    refine v_iload C dL_law_581 rfl 10 rfl ?_
    refine v_iconst (v := 0) C dL_law_583 rfl ic_0 ?_
    refine v_top (sh0 (-6)) (by decide) ?_
    refine v_astL C K 3 35 rfl (lW_a3 la cI _) (d) (rfl) (by omega) (by decide) dL_law_584 rfl ?_
    refine v_goto C 1073 dL_law_585 (by decide) ?_
    refine v_lv (lv' := [(0, _), (1, _), (2, _), (3, _), (4, _), (5, _), (6, _), (7, _), (8, _)]) [1, 2, 3, 4, 5, 6, 7, 8, 9] rfl ?_
    exact kk _ _ _ hI (hR.pe hd hq1 (Or.inl rfl))
  · skip
    have hq0 := q00 hq h567f
    refine v_aload C dL_law_570 rfl 5 rfl ?_
    refine v_iload C dL_law_572 rfl 10 rfl ?_
    refine v_iconst (v := 0) C dL_law_574 rfl ic_0 ?_
    refine v_top (sh0 (-6)) (by decide) ?_
    refine v_astL C K 2 35 rfl (lW_a2 la cI _) (d) (rfl) (by omega) (by decide) dL_law_575 rfl ?_
    refine v_goto C 585 dL_law_576 (by decide) ?_
    refine v_goto C 1073 dL_law_585 (by decide) ?_
    refine v_lv (lv' := [(0, _), (1, _), (2, _), (3, _), (4, _), (5, _), (6, _), (7, _), (8, _)]) [1, 2, 3, 4, 5, 6, 7, 8, 9] rfl ?_
    exact kk _ _ _ hI (hR.pa hd hq0 (Or.inl rfl))

/-! ===== the law: its cases, a call a side ===== -/
theorem ctL_law_91 : Cond.constantLong RL 91 (4294967295) ∈ wsL_law := List.mem_of_getElem? (i := 6) (by decide +kernel)
set_option maxHeartbeats 4000000 in
set_option maxRecDepth 100000 in
theorem lc_set {p : Program} {l : Launch} {e : Env} {s : State} {m : MethodId} {below : List Frame} {meth : Method} {c : Code} {Q : State → Prop} {D : va_G} {cI cC cZ cQ : ClassId} {ad1 ad2 : Nat → Nat} {tl tm tf b Ls : Nat} {xs : Nat → Int32} (C : CX p m c cL_law 4 s #[Value.ref b] wsL_law RL (fun q => s.heap.size ≤ q) s.heap) (K : va_K D vwCl (cTy cI cC cZ cQ) s) (hE : zS tl tm tf (fun q => s.heap.size ≤ q) s s.heap) (hX : va_X b Ls xs s s.heap) (hbl : b < s.heap.size) (hL : Ls ≤ 3072) {k : Nat} (hk : k + 6 ≤ Ls) {σ τ : S9} (hx : SMx σ τ) (kk : ∀ u v : S9, SMx u v → VV p l e room_1 s m #[Value.ref b] below meth c 600000 7302250 Q (fun u : S9 × S9 => cW ad1 cI cC cZ cQ u.1 ++ mW ad2 cI u.2) D (fun q => s.heap.size ≤ q) s.heap 4 (u, v) 936 [(3, .int (nI k)), (2, .ref (ad2 0)), (1, .ref (ad1 0)), (0, .ref b)] []) : VV p l e room_1 s m #[Value.ref b] below meth c 600000 7302250 Q (fun u : S9 × S9 => cW ad1 cI cC cZ cQ u.1 ++ mW ad2 cI u.2) D (fun q => s.heap.size ≤ q) s.heap 4 (σ, τ) 144 [(3, .int (nI k)), (2, .ref (ad2 0)), (1, .ref (ad1 0)), (0, .ref b)] [] := by
  obtain ⟨n, o, h, L, hs⟩ := hx
  obtain ⟨-, e0, a3, a4, -, a6, a7, -⟩ := id hs
  have hw2 : wfS (τ 0) n := by rw [e0]; exact hs.1.1
  have hbA : ¬ (fun q : Nat => s.heap.size ≤ q) b := Nat.not_le.mpr hbl
  refine v_aload_n C dL_law_144 rfl 1 2 rfl rfl ?_
  refine v_aload_n C dL_law_145 rfl 0 3 rfl rfl ?_
  refine v_iload_n C dL_law_146 rfl 3 0 rfl rfl ?_
  refine v_iconst (v := 1) C dL_law_147 rfl ic_1 ?_
  refine v_iadd C dL_law_148 rfl ?_
  refine v_sld C hX hbl hbA (k + 1) (nI_add k 1) (by omega) (by omega) dL_law_149 rfl ?_
  refine v_aload_n C dL_law_150 rfl 0 3 rfl rfl ?_
  refine v_iload_n C dL_law_151 rfl 3 0 rfl rfl ?_
  refine v_iconst (v := 2) C dL_law_152 rfl ic_2 ?_
  refine v_iadd C dL_law_153 rfl ?_
  refine v_sld C hX hbl hbA (k + 2) (nI_add k 2) (by omega) (by omega) dL_law_154 rfl ?_
  refine v_callVLE (w1 := cW ad1 cI cC cZ cQ) (w2 := mW ad2 cI) C K hE (c_X4_set l D ad1 cI cC cZ cQ σ o a3.1 a3.2 h a4.1 a4.2.1 tl tm tf (xs (k + 1)) (xs (k + 2))) gL_law_X4_set rfl hd_X4_set ⟨rfl, rfl⟩ ⟨Nat.le_of_ble_eq_true rfl, Nat.le_of_ble_eq_true rfl⟩ 0 rfl rfl rfl rfl rfl (Nat.le_of_ble_eq_true rfl) ⟨Nat.le_of_ble_eq_true rfl, Nat.le_of_ble_eq_true rfl⟩ dL_law_155 rfl (fun r1 u h1 => ?_)
  refine v_aload_n C dL_law_158 rfl 2 1 rfl rfl ?_
  refine v_aload_n C dL_law_159 rfl 0 3 rfl rfl ?_
  refine v_iload_n C dL_law_160 rfl 3 0 rfl rfl ?_
  refine v_iconst (v := 1) C dL_law_161 rfl ic_1 ?_
  refine v_iadd C dL_law_162 rfl ?_
  refine v_sld C hX hbl hbA (k + 1) (nI_add k 1) (by omega) (by omega) dL_law_163 rfl ?_
  refine v_aload_n C dL_law_164 rfl 0 3 rfl rfl ?_
  refine v_iload_n C dL_law_165 rfl 3 0 rfl rfl ?_
  refine v_iconst (v := 2) C dL_law_166 rfl ic_2 ?_
  refine v_iadd C dL_law_167 rfl ?_
  refine v_sld C hX hbl hbA (k + 2) (nI_add k 2) (by omega) (by omega) dL_law_168 rfl ?_
  refine v_callVR (w1 := cW ad1 cI cC cZ cQ) (w2 := mW ad2 cI) C (K.sub (tys' := [(cI, .int)]) [0] rfl) (c_X5_set l D ad2 cI τ h a4.2.2 a4.2.1 (xs (k + 1)) (xs (k + 2))) gL_law_X5_set rfl hd_X5_set ⟨rfl, rfl⟩ ⟨Nat.le_of_ble_eq_true rfl, Nat.le_of_ble_eq_true rfl⟩ 0 rfl rfl rfl rfl rfl (Nat.le_of_ble_eq_true rfl) ⟨Nat.le_of_ble_eq_true rfl, Nat.le_of_ble_eq_true rfl⟩ dL_law_169 rfl (fun r2 v h2 => ?_)
  try rw [e0] at h2
  have hr : r1 = r2 ∧ SMx u v := sm_chg hs (fun hq => wfH_set hs.1 (set_ix hq)) h1 h2
  exact v_icmp_eq C 936 dL_law_172 (by decide) rfl (fun _ => kk u v hr.2) (fun h9 => absurd hr.1 h9)
set_option maxHeartbeats 4000000 in
set_option maxRecDepth 100000 in
theorem lc_film {p : Program} {l : Launch} {e : Env} {s : State} {m : MethodId} {below : List Frame} {meth : Method} {c : Code} {Q : State → Prop} {D : va_G} {cI cC cZ cQ : ClassId} {ad1 ad2 : Nat → Nat} {tl tm tf b Ls : Nat} {xs : Nat → Int32} (C : CX p m c cL_law 4 s #[Value.ref b] wsL_law RL (fun q => s.heap.size ≤ q) s.heap) (K : va_K D vwCl (cTy cI cC cZ cQ) s) (hE : zS tl tm tf (fun q => s.heap.size ≤ q) s s.heap) (hX : va_X b Ls xs s s.heap) (hbl : b < s.heap.size) (hL : Ls ≤ 3072) {k : Nat} (hk : k + 6 ≤ Ls) {σ τ : S9} (hx : SMx σ τ) (kk : ∀ u v : S9, SMx u v → VV p l e room_1 s m #[Value.ref b] below meth c 600000 7302250 Q (fun u : S9 × S9 => cW ad1 cI cC cZ cQ u.1 ++ mW ad2 cI u.2) D (fun q => s.heap.size ≤ q) s.heap 4 (u, v) 936 [(3, .int (nI k)), (2, .ref (ad2 0)), (1, .ref (ad1 0)), (0, .ref b)] []) : VV p l e room_1 s m #[Value.ref b] below meth c 600000 7302250 Q (fun u : S9 × S9 => cW ad1 cI cC cZ cQ u.1 ++ mW ad2 cI u.2) D (fun q => s.heap.size ≤ q) s.heap 4 (σ, τ) 177 [(3, .int (nI k)), (2, .ref (ad2 0)), (1, .ref (ad1 0)), (0, .ref b)] [] := by
  obtain ⟨n, o, h, L, hs⟩ := hx
  obtain ⟨-, e0, a3, a4, -, a6, a7, -⟩ := id hs
  have hw2 : wfS (τ 0) n := by rw [e0]; exact hs.1.1
  have hbA : ¬ (fun q : Nat => s.heap.size ≤ q) b := Nat.not_le.mpr hbl
  refine v_aload_n C dL_law_177 rfl 1 2 rfl rfl ?_
  refine v_aload_n C dL_law_178 rfl 0 3 rfl rfl ?_
  refine v_iload_n C dL_law_179 rfl 3 0 rfl rfl ?_
  refine v_iconst (v := 1) C dL_law_180 rfl ic_1 ?_
  refine v_iadd C dL_law_181 rfl ?_
  refine v_sld C hX hbl hbA (k + 1) (nI_add k 1) (by omega) (by omega) dL_law_182 rfl ?_
  refine v_aload_n C dL_law_183 rfl 0 3 rfl rfl ?_
  refine v_iload_n C dL_law_184 rfl 3 0 rfl rfl ?_
  refine v_iconst (v := 2) C dL_law_185 rfl ic_2 ?_
  refine v_iadd C dL_law_186 rfl ?_
  refine v_sld C hX hbl hbA (k + 2) (nI_add k 2) (by omega) (by omega) dL_law_187 rfl ?_
  refine v_aload_n C dL_law_188 rfl 0 3 rfl rfl ?_
  refine v_iload_n C dL_law_189 rfl 3 0 rfl rfl ?_
  refine v_iconst (v := 3) C dL_law_190 rfl ic_3 ?_
  refine v_iadd C dL_law_191 rfl ?_
  refine v_sld C hX hbl hbA (k + 3) (nI_add k 3) (by omega) (by omega) dL_law_192 rfl ?_
  refine v_aload_n C dL_law_193 rfl 0 3 rfl rfl ?_
  refine v_iload_n C dL_law_194 rfl 3 0 rfl rfl ?_
  refine v_iconst (v := 4) C dL_law_195 rfl ic_4 ?_
  refine v_iadd C dL_law_196 rfl ?_
  refine v_sld C hX hbl hbA (k + 4) (nI_add k 4) (by omega) (by omega) dL_law_197 rfl ?_
  refine v_aload_n C dL_law_198 rfl 0 3 rfl rfl ?_
  refine v_iload_n C dL_law_199 rfl 3 0 rfl rfl ?_
  refine v_iconst (v := 5) C dL_law_200 rfl ic_5 ?_
  refine v_iadd C dL_law_201 rfl ?_
  refine v_sld C hX hbl hbA (k + 5) (nI_add k 5) (by omega) (by omega) dL_law_202 rfl ?_
  refine v_callVL (w1 := cW ad1 cI cC cZ cQ) (w2 := mW ad2 cI) C K (c_X4_film l D ad1 cI cC cZ cQ σ n hs.1 o a3.1 a3.2 h a4.1 a4.2.1 (xs (k + 1)) (xs (k + 2)) (xs (k + 3)) (xs (k + 4)) (xs (k + 5))) gL_law_X4_film rfl hd_X4_film ⟨rfl, rfl⟩ ⟨Nat.le_of_ble_eq_true rfl, Nat.le_of_ble_eq_true rfl⟩ 0 rfl rfl rfl rfl rfl (Nat.le_of_ble_eq_true rfl) ⟨Nat.le_of_ble_eq_true rfl, Nat.le_of_ble_eq_true rfl⟩ dL_law_203 rfl (fun r1 u h1 => ?_)
  refine v_aload_n C dL_law_206 rfl 2 1 rfl rfl ?_
  refine v_aload_n C dL_law_207 rfl 0 3 rfl rfl ?_
  refine v_iload_n C dL_law_208 rfl 3 0 rfl rfl ?_
  refine v_iconst (v := 1) C dL_law_209 rfl ic_1 ?_
  refine v_iadd C dL_law_210 rfl ?_
  refine v_sld C hX hbl hbA (k + 1) (nI_add k 1) (by omega) (by omega) dL_law_211 rfl ?_
  refine v_aload_n C dL_law_212 rfl 0 3 rfl rfl ?_
  refine v_iload_n C dL_law_213 rfl 3 0 rfl rfl ?_
  refine v_iconst (v := 2) C dL_law_214 rfl ic_2 ?_
  refine v_iadd C dL_law_215 rfl ?_
  refine v_sld C hX hbl hbA (k + 2) (nI_add k 2) (by omega) (by omega) dL_law_216 rfl ?_
  refine v_aload_n C dL_law_217 rfl 0 3 rfl rfl ?_
  refine v_iload_n C dL_law_218 rfl 3 0 rfl rfl ?_
  refine v_iconst (v := 3) C dL_law_219 rfl ic_3 ?_
  refine v_iadd C dL_law_220 rfl ?_
  refine v_sld C hX hbl hbA (k + 3) (nI_add k 3) (by omega) (by omega) dL_law_221 rfl ?_
  refine v_aload_n C dL_law_222 rfl 0 3 rfl rfl ?_
  refine v_iload_n C dL_law_223 rfl 3 0 rfl rfl ?_
  refine v_iconst (v := 4) C dL_law_224 rfl ic_4 ?_
  refine v_iadd C dL_law_225 rfl ?_
  refine v_sld C hX hbl hbA (k + 4) (nI_add k 4) (by omega) (by omega) dL_law_226 rfl ?_
  refine v_aload_n C dL_law_227 rfl 0 3 rfl rfl ?_
  refine v_iload_n C dL_law_228 rfl 3 0 rfl rfl ?_
  refine v_iconst (v := 5) C dL_law_229 rfl ic_5 ?_
  refine v_iadd C dL_law_230 rfl ?_
  refine v_sld C hX hbl hbA (k + 5) (nI_add k 5) (by omega) (by omega) dL_law_231 rfl ?_
  refine v_callVR (w1 := cW ad1 cI cC cZ cQ) (w2 := mW ad2 cI) C (K.sub (tys' := [(cI, .int)]) [0] rfl) (c_X5_film l D ad2 cI τ n hw2 h a4.2.2 a4.2.1 (xs (k + 1)) (xs (k + 2)) (xs (k + 3)) (xs (k + 4)) (xs (k + 5))) gL_law_X5_film rfl hd_X5_film ⟨rfl, rfl⟩ ⟨Nat.le_of_ble_eq_true rfl, Nat.le_of_ble_eq_true rfl⟩ 0 rfl rfl rfl rfl rfl (Nat.le_of_ble_eq_true rfl) ⟨Nat.le_of_ble_eq_true rfl, Nat.le_of_ble_eq_true rfl⟩ dL_law_232 rfl (fun r2 v h2 => ?_)
  try rw [e0] at h2
  have hr : r1 = r2 ∧ SMx u v := sm_chg hs (fun hq => wfH_film hs.1 (h1.1 hq).1 hq) ⟨fun hq => (h1.1 hq).2, h1.2⟩ ⟨fun hq => (h2.1 hq).2, h2.2⟩
  exact v_icmp_eq C 936 dL_law_235 (by decide) rfl (fun _ => kk u v hr.2) (fun h9 => absurd hr.1 h9)
set_option maxHeartbeats 4000000 in
set_option maxRecDepth 100000 in
theorem lc_show {p : Program} {l : Launch} {e : Env} {s : State} {m : MethodId} {below : List Frame} {meth : Method} {c : Code} {Q : State → Prop} {D : va_G} {cI cC cZ cQ : ClassId} {ad1 ad2 : Nat → Nat} {tl tm tf b Ls : Nat} {xs : Nat → Int32} (C : CX p m c cL_law 4 s #[Value.ref b] wsL_law RL (fun q => s.heap.size ≤ q) s.heap) (K : va_K D vwCl (cTy cI cC cZ cQ) s) (hE : zS tl tm tf (fun q => s.heap.size ≤ q) s s.heap) (hX : va_X b Ls xs s s.heap) (hbl : b < s.heap.size) (hL : Ls ≤ 3072) {k : Nat} (hk : k + 6 ≤ Ls) {σ τ : S9} (hx : SMx σ τ) (kk : ∀ u v : S9, SMx u v → VV p l e room_1 s m #[Value.ref b] below meth c 600000 7302250 Q (fun u : S9 × S9 => cW ad1 cI cC cZ cQ u.1 ++ mW ad2 cI u.2) D (fun q => s.heap.size ≤ q) s.heap 4 (u, v) 936 [(3, .int (nI k)), (2, .ref (ad2 0)), (1, .ref (ad1 0)), (0, .ref b)] []) : VV p l e room_1 s m #[Value.ref b] below meth c 600000 7302250 Q (fun u : S9 × S9 => cW ad1 cI cC cZ cQ u.1 ++ mW ad2 cI u.2) D (fun q => s.heap.size ≤ q) s.heap 4 (σ, τ) 240 [(3, .int (nI k)), (2, .ref (ad2 0)), (1, .ref (ad1 0)), (0, .ref b)] [] := by
  obtain ⟨n, o, h, L, hs⟩ := hx
  obtain ⟨-, e0, a3, a4, -, a6, a7, -⟩ := id hs
  have hw2 : wfS (τ 0) n := by rw [e0]; exact hs.1.1
  have hbA : ¬ (fun q : Nat => s.heap.size ≤ q) b := Nat.not_le.mpr hbl
  refine v_aload_n C dL_law_240 rfl 1 2 rfl rfl ?_
  refine v_aload_n C dL_law_241 rfl 0 3 rfl rfl ?_
  refine v_iload_n C dL_law_242 rfl 3 0 rfl rfl ?_
  refine v_iconst (v := 1) C dL_law_243 rfl ic_1 ?_
  refine v_iadd C dL_law_244 rfl ?_
  refine v_sld C hX hbl hbA (k + 1) (nI_add k 1) (by omega) (by omega) dL_law_245 rfl ?_
  refine v_aload_n C dL_law_246 rfl 0 3 rfl rfl ?_
  refine v_iload_n C dL_law_247 rfl 3 0 rfl rfl ?_
  refine v_iconst (v := 2) C dL_law_248 rfl ic_2 ?_
  refine v_iadd C dL_law_249 rfl ?_
  refine v_sld C hX hbl hbA (k + 2) (nI_add k 2) (by omega) (by omega) dL_law_250 rfl ?_
  refine v_aload_n C dL_law_251 rfl 0 3 rfl rfl ?_
  refine v_iload_n C dL_law_252 rfl 3 0 rfl rfl ?_
  refine v_iconst (v := 3) C dL_law_253 rfl ic_3 ?_
  refine v_iadd C dL_law_254 rfl ?_
  refine v_sld C hX hbl hbA (k + 3) (nI_add k 3) (by omega) (by omega) dL_law_255 rfl ?_
  refine v_callVL (w1 := cW ad1 cI cC cZ cQ) (w2 := mW ad2 cI) C K (c_X4_show l D ad1 cI cC cZ cQ σ n hs.1 o a3.1 a3.2 h a4.1 a4.2.1 (xs (k + 1)) (xs (k + 2)) (xs (k + 3))) gL_law_X4_show rfl hd_X4_show ⟨rfl, rfl⟩ ⟨Nat.le_of_ble_eq_true rfl, Nat.le_of_ble_eq_true rfl⟩ 0 rfl rfl rfl rfl rfl (Nat.le_of_ble_eq_true rfl) ⟨Nat.le_of_ble_eq_true rfl, Nat.le_of_ble_eq_true rfl⟩ dL_law_256 rfl (fun r1 u h1 => ?_)
  refine v_aload_n C dL_law_259 rfl 2 1 rfl rfl ?_
  refine v_aload_n C dL_law_260 rfl 0 3 rfl rfl ?_
  refine v_iload_n C dL_law_261 rfl 3 0 rfl rfl ?_
  refine v_iconst (v := 1) C dL_law_262 rfl ic_1 ?_
  refine v_iadd C dL_law_263 rfl ?_
  refine v_sld C hX hbl hbA (k + 1) (nI_add k 1) (by omega) (by omega) dL_law_264 rfl ?_
  refine v_aload_n C dL_law_265 rfl 0 3 rfl rfl ?_
  refine v_iload_n C dL_law_266 rfl 3 0 rfl rfl ?_
  refine v_iconst (v := 2) C dL_law_267 rfl ic_2 ?_
  refine v_iadd C dL_law_268 rfl ?_
  refine v_sld C hX hbl hbA (k + 2) (nI_add k 2) (by omega) (by omega) dL_law_269 rfl ?_
  refine v_aload_n C dL_law_270 rfl 0 3 rfl rfl ?_
  refine v_iload_n C dL_law_271 rfl 3 0 rfl rfl ?_
  refine v_iconst (v := 3) C dL_law_272 rfl ic_3 ?_
  refine v_iadd C dL_law_273 rfl ?_
  refine v_sld C hX hbl hbA (k + 3) (nI_add k 3) (by omega) (by omega) dL_law_274 rfl ?_
  refine v_callVR (w1 := cW ad1 cI cC cZ cQ) (w2 := mW ad2 cI) C (K.sub (tys' := [(cI, .int)]) [0] rfl) (c_X5_show l D ad2 cI τ n hw2 h a4.2.2 a4.2.1 (xs (k + 1)) (xs (k + 2)) (xs (k + 3))) gL_law_X5_show rfl hd_X5_show ⟨rfl, rfl⟩ ⟨Nat.le_of_ble_eq_true rfl, Nat.le_of_ble_eq_true rfl⟩ 0 rfl rfl rfl rfl rfl (Nat.le_of_ble_eq_true rfl) ⟨Nat.le_of_ble_eq_true rfl, Nat.le_of_ble_eq_true rfl⟩ dL_law_275 rfl (fun r2 v h2 => ?_)
  try rw [e0] at h2
  have hr : r1 = r2 ∧ SMx u v := sm_chg hs (fun hq => wf_show hs.1 hq) h1 h2
  exact v_icmp_eq C 936 dL_law_278 (by decide) rfl (fun _ => kk u v hr.2) (fun h9 => absurd hr.1 h9)
set_option maxHeartbeats 4000000 in
set_option maxRecDepth 100000 in
theorem lc_drop {p : Program} {l : Launch} {e : Env} {s : State} {m : MethodId} {below : List Frame} {meth : Method} {c : Code} {Q : State → Prop} {D : va_G} {cI cC cZ cQ : ClassId} {ad1 ad2 : Nat → Nat} {tl tm tf b Ls : Nat} {xs : Nat → Int32} (C : CX p m c cL_law 4 s #[Value.ref b] wsL_law RL (fun q => s.heap.size ≤ q) s.heap) (K : va_K D vwCl (cTy cI cC cZ cQ) s) (hE : zS tl tm tf (fun q => s.heap.size ≤ q) s s.heap) (hX : va_X b Ls xs s s.heap) (hbl : b < s.heap.size) (hL : Ls ≤ 3072) {k : Nat} (hk : k + 6 ≤ Ls) {σ τ : S9} (hx : SMx σ τ) (kk : ∀ u v : S9, SMx u v → VV p l e room_1 s m #[Value.ref b] below meth c 600000 7302250 Q (fun u : S9 × S9 => cW ad1 cI cC cZ cQ u.1 ++ mW ad2 cI u.2) D (fun q => s.heap.size ≤ q) s.heap 4 (u, v) 936 [(3, .int (nI k)), (2, .ref (ad2 0)), (1, .ref (ad1 0)), (0, .ref b)] []) : VV p l e room_1 s m #[Value.ref b] below meth c 600000 7302250 Q (fun u : S9 × S9 => cW ad1 cI cC cZ cQ u.1 ++ mW ad2 cI u.2) D (fun q => s.heap.size ≤ q) s.heap 4 (σ, τ) 283 [(3, .int (nI k)), (2, .ref (ad2 0)), (1, .ref (ad1 0)), (0, .ref b)] [] := by
  obtain ⟨n, o, h, L, hs⟩ := hx
  obtain ⟨-, e0, a3, a4, -, a6, a7, -⟩ := id hs
  have hw2 : wfS (τ 0) n := by rw [e0]; exact hs.1.1
  have hbA : ¬ (fun q : Nat => s.heap.size ≤ q) b := Nat.not_le.mpr hbl
  refine v_aload_n C dL_law_283 rfl 1 2 rfl rfl ?_
  refine v_aload_n C dL_law_284 rfl 0 3 rfl rfl ?_
  refine v_iload_n C dL_law_285 rfl 3 0 rfl rfl ?_
  refine v_iconst (v := 1) C dL_law_286 rfl ic_1 ?_
  refine v_iadd C dL_law_287 rfl ?_
  refine v_sld C hX hbl hbA (k + 1) (nI_add k 1) (by omega) (by omega) dL_law_288 rfl ?_
  refine v_aload_n C dL_law_289 rfl 0 3 rfl rfl ?_
  refine v_iload_n C dL_law_290 rfl 3 0 rfl rfl ?_
  refine v_iconst (v := 2) C dL_law_291 rfl ic_2 ?_
  refine v_iadd C dL_law_292 rfl ?_
  refine v_sld C hX hbl hbA (k + 2) (nI_add k 2) (by omega) (by omega) dL_law_293 rfl ?_
  refine v_callVL (w1 := cW ad1 cI cC cZ cQ) (w2 := mW ad2 cI) C K (c_X4_drop l D ad1 cI cC cZ cQ σ o a3.1 a3.2 h a4.1 a4.2.1 (xs (k + 1)) (xs (k + 2))) gL_law_X4_drop rfl hd_X4_drop ⟨rfl, rfl⟩ ⟨Nat.le_of_ble_eq_true rfl, Nat.le_of_ble_eq_true rfl⟩ 0 rfl rfl rfl rfl rfl (Nat.le_of_ble_eq_true rfl) ⟨Nat.le_of_ble_eq_true rfl, Nat.le_of_ble_eq_true rfl⟩ dL_law_294 rfl (fun r1 u h1 => ?_)
  refine v_aload_n C dL_law_297 rfl 2 1 rfl rfl ?_
  refine v_aload_n C dL_law_298 rfl 0 3 rfl rfl ?_
  refine v_iload_n C dL_law_299 rfl 3 0 rfl rfl ?_
  refine v_iconst (v := 1) C dL_law_300 rfl ic_1 ?_
  refine v_iadd C dL_law_301 rfl ?_
  refine v_sld C hX hbl hbA (k + 1) (nI_add k 1) (by omega) (by omega) dL_law_302 rfl ?_
  refine v_aload_n C dL_law_303 rfl 0 3 rfl rfl ?_
  refine v_iload_n C dL_law_304 rfl 3 0 rfl rfl ?_
  refine v_iconst (v := 2) C dL_law_305 rfl ic_2 ?_
  refine v_iadd C dL_law_306 rfl ?_
  refine v_sld C hX hbl hbA (k + 2) (nI_add k 2) (by omega) (by omega) dL_law_307 rfl ?_
  refine v_callVR (w1 := cW ad1 cI cC cZ cQ) (w2 := mW ad2 cI) C (K.sub (tys' := [(cI, .int)]) [0] rfl) (c_X5_drop l D ad2 cI τ h a4.2.2 a4.2.1 (xs (k + 1)) (xs (k + 2))) gL_law_X5_drop rfl hd_X5_drop ⟨rfl, rfl⟩ ⟨Nat.le_of_ble_eq_true rfl, Nat.le_of_ble_eq_true rfl⟩ 0 rfl rfl rfl rfl rfl (Nat.le_of_ble_eq_true rfl) ⟨Nat.le_of_ble_eq_true rfl, Nat.le_of_ble_eq_true rfl⟩ dL_law_308 rfl (fun r2 v h2 => ?_)
  try rw [e0] at h2
  have hr : r1 = r2 ∧ SMx u v := sm_chg hs (fun hq => wf_drop hs.1 (h1.1 hq).2.1) ⟨fun hq => ⟨(h1.1 hq).1, (h1.1 hq).2.2⟩, h1.2⟩ ⟨fun hq => ⟨(h2.1 hq).1, (h2.1 hq).2.2⟩, h2.2⟩
  exact v_icmp_eq C 936 dL_law_311 (by decide) rfl (fun _ => kk u v hr.2) (fun h9 => absurd hr.1 h9)
set_option maxHeartbeats 4000000 in
set_option maxRecDepth 100000 in
theorem lc_exchange {p : Program} {l : Launch} {e : Env} {s : State} {m : MethodId} {below : List Frame} {meth : Method} {c : Code} {Q : State → Prop} {D : va_G} {cI cC cZ cQ : ClassId} {ad1 ad2 : Nat → Nat} {tl tm tf b Ls : Nat} {xs : Nat → Int32} (C : CX p m c cL_law 4 s #[Value.ref b] wsL_law RL (fun q => s.heap.size ≤ q) s.heap) (K : va_K D vwCl (cTy cI cC cZ cQ) s) (hE : zS tl tm tf (fun q => s.heap.size ≤ q) s s.heap) (hX : va_X b Ls xs s s.heap) (hbl : b < s.heap.size) (hL : Ls ≤ 3072) {k : Nat} (hk : k + 6 ≤ Ls) {σ τ : S9} (hx : SMx σ τ) (kk : ∀ u v : S9, SMx u v → VV p l e room_1 s m #[Value.ref b] below meth c 600000 7302250 Q (fun u : S9 × S9 => cW ad1 cI cC cZ cQ u.1 ++ mW ad2 cI u.2) D (fun q => s.heap.size ≤ q) s.heap 4 (u, v) 936 [(3, .int (nI k)), (2, .ref (ad2 0)), (1, .ref (ad1 0)), (0, .ref b)] []) : VV p l e room_1 s m #[Value.ref b] below meth c 600000 7302250 Q (fun u : S9 × S9 => cW ad1 cI cC cZ cQ u.1 ++ mW ad2 cI u.2) D (fun q => s.heap.size ≤ q) s.heap 4 (σ, τ) 316 [(3, .int (nI k)), (2, .ref (ad2 0)), (1, .ref (ad1 0)), (0, .ref b)] [] := by
  obtain ⟨n, o, h, L, hs⟩ := hx
  obtain ⟨-, e0, a3, a4, -, a6, a7, -⟩ := id hs
  have hw2 : wfS (τ 0) n := by rw [e0]; exact hs.1.1
  have hbA : ¬ (fun q : Nat => s.heap.size ≤ q) b := Nat.not_le.mpr hbl
  refine v_aload_n C dL_law_316 rfl 1 2 rfl rfl ?_
  refine v_aload_n C dL_law_317 rfl 0 3 rfl rfl ?_
  refine v_iload_n C dL_law_318 rfl 3 0 rfl rfl ?_
  refine v_iconst (v := 1) C dL_law_319 rfl ic_1 ?_
  refine v_iadd C dL_law_320 rfl ?_
  refine v_sld C hX hbl hbA (k + 1) (nI_add k 1) (by omega) (by omega) dL_law_321 rfl ?_
  refine v_aload_n C dL_law_322 rfl 0 3 rfl rfl ?_
  refine v_iload_n C dL_law_323 rfl 3 0 rfl rfl ?_
  refine v_iconst (v := 2) C dL_law_324 rfl ic_2 ?_
  refine v_iadd C dL_law_325 rfl ?_
  refine v_sld C hX hbl hbA (k + 2) (nI_add k 2) (by omega) (by omega) dL_law_326 rfl ?_
  refine v_aload_n C dL_law_327 rfl 0 3 rfl rfl ?_
  refine v_iload_n C dL_law_328 rfl 3 0 rfl rfl ?_
  refine v_iconst (v := 3) C dL_law_329 rfl ic_3 ?_
  refine v_iadd C dL_law_330 rfl ?_
  refine v_sld C hX hbl hbA (k + 3) (nI_add k 3) (by omega) (by omega) dL_law_331 rfl ?_
  refine v_aload_n C dL_law_332 rfl 0 3 rfl rfl ?_
  refine v_iload_n C dL_law_333 rfl 3 0 rfl rfl ?_
  refine v_iconst (v := 4) C dL_law_334 rfl ic_4 ?_
  refine v_iadd C dL_law_335 rfl ?_
  refine v_sld C hX hbl hbA (k + 4) (nI_add k 4) (by omega) (by omega) dL_law_336 rfl ?_
  refine v_callVL (w1 := cW ad1 cI cC cZ cQ) (w2 := mW ad2 cI) C K (c_X4_exchange l D ad1 cI cC cZ cQ σ n hs.1 o a3.1 a3.2 h a4.1 a4.2.1 (xs (k + 1)) (xs (k + 2)) (xs (k + 3)) (xs (k + 4))) gL_law_X4_exchange rfl hd_X4_exchange ⟨rfl, rfl⟩ ⟨Nat.le_of_ble_eq_true rfl, Nat.le_of_ble_eq_true rfl⟩ 0 rfl rfl rfl rfl rfl (Nat.le_of_ble_eq_true rfl) ⟨Nat.le_of_ble_eq_true rfl, Nat.le_of_ble_eq_true rfl⟩ dL_law_337 rfl (fun r1 u h1 => ?_)
  refine v_aload_n C dL_law_340 rfl 2 1 rfl rfl ?_
  refine v_aload_n C dL_law_341 rfl 0 3 rfl rfl ?_
  refine v_iload_n C dL_law_342 rfl 3 0 rfl rfl ?_
  refine v_iconst (v := 1) C dL_law_343 rfl ic_1 ?_
  refine v_iadd C dL_law_344 rfl ?_
  refine v_sld C hX hbl hbA (k + 1) (nI_add k 1) (by omega) (by omega) dL_law_345 rfl ?_
  refine v_aload_n C dL_law_346 rfl 0 3 rfl rfl ?_
  refine v_iload_n C dL_law_347 rfl 3 0 rfl rfl ?_
  refine v_iconst (v := 2) C dL_law_348 rfl ic_2 ?_
  refine v_iadd C dL_law_349 rfl ?_
  refine v_sld C hX hbl hbA (k + 2) (nI_add k 2) (by omega) (by omega) dL_law_350 rfl ?_
  refine v_aload_n C dL_law_351 rfl 0 3 rfl rfl ?_
  refine v_iload_n C dL_law_352 rfl 3 0 rfl rfl ?_
  refine v_iconst (v := 3) C dL_law_353 rfl ic_3 ?_
  refine v_iadd C dL_law_354 rfl ?_
  refine v_sld C hX hbl hbA (k + 3) (nI_add k 3) (by omega) (by omega) dL_law_355 rfl ?_
  refine v_aload_n C dL_law_356 rfl 0 3 rfl rfl ?_
  refine v_iload_n C dL_law_357 rfl 3 0 rfl rfl ?_
  refine v_iconst (v := 4) C dL_law_358 rfl ic_4 ?_
  refine v_iadd C dL_law_359 rfl ?_
  refine v_sld C hX hbl hbA (k + 4) (nI_add k 4) (by omega) (by omega) dL_law_360 rfl ?_
  refine v_callVR (w1 := cW ad1 cI cC cZ cQ) (w2 := mW ad2 cI) C (K.sub (tys' := [(cI, .int)]) [0] rfl) (c_X5_exchange l D ad2 cI τ n hw2 h a4.2.2 a4.2.1 (xs (k + 1)) (xs (k + 2)) (xs (k + 3)) (xs (k + 4))) gL_law_X5_exchange rfl hd_X5_exchange ⟨rfl, rfl⟩ ⟨Nat.le_of_ble_eq_true rfl, Nat.le_of_ble_eq_true rfl⟩ 0 rfl rfl rfl rfl rfl (Nat.le_of_ble_eq_true rfl) ⟨Nat.le_of_ble_eq_true rfl, Nat.le_of_ble_eq_true rfl⟩ dL_law_361 rfl (fun r2 v h2 => ?_)
  try rw [e0] at h2
  have hr : r1 = r2 ∧ SMx u v := sm_chgF hs (fun hq => wf_ex hs.1 (qk_lt (h1.1 hq).1) (qk_lt (h1.1 hq).2.1)) ⟨fun hq => (h1.1 hq).2.2, h1.2⟩ ⟨fun hq => ⟨(h2.1 hq).2.2.1, ms9_sc (h2.1 hq).2.2.2⟩, h2.2⟩
  exact v_icmp_eq C 936 dL_law_364 (by decide) rfl (fun _ => kk u v hr.2) (fun h9 => absurd hr.1 h9)
set_option maxHeartbeats 4000000 in
set_option maxRecDepth 100000 in
theorem lc_let {p : Program} {l : Launch} {e : Env} {s : State} {m : MethodId} {below : List Frame} {meth : Method} {c : Code} {Q : State → Prop} {D : va_G} {cI cC cZ cQ : ClassId} {ad1 ad2 : Nat → Nat} {tl tm tf b Ls : Nat} {xs : Nat → Int32} (C : CX p m c cL_law 4 s #[Value.ref b] wsL_law RL (fun q => s.heap.size ≤ q) s.heap) (K : va_K D vwCl (cTy cI cC cZ cQ) s) (hE : zS tl tm tf (fun q => s.heap.size ≤ q) s s.heap) (hX : va_X b Ls xs s s.heap) (hbl : b < s.heap.size) (hL : Ls ≤ 3072) {k : Nat} (hk : k + 6 ≤ Ls) {σ τ : S9} (hx : SMx σ τ) (kk : ∀ u v : S9, SMx u v → VV p l e room_1 s m #[Value.ref b] below meth c 600000 7302250 Q (fun u : S9 × S9 => cW ad1 cI cC cZ cQ u.1 ++ mW ad2 cI u.2) D (fun q => s.heap.size ≤ q) s.heap 4 (u, v) 936 [(3, .int (nI k)), (2, .ref (ad2 0)), (1, .ref (ad1 0)), (0, .ref b)] []) : VV p l e room_1 s m #[Value.ref b] below meth c 600000 7302250 Q (fun u : S9 × S9 => cW ad1 cI cC cZ cQ u.1 ++ mW ad2 cI u.2) D (fun q => s.heap.size ≤ q) s.heap 4 (σ, τ) 369 [(3, .int (nI k)), (2, .ref (ad2 0)), (1, .ref (ad1 0)), (0, .ref b)] [] := by
  obtain ⟨n, o, h, L, hs⟩ := hx
  obtain ⟨-, e0, a3, a4, -, a6, a7, -⟩ := id hs
  have hw2 : wfS (τ 0) n := by rw [e0]; exact hs.1.1
  have hbA : ¬ (fun q : Nat => s.heap.size ≤ q) b := Nat.not_le.mpr hbl
  refine v_aload_n C dL_law_369 rfl 1 2 rfl rfl ?_
  refine v_aload_n C dL_law_370 rfl 0 3 rfl rfl ?_
  refine v_iload_n C dL_law_371 rfl 3 0 rfl rfl ?_
  refine v_iconst (v := 1) C dL_law_372 rfl ic_1 ?_
  refine v_iadd C dL_law_373 rfl ?_
  refine v_sld C hX hbl hbA (k + 1) (nI_add k 1) (by omega) (by omega) dL_law_374 rfl ?_
  refine v_aload_n C dL_law_375 rfl 0 3 rfl rfl ?_
  refine v_iload_n C dL_law_376 rfl 3 0 rfl rfl ?_
  refine v_iconst (v := 2) C dL_law_377 rfl ic_2 ?_
  refine v_iadd C dL_law_378 rfl ?_
  refine v_sld C hX hbl hbA (k + 2) (nI_add k 2) (by omega) (by omega) dL_law_379 rfl ?_
  refine v_callVL (w1 := cW ad1 cI cC cZ cQ) (w2 := mW ad2 cI) C K (c_X4_let l D ad1 cI cC cZ cQ σ o a3.1 a3.2 h a4.1 a4.2.1 (xs (k + 1)) (xs (k + 2))) gL_law_X4_let rfl hd_X4_let ⟨rfl, rfl⟩ ⟨Nat.le_of_ble_eq_true rfl, Nat.le_of_ble_eq_true rfl⟩ 0 rfl rfl rfl rfl rfl (Nat.le_of_ble_eq_true rfl) ⟨Nat.le_of_ble_eq_true rfl, Nat.le_of_ble_eq_true rfl⟩ dL_law_380 rfl (fun r1 u h1 => ?_)
  refine v_aload_n C dL_law_383 rfl 2 1 rfl rfl ?_
  refine v_aload_n C dL_law_384 rfl 0 3 rfl rfl ?_
  refine v_iload_n C dL_law_385 rfl 3 0 rfl rfl ?_
  refine v_iconst (v := 1) C dL_law_386 rfl ic_1 ?_
  refine v_iadd C dL_law_387 rfl ?_
  refine v_sld C hX hbl hbA (k + 1) (nI_add k 1) (by omega) (by omega) dL_law_388 rfl ?_
  refine v_aload_n C dL_law_389 rfl 0 3 rfl rfl ?_
  refine v_iload_n C dL_law_390 rfl 3 0 rfl rfl ?_
  refine v_iconst (v := 2) C dL_law_391 rfl ic_2 ?_
  refine v_iadd C dL_law_392 rfl ?_
  refine v_sld C hX hbl hbA (k + 2) (nI_add k 2) (by omega) (by omega) dL_law_393 rfl ?_
  refine v_callVR (w1 := cW ad1 cI cC cZ cQ) (w2 := mW ad2 cI) C (K.sub (tys' := [(cI, .int)]) [0] rfl) (c_X5_let l D ad2 cI τ h a4.2.2 a4.2.1 (xs (k + 1)) (xs (k + 2))) gL_law_X5_let rfl hd_X5_let ⟨rfl, rfl⟩ ⟨Nat.le_of_ble_eq_true rfl, Nat.le_of_ble_eq_true rfl⟩ 0 rfl rfl rfl rfl rfl (Nat.le_of_ble_eq_true rfl) ⟨Nat.le_of_ble_eq_true rfl, Nat.le_of_ble_eq_true rfl⟩ dL_law_394 rfl (fun r2 v h2 => ?_)
  try rw [e0] at h2
  have hr : r1 = r2 ∧ SMx u v := sm_chg hs (fun hq => wfH_let hs.1 (h1.1 hq).1 (h1.1 hq).2.1) ⟨fun hq => (h1.1 hq).2.2, h1.2⟩ ⟨fun hq => (h2.1 hq).2.2, h2.2⟩
  exact v_icmp_eq C 936 dL_law_397 (by decide) rfl (fun _ => kk u v hr.2) (fun h9 => absurd hr.1 h9)
set_option maxHeartbeats 4000000 in
set_option maxRecDepth 100000 in
theorem lc_carryOut {p : Program} {l : Launch} {e : Env} {s : State} {m : MethodId} {below : List Frame} {meth : Method} {c : Code} {Q : State → Prop} {D : va_G} {cI cC cZ cQ : ClassId} {ad1 ad2 : Nat → Nat} {tl tm tf b Ls : Nat} {xs : Nat → Int32} (C : CX p m c cL_law 4 s #[Value.ref b] wsL_law RL (fun q => s.heap.size ≤ q) s.heap) (K : va_K D vwCl (cTy cI cC cZ cQ) s) (hE : zS tl tm tf (fun q => s.heap.size ≤ q) s s.heap) (hX : va_X b Ls xs s s.heap) (hbl : b < s.heap.size) (hL : Ls ≤ 3072) {k : Nat} (hk : k + 6 ≤ Ls) {σ τ : S9} (hx : SMx σ τ) (kk : ∀ u v : S9, SMx u v → VV p l e room_1 s m #[Value.ref b] below meth c 600000 7302250 Q (fun u : S9 × S9 => cW ad1 cI cC cZ cQ u.1 ++ mW ad2 cI u.2) D (fun q => s.heap.size ≤ q) s.heap 4 (u, v) 936 [(3, .int (nI k)), (2, .ref (ad2 0)), (1, .ref (ad1 0)), (0, .ref b)] []) : VV p l e room_1 s m #[Value.ref b] below meth c 600000 7302250 Q (fun u : S9 × S9 => cW ad1 cI cC cZ cQ u.1 ++ mW ad2 cI u.2) D (fun q => s.heap.size ≤ q) s.heap 4 (σ, τ) 402 [(3, .int (nI k)), (2, .ref (ad2 0)), (1, .ref (ad1 0)), (0, .ref b)] [] := by
  obtain ⟨n, o, h, L, hs⟩ := hx
  obtain ⟨-, e0, a3, a4, -, a6, a7, -⟩ := id hs
  have hw2 : wfS (τ 0) n := by rw [e0]; exact hs.1.1
  have hbA : ¬ (fun q : Nat => s.heap.size ≤ q) b := Nat.not_le.mpr hbl
  refine v_aload_n C dL_law_402 rfl 1 2 rfl rfl ?_
  refine v_callVL (w1 := cW ad1 cI cC cZ cQ) (w2 := mW ad2 cI) C K (c_X4_carryOut l D ad1 cI cC cZ cQ σ L a6.1 a6.2.1 (fun i hi => (a7 i hi).2) n hs.1 o a3.1 a3.2 h a4.1 a4.2.1 ) gL_law_X4_carryOut rfl hd_X4_carryOut ⟨rfl, rfl⟩ ⟨Nat.le_of_ble_eq_true rfl, Nat.le_of_ble_eq_true rfl⟩ 0 rfl rfl rfl rfl rfl (Nat.le_of_ble_eq_true rfl) ⟨Nat.le_of_ble_eq_true rfl, Nat.le_of_ble_eq_true rfl⟩ dL_law_403 rfl (fun r1 u h1 => ?_)
  refine v_aload_n C dL_law_406 rfl 2 1 rfl rfl ?_
  refine v_callVR (w1 := cW ad1 cI cC cZ cQ) (w2 := mW ad2 cI) C (K.sub (tys' := [(cI, .int)]) [0] rfl) (c_X5_carryOut l D ad2 cI τ L a6.2.2 a6.2.1 n hw2 h a4.2.2 a4.2.1 ) gL_law_X5_carryOut rfl hd_X5_carryOut ⟨rfl, rfl⟩ ⟨Nat.le_of_ble_eq_true rfl, Nat.le_of_ble_eq_true rfl⟩ 0 rfl rfl rfl rfl rfl (Nat.le_of_ble_eq_true rfl) ⟨Nat.le_of_ble_eq_true rfl, Nat.le_of_ble_eq_true rfl⟩ dL_law_407 rfl (fun r2 v h2 => ?_)
  have hr : r1 = r2 ∧ SMx u v := sm_carry hs h1 h2
  exact v_icmp_eq C 936 dL_law_410 (by decide) rfl (fun _ => kk u v hr.2) (fun h9 => absurd hr.1 h9)
set_option maxHeartbeats 4000000 in
set_option maxRecDepth 100000 in
theorem lc_at {p : Program} {l : Launch} {e : Env} {s : State} {m : MethodId} {below : List Frame} {meth : Method} {c : Code} {Q : State → Prop} {D : va_G} {cI cC cZ cQ : ClassId} {ad1 ad2 : Nat → Nat} {tl tm tf b Ls : Nat} {xs : Nat → Int32} (C : CX p m c cL_law 4 s #[Value.ref b] wsL_law RL (fun q => s.heap.size ≤ q) s.heap) (K : va_K D vwCl (cTy cI cC cZ cQ) s) (hE : zS tl tm tf (fun q => s.heap.size ≤ q) s s.heap) (hX : va_X b Ls xs s s.heap) (hbl : b < s.heap.size) (hL : Ls ≤ 3072) {k : Nat} (hk : k + 6 ≤ Ls) {σ τ : S9} (hx : SMx σ τ) (kk : ∀ u v : S9, SMx u v → VV p l e room_1 s m #[Value.ref b] below meth c 600000 7302250 Q (fun u : S9 × S9 => cW ad1 cI cC cZ cQ u.1 ++ mW ad2 cI u.2) D (fun q => s.heap.size ≤ q) s.heap 4 (u, v) 936 [(3, .int (nI k)), (2, .ref (ad2 0)), (1, .ref (ad1 0)), (0, .ref b)] []) : VV p l e room_1 s m #[Value.ref b] below meth c 600000 7302250 Q (fun u : S9 × S9 => cW ad1 cI cC cZ cQ u.1 ++ mW ad2 cI u.2) D (fun q => s.heap.size ≤ q) s.heap 4 (σ, τ) 415 [(3, .int (nI k)), (2, .ref (ad2 0)), (1, .ref (ad1 0)), (0, .ref b)] [] := by
  obtain ⟨n, o, h, L, hs⟩ := hx
  obtain ⟨-, e0, a3, a4, -, a6, a7, -⟩ := id hs
  have hw2 : wfS (τ 0) n := by rw [e0]; exact hs.1.1
  have hbA : ¬ (fun q : Nat => s.heap.size ≤ q) b := Nat.not_le.mpr hbl
  refine v_aload_n C dL_law_415 rfl 1 2 rfl rfl ?_
  refine v_aload_n C dL_law_416 rfl 0 3 rfl rfl ?_
  refine v_iload_n C dL_law_417 rfl 3 0 rfl rfl ?_
  refine v_iconst (v := 1) C dL_law_418 rfl ic_1 ?_
  refine v_iadd C dL_law_419 rfl ?_
  refine v_sld C hX hbl hbA (k + 1) (nI_add k 1) (by omega) (by omega) dL_law_420 rfl ?_
  refine v_aload_n C dL_law_421 rfl 0 3 rfl rfl ?_
  refine v_iload_n C dL_law_422 rfl 3 0 rfl rfl ?_
  refine v_iconst (v := 2) C dL_law_423 rfl ic_2 ?_
  refine v_iadd C dL_law_424 rfl ?_
  refine v_sld C hX hbl hbA (k + 2) (nI_add k 2) (by omega) (by omega) dL_law_425 rfl ?_
  refine v_aload_n C dL_law_426 rfl 0 3 rfl rfl ?_
  refine v_iload_n C dL_law_427 rfl 3 0 rfl rfl ?_
  refine v_iconst (v := 3) C dL_law_428 rfl ic_3 ?_
  refine v_iadd C dL_law_429 rfl ?_
  refine v_sld C hX hbl hbA (k + 3) (nI_add k 3) (by omega) (by omega) dL_law_430 rfl ?_
  refine v_callVL (w1 := cW ad1 cI cC cZ cQ) (w2 := mW ad2 cI) C K (c_X4_at l D ad1 cI cC cZ cQ σ n hs.1 (xs (k + 1)) (xs (k + 2)) (xs (k + 3))) gL_law_X4_at rfl hd_X4_at ⟨rfl, rfl⟩ ⟨Nat.le_of_ble_eq_true rfl, Nat.le_of_ble_eq_true rfl⟩ 0 rfl rfl rfl rfl rfl (Nat.le_of_ble_eq_true rfl) ⟨Nat.le_of_ble_eq_true rfl, Nat.le_of_ble_eq_true rfl⟩ dL_law_431 rfl (fun r1 u h1 => ?_)
  refine v_aload_n C dL_law_434 rfl 2 1 rfl rfl ?_
  refine v_aload_n C dL_law_435 rfl 0 3 rfl rfl ?_
  refine v_iload_n C dL_law_436 rfl 3 0 rfl rfl ?_
  refine v_iconst (v := 1) C dL_law_437 rfl ic_1 ?_
  refine v_iadd C dL_law_438 rfl ?_
  refine v_sld C hX hbl hbA (k + 1) (nI_add k 1) (by omega) (by omega) dL_law_439 rfl ?_
  refine v_aload_n C dL_law_440 rfl 0 3 rfl rfl ?_
  refine v_iload_n C dL_law_441 rfl 3 0 rfl rfl ?_
  refine v_iconst (v := 2) C dL_law_442 rfl ic_2 ?_
  refine v_iadd C dL_law_443 rfl ?_
  refine v_sld C hX hbl hbA (k + 2) (nI_add k 2) (by omega) (by omega) dL_law_444 rfl ?_
  refine v_aload_n C dL_law_445 rfl 0 3 rfl rfl ?_
  refine v_iload_n C dL_law_446 rfl 3 0 rfl rfl ?_
  refine v_iconst (v := 3) C dL_law_447 rfl ic_3 ?_
  refine v_iadd C dL_law_448 rfl ?_
  refine v_sld C hX hbl hbA (k + 3) (nI_add k 3) (by omega) (by omega) dL_law_449 rfl ?_
  refine v_callVR (w1 := cW ad1 cI cC cZ cQ) (w2 := mW ad2 cI) C (K.sub (tys' := [(cI, .int)]) [0] rfl) (c_X5_at l D ad2 cI τ n hw2 (xs (k + 1)) (xs (k + 2)) (xs (k + 3))) gL_law_X5_at rfl hd_X5_at ⟨rfl, rfl⟩ ⟨Nat.le_of_ble_eq_true rfl, Nat.le_of_ble_eq_true rfl⟩ 0 rfl rfl rfl rfl rfl (Nat.le_of_ble_eq_true rfl) ⟨Nat.le_of_ble_eq_true rfl, Nat.le_of_ble_eq_true rfl⟩ dL_law_450 rfl (fun r2 v h2 => ?_)
  try rw [e0] at h2
  have hr : r1 = r2 ∧ SMx u v := sm_read hs h1 ⟨h2.1, ms9_sc h2.2⟩
  exact v_icmp_eq C 936 dL_law_453 (by decide) rfl (fun _ => kk u v hr.2) (fun h9 => absurd hr.1 h9)
set_option maxHeartbeats 4000000 in
set_option maxRecDepth 100000 in
theorem lc_of {p : Program} {l : Launch} {e : Env} {s : State} {m : MethodId} {below : List Frame} {meth : Method} {c : Code} {Q : State → Prop} {D : va_G} {cI cC cZ cQ : ClassId} {ad1 ad2 : Nat → Nat} {tl tm tf b Ls : Nat} {xs : Nat → Int32} (C : CX p m c cL_law 4 s #[Value.ref b] wsL_law RL (fun q => s.heap.size ≤ q) s.heap) (K : va_K D vwCl (cTy cI cC cZ cQ) s) (hE : zS tl tm tf (fun q => s.heap.size ≤ q) s s.heap) (hX : va_X b Ls xs s s.heap) (hbl : b < s.heap.size) (hL : Ls ≤ 3072) {k : Nat} (hk : k + 6 ≤ Ls) {σ τ : S9} (hx : SMx σ τ) (kk : ∀ u v : S9, SMx u v → VV p l e room_1 s m #[Value.ref b] below meth c 600000 7302250 Q (fun u : S9 × S9 => cW ad1 cI cC cZ cQ u.1 ++ mW ad2 cI u.2) D (fun q => s.heap.size ≤ q) s.heap 4 (u, v) 936 [(3, .int (nI k)), (2, .ref (ad2 0)), (1, .ref (ad1 0)), (0, .ref b)] []) : VV p l e room_1 s m #[Value.ref b] below meth c 600000 7302250 Q (fun u : S9 × S9 => cW ad1 cI cC cZ cQ u.1 ++ mW ad2 cI u.2) D (fun q => s.heap.size ≤ q) s.heap 4 (σ, τ) 458 [(3, .int (nI k)), (2, .ref (ad2 0)), (1, .ref (ad1 0)), (0, .ref b)] [] := by
  obtain ⟨n, o, h, L, hs⟩ := hx
  obtain ⟨-, e0, a3, a4, -, a6, a7, -⟩ := id hs
  have hw2 : wfS (τ 0) n := by rw [e0]; exact hs.1.1
  have hbA : ¬ (fun q : Nat => s.heap.size ≤ q) b := Nat.not_le.mpr hbl
  refine v_aload_n C dL_law_458 rfl 1 2 rfl rfl ?_
  refine v_aload_n C dL_law_459 rfl 0 3 rfl rfl ?_
  refine v_iload_n C dL_law_460 rfl 3 0 rfl rfl ?_
  refine v_iconst (v := 1) C dL_law_461 rfl ic_1 ?_
  refine v_iadd C dL_law_462 rfl ?_
  refine v_sld C hX hbl hbA (k + 1) (nI_add k 1) (by omega) (by omega) dL_law_463 rfl ?_
  refine v_aload_n C dL_law_464 rfl 0 3 rfl rfl ?_
  refine v_iload_n C dL_law_465 rfl 3 0 rfl rfl ?_
  refine v_iconst (v := 2) C dL_law_466 rfl ic_2 ?_
  refine v_iadd C dL_law_467 rfl ?_
  refine v_sld C hX hbl hbA (k + 2) (nI_add k 2) (by omega) (by omega) dL_law_468 rfl ?_
  refine v_callVL (w1 := cW ad1 cI cC cZ cQ) (w2 := mW ad2 cI) C K (c_X4_of l D ad1 cI cC cZ cQ σ n hs.1 (xs (k + 1)) (xs (k + 2))) gL_law_X4_of rfl hd_X4_of ⟨rfl, rfl⟩ ⟨Nat.le_of_ble_eq_true rfl, Nat.le_of_ble_eq_true rfl⟩ 0 rfl rfl rfl rfl rfl (Nat.le_of_ble_eq_true rfl) ⟨Nat.le_of_ble_eq_true rfl, Nat.le_of_ble_eq_true rfl⟩ dL_law_469 rfl (fun r1 u h1 => ?_)
  refine v_aload_n C dL_law_472 rfl 2 1 rfl rfl ?_
  refine v_aload_n C dL_law_473 rfl 0 3 rfl rfl ?_
  refine v_iload_n C dL_law_474 rfl 3 0 rfl rfl ?_
  refine v_iconst (v := 1) C dL_law_475 rfl ic_1 ?_
  refine v_iadd C dL_law_476 rfl ?_
  refine v_sld C hX hbl hbA (k + 1) (nI_add k 1) (by omega) (by omega) dL_law_477 rfl ?_
  refine v_aload_n C dL_law_478 rfl 0 3 rfl rfl ?_
  refine v_iload_n C dL_law_479 rfl 3 0 rfl rfl ?_
  refine v_iconst (v := 2) C dL_law_480 rfl ic_2 ?_
  refine v_iadd C dL_law_481 rfl ?_
  refine v_sld C hX hbl hbA (k + 2) (nI_add k 2) (by omega) (by omega) dL_law_482 rfl ?_
  refine v_callVR (w1 := cW ad1 cI cC cZ cQ) (w2 := mW ad2 cI) C (K.sub (tys' := [(cI, .int)]) [0] rfl) (c_X5_of l D ad2 cI τ n hw2 (xs (k + 1)) (xs (k + 2))) gL_law_X5_of rfl hd_X5_of ⟨rfl, rfl⟩ ⟨Nat.le_of_ble_eq_true rfl, Nat.le_of_ble_eq_true rfl⟩ 0 rfl rfl rfl rfl rfl (Nat.le_of_ble_eq_true rfl) ⟨Nat.le_of_ble_eq_true rfl, Nat.le_of_ble_eq_true rfl⟩ dL_law_483 rfl (fun r2 v h2 => ?_)
  try rw [e0] at h2
  have hr : r1 = r2 ∧ SMx u v := sm_read hs h1 ⟨h2.1, ms9_sc h2.2⟩
  exact v_icmp_eq C 936 dL_law_486 (by decide) rfl (fun _ => kk u v hr.2) (fun h9 => absurd hr.1 h9)
set_option maxHeartbeats 4000000 in
set_option maxRecDepth 100000 in
theorem lc_inWeek {p : Program} {l : Launch} {e : Env} {s : State} {m : MethodId} {below : List Frame} {meth : Method} {c : Code} {Q : State → Prop} {D : va_G} {cI cC cZ cQ : ClassId} {ad1 ad2 : Nat → Nat} {tl tm tf b Ls : Nat} {xs : Nat → Int32} (C : CX p m c cL_law 4 s #[Value.ref b] wsL_law RL (fun q => s.heap.size ≤ q) s.heap) (K : va_K D vwCl (cTy cI cC cZ cQ) s) (hE : zS tl tm tf (fun q => s.heap.size ≤ q) s s.heap) (hX : va_X b Ls xs s s.heap) (hbl : b < s.heap.size) (hL : Ls ≤ 3072) {k : Nat} (hk : k + 6 ≤ Ls) {σ τ : S9} (hx : SMx σ τ) (kk : ∀ u v : S9, SMx u v → VV p l e room_1 s m #[Value.ref b] below meth c 600000 7302250 Q (fun u : S9 × S9 => cW ad1 cI cC cZ cQ u.1 ++ mW ad2 cI u.2) D (fun q => s.heap.size ≤ q) s.heap 4 (u, v) 936 [(3, .int (nI k)), (2, .ref (ad2 0)), (1, .ref (ad1 0)), (0, .ref b)] []) : VV p l e room_1 s m #[Value.ref b] below meth c 600000 7302250 Q (fun u : S9 × S9 => cW ad1 cI cC cZ cQ u.1 ++ mW ad2 cI u.2) D (fun q => s.heap.size ≤ q) s.heap 4 (σ, τ) 491 [(3, .int (nI k)), (2, .ref (ad2 0)), (1, .ref (ad1 0)), (0, .ref b)] [] := by
  obtain ⟨n, o, h, L, hs⟩ := hx
  obtain ⟨-, e0, a3, a4, -, a6, a7, -⟩ := id hs
  have hw2 : wfS (τ 0) n := by rw [e0]; exact hs.1.1
  have hbA : ¬ (fun q : Nat => s.heap.size ≤ q) b := Nat.not_le.mpr hbl
  refine v_aload_n C dL_law_491 rfl 1 2 rfl rfl ?_
  refine v_aload_n C dL_law_492 rfl 0 3 rfl rfl ?_
  refine v_iload_n C dL_law_493 rfl 3 0 rfl rfl ?_
  refine v_iconst (v := 1) C dL_law_494 rfl ic_1 ?_
  refine v_iadd C dL_law_495 rfl ?_
  refine v_sld C hX hbl hbA (k + 1) (nI_add k 1) (by omega) (by omega) dL_law_496 rfl ?_
  refine v_aload_n C dL_law_497 rfl 0 3 rfl rfl ?_
  refine v_iload_n C dL_law_498 rfl 3 0 rfl rfl ?_
  refine v_iconst (v := 2) C dL_law_499 rfl ic_2 ?_
  refine v_iadd C dL_law_500 rfl ?_
  refine v_sld C hX hbl hbA (k + 2) (nI_add k 2) (by omega) (by omega) dL_law_501 rfl ?_
  refine v_aload_n C dL_law_502 rfl 0 3 rfl rfl ?_
  refine v_iload_n C dL_law_503 rfl 3 0 rfl rfl ?_
  refine v_iconst (v := 3) C dL_law_504 rfl ic_3 ?_
  refine v_iadd C dL_law_505 rfl ?_
  refine v_sld C hX hbl hbA (k + 3) (nI_add k 3) (by omega) (by omega) dL_law_506 rfl ?_
  refine v_callVL (w1 := cW ad1 cI cC cZ cQ) (w2 := mW ad2 cI) C K (c_X4_inWeek l D ad1 cI cC cZ cQ σ n hs.1 (xs (k + 1)) (xs (k + 2)) (xs (k + 3))) gL_law_X4_inWeek rfl hd_X4_inWeek ⟨rfl, rfl⟩ ⟨Nat.le_of_ble_eq_true rfl, Nat.le_of_ble_eq_true rfl⟩ 0 rfl rfl rfl rfl rfl (Nat.le_of_ble_eq_true rfl) ⟨Nat.le_of_ble_eq_true rfl, Nat.le_of_ble_eq_true rfl⟩ dL_law_507 rfl (fun r1 u h1 => ?_)
  refine v_aload_n C dL_law_510 rfl 2 1 rfl rfl ?_
  refine v_aload_n C dL_law_511 rfl 0 3 rfl rfl ?_
  refine v_iload_n C dL_law_512 rfl 3 0 rfl rfl ?_
  refine v_iconst (v := 1) C dL_law_513 rfl ic_1 ?_
  refine v_iadd C dL_law_514 rfl ?_
  refine v_sld C hX hbl hbA (k + 1) (nI_add k 1) (by omega) (by omega) dL_law_515 rfl ?_
  refine v_aload_n C dL_law_516 rfl 0 3 rfl rfl ?_
  refine v_iload_n C dL_law_517 rfl 3 0 rfl rfl ?_
  refine v_iconst (v := 2) C dL_law_518 rfl ic_2 ?_
  refine v_iadd C dL_law_519 rfl ?_
  refine v_sld C hX hbl hbA (k + 2) (nI_add k 2) (by omega) (by omega) dL_law_520 rfl ?_
  refine v_aload_n C dL_law_521 rfl 0 3 rfl rfl ?_
  refine v_iload_n C dL_law_522 rfl 3 0 rfl rfl ?_
  refine v_iconst (v := 3) C dL_law_523 rfl ic_3 ?_
  refine v_iadd C dL_law_524 rfl ?_
  refine v_sld C hX hbl hbA (k + 3) (nI_add k 3) (by omega) (by omega) dL_law_525 rfl ?_
  refine v_callVR (w1 := cW ad1 cI cC cZ cQ) (w2 := mW ad2 cI) C (K.sub (tys' := [(cI, .int)]) [0] rfl) (c_X5_inWeek l D ad2 cI τ n hw2 (xs (k + 1)) (xs (k + 2)) (xs (k + 3))) gL_law_X5_inWeek rfl hd_X5_inWeek ⟨rfl, rfl⟩ ⟨Nat.le_of_ble_eq_true rfl, Nat.le_of_ble_eq_true rfl⟩ 0 rfl rfl rfl rfl rfl (Nat.le_of_ble_eq_true rfl) ⟨Nat.le_of_ble_eq_true rfl, Nat.le_of_ble_eq_true rfl⟩ dL_law_526 rfl (fun r2 v h2 => ?_)
  try rw [e0] at h2
  have hr : r1 = r2 ∧ SMx u v := sm_read hs h1 ⟨h2.1, ms9_sc h2.2⟩
  exact v_icmp_eq C 936 dL_law_529 (by decide) rfl (fun _ => kk u v hr.2) (fun h9 => absurd hr.1 h9)
set_option maxHeartbeats 4000000 in
set_option maxRecDepth 100000 in
theorem lc_week {p : Program} {l : Launch} {e : Env} {s : State} {m : MethodId} {below : List Frame} {meth : Method} {c : Code} {Q : State → Prop} {D : va_G} {cI cC cZ cQ : ClassId} {ad1 ad2 : Nat → Nat} {tl tm tf b Ls : Nat} {xs : Nat → Int32} (C : CX p m c cL_law 4 s #[Value.ref b] wsL_law RL (fun q => s.heap.size ≤ q) s.heap) (K : va_K D vwCl (cTy cI cC cZ cQ) s) (hE : zS tl tm tf (fun q => s.heap.size ≤ q) s s.heap) (hX : va_X b Ls xs s s.heap) (hbl : b < s.heap.size) (hL : Ls ≤ 3072) {k : Nat} (hk : k + 6 ≤ Ls) {σ τ : S9} (hx : SMx σ τ) (kk : ∀ u v : S9, SMx u v → VV p l e room_1 s m #[Value.ref b] below meth c 600000 7302250 Q (fun u : S9 × S9 => cW ad1 cI cC cZ cQ u.1 ++ mW ad2 cI u.2) D (fun q => s.heap.size ≤ q) s.heap 4 (u, v) 936 [(3, .int (nI k)), (2, .ref (ad2 0)), (1, .ref (ad1 0)), (0, .ref b)] []) : VV p l e room_1 s m #[Value.ref b] below meth c 600000 7302250 Q (fun u : S9 × S9 => cW ad1 cI cC cZ cQ u.1 ++ mW ad2 cI u.2) D (fun q => s.heap.size ≤ q) s.heap 4 (σ, τ) 534 [(3, .int (nI k)), (2, .ref (ad2 0)), (1, .ref (ad1 0)), (0, .ref b)] [] := by
  obtain ⟨n, o, h, L, hs⟩ := hx
  obtain ⟨-, e0, a3, a4, -, a6, a7, -⟩ := id hs
  have hw2 : wfS (τ 0) n := by rw [e0]; exact hs.1.1
  have hbA : ¬ (fun q : Nat => s.heap.size ≤ q) b := Nat.not_le.mpr hbl
  refine v_aload_n C dL_law_534 rfl 1 2 rfl rfl ?_
  refine v_aload_n C dL_law_535 rfl 0 3 rfl rfl ?_
  refine v_iload_n C dL_law_536 rfl 3 0 rfl rfl ?_
  refine v_iconst (v := 1) C dL_law_537 rfl ic_1 ?_
  refine v_iadd C dL_law_538 rfl ?_
  refine v_sld C hX hbl hbA (k + 1) (nI_add k 1) (by omega) (by omega) dL_law_539 rfl ?_
  refine v_aload_n C dL_law_540 rfl 0 3 rfl rfl ?_
  refine v_iload_n C dL_law_541 rfl 3 0 rfl rfl ?_
  refine v_iconst (v := 2) C dL_law_542 rfl ic_2 ?_
  refine v_iadd C dL_law_543 rfl ?_
  refine v_sld C hX hbl hbA (k + 2) (nI_add k 2) (by omega) (by omega) dL_law_544 rfl ?_
  refine v_callVL (w1 := cW ad1 cI cC cZ cQ) (w2 := mW ad2 cI) C K (c_X4_week l D ad1 cI cC cZ cQ σ n hs.1 (xs (k + 1)) (xs (k + 2))) gL_law_X4_week rfl hd_X4_week ⟨rfl, rfl⟩ ⟨Nat.le_of_ble_eq_true rfl, Nat.le_of_ble_eq_true rfl⟩ 0 rfl rfl rfl rfl rfl (Nat.le_of_ble_eq_true rfl) ⟨Nat.le_of_ble_eq_true rfl, Nat.le_of_ble_eq_true rfl⟩ dL_law_545 rfl (fun r1 u h1 => ?_)
  refine v_aload_n C dL_law_548 rfl 2 1 rfl rfl ?_
  refine v_aload_n C dL_law_549 rfl 0 3 rfl rfl ?_
  refine v_iload_n C dL_law_550 rfl 3 0 rfl rfl ?_
  refine v_iconst (v := 1) C dL_law_551 rfl ic_1 ?_
  refine v_iadd C dL_law_552 rfl ?_
  refine v_sld C hX hbl hbA (k + 1) (nI_add k 1) (by omega) (by omega) dL_law_553 rfl ?_
  refine v_aload_n C dL_law_554 rfl 0 3 rfl rfl ?_
  refine v_iload_n C dL_law_555 rfl 3 0 rfl rfl ?_
  refine v_iconst (v := 2) C dL_law_556 rfl ic_2 ?_
  refine v_iadd C dL_law_557 rfl ?_
  refine v_sld C hX hbl hbA (k + 2) (nI_add k 2) (by omega) (by omega) dL_law_558 rfl ?_
  refine v_callVR (w1 := cW ad1 cI cC cZ cQ) (w2 := mW ad2 cI) C (K.sub (tys' := [(cI, .int)]) [0] rfl) (c_X5_week l D ad2 cI τ n hw2 (xs (k + 1)) (xs (k + 2))) gL_law_X5_week rfl hd_X5_week ⟨rfl, rfl⟩ ⟨Nat.le_of_ble_eq_true rfl, Nat.le_of_ble_eq_true rfl⟩ 0 rfl rfl rfl rfl rfl (Nat.le_of_ble_eq_true rfl) ⟨Nat.le_of_ble_eq_true rfl, Nat.le_of_ble_eq_true rfl⟩ dL_law_559 rfl (fun r2 v h2 => ?_)
  try rw [e0] at h2
  have hr : r1 = r2 ∧ SMx u v := sm_read hs h1 ⟨h2.1, ms9_sc h2.2⟩
  exact v_icmp_eq C 936 dL_law_562 (by decide) rfl (fun _ => kk u v hr.2) (fun h9 => absurd hr.1 h9)
set_option maxHeartbeats 4000000 in
set_option maxRecDepth 100000 in
theorem lc_distributor {p : Program} {l : Launch} {e : Env} {s : State} {m : MethodId} {below : List Frame} {meth : Method} {c : Code} {Q : State → Prop} {D : va_G} {cI cC cZ cQ : ClassId} {ad1 ad2 : Nat → Nat} {tl tm tf b Ls : Nat} {xs : Nat → Int32} (C : CX p m c cL_law 4 s #[Value.ref b] wsL_law RL (fun q => s.heap.size ≤ q) s.heap) (K : va_K D vwCl (cTy cI cC cZ cQ) s) (hE : zS tl tm tf (fun q => s.heap.size ≤ q) s s.heap) (hX : va_X b Ls xs s s.heap) (hbl : b < s.heap.size) (hL : Ls ≤ 3072) {k : Nat} (hk : k + 6 ≤ Ls) {σ τ : S9} (hx : SMx σ τ) (kk : ∀ u v : S9, SMx u v → VV p l e room_1 s m #[Value.ref b] below meth c 600000 7302250 Q (fun u : S9 × S9 => cW ad1 cI cC cZ cQ u.1 ++ mW ad2 cI u.2) D (fun q => s.heap.size ≤ q) s.heap 4 (u, v) 936 [(3, .int (nI k)), (2, .ref (ad2 0)), (1, .ref (ad1 0)), (0, .ref b)] []) : VV p l e room_1 s m #[Value.ref b] below meth c 600000 7302250 Q (fun u : S9 × S9 => cW ad1 cI cC cZ cQ u.1 ++ mW ad2 cI u.2) D (fun q => s.heap.size ≤ q) s.heap 4 (σ, τ) 567 [(3, .int (nI k)), (2, .ref (ad2 0)), (1, .ref (ad1 0)), (0, .ref b)] [] := by
  obtain ⟨n, o, h, L, hs⟩ := hx
  obtain ⟨-, e0, a3, a4, -, a6, a7, -⟩ := id hs
  have hw2 : wfS (τ 0) n := by rw [e0]; exact hs.1.1
  have hbA : ¬ (fun q : Nat => s.heap.size ≤ q) b := Nat.not_le.mpr hbl
  refine v_aload_n C dL_law_567 rfl 1 2 rfl rfl ?_
  refine v_aload_n C dL_law_568 rfl 0 3 rfl rfl ?_
  refine v_iload_n C dL_law_569 rfl 3 0 rfl rfl ?_
  refine v_iconst (v := 1) C dL_law_570 rfl ic_1 ?_
  refine v_iadd C dL_law_571 rfl ?_
  refine v_sld C hX hbl hbA (k + 1) (nI_add k 1) (by omega) (by omega) dL_law_572 rfl ?_
  refine v_aload_n C dL_law_573 rfl 0 3 rfl rfl ?_
  refine v_iload_n C dL_law_574 rfl 3 0 rfl rfl ?_
  refine v_iconst (v := 2) C dL_law_575 rfl ic_2 ?_
  refine v_iadd C dL_law_576 rfl ?_
  refine v_sld C hX hbl hbA (k + 2) (nI_add k 2) (by omega) (by omega) dL_law_577 rfl ?_
  refine v_callVL (w1 := cW ad1 cI cC cZ cQ) (w2 := mW ad2 cI) C K (c_X4_distributor l D ad1 cI cC cZ cQ σ n hs.1 (xs (k + 1)) (xs (k + 2))) gL_law_X4_distributor rfl hd_X4_distributor ⟨rfl, rfl⟩ ⟨Nat.le_of_ble_eq_true rfl, Nat.le_of_ble_eq_true rfl⟩ 0 rfl rfl rfl rfl rfl (Nat.le_of_ble_eq_true rfl) ⟨Nat.le_of_ble_eq_true rfl, Nat.le_of_ble_eq_true rfl⟩ dL_law_578 rfl (fun r1 u h1 => ?_)
  refine v_aload_n C dL_law_581 rfl 2 1 rfl rfl ?_
  refine v_aload_n C dL_law_582 rfl 0 3 rfl rfl ?_
  refine v_iload_n C dL_law_583 rfl 3 0 rfl rfl ?_
  refine v_iconst (v := 1) C dL_law_584 rfl ic_1 ?_
  refine v_iadd C dL_law_585 rfl ?_
  refine v_sld C hX hbl hbA (k + 1) (nI_add k 1) (by omega) (by omega) dL_law_586 rfl ?_
  refine v_aload_n C dL_law_587 rfl 0 3 rfl rfl ?_
  refine v_iload_n C dL_law_588 rfl 3 0 rfl rfl ?_
  refine v_iconst (v := 2) C dL_law_589 rfl ic_2 ?_
  refine v_iadd C dL_law_590 rfl ?_
  refine v_sld C hX hbl hbA (k + 2) (nI_add k 2) (by omega) (by omega) dL_law_591 rfl ?_
  refine v_callVR (w1 := cW ad1 cI cC cZ cQ) (w2 := mW ad2 cI) C (K.sub (tys' := [(cI, .int)]) [0] rfl) (c_X5_distributor l D ad2 cI τ n hw2 (xs (k + 1)) (xs (k + 2))) gL_law_X5_distributor rfl hd_X5_distributor ⟨rfl, rfl⟩ ⟨Nat.le_of_ble_eq_true rfl, Nat.le_of_ble_eq_true rfl⟩ 0 rfl rfl rfl rfl rfl (Nat.le_of_ble_eq_true rfl) ⟨Nat.le_of_ble_eq_true rfl, Nat.le_of_ble_eq_true rfl⟩ dL_law_592 rfl (fun r2 v h2 => ?_)
  try rw [e0] at h2
  have hr : r1 = r2 ∧ SMx u v := sm_read hs h1 ⟨h2.1, ms9_sc h2.2⟩
  exact v_icmp_eq C 936 dL_law_595 (by decide) rfl (fun _ => kk u v hr.2) (fun h9 => absurd hr.1 h9)

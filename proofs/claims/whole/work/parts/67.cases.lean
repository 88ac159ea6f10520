set_option maxHeartbeats 4000000 in
set_option maxRecDepth 100000 in
theorem lw_case_0 {p : Program} {l : Launch} {e : Env} {s : State} {m : MethodId} {below : List Frame} {meth : Method} {c : Code} {Qf : State → Prop} {D : va_G} {cs : ClassId × ClassId × ClassId} {bs L : Nat} {xs : Nat → Int32} {H : Heap} {locs : List Loc} {k n : Nat} {ls : Array Slot} {v : Int32} {x : hX} {I : Nat → Nat → Int32} {ρ : zR} {δ : zD} {η : zH} {ft tr : Int32} (X : lwX p s m meth c bs L xs D cs) (hC : CI I (ρ, δ, η, ft, tr)) (hM : MI I (ρ, δ, η, ft, tr)) (hWf : WF (ρ, δ, η, ft, tr)) (hW : sm_W s.heap.size D cs (hp x I) H) (hS : va_S (sm_A s.heap.size) s.heap H locs) (hl : lv_has ls 4 (lwL bs s.heap.size v)) (h1 : vp_in (v + 1) L) (h2 : vp_in (v + 2) L) (h3 : vp_in (v + 3) L) (h4 : vp_in (v + 4) L) (h5 : vp_in (v + 5) L) (hk : k + 1 ≤ 600000) (hn : n + 4 ≤ 7302250) (next : ∀ (x' : hX) (I' : Nat → Nat → Int32) (σ' : zS) (H' : Heap) (locs' : List Loc) (k' n' : Nat), CI I' σ' → MI I' σ' → WF σ' → sm_W s.heap.size D cs (hp x' I') H' → va_S (sm_A s.heap.size) s.heap H' locs' → k' ≤ k + 1 → n' ≤ n + 4 → W p l e room_1 s m #[Value.ref bs] below meth c H' locs' k' n' Qf (F0 m 1347 ls [])) : W p l e room_1 s m #[Value.ref bs] below meth c H locs k n Qf (F0 m 188 ls []) := by
  have hx := X.1.1
  have hb := X.1.2.1
  refine lv_aload_n hx hb dL_law_188 rfl (lv_at hl 1 rfl) ?_
  refine lw_arg X hS hl (w := 1) rfl h1 dL_law_189 dL_law_190 dL_law_191 dL_law_192 dL_law_193 ?_
  refine lw_arg X hS hl (w := 2) rfl h2 dL_law_194 dL_law_195 dL_law_196 dL_law_197 dL_law_198 ?_
  refine lw_arg X hS hl (w := 3) rfl h3 dL_law_199 dL_law_200 dL_law_201 dL_law_202 dL_law_203 ?_
  refine lw_arg X hS hl (w := 4) rfl h4 dL_law_204 dL_law_205 dL_law_206 dL_law_207 dL_law_208 ?_
  refine lw_V X.1 (q := 0) (c0 := 6) (mc' := 1) (ms' := 4) (As := [.int (xs (v + 1).toNatClampNeg), .int (xs (v + 2).toNatClampNeg), .int (xs (v + 3).toNatClampNeg), .int (xs (v + 4).toNatClampNeg)]) (st := []) dL_law_209 lL_13 (hl_ rfl) rfl rfl rfl (Nat.le_of_ble_eq_true rfl) (by omega) (by omega) (pc_ridge (d := 14) hC hWf) hW hS hl.1 (fun r0 h'0 H0 locs0 hq0 hW hS => ?_)
  obtain ⟨_, rfl, x1, I1, rfl, hx1, g1, hC1, rfl, hwf1, hwf2⟩ := hq0
  have hM1 := hM.same (fun r hr => g1 r (by unfold atM at hr; omega) (by unfold atM at hr; omega))
  refine lv_aload_n hx hb dL_law_212 rfl (lv_at hl 2 rfl) ?_
  refine lw_arg X hS hl (w := 1) rfl h1 dL_law_213 dL_law_214 dL_law_215 dL_law_216 dL_law_217 ?_
  refine lw_arg X hS hl (w := 2) rfl h2 dL_law_218 dL_law_219 dL_law_220 dL_law_221 dL_law_222 ?_
  refine lw_arg X hS hl (w := 3) rfl h3 dL_law_223 dL_law_224 dL_law_225 dL_law_226 dL_law_227 ?_
  refine lw_arg X hS hl (w := 4) rfl h4 dL_law_228 dL_law_229 dL_law_230 dL_law_231 dL_law_232 ?_
  refine lw_V X.1 (q := 80) (c0 := 7) (mc' := 0) (ms' := 0) (As := [.int (xs (v + 1).toNatClampNeg), .int (xs (v + 2).toNatClampNeg), .int (xs (v + 3).toNatClampNeg), .int (xs (v + 4).toNatClampNeg)]) (st := [.int _]) dL_law_233 lL_17 (hl_ rfl) rfl rfl rfl (Nat.le_of_ble_eq_true rfl) (by omega) (by omega) (pm_ridge (d := 15) hM1 hWf) hW hS hl.1 (fun r1 h'1 H1 locs1 hq1 hW hS => ?_)
  obtain ⟨_, rfl, I2, rfl, g2, hM2, rfl⟩ := hq1
  refine lv_icmp_eq (tgt := 1347) hx hb dL_law_236 (by decide) (fun _ => ?_) (fun z9 => absurd rfl z9)
  exact next x1 I2 _ _ _ _ _ (hC1.of80 g2) hM2 ⟨hwf1, hwf2, hWf.2.2⟩ hW hS (by omega) (by omega)

set_option maxHeartbeats 4000000 in
set_option maxRecDepth 100000 in
theorem lw_case_1 {p : Program} {l : Launch} {e : Env} {s : State} {m : MethodId} {below : List Frame} {meth : Method} {c : Code} {Qf : State → Prop} {D : va_G} {cs : ClassId × ClassId × ClassId} {bs L : Nat} {xs : Nat → Int32} {H : Heap} {locs : List Loc} {k n : Nat} {ls : Array Slot} {v : Int32} {x : hX} {I : Nat → Nat → Int32} {ρ : zR} {δ : zD} {η : zH} {ft tr : Int32} (X : lwX p s m meth c bs L xs D cs) (hC : CI I (ρ, δ, η, ft, tr)) (hM : MI I (ρ, δ, η, ft, tr)) (hWf : WF (ρ, δ, η, ft, tr)) (hW : sm_W s.heap.size D cs (hp x I) H) (hS : va_S (sm_A s.heap.size) s.heap H locs) (hl : lv_has ls 4 (lwL bs s.heap.size v)) (h1 : vp_in (v + 1) L) (h2 : vp_in (v + 2) L) (h3 : vp_in (v + 3) L) (h4 : vp_in (v + 4) L) (h5 : vp_in (v + 5) L) (hk : k + 1 ≤ 600000) (hn : n + 4 ≤ 7302250) (next : ∀ (x' : hX) (I' : Nat → Nat → Int32) (σ' : zS) (H' : Heap) (locs' : List Loc) (k' n' : Nat), CI I' σ' → MI I' σ' → WF σ' → sm_W s.heap.size D cs (hp x' I') H' → va_S (sm_A s.heap.size) s.heap H' locs' → k' ≤ k + 1 → n' ≤ n + 4 → W p l e room_1 s m #[Value.ref bs] below meth c H' locs' k' n' Qf (F0 m 1347 ls [])) : W p l e room_1 s m #[Value.ref bs] below meth c H locs k n Qf (F0 m 241 ls []) := by
  have hx := X.1.1
  have hb := X.1.2.1
  refine lv_aload_n hx hb dL_law_241 rfl (lv_at hl 1 rfl) ?_
  refine lw_arg X hS hl (w := 1) rfl h1 dL_law_242 dL_law_243 dL_law_244 dL_law_245 dL_law_246 ?_
  refine lw_arg X hS hl (w := 2) rfl h2 dL_law_247 dL_law_248 dL_law_249 dL_law_250 dL_law_251 ?_
  refine lw_V X.1 (q := 0) (c0 := 6) (mc' := 0) (ms' := 0) (As := [.int (xs (v + 1).toNatClampNeg), .int (xs (v + 2).toNatClampNeg)]) (st := []) dL_law_252 lL_18 (hl_ rfl) rfl rfl rfl (Nat.le_of_ble_eq_true rfl) (by omega) (by omega) (pc_ofInn (d := 18) hC hWf) hW hS hl.1 (fun r0 h'0 H0 locs0 hq0 hW hS => ?_)
  obtain ⟨_, rfl, rfl, rfl⟩ := hq0
  have hM1 := hM
  refine lv_aload_n hx hb dL_law_255 rfl (lv_at hl 2 rfl) ?_
  refine lw_arg X hS hl (w := 1) rfl h1 dL_law_256 dL_law_257 dL_law_258 dL_law_259 dL_law_260 ?_
  refine lw_arg X hS hl (w := 2) rfl h2 dL_law_261 dL_law_262 dL_law_263 dL_law_264 dL_law_265 ?_
  refine lw_V X.1 (q := 80) (c0 := 7) (mc' := 0) (ms' := 0) (As := [.int (xs (v + 1).toNatClampNeg), .int (xs (v + 2).toNatClampNeg)]) (st := [.int _]) dL_law_266 lL_22 (hl_ rfl) rfl rfl rfl (Nat.le_of_ble_eq_true rfl) (by omega) (by omega) (pm_ofInn (d := 17) hM1 hWf) hW hS hl.1 (fun r1 h'1 H1 locs1 hq1 hW hS => ?_)
  obtain ⟨_, rfl, rfl, rfl⟩ := hq1
  refine lv_icmp_eq (tgt := 1347) hx hb dL_law_269 (by decide) (fun _ => ?_) (fun z9 => absurd rfl z9)
  exact next x I _ _ _ _ _ hC hM hWf hW hS (by omega) (by omega)

set_option maxHeartbeats 4000000 in
set_option maxRecDepth 100000 in
theorem lw_case_2 {p : Program} {l : Launch} {e : Env} {s : State} {m : MethodId} {below : List Frame} {meth : Method} {c : Code} {Qf : State → Prop} {D : va_G} {cs : ClassId × ClassId × ClassId} {bs L : Nat} {xs : Nat → Int32} {H : Heap} {locs : List Loc} {k n : Nat} {ls : Array Slot} {v : Int32} {x : hX} {I : Nat → Nat → Int32} {ρ : zR} {δ : zD} {η : zH} {ft tr : Int32} (X : lwX p s m meth c bs L xs D cs) (hC : CI I (ρ, δ, η, ft, tr)) (hM : MI I (ρ, δ, η, ft, tr)) (hWf : WF (ρ, δ, η, ft, tr)) (hW : sm_W s.heap.size D cs (hp x I) H) (hS : va_S (sm_A s.heap.size) s.heap H locs) (hl : lv_has ls 4 (lwL bs s.heap.size v)) (h1 : vp_in (v + 1) L) (h2 : vp_in (v + 2) L) (h3 : vp_in (v + 3) L) (h4 : vp_in (v + 4) L) (h5 : vp_in (v + 5) L) (hk : k + 1 ≤ 600000) (hn : n + 4 ≤ 7302250) (next : ∀ (x' : hX) (I' : Nat → Nat → Int32) (σ' : zS) (H' : Heap) (locs' : List Loc) (k' n' : Nat), CI I' σ' → MI I' σ' → WF σ' → sm_W s.heap.size D cs (hp x' I') H' → va_S (sm_A s.heap.size) s.heap H' locs' → k' ≤ k + 1 → n' ≤ n + 4 → W p l e room_1 s m #[Value.ref bs] below meth c H' locs' k' n' Qf (F0 m 1347 ls [])) : W p l e room_1 s m #[Value.ref bs] below meth c H locs k n Qf (F0 m 274 ls []) := by
  have hx := X.1.1
  have hb := X.1.2.1
  refine lv_aload_n hx hb dL_law_274 rfl (lv_at hl 1 rfl) ?_
  refine lw_arg X hS hl (w := 1) rfl h1 dL_law_275 dL_law_276 dL_law_277 dL_law_278 dL_law_279 ?_
  refine lw_arg X hS hl (w := 2) rfl h2 dL_law_280 dL_law_281 dL_law_282 dL_law_283 dL_law_284 ?_
  refine lw_V X.1 (q := 0) (c0 := 6) (mc' := 0) (ms' := 0) (As := [.int (xs (v + 1).toNatClampNeg), .int (xs (v + 2).toNatClampNeg)]) (st := []) dL_law_285 lL_23 (hl_ rfl) rfl rfl rfl (Nat.le_of_ble_eq_true rfl) (by omega) (by omega) (pc_ofGuest (d := 18) hC hWf) hW hS hl.1 (fun r0 h'0 H0 locs0 hq0 hW hS => ?_)
  obtain ⟨_, rfl, rfl, rfl⟩ := hq0
  have hM1 := hM
  refine lv_aload_n hx hb dL_law_288 rfl (lv_at hl 2 rfl) ?_
  refine lw_arg X hS hl (w := 1) rfl h1 dL_law_289 dL_law_290 dL_law_291 dL_law_292 dL_law_293 ?_
  refine lw_arg X hS hl (w := 2) rfl h2 dL_law_294 dL_law_295 dL_law_296 dL_law_297 dL_law_298 ?_
  refine lw_V X.1 (q := 80) (c0 := 7) (mc' := 0) (ms' := 0) (As := [.int (xs (v + 1).toNatClampNeg), .int (xs (v + 2).toNatClampNeg)]) (st := [.int _]) dL_law_299 lL_26 (hl_ rfl) rfl rfl rfl (Nat.le_of_ble_eq_true rfl) (by omega) (by omega) (pm_ofGuest (d := 17) hM1 hWf) hW hS hl.1 (fun r1 h'1 H1 locs1 hq1 hW hS => ?_)
  obtain ⟨_, rfl, rfl, rfl⟩ := hq1
  refine lv_icmp_eq (tgt := 1347) hx hb dL_law_302 (by decide) (fun _ => ?_) (fun z9 => absurd rfl z9)
  exact next x I _ _ _ _ _ hC hM hWf hW hS (by omega) (by omega)

set_option maxHeartbeats 4000000 in
set_option maxRecDepth 100000 in
theorem lw_case_3 {p : Program} {l : Launch} {e : Env} {s : State} {m : MethodId} {below : List Frame} {meth : Method} {c : Code} {Qf : State → Prop} {D : va_G} {cs : ClassId × ClassId × ClassId} {bs L : Nat} {xs : Nat → Int32} {H : Heap} {locs : List Loc} {k n : Nat} {ls : Array Slot} {v : Int32} {x : hX} {I : Nat → Nat → Int32} {ρ : zR} {δ : zD} {η : zH} {ft tr : Int32} (X : lwX p s m meth c bs L xs D cs) (hC : CI I (ρ, δ, η, ft, tr)) (hM : MI I (ρ, δ, η, ft, tr)) (hWf : WF (ρ, δ, η, ft, tr)) (hW : sm_W s.heap.size D cs (hp x I) H) (hS : va_S (sm_A s.heap.size) s.heap H locs) (hl : lv_has ls 4 (lwL bs s.heap.size v)) (h1 : vp_in (v + 1) L) (h2 : vp_in (v + 2) L) (h3 : vp_in (v + 3) L) (h4 : vp_in (v + 4) L) (h5 : vp_in (v + 5) L) (hk : k + 1 ≤ 600000) (hn : n + 4 ≤ 7302250) (next : ∀ (x' : hX) (I' : Nat → Nat → Int32) (σ' : zS) (H' : Heap) (locs' : List Loc) (k' n' : Nat), CI I' σ' → MI I' σ' → WF σ' → sm_W s.heap.size D cs (hp x' I') H' → va_S (sm_A s.heap.size) s.heap H' locs' → k' ≤ k + 1 → n' ≤ n + 4 → W p l e room_1 s m #[Value.ref bs] below meth c H' locs' k' n' Qf (F0 m 1347 ls [])) : W p l e room_1 s m #[Value.ref bs] below meth c H locs k n Qf (F0 m 307 ls []) := by
  have hx := X.1.1
  have hb := X.1.2.1
  refine lv_aload_n hx hb dL_law_307 rfl (lv_at hl 1 rfl) ?_
  refine lw_arg X hS hl (w := 1) rfl h1 dL_law_308 dL_law_309 dL_law_310 dL_law_311 dL_law_312 ?_
  refine lw_arg X hS hl (w := 2) rfl h2 dL_law_313 dL_law_314 dL_law_315 dL_law_316 dL_law_317 ?_
  refine lw_V X.1 (q := 0) (c0 := 6) (mc' := 0) (ms' := 0) (As := [.int (xs (v + 1).toNatClampNeg), .int (xs (v + 2).toNatClampNeg)]) (st := []) dL_law_318 lL_27 (hl_ rfl) rfl rfl rfl (Nat.le_of_ble_eq_true rfl) (by omega) (by omega) (pc_ofNight (d := 18) hC hWf) hW hS hl.1 (fun r0 h'0 H0 locs0 hq0 hW hS => ?_)
  obtain ⟨_, rfl, rfl, rfl⟩ := hq0
  have hM1 := hM
  refine lv_aload_n hx hb dL_law_321 rfl (lv_at hl 2 rfl) ?_
  refine lw_arg X hS hl (w := 1) rfl h1 dL_law_322 dL_law_323 dL_law_324 dL_law_325 dL_law_326 ?_
  refine lw_arg X hS hl (w := 2) rfl h2 dL_law_327 dL_law_328 dL_law_329 dL_law_330 dL_law_331 ?_
  refine lw_V X.1 (q := 80) (c0 := 7) (mc' := 0) (ms' := 0) (As := [.int (xs (v + 1).toNatClampNeg), .int (xs (v + 2).toNatClampNeg)]) (st := [.int _]) dL_law_332 lL_30 (hl_ rfl) rfl rfl rfl (Nat.le_of_ble_eq_true rfl) (by omega) (by omega) (pm_ofNight (d := 17) hM1 hWf) hW hS hl.1 (fun r1 h'1 H1 locs1 hq1 hW hS => ?_)
  obtain ⟨_, rfl, rfl, rfl⟩ := hq1
  refine lv_icmp_eq (tgt := 1347) hx hb dL_law_335 (by decide) (fun _ => ?_) (fun z9 => absurd rfl z9)
  exact next x I _ _ _ _ _ hC hM hWf hW hS (by omega) (by omega)

set_option maxHeartbeats 4000000 in
set_option maxRecDepth 100000 in
theorem lw_case_4 {p : Program} {l : Launch} {e : Env} {s : State} {m : MethodId} {below : List Frame} {meth : Method} {c : Code} {Qf : State → Prop} {D : va_G} {cs : ClassId × ClassId × ClassId} {bs L : Nat} {xs : Nat → Int32} {H : Heap} {locs : List Loc} {k n : Nat} {ls : Array Slot} {v : Int32} {x : hX} {I : Nat → Nat → Int32} {ρ : zR} {δ : zD} {η : zH} {ft tr : Int32} (X : lwX p s m meth c bs L xs D cs) (hC : CI I (ρ, δ, η, ft, tr)) (hM : MI I (ρ, δ, η, ft, tr)) (hWf : WF (ρ, δ, η, ft, tr)) (hW : sm_W s.heap.size D cs (hp x I) H) (hS : va_S (sm_A s.heap.size) s.heap H locs) (hl : lv_has ls 4 (lwL bs s.heap.size v)) (h1 : vp_in (v + 1) L) (h2 : vp_in (v + 2) L) (h3 : vp_in (v + 3) L) (h4 : vp_in (v + 4) L) (h5 : vp_in (v + 5) L) (hk : k + 1 ≤ 600000) (hn : n + 4 ≤ 7302250) (next : ∀ (x' : hX) (I' : Nat → Nat → Int32) (σ' : zS) (H' : Heap) (locs' : List Loc) (k' n' : Nat), CI I' σ' → MI I' σ' → WF σ' → sm_W s.heap.size D cs (hp x' I') H' → va_S (sm_A s.heap.size) s.heap H' locs' → k' ≤ k + 1 → n' ≤ n + 4 → W p l e room_1 s m #[Value.ref bs] below meth c H' locs' k' n' Qf (F0 m 1347 ls [])) : W p l e room_1 s m #[Value.ref bs] below meth c H locs k n Qf (F0 m 340 ls []) := by
  have hx := X.1.1
  have hb := X.1.2.1
  refine lv_aload_n hx hb dL_law_340 rfl (lv_at hl 1 rfl) ?_
  refine lw_arg X hS hl (w := 1) rfl h1 dL_law_341 dL_law_342 dL_law_343 dL_law_344 dL_law_345 ?_
  refine lw_V X.1 (q := 0) (c0 := 6) (mc' := 0) (ms' := 0) (As := [.int (xs (v + 1).toNatClampNeg)]) (st := []) dL_law_346 lL_31 (hl_ rfl) rfl rfl rfl (Nat.le_of_ble_eq_true rfl) (by omega) (by omega) (pc_rule (d := 18) hC hWf) hW hS hl.1 (fun r0 h'0 H0 locs0 hq0 hW hS => ?_)
  obtain ⟨_, rfl, I1, rfl, g1, hC1, rfl⟩ := hq0
  have hM1 := hM.of80 g1
  refine lv_aload_n hx hb dL_law_349 rfl (lv_at hl 2 rfl) ?_
  refine lw_arg X hS hl (w := 1) rfl h1 dL_law_350 dL_law_351 dL_law_352 dL_law_353 dL_law_354 ?_
  refine lw_V X.1 (q := 80) (c0 := 7) (mc' := 0) (ms' := 0) (As := [.int (xs (v + 1).toNatClampNeg)]) (st := [.int _]) dL_law_355 lL_35 (hl_ rfl) rfl rfl rfl (Nat.le_of_ble_eq_true rfl) (by omega) (by omega) (pm_rule (d := 18) hM1 hWf) hW hS hl.1 (fun r1 h'1 H1 locs1 hq1 hW hS => ?_)
  obtain ⟨_, rfl, I2, rfl, g2, hM2, rfl⟩ := hq1
  refine lv_icmp_eq (tgt := 1347) hx hb dL_law_358 (by decide) (fun _ => ?_) (fun z9 => absurd rfl z9)
  exact next x I2 _ _ _ _ _ (hC1.of80 g2) hM2 (wf_rule hWf) hW hS (by omega) (by omega)

set_option maxHeartbeats 4000000 in
set_option maxRecDepth 100000 in
theorem lw_case_5 {p : Program} {l : Launch} {e : Env} {s : State} {m : MethodId} {below : List Frame} {meth : Method} {c : Code} {Qf : State → Prop} {D : va_G} {cs : ClassId × ClassId × ClassId} {bs L : Nat} {xs : Nat → Int32} {H : Heap} {locs : List Loc} {k n : Nat} {ls : Array Slot} {v : Int32} {x : hX} {I : Nat → Nat → Int32} {ρ : zR} {δ : zD} {η : zH} {ft tr : Int32} (X : lwX p s m meth c bs L xs D cs) (hC : CI I (ρ, δ, η, ft, tr)) (hM : MI I (ρ, δ, η, ft, tr)) (hWf : WF (ρ, δ, η, ft, tr)) (hW : sm_W s.heap.size D cs (hp x I) H) (hS : va_S (sm_A s.heap.size) s.heap H locs) (hl : lv_has ls 4 (lwL bs s.heap.size v)) (h1 : vp_in (v + 1) L) (h2 : vp_in (v + 2) L) (h3 : vp_in (v + 3) L) (h4 : vp_in (v + 4) L) (h5 : vp_in (v + 5) L) (hk : k + 1 ≤ 600000) (hn : n + 4 ≤ 7302250) (next : ∀ (x' : hX) (I' : Nat → Nat → Int32) (σ' : zS) (H' : Heap) (locs' : List Loc) (k' n' : Nat), CI I' σ' → MI I' σ' → WF σ' → sm_W s.heap.size D cs (hp x' I') H' → va_S (sm_A s.heap.size) s.heap H' locs' → k' ≤ k + 1 → n' ≤ n + 4 → W p l e room_1 s m #[Value.ref bs] below meth c H' locs' k' n' Qf (F0 m 1347 ls [])) : W p l e room_1 s m #[Value.ref bs] below meth c H locs k n Qf (F0 m 363 ls []) := by
  have hx := X.1.1
  have hb := X.1.2.1
  refine lv_aload_n hx hb dL_law_363 rfl (lv_at hl 1 rfl) ?_
  refine lw_arg X hS hl (w := 1) rfl h1 dL_law_364 dL_law_365 dL_law_366 dL_law_367 dL_law_368 ?_
  refine lw_arg X hS hl (w := 2) rfl h2 dL_law_369 dL_law_370 dL_law_371 dL_law_372 dL_law_373 ?_
  refine lw_V X.1 (q := 0) (c0 := 6) (mc' := 0) (ms' := 0) (As := [.int (xs (v + 1).toNatClampNeg), .int (xs (v + 2).toNatClampNeg)]) (st := []) dL_law_374 lL_36 (hl_ rfl) rfl rfl rfl (Nat.le_of_ble_eq_true rfl) (by omega) (by omega) (pc_fall (d := 18) hC hWf) hW hS hl.1 (fun r0 h'0 H0 locs0 hq0 hW hS => ?_)
  obtain ⟨_, rfl, I1, rfl, g1, hC1, rfl⟩ := hq0
  have hM1 := hM.of80 g1
  refine lv_aload_n hx hb dL_law_377 rfl (lv_at hl 2 rfl) ?_
  refine lw_arg X hS hl (w := 1) rfl h1 dL_law_378 dL_law_379 dL_law_380 dL_law_381 dL_law_382 ?_
  refine lw_arg X hS hl (w := 2) rfl h2 dL_law_383 dL_law_384 dL_law_385 dL_law_386 dL_law_387 ?_
  refine lw_V X.1 (q := 80) (c0 := 7) (mc' := 0) (ms' := 0) (As := [.int (xs (v + 1).toNatClampNeg), .int (xs (v + 2).toNatClampNeg)]) (st := [.int _]) dL_law_388 lL_39 (hl_ rfl) rfl rfl rfl (Nat.le_of_ble_eq_true rfl) (by omega) (by omega) (pm_fall (d := 17) hM1 hWf) hW hS hl.1 (fun r1 h'1 H1 locs1 hq1 hW hS => ?_)
  obtain ⟨_, rfl, I2, rfl, g2, hM2, rfl⟩ := hq1
  refine lv_icmp_eq (tgt := 1347) hx hb dL_law_391 (by decide) (fun _ => ?_) (fun z9 => absurd rfl z9)
  exact next x I2 _ _ _ _ _ (hC1.of80 g2) hM2 (wf_fall hWf) hW hS (by omega) (by omega)

set_option maxHeartbeats 4000000 in
set_option maxRecDepth 100000 in
theorem lw_case_6 {p : Program} {l : Launch} {e : Env} {s : State} {m : MethodId} {below : List Frame} {meth : Method} {c : Code} {Qf : State → Prop} {D : va_G} {cs : ClassId × ClassId × ClassId} {bs L : Nat} {xs : Nat → Int32} {H : Heap} {locs : List Loc} {k n : Nat} {ls : Array Slot} {v : Int32} {x : hX} {I : Nat → Nat → Int32} {ρ : zR} {δ : zD} {η : zH} {ft tr : Int32} (X : lwX p s m meth c bs L xs D cs) (hC : CI I (ρ, δ, η, ft, tr)) (hM : MI I (ρ, δ, η, ft, tr)) (hWf : WF (ρ, δ, η, ft, tr)) (hW : sm_W s.heap.size D cs (hp x I) H) (hS : va_S (sm_A s.heap.size) s.heap H locs) (hl : lv_has ls 4 (lwL bs s.heap.size v)) (h1 : vp_in (v + 1) L) (h2 : vp_in (v + 2) L) (h3 : vp_in (v + 3) L) (h4 : vp_in (v + 4) L) (h5 : vp_in (v + 5) L) (hk : k + 1 ≤ 600000) (hn : n + 4 ≤ 7302250) (next : ∀ (x' : hX) (I' : Nat → Nat → Int32) (σ' : zS) (H' : Heap) (locs' : List Loc) (k' n' : Nat), CI I' σ' → MI I' σ' → WF σ' → sm_W s.heap.size D cs (hp x' I') H' → va_S (sm_A s.heap.size) s.heap H' locs' → k' ≤ k + 1 → n' ≤ n + 4 → W p l e room_1 s m #[Value.ref bs] below meth c H' locs' k' n' Qf (F0 m 1347 ls [])) : W p l e room_1 s m #[Value.ref bs] below meth c H locs k n Qf (F0 m 396 ls []) := by
  have hx := X.1.1
  have hb := X.1.2.1
  refine lv_aload_n hx hb dL_law_396 rfl (lv_at hl 1 rfl) ?_
  refine lw_arg X hS hl (w := 1) rfl h1 dL_law_397 dL_law_398 dL_law_399 dL_law_400 dL_law_401 ?_
  refine lw_arg X hS hl (w := 2) rfl h2 dL_law_402 dL_law_403 dL_law_404 dL_law_405 dL_law_406 ?_
  refine lv_if_eq (tgt := 414) hx hb dL_law_407 (by decide) (fun z => ?_) (fun z => ?_)
  · refine lv_iconst (v := nI 0) hx hb dL_law_414 rfl ?_
    refine lw_V X.1 (q := 0) (c0 := 6) (mc' := 0) (ms' := 0) (As := [.int (xs (v + 1).toNatClampNeg), .int (nI 0)]) (st := []) dL_law_415 lL_40 (hl_ rfl) rfl rfl rfl (Nat.le_of_ble_eq_true rfl) (by omega) (by omega) (pc_gust (d := 18) (b := 0) hC hWf (by decide)) hW hS hl.1 (fun r0 h'0 H0 locs0 hq0 hW hS => ?_)
    obtain ⟨_, rfl, I1, rfl, g1, hC1, rfl⟩ := hq0
    have hM1 := hM.of80 g1
    refine lv_aload_n hx hb dL_law_418 rfl (lv_at hl 2 rfl) ?_
    refine lw_arg X hS hl (w := 1) rfl h1 dL_law_419 dL_law_420 dL_law_421 dL_law_422 dL_law_423 ?_
    refine lw_arg X hS hl (w := 2) rfl h2 dL_law_424 dL_law_425 dL_law_426 dL_law_427 dL_law_428 ?_
    refine lv_if_eq (tgt := 436) hx hb dL_law_429 (by decide) (fun _ => ?_) (fun z2 => absurd z z2)
    refine lv_iconst (v := nI 0) hx hb dL_law_436 rfl ?_
    refine lw_V X.1 (q := 80) (c0 := 7) (mc' := 0) (ms' := 0) (As := [.int (xs (v + 1).toNatClampNeg), .int (nI 0)]) (st := [.int _]) dL_law_437 lL_44 (hl_ rfl) rfl rfl rfl (Nat.le_of_ble_eq_true rfl) (by omega) (by omega) (pm_gust (d := 17) (b := 0) hM1 hWf (by decide)) hW hS hl.1 (fun r1 h'1 H1 locs1 hq1 hW hS => ?_)
    obtain ⟨_, rfl, I2, rfl, g2, hM2, rfl⟩ := hq1
    refine lv_icmp_eq (tgt := 1347) hx hb dL_law_440 (by decide) (fun _ => ?_) (fun z9 => absurd rfl z9)
    exact next x I2 _ _ _ _ _ (hC1.of80 g2) hM2 (wf_gust (by decide) hWf) hW hS (by omega) (by omega)
  · refine lv_iconst (v := nI 1) hx hb dL_law_410 rfl ?_
    refine lv_goto (tgt := 415) hx hb dL_law_411 (by decide) ?_
    refine lw_V X.1 (q := 0) (c0 := 6) (mc' := 0) (ms' := 0) (As := [.int (xs (v + 1).toNatClampNeg), .int (nI 1)]) (st := []) dL_law_415 lL_40 (hl_ rfl) rfl rfl rfl (Nat.le_of_ble_eq_true rfl) (by omega) (by omega) (pc_gust (d := 18) (b := 1) hC hWf (by decide)) hW hS hl.1 (fun r0 h'0 H0 locs0 hq0 hW hS => ?_)
    obtain ⟨_, rfl, I1, rfl, g1, hC1, rfl⟩ := hq0
    have hM1 := hM.of80 g1
    refine lv_aload_n hx hb dL_law_418 rfl (lv_at hl 2 rfl) ?_
    refine lw_arg X hS hl (w := 1) rfl h1 dL_law_419 dL_law_420 dL_law_421 dL_law_422 dL_law_423 ?_
    refine lw_arg X hS hl (w := 2) rfl h2 dL_law_424 dL_law_425 dL_law_426 dL_law_427 dL_law_428 ?_
    refine lv_if_eq (tgt := 436) hx hb dL_law_429 (by decide) (fun z2 => absurd z2 z) (fun _ => ?_)
    refine lv_iconst (v := nI 1) hx hb dL_law_432 rfl ?_
    refine lv_goto (tgt := 437) hx hb dL_law_433 (by decide) ?_
    refine lw_V X.1 (q := 80) (c0 := 7) (mc' := 0) (ms' := 0) (As := [.int (xs (v + 1).toNatClampNeg), .int (nI 1)]) (st := [.int _]) dL_law_437 lL_44 (hl_ rfl) rfl rfl rfl (Nat.le_of_ble_eq_true rfl) (by omega) (by omega) (pm_gust (d := 17) (b := 1) hM1 hWf (by decide)) hW hS hl.1 (fun r1 h'1 H1 locs1 hq1 hW hS => ?_)
    obtain ⟨_, rfl, I2, rfl, g2, hM2, rfl⟩ := hq1
    refine lv_icmp_eq (tgt := 1347) hx hb dL_law_440 (by decide) (fun _ => ?_) (fun z9 => absurd rfl z9)
    exact next x I2 _ _ _ _ _ (hC1.of80 g2) hM2 (wf_gust (by decide) hWf) hW hS (by omega) (by omega)

set_option maxHeartbeats 4000000 in
set_option maxRecDepth 100000 in
theorem lw_case_7 {p : Program} {l : Launch} {e : Env} {s : State} {m : MethodId} {below : List Frame} {meth : Method} {c : Code} {Qf : State → Prop} {D : va_G} {cs : ClassId × ClassId × ClassId} {bs L : Nat} {xs : Nat → Int32} {H : Heap} {locs : List Loc} {k n : Nat} {ls : Array Slot} {v : Int32} {x : hX} {I : Nat → Nat → Int32} {ρ : zR} {δ : zD} {η : zH} {ft tr : Int32} (X : lwX p s m meth c bs L xs D cs) (hC : CI I (ρ, δ, η, ft, tr)) (hM : MI I (ρ, δ, η, ft, tr)) (hWf : WF (ρ, δ, η, ft, tr)) (hW : sm_W s.heap.size D cs (hp x I) H) (hS : va_S (sm_A s.heap.size) s.heap H locs) (hl : lv_has ls 4 (lwL bs s.heap.size v)) (h1 : vp_in (v + 1) L) (h2 : vp_in (v + 2) L) (h3 : vp_in (v + 3) L) (h4 : vp_in (v + 4) L) (h5 : vp_in (v + 5) L) (hk : k + 1 ≤ 600000) (hn : n + 4 ≤ 7302250) (next : ∀ (x' : hX) (I' : Nat → Nat → Int32) (σ' : zS) (H' : Heap) (locs' : List Loc) (k' n' : Nat), CI I' σ' → MI I' σ' → WF σ' → sm_W s.heap.size D cs (hp x' I') H' → va_S (sm_A s.heap.size) s.heap H' locs' → k' ≤ k + 1 → n' ≤ n + 4 → W p l e room_1 s m #[Value.ref bs] below meth c H' locs' k' n' Qf (F0 m 1347 ls [])) : W p l e room_1 s m #[Value.ref bs] below meth c H locs k n Qf (F0 m 445 ls []) := by
  have hx := X.1.1
  have hb := X.1.2.1
  refine lv_aload_n hx hb dL_law_445 rfl (lv_at hl 1 rfl) ?_
  refine lw_arg X hS hl (w := 1) rfl h1 dL_law_446 dL_law_447 dL_law_448 dL_law_449 dL_law_450 ?_
  refine lw_arg X hS hl (w := 2) rfl h2 dL_law_451 dL_law_452 dL_law_453 dL_law_454 dL_law_455 ?_
  refine lw_V X.1 (q := 0) (c0 := 6) (mc' := 0) (ms' := 0) (As := [.int (xs (v + 1).toNatClampNeg), .int (xs (v + 2).toNatClampNeg)]) (st := []) dL_law_456 lL_45 (hl_ rfl) rfl rfl rfl (Nat.le_of_ble_eq_true rfl) (by omega) (by omega) (pc_lodge (d := 18) hC hWf) hW hS hl.1 (fun r0 h'0 H0 locs0 hq0 hW hS => ?_)
  obtain ⟨_, rfl, I1, rfl, g1, hC1, rfl⟩ := hq0
  have hM1 := hM.of80 g1
  refine lv_aload_n hx hb dL_law_459 rfl (lv_at hl 2 rfl) ?_
  refine lw_arg X hS hl (w := 1) rfl h1 dL_law_460 dL_law_461 dL_law_462 dL_law_463 dL_law_464 ?_
  refine lw_arg X hS hl (w := 2) rfl h2 dL_law_465 dL_law_466 dL_law_467 dL_law_468 dL_law_469 ?_
  refine lw_V X.1 (q := 80) (c0 := 7) (mc' := 0) (ms' := 0) (As := [.int (xs (v + 1).toNatClampNeg), .int (xs (v + 2).toNatClampNeg)]) (st := [.int _]) dL_law_470 lL_48 (hl_ rfl) rfl rfl rfl (Nat.le_of_ble_eq_true rfl) (by omega) (by omega) (pm_lodge (d := 17) hM1 hWf) hW hS hl.1 (fun r1 h'1 H1 locs1 hq1 hW hS => ?_)
  obtain ⟨_, rfl, I2, rfl, g2, hM2, rfl⟩ := hq1
  refine lv_icmp_eq (tgt := 1347) hx hb dL_law_473 (by decide) (fun _ => ?_) (fun z9 => absurd rfl z9)
  exact next x I2 _ _ _ _ _ (hC1.of80 g2) hM2 (wf_lodge hWf) hW hS (by omega) (by omega)

set_option maxHeartbeats 4000000 in
set_option maxRecDepth 100000 in
theorem lw_case_8 {p : Program} {l : Launch} {e : Env} {s : State} {m : MethodId} {below : List Frame} {meth : Method} {c : Code} {Qf : State → Prop} {D : va_G} {cs : ClassId × ClassId × ClassId} {bs L : Nat} {xs : Nat → Int32} {H : Heap} {locs : List Loc} {k n : Nat} {ls : Array Slot} {v : Int32} {x : hX} {I : Nat → Nat → Int32} {ρ : zR} {δ : zD} {η : zH} {ft tr : Int32} (X : lwX p s m meth c bs L xs D cs) (hC : CI I (ρ, δ, η, ft, tr)) (hM : MI I (ρ, δ, η, ft, tr)) (hWf : WF (ρ, δ, η, ft, tr)) (hW : sm_W s.heap.size D cs (hp x I) H) (hS : va_S (sm_A s.heap.size) s.heap H locs) (hl : lv_has ls 4 (lwL bs s.heap.size v)) (h1 : vp_in (v + 1) L) (h2 : vp_in (v + 2) L) (h3 : vp_in (v + 3) L) (h4 : vp_in (v + 4) L) (h5 : vp_in (v + 5) L) (hk : k + 1 ≤ 600000) (hn : n + 4 ≤ 7302250) (next : ∀ (x' : hX) (I' : Nat → Nat → Int32) (σ' : zS) (H' : Heap) (locs' : List Loc) (k' n' : Nat), CI I' σ' → MI I' σ' → WF σ' → sm_W s.heap.size D cs (hp x' I') H' → va_S (sm_A s.heap.size) s.heap H' locs' → k' ≤ k + 1 → n' ≤ n + 4 → W p l e room_1 s m #[Value.ref bs] below meth c H' locs' k' n' Qf (F0 m 1347 ls [])) : W p l e room_1 s m #[Value.ref bs] below meth c H locs k n Qf (F0 m 478 ls []) := by
  have hx := X.1.1
  have hb := X.1.2.1
  refine lv_aload_n hx hb dL_law_478 rfl (lv_at hl 1 rfl) ?_
  refine lw_arg X hS hl (w := 1) rfl h1 dL_law_479 dL_law_480 dL_law_481 dL_law_482 dL_law_483 ?_
  refine lw_arg X hS hl (w := 2) rfl h2 dL_law_484 dL_law_485 dL_law_486 dL_law_487 dL_law_488 ?_
  refine lv_if_eq (tgt := 496) hx hb dL_law_489 (by decide) (fun z => ?_) (fun z => ?_)
  · refine lv_iconst (v := nI 0) hx hb dL_law_496 rfl ?_
    refine lw_arg X hS hl (w := 3) rfl h3 dL_law_497 dL_law_498 dL_law_499 dL_law_500 dL_law_501 ?_
    refine lw_V X.1 (q := 0) (c0 := 6) (mc' := 0) (ms' := 0) (As := [.int (xs (v + 1).toNatClampNeg), .int (nI 0), .int (xs (v + 3).toNatClampNeg)]) (st := []) dL_law_502 lL_49 (hl_ rfl) rfl rfl rfl (Nat.le_of_ble_eq_true rfl) (by omega) (by omega) (pc_sweep (d := 18) (b := 0) hC hWf (by decide)) hW hS hl.1 (fun r0 h'0 H0 locs0 hq0 hW hS => ?_)
    obtain ⟨_, rfl, I1, rfl, g1, hC1, rfl⟩ := hq0
    have hM1 := hM.of80 g1
    refine lv_aload_n hx hb dL_law_505 rfl (lv_at hl 2 rfl) ?_
    refine lw_arg X hS hl (w := 1) rfl h1 dL_law_506 dL_law_507 dL_law_508 dL_law_509 dL_law_510 ?_
    refine lw_arg X hS hl (w := 2) rfl h2 dL_law_511 dL_law_512 dL_law_513 dL_law_514 dL_law_515 ?_
    refine lv_if_eq (tgt := 523) hx hb dL_law_516 (by decide) (fun _ => ?_) (fun z2 => absurd z z2)
    refine lv_iconst (v := nI 0) hx hb dL_law_523 rfl ?_
    refine lw_arg X hS hl (w := 3) rfl h3 dL_law_524 dL_law_525 dL_law_526 dL_law_527 dL_law_528 ?_
    refine lw_V X.1 (q := 80) (c0 := 7) (mc' := 0) (ms' := 0) (As := [.int (xs (v + 1).toNatClampNeg), .int (nI 0), .int (xs (v + 3).toNatClampNeg)]) (st := [.int _]) dL_law_529 lL_53 (hl_ rfl) rfl rfl rfl (Nat.le_of_ble_eq_true rfl) (by omega) (by omega) (pm_sweep (d := 17) (b := 0) hM1 hWf (by decide)) hW hS hl.1 (fun r1 h'1 H1 locs1 hq1 hW hS => ?_)
    obtain ⟨_, rfl, I2, rfl, g2, hM2, rfl⟩ := hq1
    refine lv_icmp_eq (tgt := 1347) hx hb dL_law_532 (by decide) (fun _ => ?_) (fun z9 => absurd rfl z9)
    exact next x I2 _ _ _ _ _ (hC1.of80 g2) hM2 (wf_sweep hWf) hW hS (by omega) (by omega)
  · refine lv_iconst (v := nI 1) hx hb dL_law_492 rfl ?_
    refine lv_goto (tgt := 497) hx hb dL_law_493 (by decide) ?_
    refine lw_arg X hS hl (w := 3) rfl h3 dL_law_497 dL_law_498 dL_law_499 dL_law_500 dL_law_501 ?_
    refine lw_V X.1 (q := 0) (c0 := 6) (mc' := 0) (ms' := 0) (As := [.int (xs (v + 1).toNatClampNeg), .int (nI 1), .int (xs (v + 3).toNatClampNeg)]) (st := []) dL_law_502 lL_49 (hl_ rfl) rfl rfl rfl (Nat.le_of_ble_eq_true rfl) (by omega) (by omega) (pc_sweep (d := 18) (b := 1) hC hWf (by decide)) hW hS hl.1 (fun r0 h'0 H0 locs0 hq0 hW hS => ?_)
    obtain ⟨_, rfl, I1, rfl, g1, hC1, rfl⟩ := hq0
    have hM1 := hM.of80 g1
    refine lv_aload_n hx hb dL_law_505 rfl (lv_at hl 2 rfl) ?_
    refine lw_arg X hS hl (w := 1) rfl h1 dL_law_506 dL_law_507 dL_law_508 dL_law_509 dL_law_510 ?_
    refine lw_arg X hS hl (w := 2) rfl h2 dL_law_511 dL_law_512 dL_law_513 dL_law_514 dL_law_515 ?_
    refine lv_if_eq (tgt := 523) hx hb dL_law_516 (by decide) (fun z2 => absurd z2 z) (fun _ => ?_)
    refine lv_iconst (v := nI 1) hx hb dL_law_519 rfl ?_
    refine lv_goto (tgt := 524) hx hb dL_law_520 (by decide) ?_
    refine lw_arg X hS hl (w := 3) rfl h3 dL_law_524 dL_law_525 dL_law_526 dL_law_527 dL_law_528 ?_
    refine lw_V X.1 (q := 80) (c0 := 7) (mc' := 0) (ms' := 0) (As := [.int (xs (v + 1).toNatClampNeg), .int (nI 1), .int (xs (v + 3).toNatClampNeg)]) (st := [.int _]) dL_law_529 lL_53 (hl_ rfl) rfl rfl rfl (Nat.le_of_ble_eq_true rfl) (by omega) (by omega) (pm_sweep (d := 17) (b := 1) hM1 hWf (by decide)) hW hS hl.1 (fun r1 h'1 H1 locs1 hq1 hW hS => ?_)
    obtain ⟨_, rfl, I2, rfl, g2, hM2, rfl⟩ := hq1
    refine lv_icmp_eq (tgt := 1347) hx hb dL_law_532 (by decide) (fun _ => ?_) (fun z9 => absurd rfl z9)
    exact next x I2 _ _ _ _ _ (hC1.of80 g2) hM2 (wf_sweep hWf) hW hS (by omega) (by omega)

set_option maxHeartbeats 4000000 in
set_option maxRecDepth 100000 in
theorem lw_case_9 {p : Program} {l : Launch} {e : Env} {s : State} {m : MethodId} {below : List Frame} {meth : Method} {c : Code} {Qf : State → Prop} {D : va_G} {cs : ClassId × ClassId × ClassId} {bs L : Nat} {xs : Nat → Int32} {H : Heap} {locs : List Loc} {k n : Nat} {ls : Array Slot} {v : Int32} {x : hX} {I : Nat → Nat → Int32} {ρ : zR} {δ : zD} {η : zH} {ft tr : Int32} (X : lwX p s m meth c bs L xs D cs) (hC : CI I (ρ, δ, η, ft, tr)) (hM : MI I (ρ, δ, η, ft, tr)) (hWf : WF (ρ, δ, η, ft, tr)) (hW : sm_W s.heap.size D cs (hp x I) H) (hS : va_S (sm_A s.heap.size) s.heap H locs) (hl : lv_has ls 4 (lwL bs s.heap.size v)) (h1 : vp_in (v + 1) L) (h2 : vp_in (v + 2) L) (h3 : vp_in (v + 3) L) (h4 : vp_in (v + 4) L) (h5 : vp_in (v + 5) L) (hk : k + 1 ≤ 600000) (hn : n + 4 ≤ 7302250) (next : ∀ (x' : hX) (I' : Nat → Nat → Int32) (σ' : zS) (H' : Heap) (locs' : List Loc) (k' n' : Nat), CI I' σ' → MI I' σ' → WF σ' → sm_W s.heap.size D cs (hp x' I') H' → va_S (sm_A s.heap.size) s.heap H' locs' → k' ≤ k + 1 → n' ≤ n + 4 → W p l e room_1 s m #[Value.ref bs] below meth c H' locs' k' n' Qf (F0 m 1347 ls [])) : W p l e room_1 s m #[Value.ref bs] below meth c H locs k n Qf (F0 m 537 ls []) := by
  have hx := X.1.1
  have hb := X.1.2.1
  refine lv_aload_n hx hb dL_law_537 rfl (lv_at hl 1 rfl) ?_
  refine lw_arg X hS hl (w := 1) rfl h1 dL_law_538 dL_law_539 dL_law_540 dL_law_541 dL_law_542 ?_
  refine lw_arg X hS hl (w := 2) rfl h2 dL_law_543 dL_law_544 dL_law_545 dL_law_546 dL_law_547 ?_
  refine lw_V X.1 (q := 0) (c0 := 6) (mc' := 0) (ms' := 0) (As := [.int (xs (v + 1).toNatClampNeg), .int (xs (v + 2).toNatClampNeg)]) (st := []) dL_law_548 lL_54 (hl_ rfl) rfl rfl rfl (Nat.le_of_ble_eq_true rfl) (by omega) (by omega) (pc_where (d := 15) hC hWf) hW hS hl.1 (fun r0 h'0 H0 locs0 hq0 hW hS => ?_)
  obtain ⟨_, rfl, I1, rfl, g1, hC1, rfl⟩ := hq0
  have hM1 := hM.of80 g1
  refine lv_aload_n hx hb dL_law_551 rfl (lv_at hl 2 rfl) ?_
  refine lw_arg X hS hl (w := 1) rfl h1 dL_law_552 dL_law_553 dL_law_554 dL_law_555 dL_law_556 ?_
  refine lw_arg X hS hl (w := 2) rfl h2 dL_law_557 dL_law_558 dL_law_559 dL_law_560 dL_law_561 ?_
  refine lw_V X.1 (q := 80) (c0 := 7) (mc' := 0) (ms' := 0) (As := [.int (xs (v + 1).toNatClampNeg), .int (xs (v + 2).toNatClampNeg)]) (st := [.int _]) dL_law_562 lL_57 (hl_ rfl) rfl rfl rfl (Nat.le_of_ble_eq_true rfl) (by omega) (by omega) (pm_where (d := 15) hM1 hWf) hW hS hl.1 (fun r1 h'1 H1 locs1 hq1 hW hS => ?_)
  obtain ⟨_, rfl, I2, rfl, g2, hM2, rfl⟩ := hq1
  refine lv_icmp_eq (tgt := 1347) hx hb dL_law_565 (by decide) (fun _ => ?_) (fun z9 => absurd rfl z9)
  exact next x I2 _ _ _ _ _ (hC1.of80 g2) hM2 hWf.t hW hS (by omega) (by omega)

set_option maxHeartbeats 4000000 in
set_option maxRecDepth 100000 in
theorem lw_case_10 {p : Program} {l : Launch} {e : Env} {s : State} {m : MethodId} {below : List Frame} {meth : Method} {c : Code} {Qf : State → Prop} {D : va_G} {cs : ClassId × ClassId × ClassId} {bs L : Nat} {xs : Nat → Int32} {H : Heap} {locs : List Loc} {k n : Nat} {ls : Array Slot} {v : Int32} {x : hX} {I : Nat → Nat → Int32} {ρ : zR} {δ : zD} {η : zH} {ft tr : Int32} (X : lwX p s m meth c bs L xs D cs) (hC : CI I (ρ, δ, η, ft, tr)) (hM : MI I (ρ, δ, η, ft, tr)) (hWf : WF (ρ, δ, η, ft, tr)) (hW : sm_W s.heap.size D cs (hp x I) H) (hS : va_S (sm_A s.heap.size) s.heap H locs) (hl : lv_has ls 4 (lwL bs s.heap.size v)) (h1 : vp_in (v + 1) L) (h2 : vp_in (v + 2) L) (h3 : vp_in (v + 3) L) (h4 : vp_in (v + 4) L) (h5 : vp_in (v + 5) L) (hk : k + 1 ≤ 600000) (hn : n + 4 ≤ 7302250) (next : ∀ (x' : hX) (I' : Nat → Nat → Int32) (σ' : zS) (H' : Heap) (locs' : List Loc) (k' n' : Nat), CI I' σ' → MI I' σ' → WF σ' → sm_W s.heap.size D cs (hp x' I') H' → va_S (sm_A s.heap.size) s.heap H' locs' → k' ≤ k + 1 → n' ≤ n + 4 → W p l e room_1 s m #[Value.ref bs] below meth c H' locs' k' n' Qf (F0 m 1347 ls [])) : W p l e room_1 s m #[Value.ref bs] below meth c H locs k n Qf (F0 m 570 ls []) := by
  have hx := X.1.1
  have hb := X.1.2.1
  refine lv_aload_n hx hb dL_law_570 rfl (lv_at hl 1 rfl) ?_
  refine lw_arg X hS hl (w := 1) rfl h1 dL_law_571 dL_law_572 dL_law_573 dL_law_574 dL_law_575 ?_
  refine lw_arg X hS hl (w := 2) rfl h2 dL_law_576 dL_law_577 dL_law_578 dL_law_579 dL_law_580 ?_
  refine lw_V X.1 (q := 0) (c0 := 6) (mc' := 0) (ms' := 0) (As := [.int (xs (v + 1).toNatClampNeg), .int (xs (v + 2).toNatClampNeg)]) (st := []) dL_law_581 lL_58 (hl_ rfl) rfl rfl rfl (Nat.le_of_ble_eq_true rfl) (by omega) (by omega) (pc_deep (d := 15) hC hWf) hW hS hl.1 (fun r0 h'0 H0 locs0 hq0 hW hS => ?_)
  obtain ⟨_, rfl, I1, rfl, g1, hC1, rfl⟩ := hq0
  have hM1 := hM.of80 g1
  refine lv_aload_n hx hb dL_law_584 rfl (lv_at hl 2 rfl) ?_
  refine lw_arg X hS hl (w := 1) rfl h1 dL_law_585 dL_law_586 dL_law_587 dL_law_588 dL_law_589 ?_
  refine lw_arg X hS hl (w := 2) rfl h2 dL_law_590 dL_law_591 dL_law_592 dL_law_593 dL_law_594 ?_
  refine lw_V X.1 (q := 80) (c0 := 7) (mc' := 0) (ms' := 0) (As := [.int (xs (v + 1).toNatClampNeg), .int (xs (v + 2).toNatClampNeg)]) (st := [.int _]) dL_law_595 lL_61 (hl_ rfl) rfl rfl rfl (Nat.le_of_ble_eq_true rfl) (by omega) (by omega) (pm_deep (d := 15) hM1 hWf) hW hS hl.1 (fun r1 h'1 H1 locs1 hq1 hW hS => ?_)
  obtain ⟨_, rfl, I2, rfl, g2, hM2, rfl⟩ := hq1
  refine lv_icmp_eq (tgt := 1347) hx hb dL_law_598 (by decide) (fun _ => ?_) (fun z9 => absurd rfl z9)
  exact next x I2 _ _ _ _ _ (hC1.of80 g2) hM2 hWf.t hW hS (by omega) (by omega)

set_option maxHeartbeats 4000000 in
set_option maxRecDepth 100000 in
theorem lw_case_11 {p : Program} {l : Launch} {e : Env} {s : State} {m : MethodId} {below : List Frame} {meth : Method} {c : Code} {Qf : State → Prop} {D : va_G} {cs : ClassId × ClassId × ClassId} {bs L : Nat} {xs : Nat → Int32} {H : Heap} {locs : List Loc} {k n : Nat} {ls : Array Slot} {v : Int32} {x : hX} {I : Nat → Nat → Int32} {ρ : zR} {δ : zD} {η : zH} {ft tr : Int32} (X : lwX p s m meth c bs L xs D cs) (hC : CI I (ρ, δ, η, ft, tr)) (hM : MI I (ρ, δ, η, ft, tr)) (hWf : WF (ρ, δ, η, ft, tr)) (hW : sm_W s.heap.size D cs (hp x I) H) (hS : va_S (sm_A s.heap.size) s.heap H locs) (hl : lv_has ls 4 (lwL bs s.heap.size v)) (h1 : vp_in (v + 1) L) (h2 : vp_in (v + 2) L) (h3 : vp_in (v + 3) L) (h4 : vp_in (v + 4) L) (h5 : vp_in (v + 5) L) (hk : k + 1 ≤ 600000) (hn : n + 4 ≤ 7302250) (next : ∀ (x' : hX) (I' : Nat → Nat → Int32) (σ' : zS) (H' : Heap) (locs' : List Loc) (k' n' : Nat), CI I' σ' → MI I' σ' → WF σ' → sm_W s.heap.size D cs (hp x' I') H' → va_S (sm_A s.heap.size) s.heap H' locs' → k' ≤ k + 1 → n' ≤ n + 4 → W p l e room_1 s m #[Value.ref bs] below meth c H' locs' k' n' Qf (F0 m 1347 ls [])) : W p l e room_1 s m #[Value.ref bs] below meth c H locs k n Qf (F0 m 603 ls []) := by
  have hx := X.1.1
  have hb := X.1.2.1
  refine lv_aload_n hx hb dL_law_603 rfl (lv_at hl 1 rfl) ?_
  refine lw_arg X hS hl (w := 1) rfl h1 dL_law_604 dL_law_605 dL_law_606 dL_law_607 dL_law_608 ?_
  refine lw_arg X hS hl (w := 2) rfl h2 dL_law_609 dL_law_610 dL_law_611 dL_law_612 dL_law_613 ?_
  refine lw_V X.1 (q := 0) (c0 := 6) (mc' := 0) (ms' := 0) (As := [.int (xs (v + 1).toNatClampNeg), .int (xs (v + 2).toNatClampNeg)]) (st := []) dL_law_614 lL_62 (hl_ rfl) rfl rfl rfl (Nat.le_of_ble_eq_true rfl) (by omega) (by omega) (pc_beds (d := 15) hC hWf) hW hS hl.1 (fun r0 h'0 H0 locs0 hq0 hW hS => ?_)
  obtain ⟨_, rfl, I1, rfl, g1, hC1, rfl⟩ := hq0
  have hM1 := hM.of80 g1
  refine lv_aload_n hx hb dL_law_617 rfl (lv_at hl 2 rfl) ?_
  refine lw_arg X hS hl (w := 1) rfl h1 dL_law_618 dL_law_619 dL_law_620 dL_law_621 dL_law_622 ?_
  refine lw_arg X hS hl (w := 2) rfl h2 dL_law_623 dL_law_624 dL_law_625 dL_law_626 dL_law_627 ?_
  refine lw_V X.1 (q := 80) (c0 := 7) (mc' := 0) (ms' := 0) (As := [.int (xs (v + 1).toNatClampNeg), .int (xs (v + 2).toNatClampNeg)]) (st := [.int _]) dL_law_628 lL_65 (hl_ rfl) rfl rfl rfl (Nat.le_of_ble_eq_true rfl) (by omega) (by omega) (pm_beds (d := 15) hM1 hWf) hW hS hl.1 (fun r1 h'1 H1 locs1 hq1 hW hS => ?_)
  obtain ⟨_, rfl, I2, rfl, g2, hM2, rfl⟩ := hq1
  refine lv_icmp_eq (tgt := 1347) hx hb dL_law_631 (by decide) (fun _ => ?_) (fun z9 => absurd rfl z9)
  exact next x I2 _ _ _ _ _ (hC1.of80 g2) hM2 hWf.t hW hS (by omega) (by omega)

set_option maxHeartbeats 4000000 in
set_option maxRecDepth 100000 in
theorem lw_case_12 {p : Program} {l : Launch} {e : Env} {s : State} {m : MethodId} {below : List Frame} {meth : Method} {c : Code} {Qf : State → Prop} {D : va_G} {cs : ClassId × ClassId × ClassId} {bs L : Nat} {xs : Nat → Int32} {H : Heap} {locs : List Loc} {k n : Nat} {ls : Array Slot} {v : Int32} {x : hX} {I : Nat → Nat → Int32} {ρ : zR} {δ : zD} {η : zH} {ft tr : Int32} (X : lwX p s m meth c bs L xs D cs) (hC : CI I (ρ, δ, η, ft, tr)) (hM : MI I (ρ, δ, η, ft, tr)) (hWf : WF (ρ, δ, η, ft, tr)) (hW : sm_W s.heap.size D cs (hp x I) H) (hS : va_S (sm_A s.heap.size) s.heap H locs) (hl : lv_has ls 4 (lwL bs s.heap.size v)) (h1 : vp_in (v + 1) L) (h2 : vp_in (v + 2) L) (h3 : vp_in (v + 3) L) (h4 : vp_in (v + 4) L) (h5 : vp_in (v + 5) L) (hk : k + 1 ≤ 600000) (hn : n + 4 ≤ 7302250) (next : ∀ (x' : hX) (I' : Nat → Nat → Int32) (σ' : zS) (H' : Heap) (locs' : List Loc) (k' n' : Nat), CI I' σ' → MI I' σ' → WF σ' → sm_W s.heap.size D cs (hp x' I') H' → va_S (sm_A s.heap.size) s.heap H' locs' → k' ≤ k + 1 → n' ≤ n + 4 → W p l e room_1 s m #[Value.ref bs] below meth c H' locs' k' n' Qf (F0 m 1347 ls [])) : W p l e room_1 s m #[Value.ref bs] below meth c H locs k n Qf (F0 m 636 ls []) := by
  have hx := X.1.1
  have hb := X.1.2.1
  refine lv_aload_n hx hb dL_law_636 rfl (lv_at hl 1 rfl) ?_
  refine lw_arg X hS hl (w := 1) rfl h1 dL_law_637 dL_law_638 dL_law_639 dL_law_640 dL_law_641 ?_
  refine lw_arg X hS hl (w := 2) rfl h2 dL_law_642 dL_law_643 dL_law_644 dL_law_645 dL_law_646 ?_
  refine lw_arg X hS hl (w := 3) rfl h3 dL_law_647 dL_law_648 dL_law_649 dL_law_650 dL_law_651 ?_
  refine lw_arg X hS hl (w := 4) rfl h4 dL_law_652 dL_law_653 dL_law_654 dL_law_655 dL_law_656 ?_
  refine lw_arg X hS hl (w := 5) rfl h5 dL_law_657 dL_law_658 dL_law_659 dL_law_660 dL_law_661 ?_
  refine lw_V X.1 (q := 0) (c0 := 6) (mc' := 0) (ms' := 0) (As := [.int (xs (v + 1).toNatClampNeg), .int (xs (v + 2).toNatClampNeg), .int (xs (v + 3).toNatClampNeg), .int (xs (v + 4).toNatClampNeg), .int (xs (v + 5).toNatClampNeg)]) (st := []) dL_law_662 lL_66 (hl_ rfl) rfl rfl rfl (Nat.le_of_ble_eq_true rfl) (by omega) (by omega) (pc_list (d := 14) hC hWf) hW hS hl.1 (fun r0 h'0 H0 locs0 hq0 hW hS => ?_)
  obtain ⟨_, rfl, I1, rfl, g1, hC1, rfl⟩ := hq0
  have hM1 := hM.of80 g1
  refine lv_aload_n hx hb dL_law_665 rfl (lv_at hl 2 rfl) ?_
  refine lw_arg X hS hl (w := 1) rfl h1 dL_law_666 dL_law_667 dL_law_668 dL_law_669 dL_law_670 ?_
  refine lw_arg X hS hl (w := 2) rfl h2 dL_law_671 dL_law_672 dL_law_673 dL_law_674 dL_law_675 ?_
  refine lw_arg X hS hl (w := 3) rfl h3 dL_law_676 dL_law_677 dL_law_678 dL_law_679 dL_law_680 ?_
  refine lw_arg X hS hl (w := 4) rfl h4 dL_law_681 dL_law_682 dL_law_683 dL_law_684 dL_law_685 ?_
  refine lw_arg X hS hl (w := 5) rfl h5 dL_law_686 dL_law_687 dL_law_688 dL_law_689 dL_law_690 ?_
  refine lw_V X.1 (q := 80) (c0 := 7) (mc' := 0) (ms' := 0) (As := [.int (xs (v + 1).toNatClampNeg), .int (xs (v + 2).toNatClampNeg), .int (xs (v + 3).toNatClampNeg), .int (xs (v + 4).toNatClampNeg), .int (xs (v + 5).toNatClampNeg)]) (st := [.int _]) dL_law_691 lL_70 (hl_ rfl) rfl rfl rfl (Nat.le_of_ble_eq_true rfl) (by omega) (by omega) (pm_list (d := 15) hM1 hWf) hW hS hl.1 (fun r1 h'1 H1 locs1 hq1 hW hS => ?_)
  obtain ⟨_, rfl, I2, rfl, g2, hM2, rfl⟩ := hq1
  refine lv_icmp_eq (tgt := 1347) hx hb dL_law_694 (by decide) (fun _ => ?_) (fun z9 => absurd rfl z9)
  exact next x I2 _ _ _ _ _ (hC1.of80 g2) hM2 hWf.t hW hS (by omega) (by omega)

set_option maxHeartbeats 4000000 in
set_option maxRecDepth 100000 in
theorem lw_case_13 {p : Program} {l : Launch} {e : Env} {s : State} {m : MethodId} {below : List Frame} {meth : Method} {c : Code} {Qf : State → Prop} {D : va_G} {cs : ClassId × ClassId × ClassId} {bs L : Nat} {xs : Nat → Int32} {H : Heap} {locs : List Loc} {k n : Nat} {ls : Array Slot} {v : Int32} {x : hX} {I : Nat → Nat → Int32} {ρ : zR} {δ : zD} {η : zH} {ft tr : Int32} (X : lwX p s m meth c bs L xs D cs) (hC : CI I (ρ, δ, η, ft, tr)) (hM : MI I (ρ, δ, η, ft, tr)) (hWf : WF (ρ, δ, η, ft, tr)) (hW : sm_W s.heap.size D cs (hp x I) H) (hS : va_S (sm_A s.heap.size) s.heap H locs) (hl : lv_has ls 4 (lwL bs s.heap.size v)) (h1 : vp_in (v + 1) L) (h2 : vp_in (v + 2) L) (h3 : vp_in (v + 3) L) (h4 : vp_in (v + 4) L) (h5 : vp_in (v + 5) L) (hk : k + 1 ≤ 600000) (hn : n + 4 ≤ 7302250) (next : ∀ (x' : hX) (I' : Nat → Nat → Int32) (σ' : zS) (H' : Heap) (locs' : List Loc) (k' n' : Nat), CI I' σ' → MI I' σ' → WF σ' → sm_W s.heap.size D cs (hp x' I') H' → va_S (sm_A s.heap.size) s.heap H' locs' → k' ≤ k + 1 → n' ≤ n + 4 → W p l e room_1 s m #[Value.ref bs] below meth c H' locs' k' n' Qf (F0 m 1347 ls [])) : W p l e room_1 s m #[Value.ref bs] below meth c H locs k n Qf (F0 m 699 ls []) := by
  have hx := X.1.1
  have hb := X.1.2.1
  refine lv_aload_n hx hb dL_law_699 rfl (lv_at hl 1 rfl) ?_
  refine lw_arg X hS hl (w := 1) rfl h1 dL_law_700 dL_law_701 dL_law_702 dL_law_703 dL_law_704 ?_
  refine lw_V X.1 (q := 0) (c0 := 6) (mc' := 0) (ms' := 0) (As := [.int (xs (v + 1).toNatClampNeg)]) (st := []) dL_law_705 lL_71 (hl_ rfl) rfl rfl rfl (Nat.le_of_ble_eq_true rfl) (by omega) (by omega) (pc_meet (d := 15) hC hWf) hW hS hl.1 (fun r0 h'0 H0 locs0 hq0 hW hS => ?_)
  obtain ⟨_, rfl, I1, rfl, g1, hC1, rfl⟩ := hq0
  have hM1 := hM.of80 g1
  refine lv_aload_n hx hb dL_law_708 rfl (lv_at hl 2 rfl) ?_
  refine lw_arg X hS hl (w := 1) rfl h1 dL_law_709 dL_law_710 dL_law_711 dL_law_712 dL_law_713 ?_
  refine lw_V X.1 (q := 80) (c0 := 7) (mc' := 0) (ms' := 0) (As := [.int (xs (v + 1).toNatClampNeg)]) (st := [.int _]) dL_law_714 lL_74 (hl_ rfl) rfl rfl rfl (Nat.le_of_ble_eq_true rfl) (by omega) (by omega) (pm_meet (d := 15) hM1 hWf) hW hS hl.1 (fun r1 h'1 H1 locs1 hq1 hW hS => ?_)
  obtain ⟨_, rfl, I2, rfl, g2, hM2, rfl⟩ := hq1
  refine lv_icmp_eq (tgt := 1347) hx hb dL_law_717 (by decide) (fun _ => ?_) (fun z9 => absurd rfl z9)
  exact next x I2 _ _ _ _ _ (hC1.of80 g2) hM2 hWf.t hW hS (by omega) (by omega)

set_option maxHeartbeats 4000000 in
set_option maxRecDepth 100000 in
theorem lw_case_14 {p : Program} {l : Launch} {e : Env} {s : State} {m : MethodId} {below : List Frame} {meth : Method} {c : Code} {Qf : State → Prop} {D : va_G} {cs : ClassId × ClassId × ClassId} {bs L : Nat} {xs : Nat → Int32} {H : Heap} {locs : List Loc} {k n : Nat} {ls : Array Slot} {v : Int32} {x : hX} {I : Nat → Nat → Int32} {ρ : zR} {δ : zD} {η : zH} {ft tr : Int32} (X : lwX p s m meth c bs L xs D cs) (hC : CI I (ρ, δ, η, ft, tr)) (hM : MI I (ρ, δ, η, ft, tr)) (hWf : WF (ρ, δ, η, ft, tr)) (hW : sm_W s.heap.size D cs (hp x I) H) (hS : va_S (sm_A s.heap.size) s.heap H locs) (hl : lv_has ls 4 (lwL bs s.heap.size v)) (h1 : vp_in (v + 1) L) (h2 : vp_in (v + 2) L) (h3 : vp_in (v + 3) L) (h4 : vp_in (v + 4) L) (h5 : vp_in (v + 5) L) (hk : k + 1 ≤ 600000) (hn : n + 4 ≤ 7302250) (next : ∀ (x' : hX) (I' : Nat → Nat → Int32) (σ' : zS) (H' : Heap) (locs' : List Loc) (k' n' : Nat), CI I' σ' → MI I' σ' → WF σ' → sm_W s.heap.size D cs (hp x' I') H' → va_S (sm_A s.heap.size) s.heap H' locs' → k' ≤ k + 1 → n' ≤ n + 4 → W p l e room_1 s m #[Value.ref bs] below meth c H' locs' k' n' Qf (F0 m 1347 ls [])) : W p l e room_1 s m #[Value.ref bs] below meth c H locs k n Qf (F0 m 722 ls []) := by
  have hx := X.1.1
  have hb := X.1.2.1
  refine lv_aload_n hx hb dL_law_722 rfl (lv_at hl 1 rfl) ?_
  refine lw_arg X hS hl (w := 1) rfl h1 dL_law_723 dL_law_724 dL_law_725 dL_law_726 dL_law_727 ?_
  refine lw_arg X hS hl (w := 2) rfl h2 dL_law_728 dL_law_729 dL_law_730 dL_law_731 dL_law_732 ?_
  refine lw_V X.1 (q := 0) (c0 := 6) (mc' := 0) (ms' := 0) (As := [.int (xs (v + 1).toNatClampNeg), .int (xs (v + 2).toNatClampNeg)]) (st := []) dL_law_733 lL_75 (hl_ rfl) rfl rfl rfl (Nat.le_of_ble_eq_true rfl) (by omega) (by omega) (pc_least (d := 13) hC hWf) hW hS hl.1 (fun r0 h'0 H0 locs0 hq0 hW hS => ?_)
  obtain ⟨_, rfl, I1, rfl, g1, hC1, rfl⟩ := hq0
  have hM1 := hM.of80 g1
  refine lv_aload_n hx hb dL_law_736 rfl (lv_at hl 2 rfl) ?_
  refine lw_arg X hS hl (w := 1) rfl h1 dL_law_737 dL_law_738 dL_law_739 dL_law_740 dL_law_741 ?_
  refine lw_arg X hS hl (w := 2) rfl h2 dL_law_742 dL_law_743 dL_law_744 dL_law_745 dL_law_746 ?_
  refine lw_V X.1 (q := 80) (c0 := 7) (mc' := 0) (ms' := 0) (As := [.int (xs (v + 1).toNatClampNeg), .int (xs (v + 2).toNatClampNeg)]) (st := [.int _]) dL_law_747 lL_78 (hl_ rfl) rfl rfl rfl (Nat.le_of_ble_eq_true rfl) (by omega) (by omega) (pm_least (d := 14) hM1 hWf) hW hS hl.1 (fun r1 h'1 H1 locs1 hq1 hW hS => ?_)
  obtain ⟨_, rfl, I2, rfl, g2, hM2, rfl⟩ := hq1
  refine lv_icmp_eq (tgt := 1347) hx hb dL_law_750 (by decide) (fun _ => ?_) (fun z9 => absurd rfl z9)
  exact next x I2 _ _ _ _ _ (hC1.of80 g2) hM2 hWf.t hW hS (by omega) (by omega)

set_option maxHeartbeats 4000000 in
set_option maxRecDepth 100000 in
theorem lw_case_15 {p : Program} {l : Launch} {e : Env} {s : State} {m : MethodId} {below : List Frame} {meth : Method} {c : Code} {Qf : State → Prop} {D : va_G} {cs : ClassId × ClassId × ClassId} {bs L : Nat} {xs : Nat → Int32} {H : Heap} {locs : List Loc} {k n : Nat} {ls : Array Slot} {v : Int32} {x : hX} {I : Nat → Nat → Int32} {ρ : zR} {δ : zD} {η : zH} {ft tr : Int32} (X : lwX p s m meth c bs L xs D cs) (hC : CI I (ρ, δ, η, ft, tr)) (hM : MI I (ρ, δ, η, ft, tr)) (hWf : WF (ρ, δ, η, ft, tr)) (hW : sm_W s.heap.size D cs (hp x I) H) (hS : va_S (sm_A s.heap.size) s.heap H locs) (hl : lv_has ls 4 (lwL bs s.heap.size v)) (h1 : vp_in (v + 1) L) (h2 : vp_in (v + 2) L) (h3 : vp_in (v + 3) L) (h4 : vp_in (v + 4) L) (h5 : vp_in (v + 5) L) (hk : k + 1 ≤ 600000) (hn : n + 4 ≤ 7302250) (next : ∀ (x' : hX) (I' : Nat → Nat → Int32) (σ' : zS) (H' : Heap) (locs' : List Loc) (k' n' : Nat), CI I' σ' → MI I' σ' → WF σ' → sm_W s.heap.size D cs (hp x' I') H' → va_S (sm_A s.heap.size) s.heap H' locs' → k' ≤ k + 1 → n' ≤ n + 4 → W p l e room_1 s m #[Value.ref bs] below meth c H' locs' k' n' Qf (F0 m 1347 ls [])) : W p l e room_1 s m #[Value.ref bs] below meth c H locs k n Qf (F0 m 755 ls []) := by
  have hx := X.1.1
  have hb := X.1.2.1
  refine lv_aload_n hx hb dL_law_755 rfl (lv_at hl 1 rfl) ?_
  refine lw_arg X hS hl (w := 1) rfl h1 dL_law_756 dL_law_757 dL_law_758 dL_law_759 dL_law_760 ?_
  refine lw_arg X hS hl (w := 2) rfl h2 dL_law_761 dL_law_762 dL_law_763 dL_law_764 dL_law_765 ?_
  refine lw_V X.1 (q := 0) (c0 := 6) (mc' := 0) (ms' := 0) (As := [.int (xs (v + 1).toNatClampNeg), .int (xs (v + 2).toNatClampNeg)]) (st := []) dL_law_766 lL_79 (hl_ rfl) rfl rfl rfl (Nat.le_of_ble_eq_true rfl) (by omega) (by omega) (pc_turn (d := 14) hC hWf) hW hS hl.1 (fun r0 h'0 H0 locs0 hq0 hW hS => ?_)
  obtain ⟨_, rfl, I1, rfl, g1, hC1, rfl⟩ := hq0
  have hM1 := hM.of80 g1
  refine lv_aload_n hx hb dL_law_769 rfl (lv_at hl 2 rfl) ?_
  refine lw_arg X hS hl (w := 1) rfl h1 dL_law_770 dL_law_771 dL_law_772 dL_law_773 dL_law_774 ?_
  refine lw_arg X hS hl (w := 2) rfl h2 dL_law_775 dL_law_776 dL_law_777 dL_law_778 dL_law_779 ?_
  refine lw_V X.1 (q := 80) (c0 := 7) (mc' := 0) (ms' := 0) (As := [.int (xs (v + 1).toNatClampNeg), .int (xs (v + 2).toNatClampNeg)]) (st := [.int _]) dL_law_780 lL_82 (hl_ rfl) rfl rfl rfl (Nat.le_of_ble_eq_true rfl) (by omega) (by omega) (pm_turn (d := 15) hM1 hWf) hW hS hl.1 (fun r1 h'1 H1 locs1 hq1 hW hS => ?_)
  obtain ⟨_, rfl, I2, rfl, g2, hM2, rfl⟩ := hq1
  refine lv_icmp_eq (tgt := 1347) hx hb dL_law_783 (by decide) (fun _ => ?_) (fun z9 => absurd rfl z9)
  exact next x I2 _ _ _ _ _ (hC1.of80 g2) hM2 hWf.t hW hS (by omega) (by omega)

set_option maxHeartbeats 4000000 in
set_option maxRecDepth 100000 in
theorem lw_case_16 {p : Program} {l : Launch} {e : Env} {s : State} {m : MethodId} {below : List Frame} {meth : Method} {c : Code} {Qf : State → Prop} {D : va_G} {cs : ClassId × ClassId × ClassId} {bs L : Nat} {xs : Nat → Int32} {H : Heap} {locs : List Loc} {k n : Nat} {ls : Array Slot} {v : Int32} {x : hX} {I : Nat → Nat → Int32} {ρ : zR} {δ : zD} {η : zH} {ft tr : Int32} (X : lwX p s m meth c bs L xs D cs) (hC : CI I (ρ, δ, η, ft, tr)) (hM : MI I (ρ, δ, η, ft, tr)) (hWf : WF (ρ, δ, η, ft, tr)) (hW : sm_W s.heap.size D cs (hp x I) H) (hS : va_S (sm_A s.heap.size) s.heap H locs) (hl : lv_has ls 4 (lwL bs s.heap.size v)) (h1 : vp_in (v + 1) L) (h2 : vp_in (v + 2) L) (h3 : vp_in (v + 3) L) (h4 : vp_in (v + 4) L) (h5 : vp_in (v + 5) L) (hk : k + 1 ≤ 600000) (hn : n + 4 ≤ 7302250) (next : ∀ (x' : hX) (I' : Nat → Nat → Int32) (σ' : zS) (H' : Heap) (locs' : List Loc) (k' n' : Nat), CI I' σ' → MI I' σ' → WF σ' → sm_W s.heap.size D cs (hp x' I') H' → va_S (sm_A s.heap.size) s.heap H' locs' → k' ≤ k + 1 → n' ≤ n + 4 → W p l e room_1 s m #[Value.ref bs] below meth c H' locs' k' n' Qf (F0 m 1347 ls [])) : W p l e room_1 s m #[Value.ref bs] below meth c H locs k n Qf (F0 m 788 ls []) := by
  have hx := X.1.1
  have hb := X.1.2.1
  refine lv_aload_n hx hb dL_law_788 rfl (lv_at hl 1 rfl) ?_
  refine lw_arg X hS hl (w := 1) rfl h1 dL_law_789 dL_law_790 dL_law_791 dL_law_792 dL_law_793 ?_
  refine lw_V X.1 (q := 0) (c0 := 6) (mc' := 0) (ms' := 0) (As := [.int (xs (v + 1).toNatClampNeg)]) (st := []) dL_law_794 lL_83 (hl_ rfl) rfl rfl rfl (Nat.le_of_ble_eq_true rfl) (by omega) (by omega) (pc_corks (d := 13) hC hWf) hW hS hl.1 (fun r0 h'0 H0 locs0 hq0 hW hS => ?_)
  obtain ⟨_, rfl, I1, rfl, g1, hC1, rfl⟩ := hq0
  have hM1 := hM.of80 g1
  refine lv_aload_n hx hb dL_law_797 rfl (lv_at hl 2 rfl) ?_
  refine lw_arg X hS hl (w := 1) rfl h1 dL_law_798 dL_law_799 dL_law_800 dL_law_801 dL_law_802 ?_
  refine lw_V X.1 (q := 80) (c0 := 7) (mc' := 0) (ms' := 0) (As := [.int (xs (v + 1).toNatClampNeg)]) (st := [.int _]) dL_law_803 lL_86 (hl_ rfl) rfl rfl rfl (Nat.le_of_ble_eq_true rfl) (by omega) (by omega) (pm_corks (d := 15) hM1 hWf) hW hS hl.1 (fun r1 h'1 H1 locs1 hq1 hW hS => ?_)
  obtain ⟨_, rfl, I2, rfl, g2, hM2, rfl⟩ := hq1
  refine lv_icmp_eq (tgt := 1347) hx hb dL_law_806 (by decide) (fun _ => ?_) (fun z9 => absurd rfl z9)
  exact next x I2 _ _ _ _ _ (hC1.of80 g2) hM2 hWf.t hW hS (by omega) (by omega)

set_option maxHeartbeats 4000000 in
set_option maxRecDepth 100000 in
theorem lw_case_17 {p : Program} {l : Launch} {e : Env} {s : State} {m : MethodId} {below : List Frame} {meth : Method} {c : Code} {Qf : State → Prop} {D : va_G} {cs : ClassId × ClassId × ClassId} {bs L : Nat} {xs : Nat → Int32} {H : Heap} {locs : List Loc} {k n : Nat} {ls : Array Slot} {v : Int32} {x : hX} {I : Nat → Nat → Int32} {ρ : zR} {δ : zD} {η : zH} {ft tr : Int32} (X : lwX p s m meth c bs L xs D cs) (hC : CI I (ρ, δ, η, ft, tr)) (hM : MI I (ρ, δ, η, ft, tr)) (hWf : WF (ρ, δ, η, ft, tr)) (hW : sm_W s.heap.size D cs (hp x I) H) (hS : va_S (sm_A s.heap.size) s.heap H locs) (hl : lv_has ls 4 (lwL bs s.heap.size v)) (h1 : vp_in (v + 1) L) (h2 : vp_in (v + 2) L) (h3 : vp_in (v + 3) L) (h4 : vp_in (v + 4) L) (h5 : vp_in (v + 5) L) (hk : k + 1 ≤ 600000) (hn : n + 4 ≤ 7302250) (next : ∀ (x' : hX) (I' : Nat → Nat → Int32) (σ' : zS) (H' : Heap) (locs' : List Loc) (k' n' : Nat), CI I' σ' → MI I' σ' → WF σ' → sm_W s.heap.size D cs (hp x' I') H' → va_S (sm_A s.heap.size) s.heap H' locs' → k' ≤ k + 1 → n' ≤ n + 4 → W p l e room_1 s m #[Value.ref bs] below meth c H' locs' k' n' Qf (F0 m 1347 ls [])) : W p l e room_1 s m #[Value.ref bs] below meth c H locs k n Qf (F0 m 811 ls []) := by
  have hx := X.1.1
  have hb := X.1.2.1
  refine lv_aload_n hx hb dL_law_811 rfl (lv_at hl 1 rfl) ?_
  refine lw_arg X hS hl (w := 1) rfl h1 dL_law_812 dL_law_813 dL_law_814 dL_law_815 dL_law_816 ?_
  refine lw_arg X hS hl (w := 2) rfl h2 dL_law_817 dL_law_818 dL_law_819 dL_law_820 dL_law_821 ?_
  refine lw_arg X hS hl (w := 3) rfl h3 dL_law_822 dL_law_823 dL_law_824 dL_law_825 dL_law_826 ?_
  refine lw_V X.1 (q := 0) (c0 := 6) (mc' := 0) (ms' := 0) (As := [.int (xs (v + 1).toNatClampNeg), .int (xs (v + 2).toNatClampNeg), .int (xs (v + 3).toNatClampNeg)]) (st := []) dL_law_827 lL_87 (hl_ rfl) rfl rfl rfl (Nat.le_of_ble_eq_true rfl) (by omega) (by omega) (pc_reading (d := 17) hC hWf) hW hS hl.1 (fun r0 h'0 H0 locs0 hq0 hW hS => ?_)
  obtain ⟨_, rfl, I1, rfl, g1, hC1, rfl⟩ := hq0
  have hM1 := hM.of80 g1
  refine lv_aload_n hx hb dL_law_830 rfl (lv_at hl 2 rfl) ?_
  refine lw_arg X hS hl (w := 1) rfl h1 dL_law_831 dL_law_832 dL_law_833 dL_law_834 dL_law_835 ?_
  refine lw_arg X hS hl (w := 2) rfl h2 dL_law_836 dL_law_837 dL_law_838 dL_law_839 dL_law_840 ?_
  refine lw_arg X hS hl (w := 3) rfl h3 dL_law_841 dL_law_842 dL_law_843 dL_law_844 dL_law_845 ?_
  refine lw_V X.1 (q := 80) (c0 := 7) (mc' := 0) (ms' := 0) (As := [.int (xs (v + 1).toNatClampNeg), .int (xs (v + 2).toNatClampNeg), .int (xs (v + 3).toNatClampNeg)]) (st := [.int _]) dL_law_846 lL_91 (hl_ rfl) rfl rfl rfl (Nat.le_of_ble_eq_true rfl) (by omega) (by omega) (pm_reading (d := 17) hM1 hWf) hW hS hl.1 (fun r1 h'1 H1 locs1 hq1 hW hS => ?_)
  obtain ⟨_, rfl, I2, rfl, g2, hM2, rfl⟩ := hq1
  refine lv_icmp_eq (tgt := 1347) hx hb dL_law_849 (by decide) (fun _ => ?_) (fun z9 => absurd rfl z9)
  exact next x I2 _ _ _ _ _ (hC1.of80 g2) hM2 (wf_reading hWf) hW hS (by omega) (by omega)

set_option maxHeartbeats 4000000 in
set_option maxRecDepth 100000 in
theorem lw_case_18 {p : Program} {l : Launch} {e : Env} {s : State} {m : MethodId} {below : List Frame} {meth : Method} {c : Code} {Qf : State → Prop} {D : va_G} {cs : ClassId × ClassId × ClassId} {bs L : Nat} {xs : Nat → Int32} {H : Heap} {locs : List Loc} {k n : Nat} {ls : Array Slot} {v : Int32} {x : hX} {I : Nat → Nat → Int32} {ρ : zR} {δ : zD} {η : zH} {ft tr : Int32} (X : lwX p s m meth c bs L xs D cs) (hC : CI I (ρ, δ, η, ft, tr)) (hM : MI I (ρ, δ, η, ft, tr)) (hWf : WF (ρ, δ, η, ft, tr)) (hW : sm_W s.heap.size D cs (hp x I) H) (hS : va_S (sm_A s.heap.size) s.heap H locs) (hl : lv_has ls 4 (lwL bs s.heap.size v)) (h1 : vp_in (v + 1) L) (h2 : vp_in (v + 2) L) (h3 : vp_in (v + 3) L) (h4 : vp_in (v + 4) L) (h5 : vp_in (v + 5) L) (hk : k + 1 ≤ 600000) (hn : n + 4 ≤ 7302250) (next : ∀ (x' : hX) (I' : Nat → Nat → Int32) (σ' : zS) (H' : Heap) (locs' : List Loc) (k' n' : Nat), CI I' σ' → MI I' σ' → WF σ' → sm_W s.heap.size D cs (hp x' I') H' → va_S (sm_A s.heap.size) s.heap H' locs' → k' ≤ k + 1 → n' ≤ n + 4 → W p l e room_1 s m #[Value.ref bs] below meth c H' locs' k' n' Qf (F0 m 1347 ls [])) : W p l e room_1 s m #[Value.ref bs] below meth c H locs k n Qf (F0 m 854 ls []) := by
  have hx := X.1.1
  have hb := X.1.2.1
  refine lv_aload_n hx hb dL_law_854 rfl (lv_at hl 1 rfl) ?_
  refine lw_arg X hS hl (w := 1) rfl h1 dL_law_855 dL_law_856 dL_law_857 dL_law_858 dL_law_859 ?_
  refine lw_V X.1 (q := 0) (c0 := 6) (mc' := 0) (ms' := 0) (As := [.int (xs (v + 1).toNatClampNeg)]) (st := []) dL_law_860 lL_92 (hl_ rfl) rfl rfl rfl (Nat.le_of_ble_eq_true rfl) (by omega) (by omega) (pc_back (d := 19) hC hWf) hW hS hl.1 (fun r0 h'0 H0 locs0 hq0 hW hS => ?_)
  obtain ⟨_, rfl, I1, rfl, g1, hC1, rfl⟩ := hq0
  have hM1 := hM.of80 g1
  refine lv_aload_n hx hb dL_law_863 rfl (lv_at hl 2 rfl) ?_
  refine lw_arg X hS hl (w := 1) rfl h1 dL_law_864 dL_law_865 dL_law_866 dL_law_867 dL_law_868 ?_
  refine lw_V X.1 (q := 80) (c0 := 7) (mc' := 0) (ms' := 0) (As := [.int (xs (v + 1).toNatClampNeg)]) (st := [.int _]) dL_law_869 lL_95 (hl_ rfl) rfl rfl rfl (Nat.le_of_ble_eq_true rfl) (by omega) (by omega) (pm_back (d := 18) hM1 hWf) hW hS hl.1 (fun r1 h'1 H1 locs1 hq1 hW hS => ?_)
  obtain ⟨_, rfl, I2, rfl, g2, hM2, rfl⟩ := hq1
  refine lv_icmp_eq (tgt := 1347) hx hb dL_law_872 (by decide) (fun _ => ?_) (fun z9 => absurd rfl z9)
  exact next x I2 _ _ _ _ _ (hC1.of80 g2) hM2 (wf_back hWf) hW hS (by omega) (by omega)

set_option maxHeartbeats 4000000 in
set_option maxRecDepth 100000 in
theorem lw_case_19 {p : Program} {l : Launch} {e : Env} {s : State} {m : MethodId} {below : List Frame} {meth : Method} {c : Code} {Qf : State → Prop} {D : va_G} {cs : ClassId × ClassId × ClassId} {bs L : Nat} {xs : Nat → Int32} {H : Heap} {locs : List Loc} {k n : Nat} {ls : Array Slot} {v : Int32} {x : hX} {I : Nat → Nat → Int32} {ρ : zR} {δ : zD} {η : zH} {ft tr : Int32} (X : lwX p s m meth c bs L xs D cs) (hC : CI I (ρ, δ, η, ft, tr)) (hM : MI I (ρ, δ, η, ft, tr)) (hWf : WF (ρ, δ, η, ft, tr)) (hW : sm_W s.heap.size D cs (hp x I) H) (hS : va_S (sm_A s.heap.size) s.heap H locs) (hl : lv_has ls 4 (lwL bs s.heap.size v)) (h1 : vp_in (v + 1) L) (h2 : vp_in (v + 2) L) (h3 : vp_in (v + 3) L) (h4 : vp_in (v + 4) L) (h5 : vp_in (v + 5) L) (hk : k + 1 ≤ 600000) (hn : n + 4 ≤ 7302250) (next : ∀ (x' : hX) (I' : Nat → Nat → Int32) (σ' : zS) (H' : Heap) (locs' : List Loc) (k' n' : Nat), CI I' σ' → MI I' σ' → WF σ' → sm_W s.heap.size D cs (hp x' I') H' → va_S (sm_A s.heap.size) s.heap H' locs' → k' ≤ k + 1 → n' ≤ n + 4 → W p l e room_1 s m #[Value.ref bs] below meth c H' locs' k' n' Qf (F0 m 1347 ls [])) : W p l e room_1 s m #[Value.ref bs] below meth c H locs k n Qf (F0 m 877 ls []) := by
  have hx := X.1.1
  have hb := X.1.2.1
  refine lv_aload_n hx hb dL_law_877 rfl (lv_at hl 1 rfl) ?_
  refine lw_V X.1 (q := 0) (c0 := 6) (mc' := 0) (ms' := 0) (As := []) (st := []) dL_law_878 lL_96 (hl_ rfl) rfl rfl rfl (Nat.le_of_ble_eq_true rfl) (by omega) (by omega) (pc_rules (d := 13) hC hWf) hW hS hl.1 (fun r0 h'0 H0 locs0 hq0 hW hS => ?_)
  obtain ⟨_, rfl, I1, rfl, g1, hC1, rfl⟩ := hq0
  have hM1 := hM.of80 g1
  refine lv_aload_n hx hb dL_law_881 rfl (lv_at hl 2 rfl) ?_
  refine lw_V X.1 (q := 80) (c0 := 7) (mc' := 0) (ms' := 0) (As := []) (st := [.int _]) dL_law_882 lL_100 (hl_ rfl) rfl rfl rfl (Nat.le_of_ble_eq_true rfl) (by omega) (by omega) (pm_rules (d := 15) hM1 hWf) hW hS hl.1 (fun r1 h'1 H1 locs1 hq1 hW hS => ?_)
  obtain ⟨_, rfl, I2, rfl, g2, hM2, rfl⟩ := hq1
  refine lv_icmp_eq (tgt := 1347) hx hb dL_law_885 (by decide) (fun _ => ?_) (fun z9 => absurd rfl z9)
  exact next x I2 _ _ _ _ _ (hC1.of80 g2) hM2 hWf.t hW hS (by omega) (by omega)

set_option maxHeartbeats 4000000 in
set_option maxRecDepth 100000 in
theorem lw_case_20 {p : Program} {l : Launch} {e : Env} {s : State} {m : MethodId} {below : List Frame} {meth : Method} {c : Code} {Qf : State → Prop} {D : va_G} {cs : ClassId × ClassId × ClassId} {bs L : Nat} {xs : Nat → Int32} {H : Heap} {locs : List Loc} {k n : Nat} {ls : Array Slot} {v : Int32} {x : hX} {I : Nat → Nat → Int32} {ρ : zR} {δ : zD} {η : zH} {ft tr : Int32} (X : lwX p s m meth c bs L xs D cs) (hC : CI I (ρ, δ, η, ft, tr)) (hM : MI I (ρ, δ, η, ft, tr)) (hWf : WF (ρ, δ, η, ft, tr)) (hW : sm_W s.heap.size D cs (hp x I) H) (hS : va_S (sm_A s.heap.size) s.heap H locs) (hl : lv_has ls 4 (lwL bs s.heap.size v)) (h1 : vp_in (v + 1) L) (h2 : vp_in (v + 2) L) (h3 : vp_in (v + 3) L) (h4 : vp_in (v + 4) L) (h5 : vp_in (v + 5) L) (hk : k + 1 ≤ 600000) (hn : n + 4 ≤ 7302250) (next : ∀ (x' : hX) (I' : Nat → Nat → Int32) (σ' : zS) (H' : Heap) (locs' : List Loc) (k' n' : Nat), CI I' σ' → MI I' σ' → WF σ' → sm_W s.heap.size D cs (hp x' I') H' → va_S (sm_A s.heap.size) s.heap H' locs' → k' ≤ k + 1 → n' ≤ n + 4 → W p l e room_1 s m #[Value.ref bs] below meth c H' locs' k' n' Qf (F0 m 1347 ls [])) : W p l e room_1 s m #[Value.ref bs] below meth c H locs k n Qf (F0 m 890 ls []) := by
  have hx := X.1.1
  have hb := X.1.2.1
  refine lv_aload_n hx hb dL_law_890 rfl (lv_at hl 1 rfl) ?_
  refine lw_arg X hS hl (w := 1) rfl h1 dL_law_891 dL_law_892 dL_law_893 dL_law_894 dL_law_895 ?_
  refine lw_V X.1 (q := 0) (c0 := 6) (mc' := 0) (ms' := 0) (As := [.int (xs (v + 1).toNatClampNeg)]) (st := []) dL_law_896 lL_101 (hl_ rfl) rfl rfl rfl (Nat.le_of_ble_eq_true rfl) (by omega) (by omega) (pc_kinds (d := 13) hC hWf) hW hS hl.1 (fun r0 h'0 H0 locs0 hq0 hW hS => ?_)
  obtain ⟨_, rfl, I1, rfl, g1, hC1, rfl⟩ := hq0
  have hM1 := hM.of80 g1
  refine lv_aload_n hx hb dL_law_899 rfl (lv_at hl 2 rfl) ?_
  refine lw_arg X hS hl (w := 1) rfl h1 dL_law_900 dL_law_901 dL_law_902 dL_law_903 dL_law_904 ?_
  refine lw_V X.1 (q := 80) (c0 := 7) (mc' := 0) (ms' := 0) (As := [.int (xs (v + 1).toNatClampNeg)]) (st := [.int _]) dL_law_905 lL_104 (hl_ rfl) rfl rfl rfl (Nat.le_of_ble_eq_true rfl) (by omega) (by omega) (pm_kinds (d := 15) hM1 hWf) hW hS hl.1 (fun r1 h'1 H1 locs1 hq1 hW hS => ?_)
  obtain ⟨_, rfl, I2, rfl, g2, hM2, rfl⟩ := hq1
  refine lv_icmp_eq (tgt := 1347) hx hb dL_law_908 (by decide) (fun _ => ?_) (fun z9 => absurd rfl z9)
  exact next x I2 _ _ _ _ _ (hC1.of80 g2) hM2 hWf.t hW hS (by omega) (by omega)

set_option maxHeartbeats 4000000 in
set_option maxRecDepth 100000 in
theorem lw_case_21 {p : Program} {l : Launch} {e : Env} {s : State} {m : MethodId} {below : List Frame} {meth : Method} {c : Code} {Qf : State → Prop} {D : va_G} {cs : ClassId × ClassId × ClassId} {bs L : Nat} {xs : Nat → Int32} {H : Heap} {locs : List Loc} {k n : Nat} {ls : Array Slot} {v : Int32} {x : hX} {I : Nat → Nat → Int32} {ρ : zR} {δ : zD} {η : zH} {ft tr : Int32} (X : lwX p s m meth c bs L xs D cs) (hC : CI I (ρ, δ, η, ft, tr)) (hM : MI I (ρ, δ, η, ft, tr)) (hWf : WF (ρ, δ, η, ft, tr)) (hW : sm_W s.heap.size D cs (hp x I) H) (hS : va_S (sm_A s.heap.size) s.heap H locs) (hl : lv_has ls 4 (lwL bs s.heap.size v)) (h1 : vp_in (v + 1) L) (h2 : vp_in (v + 2) L) (h3 : vp_in (v + 3) L) (h4 : vp_in (v + 4) L) (h5 : vp_in (v + 5) L) (hk : k + 1 ≤ 600000) (hn : n + 4 ≤ 7302250) (next : ∀ (x' : hX) (I' : Nat → Nat → Int32) (σ' : zS) (H' : Heap) (locs' : List Loc) (k' n' : Nat), CI I' σ' → MI I' σ' → WF σ' → sm_W s.heap.size D cs (hp x' I') H' → va_S (sm_A s.heap.size) s.heap H' locs' → k' ≤ k + 1 → n' ≤ n + 4 → W p l e room_1 s m #[Value.ref bs] below meth c H' locs' k' n' Qf (F0 m 1347 ls [])) : W p l e room_1 s m #[Value.ref bs] below meth c H locs k n Qf (F0 m 913 ls []) := by
  have hx := X.1.1
  have hb := X.1.2.1
  refine lv_aload_n hx hb dL_law_913 rfl (lv_at hl 1 rfl) ?_
  refine lw_arg X hS hl (w := 1) rfl h1 dL_law_914 dL_law_915 dL_law_916 dL_law_917 dL_law_918 ?_
  refine lw_V X.1 (q := 0) (c0 := 6) (mc' := 0) (ms' := 0) (As := [.int (xs (v + 1).toNatClampNeg)]) (st := []) dL_law_919 lL_105 (hl_ rfl) rfl rfl rfl (Nat.le_of_ble_eq_true rfl) (by omega) (by omega) (pc_depths (d := 13) hC hWf) hW hS hl.1 (fun r0 h'0 H0 locs0 hq0 hW hS => ?_)
  obtain ⟨_, rfl, I1, rfl, g1, hC1, rfl⟩ := hq0
  have hM1 := hM.of80 g1
  refine lv_aload_n hx hb dL_law_922 rfl (lv_at hl 2 rfl) ?_
  refine lw_arg X hS hl (w := 1) rfl h1 dL_law_923 dL_law_924 dL_law_925 dL_law_926 dL_law_927 ?_
  refine lw_V X.1 (q := 80) (c0 := 7) (mc' := 0) (ms' := 0) (As := [.int (xs (v + 1).toNatClampNeg)]) (st := [.int _]) dL_law_928 lL_108 (hl_ rfl) rfl rfl rfl (Nat.le_of_ble_eq_true rfl) (by omega) (by omega) (pm_depths (d := 15) hM1 hWf) hW hS hl.1 (fun r1 h'1 H1 locs1 hq1 hW hS => ?_)
  obtain ⟨_, rfl, I2, rfl, g2, hM2, rfl⟩ := hq1
  refine lv_icmp_eq (tgt := 1347) hx hb dL_law_931 (by decide) (fun _ => ?_) (fun z9 => absurd rfl z9)
  exact next x I2 _ _ _ _ _ (hC1.of80 g2) hM2 hWf.t hW hS (by omega) (by omega)

set_option maxHeartbeats 4000000 in
set_option maxRecDepth 100000 in
theorem lw_case_22 {p : Program} {l : Launch} {e : Env} {s : State} {m : MethodId} {below : List Frame} {meth : Method} {c : Code} {Qf : State → Prop} {D : va_G} {cs : ClassId × ClassId × ClassId} {bs L : Nat} {xs : Nat → Int32} {H : Heap} {locs : List Loc} {k n : Nat} {ls : Array Slot} {v : Int32} {x : hX} {I : Nat → Nat → Int32} {ρ : zR} {δ : zD} {η : zH} {ft tr : Int32} (X : lwX p s m meth c bs L xs D cs) (hC : CI I (ρ, δ, η, ft, tr)) (hM : MI I (ρ, δ, η, ft, tr)) (hWf : WF (ρ, δ, η, ft, tr)) (hW : sm_W s.heap.size D cs (hp x I) H) (hS : va_S (sm_A s.heap.size) s.heap H locs) (hl : lv_has ls 4 (lwL bs s.heap.size v)) (h1 : vp_in (v + 1) L) (h2 : vp_in (v + 2) L) (h3 : vp_in (v + 3) L) (h4 : vp_in (v + 4) L) (h5 : vp_in (v + 5) L) (hk : k + 1 ≤ 600000) (hn : n + 4 ≤ 7302250) (next : ∀ (x' : hX) (I' : Nat → Nat → Int32) (σ' : zS) (H' : Heap) (locs' : List Loc) (k' n' : Nat), CI I' σ' → MI I' σ' → WF σ' → sm_W s.heap.size D cs (hp x' I') H' → va_S (sm_A s.heap.size) s.heap H' locs' → k' ≤ k + 1 → n' ≤ n + 4 → W p l e room_1 s m #[Value.ref bs] below meth c H' locs' k' n' Qf (F0 m 1347 ls [])) : W p l e room_1 s m #[Value.ref bs] below meth c H locs k n Qf (F0 m 936 ls []) := by
  have hx := X.1.1
  have hb := X.1.2.1
  refine lv_aload_n hx hb dL_law_936 rfl (lv_at hl 1 rfl) ?_
  refine lw_arg X hS hl (w := 1) rfl h1 dL_law_937 dL_law_938 dL_law_939 dL_law_940 dL_law_941 ?_
  refine lw_V X.1 (q := 0) (c0 := 6) (mc' := 0) (ms' := 0) (As := [.int (xs (v + 1).toNatClampNeg)]) (st := []) dL_law_942 lL_109 (hl_ rfl) rfl rfl rfl (Nat.le_of_ble_eq_true rfl) (by omega) (by omega) (pc_falls (d := 13) hC hWf) hW hS hl.1 (fun r0 h'0 H0 locs0 hq0 hW hS => ?_)
  obtain ⟨_, rfl, I1, rfl, g1, hC1, rfl⟩ := hq0
  have hM1 := hM.of80 g1
  refine lv_aload_n hx hb dL_law_945 rfl (lv_at hl 2 rfl) ?_
  refine lw_arg X hS hl (w := 1) rfl h1 dL_law_946 dL_law_947 dL_law_948 dL_law_949 dL_law_950 ?_
  refine lw_V X.1 (q := 80) (c0 := 7) (mc' := 0) (ms' := 0) (As := [.int (xs (v + 1).toNatClampNeg)]) (st := [.int _]) dL_law_951 lL_112 (hl_ rfl) rfl rfl rfl (Nat.le_of_ble_eq_true rfl) (by omega) (by omega) (pm_falls (d := 15) hM1 hWf) hW hS hl.1 (fun r1 h'1 H1 locs1 hq1 hW hS => ?_)
  obtain ⟨_, rfl, I2, rfl, g2, hM2, rfl⟩ := hq1
  refine lv_icmp_eq (tgt := 1347) hx hb dL_law_954 (by decide) (fun _ => ?_) (fun z9 => absurd rfl z9)
  exact next x I2 _ _ _ _ _ (hC1.of80 g2) hM2 hWf.t hW hS (by omega) (by omega)

set_option maxHeartbeats 4000000 in
set_option maxRecDepth 100000 in
theorem lw_case_23 {p : Program} {l : Launch} {e : Env} {s : State} {m : MethodId} {below : List Frame} {meth : Method} {c : Code} {Qf : State → Prop} {D : va_G} {cs : ClassId × ClassId × ClassId} {bs L : Nat} {xs : Nat → Int32} {H : Heap} {locs : List Loc} {k n : Nat} {ls : Array Slot} {v : Int32} {x : hX} {I : Nat → Nat → Int32} {ρ : zR} {δ : zD} {η : zH} {ft tr : Int32} (X : lwX p s m meth c bs L xs D cs) (hC : CI I (ρ, δ, η, ft, tr)) (hM : MI I (ρ, δ, η, ft, tr)) (hWf : WF (ρ, δ, η, ft, tr)) (hW : sm_W s.heap.size D cs (hp x I) H) (hS : va_S (sm_A s.heap.size) s.heap H locs) (hl : lv_has ls 4 (lwL bs s.heap.size v)) (h1 : vp_in (v + 1) L) (h2 : vp_in (v + 2) L) (h3 : vp_in (v + 3) L) (h4 : vp_in (v + 4) L) (h5 : vp_in (v + 5) L) (hk : k + 1 ≤ 600000) (hn : n + 4 ≤ 7302250) (next : ∀ (x' : hX) (I' : Nat → Nat → Int32) (σ' : zS) (H' : Heap) (locs' : List Loc) (k' n' : Nat), CI I' σ' → MI I' σ' → WF σ' → sm_W s.heap.size D cs (hp x' I') H' → va_S (sm_A s.heap.size) s.heap H' locs' → k' ≤ k + 1 → n' ≤ n + 4 → W p l e room_1 s m #[Value.ref bs] below meth c H' locs' k' n' Qf (F0 m 1347 ls [])) : W p l e room_1 s m #[Value.ref bs] below meth c H locs k n Qf (F0 m 959 ls []) := by
  have hx := X.1.1
  have hb := X.1.2.1
  refine lv_aload_n hx hb dL_law_959 rfl (lv_at hl 1 rfl) ?_
  refine lw_arg X hS hl (w := 1) rfl h1 dL_law_960 dL_law_961 dL_law_962 dL_law_963 dL_law_964 ?_
  refine lw_arg X hS hl (w := 2) rfl h2 dL_law_965 dL_law_966 dL_law_967 dL_law_968 dL_law_969 ?_
  refine lw_arg X hS hl (w := 3) rfl h3 dL_law_970 dL_law_971 dL_law_972 dL_law_973 dL_law_974 ?_
  refine lw_V X.1 (q := 0) (c0 := 6) (mc' := 0) (ms' := 0) (As := [.int (xs (v + 1).toNatClampNeg), .int (xs (v + 2).toNatClampNeg), .int (xs (v + 3).toNatClampNeg)]) (st := []) dL_law_975 lL_113 (hl_ rfl) rfl rfl rfl (Nat.le_of_ble_eq_true rfl) (by omega) (by omega) (pc_odds (d := 6) hC hWf) hW hS hl.1 (fun r0 h'0 H0 locs0 hq0 hW hS => ?_)
  obtain ⟨_, rfl, I1, rfl, g1, hC1, rfl⟩ := hq0
  have hM1 := hM.of80 g1
  refine lv_aload_n hx hb dL_law_978 rfl (lv_at hl 2 rfl) ?_
  refine lw_arg X hS hl (w := 1) rfl h1 dL_law_979 dL_law_980 dL_law_981 dL_law_982 dL_law_983 ?_
  refine lw_arg X hS hl (w := 2) rfl h2 dL_law_984 dL_law_985 dL_law_986 dL_law_987 dL_law_988 ?_
  refine lw_arg X hS hl (w := 3) rfl h3 dL_law_989 dL_law_990 dL_law_991 dL_law_992 dL_law_993 ?_
  refine lw_V X.1 (q := 80) (c0 := 7) (mc' := 0) (ms' := 0) (As := [.int (xs (v + 1).toNatClampNeg), .int (xs (v + 2).toNatClampNeg), .int (xs (v + 3).toNatClampNeg)]) (st := [.long _]) dL_law_994 lL_117 (hl_ rfl) rfl rfl rfl (Nat.le_of_ble_eq_true rfl) (by omega) (by omega) (pm_odds (d := 15) hM1 hWf) hW hS hl.1 (fun r1 h'1 H1 locs1 hq1 hW hS => ?_)
  obtain ⟨_, rfl, I2, rfl, g2, hM2, rfl⟩ := hq1
  refine W.lcmp hx hb dL_law_997 ?_
  refine lv_if_eq (tgt := 1347) hx hb dL_law_998 (by decide) (fun _ => ?_) (fun z9 => absurd (lg_same _) z9)
  exact next x I2 _ _ _ _ _ (hC1.of80 g2) hM2 hWf.t hW hS (by omega) (by omega)

set_option maxHeartbeats 4000000 in
set_option maxRecDepth 100000 in
theorem lw_case_24 {p : Program} {l : Launch} {e : Env} {s : State} {m : MethodId} {below : List Frame} {meth : Method} {c : Code} {Qf : State → Prop} {D : va_G} {cs : ClassId × ClassId × ClassId} {bs L : Nat} {xs : Nat → Int32} {H : Heap} {locs : List Loc} {k n : Nat} {ls : Array Slot} {v : Int32} {x : hX} {I : Nat → Nat → Int32} {ρ : zR} {δ : zD} {η : zH} {ft tr : Int32} (X : lwX p s m meth c bs L xs D cs) (hC : CI I (ρ, δ, η, ft, tr)) (hM : MI I (ρ, δ, η, ft, tr)) (hWf : WF (ρ, δ, η, ft, tr)) (hW : sm_W s.heap.size D cs (hp x I) H) (hS : va_S (sm_A s.heap.size) s.heap H locs) (hl : lv_has ls 4 (lwL bs s.heap.size v)) (h1 : vp_in (v + 1) L) (h2 : vp_in (v + 2) L) (h3 : vp_in (v + 3) L) (h4 : vp_in (v + 4) L) (h5 : vp_in (v + 5) L) (hk : k + 1 ≤ 600000) (hn : n + 4 ≤ 7302250) (next : ∀ (x' : hX) (I' : Nat → Nat → Int32) (σ' : zS) (H' : Heap) (locs' : List Loc) (k' n' : Nat), CI I' σ' → MI I' σ' → WF σ' → sm_W s.heap.size D cs (hp x' I') H' → va_S (sm_A s.heap.size) s.heap H' locs' → k' ≤ k + 1 → n' ≤ n + 4 → W p l e room_1 s m #[Value.ref bs] below meth c H' locs' k' n' Qf (F0 m 1347 ls [])) : W p l e room_1 s m #[Value.ref bs] below meth c H locs k n Qf (F0 m 1003 ls []) := by
  have hx := X.1.1
  have hb := X.1.2.1
  refine lv_aload_n hx hb dL_law_1003 rfl (lv_at hl 1 rfl) ?_
  refine lw_arg X hS hl (w := 1) rfl h1 dL_law_1004 dL_law_1005 dL_law_1006 dL_law_1007 dL_law_1008 ?_
  refine lw_arg X hS hl (w := 2) rfl h2 dL_law_1009 dL_law_1010 dL_law_1011 dL_law_1012 dL_law_1013 ?_
  refine lw_arg X hS hl (w := 3) rfl h3 dL_law_1014 dL_law_1015 dL_law_1016 dL_law_1017 dL_law_1018 ?_
  refine lw_V X.1 (q := 0) (c0 := 6) (mc' := 0) (ms' := 0) (As := [.int (xs (v + 1).toNatClampNeg), .int (xs (v + 2).toNatClampNeg), .int (xs (v + 3).toNatClampNeg)]) (st := []) dL_law_1019 lL_118 (hl_ rfl) rfl rfl rfl (Nat.le_of_ble_eq_true rfl) (by omega) (by omega) (pc_sheet (d := 18) hC hWf) hW hS hl.1 (fun r0 h'0 H0 locs0 hq0 hW hS => ?_)
  obtain ⟨_, rfl, I1, rfl, g1, hC1, rfl⟩ := hq0
  have hM1 := hM.of80 g1
  refine lv_aload_n hx hb dL_law_1022 rfl (lv_at hl 2 rfl) ?_
  refine lw_arg X hS hl (w := 1) rfl h1 dL_law_1023 dL_law_1024 dL_law_1025 dL_law_1026 dL_law_1027 ?_
  refine lw_arg X hS hl (w := 2) rfl h2 dL_law_1028 dL_law_1029 dL_law_1030 dL_law_1031 dL_law_1032 ?_
  refine lw_arg X hS hl (w := 3) rfl h3 dL_law_1033 dL_law_1034 dL_law_1035 dL_law_1036 dL_law_1037 ?_
  refine lw_V X.1 (q := 80) (c0 := 7) (mc' := 0) (ms' := 0) (As := [.int (xs (v + 1).toNatClampNeg), .int (xs (v + 2).toNatClampNeg), .int (xs (v + 3).toNatClampNeg)]) (st := [.int _]) dL_law_1038 lL_121 (hl_ rfl) rfl rfl rfl (Nat.le_of_ble_eq_true rfl) (by omega) (by omega) (pm_sheet (d := 17) hM1 hWf) hW hS hl.1 (fun r1 h'1 H1 locs1 hq1 hW hS => ?_)
  obtain ⟨_, rfl, I2, rfl, g2, hM2, rfl⟩ := hq1
  refine lv_icmp_eq (tgt := 1347) hx hb dL_law_1041 (by decide) (fun _ => ?_) (fun z9 => absurd rfl z9)
  exact next x I2 _ _ _ _ _ (hC1.of80 g2) hM2 (wf_sheet hWf) hW hS (by omega) (by omega)

set_option maxHeartbeats 4000000 in
set_option maxRecDepth 100000 in
theorem lw_case_25 {p : Program} {l : Launch} {e : Env} {s : State} {m : MethodId} {below : List Frame} {meth : Method} {c : Code} {Qf : State → Prop} {D : va_G} {cs : ClassId × ClassId × ClassId} {bs L : Nat} {xs : Nat → Int32} {H : Heap} {locs : List Loc} {k n : Nat} {ls : Array Slot} {v : Int32} {x : hX} {I : Nat → Nat → Int32} {ρ : zR} {δ : zD} {η : zH} {ft tr : Int32} (X : lwX p s m meth c bs L xs D cs) (hC : CI I (ρ, δ, η, ft, tr)) (hM : MI I (ρ, δ, η, ft, tr)) (hWf : WF (ρ, δ, η, ft, tr)) (hW : sm_W s.heap.size D cs (hp x I) H) (hS : va_S (sm_A s.heap.size) s.heap H locs) (hl : lv_has ls 4 (lwL bs s.heap.size v)) (h1 : vp_in (v + 1) L) (h2 : vp_in (v + 2) L) (h3 : vp_in (v + 3) L) (h4 : vp_in (v + 4) L) (h5 : vp_in (v + 5) L) (hk : k + 1 ≤ 600000) (hn : n + 4 ≤ 7302250) (next : ∀ (x' : hX) (I' : Nat → Nat → Int32) (σ' : zS) (H' : Heap) (locs' : List Loc) (k' n' : Nat), CI I' σ' → MI I' σ' → WF σ' → sm_W s.heap.size D cs (hp x' I') H' → va_S (sm_A s.heap.size) s.heap H' locs' → k' ≤ k + 1 → n' ≤ n + 4 → W p l e room_1 s m #[Value.ref bs] below meth c H' locs' k' n' Qf (F0 m 1347 ls [])) : W p l e room_1 s m #[Value.ref bs] below meth c H locs k n Qf (F0 m 1046 ls []) := by
  have hx := X.1.1
  have hb := X.1.2.1
  refine lv_aload_n hx hb dL_law_1046 rfl (lv_at hl 1 rfl) ?_
  refine lw_arg X hS hl (w := 1) rfl h1 dL_law_1047 dL_law_1048 dL_law_1049 dL_law_1050 dL_law_1051 ?_
  refine lw_V X.1 (q := 0) (c0 := 6) (mc' := 0) (ms' := 0) (As := [.int (xs (v + 1).toNatClampNeg)]) (st := []) dL_law_1052 lL_122 (hl_ rfl) rfl rfl rfl (Nat.le_of_ble_eq_true rfl) (by omega) (by omega) (pc_lose (d := 18) hC hWf) hW hS hl.1 (fun r0 h'0 H0 locs0 hq0 hW hS => ?_)
  obtain ⟨_, rfl, I1, rfl, g1, hC1, rfl⟩ := hq0
  have hM1 := hM.of80 g1
  refine lv_aload_n hx hb dL_law_1055 rfl (lv_at hl 2 rfl) ?_
  refine lw_arg X hS hl (w := 1) rfl h1 dL_law_1056 dL_law_1057 dL_law_1058 dL_law_1059 dL_law_1060 ?_
  refine lw_V X.1 (q := 80) (c0 := 7) (mc' := 0) (ms' := 0) (As := [.int (xs (v + 1).toNatClampNeg)]) (st := [.int _]) dL_law_1061 lL_125 (hl_ rfl) rfl rfl rfl (Nat.le_of_ble_eq_true rfl) (by omega) (by omega) (pm_lose (d := 17) hM1 hWf) hW hS hl.1 (fun r1 h'1 H1 locs1 hq1 hW hS => ?_)
  obtain ⟨_, rfl, I2, rfl, g2, hM2, rfl⟩ := hq1
  refine lv_icmp_eq (tgt := 1347) hx hb dL_law_1064 (by decide) (fun _ => ?_) (fun z9 => absurd rfl z9)
  exact next x I2 _ _ _ _ _ (hC1.of80 g2) hM2 (wf_lose hWf) hW hS (by omega) (by omega)

set_option maxHeartbeats 4000000 in
set_option maxRecDepth 100000 in
theorem lw_case_26 {p : Program} {l : Launch} {e : Env} {s : State} {m : MethodId} {below : List Frame} {meth : Method} {c : Code} {Qf : State → Prop} {D : va_G} {cs : ClassId × ClassId × ClassId} {bs L : Nat} {xs : Nat → Int32} {H : Heap} {locs : List Loc} {k n : Nat} {ls : Array Slot} {v : Int32} {x : hX} {I : Nat → Nat → Int32} {ρ : zR} {δ : zD} {η : zH} {ft tr : Int32} (X : lwX p s m meth c bs L xs D cs) (hC : CI I (ρ, δ, η, ft, tr)) (hM : MI I (ρ, δ, η, ft, tr)) (hWf : WF (ρ, δ, η, ft, tr)) (hW : sm_W s.heap.size D cs (hp x I) H) (hS : va_S (sm_A s.heap.size) s.heap H locs) (hl : lv_has ls 4 (lwL bs s.heap.size v)) (h1 : vp_in (v + 1) L) (h2 : vp_in (v + 2) L) (h3 : vp_in (v + 3) L) (h4 : vp_in (v + 4) L) (h5 : vp_in (v + 5) L) (hk : k + 1 ≤ 600000) (hn : n + 4 ≤ 7302250) (next : ∀ (x' : hX) (I' : Nat → Nat → Int32) (σ' : zS) (H' : Heap) (locs' : List Loc) (k' n' : Nat), CI I' σ' → MI I' σ' → WF σ' → sm_W s.heap.size D cs (hp x' I') H' → va_S (sm_A s.heap.size) s.heap H' locs' → k' ≤ k + 1 → n' ≤ n + 4 → W p l e room_1 s m #[Value.ref bs] below meth c H' locs' k' n' Qf (F0 m 1347 ls [])) : W p l e room_1 s m #[Value.ref bs] below meth c H locs k n Qf (F0 m 1069 ls []) := by
  have hx := X.1.1
  have hb := X.1.2.1
  refine lv_aload_n hx hb dL_law_1069 rfl (lv_at hl 1 rfl) ?_
  refine lw_arg X hS hl (w := 1) rfl h1 dL_law_1070 dL_law_1071 dL_law_1072 dL_law_1073 dL_law_1074 ?_
  refine lw_arg X hS hl (w := 2) rfl h2 dL_law_1075 dL_law_1076 dL_law_1077 dL_law_1078 dL_law_1079 ?_
  refine lw_arg X hS hl (w := 3) rfl h3 dL_law_1080 dL_law_1081 dL_law_1082 dL_law_1083 dL_law_1084 ?_
  refine lw_V X.1 (q := 0) (c0 := 6) (mc' := 0) (ms' := 0) (As := [.int (xs (v + 1).toNatClampNeg), .int (xs (v + 2).toNatClampNeg), .int (xs (v + 3).toNatClampNeg)]) (st := []) dL_law_1085 lL_126 (hl_ rfl) rfl rfl rfl (Nat.le_of_ble_eq_true rfl) (by omega) (by omega) (pc_put (d := 18) hC hWf) hW hS hl.1 (fun r0 h'0 H0 locs0 hq0 hW hS => ?_)
  obtain ⟨_, rfl, I1, rfl, g1, hC1, rfl⟩ := hq0
  have hM1 := hM.of80 g1
  refine lv_aload_n hx hb dL_law_1088 rfl (lv_at hl 2 rfl) ?_
  refine lw_arg X hS hl (w := 1) rfl h1 dL_law_1089 dL_law_1090 dL_law_1091 dL_law_1092 dL_law_1093 ?_
  refine lw_arg X hS hl (w := 2) rfl h2 dL_law_1094 dL_law_1095 dL_law_1096 dL_law_1097 dL_law_1098 ?_
  refine lw_arg X hS hl (w := 3) rfl h3 dL_law_1099 dL_law_1100 dL_law_1101 dL_law_1102 dL_law_1103 ?_
  refine lw_V X.1 (q := 80) (c0 := 7) (mc' := 0) (ms' := 0) (As := [.int (xs (v + 1).toNatClampNeg), .int (xs (v + 2).toNatClampNeg), .int (xs (v + 3).toNatClampNeg)]) (st := [.int _]) dL_law_1104 lL_129 (hl_ rfl) rfl rfl rfl (Nat.le_of_ble_eq_true rfl) (by omega) (by omega) (pm_put (d := 17) hM1 hWf) hW hS hl.1 (fun r1 h'1 H1 locs1 hq1 hW hS => ?_)
  obtain ⟨_, rfl, I2, rfl, g2, hM2, rfl⟩ := hq1
  refine lv_icmp_eq (tgt := 1347) hx hb dL_law_1107 (by decide) (fun _ => ?_) (fun z9 => absurd rfl z9)
  exact next x I2 _ _ _ _ _ (hC1.of80 g2) hM2 (wf_put hWf) hW hS (by omega) (by omega)

set_option maxHeartbeats 4000000 in
set_option maxRecDepth 100000 in
theorem lw_case_27 {p : Program} {l : Launch} {e : Env} {s : State} {m : MethodId} {below : List Frame} {meth : Method} {c : Code} {Qf : State → Prop} {D : va_G} {cs : ClassId × ClassId × ClassId} {bs L : Nat} {xs : Nat → Int32} {H : Heap} {locs : List Loc} {k n : Nat} {ls : Array Slot} {v : Int32} {x : hX} {I : Nat → Nat → Int32} {ρ : zR} {δ : zD} {η : zH} {ft tr : Int32} (X : lwX p s m meth c bs L xs D cs) (hC : CI I (ρ, δ, η, ft, tr)) (hM : MI I (ρ, δ, η, ft, tr)) (hWf : WF (ρ, δ, η, ft, tr)) (hW : sm_W s.heap.size D cs (hp x I) H) (hS : va_S (sm_A s.heap.size) s.heap H locs) (hl : lv_has ls 4 (lwL bs s.heap.size v)) (h1 : vp_in (v + 1) L) (h2 : vp_in (v + 2) L) (h3 : vp_in (v + 3) L) (h4 : vp_in (v + 4) L) (h5 : vp_in (v + 5) L) (hk : k + 1 ≤ 600000) (hn : n + 4 ≤ 7302250) (next : ∀ (x' : hX) (I' : Nat → Nat → Int32) (σ' : zS) (H' : Heap) (locs' : List Loc) (k' n' : Nat), CI I' σ' → MI I' σ' → WF σ' → sm_W s.heap.size D cs (hp x' I') H' → va_S (sm_A s.heap.size) s.heap H' locs' → k' ≤ k + 1 → n' ≤ n + 4 → W p l e room_1 s m #[Value.ref bs] below meth c H' locs' k' n' Qf (F0 m 1347 ls [])) : W p l e room_1 s m #[Value.ref bs] below meth c H locs k n Qf (F0 m 1112 ls []) := by
  have hx := X.1.1
  have hb := X.1.2.1
  refine lv_aload_n hx hb dL_law_1112 rfl (lv_at hl 1 rfl) ?_
  refine lw_arg X hS hl (w := 1) rfl h1 dL_law_1113 dL_law_1114 dL_law_1115 dL_law_1116 dL_law_1117 ?_
  refine lw_arg X hS hl (w := 2) rfl h2 dL_law_1118 dL_law_1119 dL_law_1120 dL_law_1121 dL_law_1122 ?_
  refine lw_arg X hS hl (w := 3) rfl h3 dL_law_1123 dL_law_1124 dL_law_1125 dL_law_1126 dL_law_1127 ?_
  refine lw_V X.1 (q := 0) (c0 := 6) (mc' := 0) (ms' := 0) (As := [.int (xs (v + 1).toNatClampNeg), .int (xs (v + 2).toNatClampNeg), .int (xs (v + 3).toNatClampNeg)]) (st := []) dL_law_1128 lL_130 (hl_ rfl) rfl rfl rfl (Nat.le_of_ble_eq_true rfl) (by omega) (by omega) (pc_cell (d := 16) hC hWf) hW hS hl.1 (fun r0 h'0 H0 locs0 hq0 hW hS => ?_)
  obtain ⟨_, rfl, I1, rfl, g1, hC1, rfl⟩ := hq0
  have hM1 := hM.of80 g1
  refine lv_aload_n hx hb dL_law_1131 rfl (lv_at hl 2 rfl) ?_
  refine lw_arg X hS hl (w := 1) rfl h1 dL_law_1132 dL_law_1133 dL_law_1134 dL_law_1135 dL_law_1136 ?_
  refine lw_arg X hS hl (w := 2) rfl h2 dL_law_1137 dL_law_1138 dL_law_1139 dL_law_1140 dL_law_1141 ?_
  refine lw_arg X hS hl (w := 3) rfl h3 dL_law_1142 dL_law_1143 dL_law_1144 dL_law_1145 dL_law_1146 ?_
  refine lw_V X.1 (q := 80) (c0 := 7) (mc' := 0) (ms' := 0) (As := [.int (xs (v + 1).toNatClampNeg), .int (xs (v + 2).toNatClampNeg), .int (xs (v + 3).toNatClampNeg)]) (st := [.long _]) dL_law_1147 lL_133 (hl_ rfl) rfl rfl rfl (Nat.le_of_ble_eq_true rfl) (by omega) (by omega) (pm_cell (d := 17) hM1 hWf) hW hS hl.1 (fun r1 h'1 H1 locs1 hq1 hW hS => ?_)
  obtain ⟨_, rfl, I2, rfl, g2, hM2, rfl⟩ := hq1
  refine W.lcmp hx hb dL_law_1150 ?_
  refine lv_if_eq (tgt := 1347) hx hb dL_law_1151 (by decide) (fun _ => ?_) (fun z9 => absurd (lg_same _) z9)
  exact next x I2 _ _ _ _ _ (hC1.of80 g2) hM2 hWf.t hW hS (by omega) (by omega)

set_option maxHeartbeats 4000000 in
set_option maxRecDepth 100000 in
theorem lw_case_28 {p : Program} {l : Launch} {e : Env} {s : State} {m : MethodId} {below : List Frame} {meth : Method} {c : Code} {Qf : State → Prop} {D : va_G} {cs : ClassId × ClassId × ClassId} {bs L : Nat} {xs : Nat → Int32} {H : Heap} {locs : List Loc} {k n : Nat} {ls : Array Slot} {v : Int32} {x : hX} {I : Nat → Nat → Int32} {ρ : zR} {δ : zD} {η : zH} {ft tr : Int32} (X : lwX p s m meth c bs L xs D cs) (hC : CI I (ρ, δ, η, ft, tr)) (hM : MI I (ρ, δ, η, ft, tr)) (hWf : WF (ρ, δ, η, ft, tr)) (hW : sm_W s.heap.size D cs (hp x I) H) (hS : va_S (sm_A s.heap.size) s.heap H locs) (hl : lv_has ls 4 (lwL bs s.heap.size v)) (h1 : vp_in (v + 1) L) (h2 : vp_in (v + 2) L) (h3 : vp_in (v + 3) L) (h4 : vp_in (v + 4) L) (h5 : vp_in (v + 5) L) (hk : k + 1 ≤ 600000) (hn : n + 4 ≤ 7302250) (next : ∀ (x' : hX) (I' : Nat → Nat → Int32) (σ' : zS) (H' : Heap) (locs' : List Loc) (k' n' : Nat), CI I' σ' → MI I' σ' → WF σ' → sm_W s.heap.size D cs (hp x' I') H' → va_S (sm_A s.heap.size) s.heap H' locs' → k' ≤ k + 1 → n' ≤ n + 4 → W p l e room_1 s m #[Value.ref bs] below meth c H' locs' k' n' Qf (F0 m 1347 ls [])) : W p l e room_1 s m #[Value.ref bs] below meth c H locs k n Qf (F0 m 1156 ls []) := by
  have hx := X.1.1
  have hb := X.1.2.1
  refine lv_aload_n hx hb dL_law_1156 rfl (lv_at hl 1 rfl) ?_
  refine lw_arg X hS hl (w := 1) rfl h1 dL_law_1157 dL_law_1158 dL_law_1159 dL_law_1160 dL_law_1161 ?_
  refine lw_arg X hS hl (w := 2) rfl h2 dL_law_1162 dL_law_1163 dL_law_1164 dL_law_1165 dL_law_1166 ?_
  refine lw_arg X hS hl (w := 3) rfl h3 dL_law_1167 dL_law_1168 dL_law_1169 dL_law_1170 dL_law_1171 ?_
  refine lw_arg X hS hl (w := 4) rfl h4 dL_law_1172 dL_law_1173 dL_law_1174 dL_law_1175 dL_law_1176 ?_
  refine lw_arg X hS hl (w := 5) rfl h5 dL_law_1177 dL_law_1178 dL_law_1179 dL_law_1180 dL_law_1181 ?_
  refine lw_V X.1 (q := 0) (c0 := 6) (mc' := 0) (ms' := 0) (As := [.int (xs (v + 1).toNatClampNeg), .int (xs (v + 2).toNatClampNeg), .int (xs (v + 3).toNatClampNeg), .int (xs (v + 4).toNatClampNeg), .int (xs (v + 5).toNatClampNeg)]) (st := []) dL_law_1182 lL_134 (hl_ rfl) rfl rfl rfl (Nat.le_of_ble_eq_true rfl) (by omega) (by omega) (pc_copy (d := 18) hC hWf) hW hS hl.1 (fun r0 h'0 H0 locs0 hq0 hW hS => ?_)
  obtain ⟨_, rfl, I1, rfl, g1, hC1, rfl⟩ := hq0
  have hM1 := hM.of80 g1
  refine lv_aload_n hx hb dL_law_1185 rfl (lv_at hl 2 rfl) ?_
  refine lw_arg X hS hl (w := 1) rfl h1 dL_law_1186 dL_law_1187 dL_law_1188 dL_law_1189 dL_law_1190 ?_
  refine lw_arg X hS hl (w := 2) rfl h2 dL_law_1191 dL_law_1192 dL_law_1193 dL_law_1194 dL_law_1195 ?_
  refine lw_arg X hS hl (w := 3) rfl h3 dL_law_1196 dL_law_1197 dL_law_1198 dL_law_1199 dL_law_1200 ?_
  refine lw_arg X hS hl (w := 4) rfl h4 dL_law_1201 dL_law_1202 dL_law_1203 dL_law_1204 dL_law_1205 ?_
  refine lw_arg X hS hl (w := 5) rfl h5 dL_law_1206 dL_law_1207 dL_law_1208 dL_law_1209 dL_law_1210 ?_
  refine lw_V X.1 (q := 80) (c0 := 7) (mc' := 0) (ms' := 0) (As := [.int (xs (v + 1).toNatClampNeg), .int (xs (v + 2).toNatClampNeg), .int (xs (v + 3).toNatClampNeg), .int (xs (v + 4).toNatClampNeg), .int (xs (v + 5).toNatClampNeg)]) (st := [.int _]) dL_law_1211 lL_137 (hl_ rfl) rfl rfl rfl (Nat.le_of_ble_eq_true rfl) (by omega) (by omega) (pm_copy (d := 17) hM1 hWf) hW hS hl.1 (fun r1 h'1 H1 locs1 hq1 hW hS => ?_)
  obtain ⟨_, rfl, I2, rfl, g2, hM2, rfl⟩ := hq1
  refine lv_icmp_eq (tgt := 1347) hx hb dL_law_1214 (by decide) (fun _ => ?_) (fun z9 => absurd rfl z9)
  exact next x I2 _ _ _ _ _ (hC1.of80 g2) hM2 (wf_copy hWf) hW hS (by omega) (by omega)

set_option maxHeartbeats 4000000 in
set_option maxRecDepth 100000 in
theorem lw_case_29 {p : Program} {l : Launch} {e : Env} {s : State} {m : MethodId} {below : List Frame} {meth : Method} {c : Code} {Qf : State → Prop} {D : va_G} {cs : ClassId × ClassId × ClassId} {bs L : Nat} {xs : Nat → Int32} {H : Heap} {locs : List Loc} {k n : Nat} {ls : Array Slot} {v : Int32} {x : hX} {I : Nat → Nat → Int32} {ρ : zR} {δ : zD} {η : zH} {ft tr : Int32} (X : lwX p s m meth c bs L xs D cs) (hC : CI I (ρ, δ, η, ft, tr)) (hM : MI I (ρ, δ, η, ft, tr)) (hWf : WF (ρ, δ, η, ft, tr)) (hW : sm_W s.heap.size D cs (hp x I) H) (hS : va_S (sm_A s.heap.size) s.heap H locs) (hl : lv_has ls 4 (lwL bs s.heap.size v)) (h1 : vp_in (v + 1) L) (h2 : vp_in (v + 2) L) (h3 : vp_in (v + 3) L) (h4 : vp_in (v + 4) L) (h5 : vp_in (v + 5) L) (hk : k + 1 ≤ 600000) (hn : n + 4 ≤ 7302250) (next : ∀ (x' : hX) (I' : Nat → Nat → Int32) (σ' : zS) (H' : Heap) (locs' : List Loc) (k' n' : Nat), CI I' σ' → MI I' σ' → WF σ' → sm_W s.heap.size D cs (hp x' I') H' → va_S (sm_A s.heap.size) s.heap H' locs' → k' ≤ k + 1 → n' ≤ n + 4 → W p l e room_1 s m #[Value.ref bs] below meth c H' locs' k' n' Qf (F0 m 1347 ls [])) : W p l e room_1 s m #[Value.ref bs] below meth c H locs k n Qf (F0 m 1219 ls []) := by
  have hx := X.1.1
  have hb := X.1.2.1
  refine lv_aload_n hx hb dL_law_1219 rfl (lv_at hl 1 rfl) ?_
  refine lw_arg X hS hl (w := 1) rfl h1 dL_law_1220 dL_law_1221 dL_law_1222 dL_law_1223 dL_law_1224 ?_
  refine lw_V X.1 (q := 0) (c0 := 6) (mc' := 0) (ms' := 0) (As := [.int (xs (v + 1).toNatClampNeg)]) (st := []) dL_law_1225 lL_138 (hl_ rfl) rfl rfl rfl (Nat.le_of_ble_eq_true rfl) (by omega) (by omega) (pc_tell (d := 15) hC hWf) hW hS hl.1 (fun r0 h'0 H0 locs0 hq0 hW hS => ?_)
  obtain ⟨_, rfl, I1, rfl, g1, hC1, rfl⟩ := hq0
  have hM1 := hM.of80 g1
  refine lv_aload_n hx hb dL_law_1228 rfl (lv_at hl 2 rfl) ?_
  refine lw_arg X hS hl (w := 1) rfl h1 dL_law_1229 dL_law_1230 dL_law_1231 dL_law_1232 dL_law_1233 ?_
  refine lw_V X.1 (q := 80) (c0 := 7) (mc' := 0) (ms' := 0) (As := [.int (xs (v + 1).toNatClampNeg)]) (st := [.int _]) dL_law_1234 lL_141 (hl_ rfl) rfl rfl rfl (Nat.le_of_ble_eq_true rfl) (by omega) (by omega) (pm_tell (d := 17) hM1 hWf) hW hS hl.1 (fun r1 h'1 H1 locs1 hq1 hW hS => ?_)
  obtain ⟨_, rfl, I2, rfl, g2, hM2, rfl⟩ := hq1
  refine lv_icmp_eq (tgt := 1347) hx hb dL_law_1237 (by decide) (fun _ => ?_) (fun z9 => absurd rfl z9)
  exact next x I2 _ _ _ _ _ (hC1.of80 g2) hM2 hWf.t hW hS (by omega) (by omega)

set_option maxHeartbeats 4000000 in
set_option maxRecDepth 100000 in
theorem lw_case_30 {p : Program} {l : Launch} {e : Env} {s : State} {m : MethodId} {below : List Frame} {meth : Method} {c : Code} {Qf : State → Prop} {D : va_G} {cs : ClassId × ClassId × ClassId} {bs L : Nat} {xs : Nat → Int32} {H : Heap} {locs : List Loc} {k n : Nat} {ls : Array Slot} {v : Int32} {x : hX} {I : Nat → Nat → Int32} {ρ : zR} {δ : zD} {η : zH} {ft tr : Int32} (X : lwX p s m meth c bs L xs D cs) (hC : CI I (ρ, δ, η, ft, tr)) (hM : MI I (ρ, δ, η, ft, tr)) (hWf : WF (ρ, δ, η, ft, tr)) (hW : sm_W s.heap.size D cs (hp x I) H) (hS : va_S (sm_A s.heap.size) s.heap H locs) (hl : lv_has ls 4 (lwL bs s.heap.size v)) (h1 : vp_in (v + 1) L) (h2 : vp_in (v + 2) L) (h3 : vp_in (v + 3) L) (h4 : vp_in (v + 4) L) (h5 : vp_in (v + 5) L) (hk : k + 1 ≤ 600000) (hn : n + 4 ≤ 7302250) (next : ∀ (x' : hX) (I' : Nat → Nat → Int32) (σ' : zS) (H' : Heap) (locs' : List Loc) (k' n' : Nat), CI I' σ' → MI I' σ' → WF σ' → sm_W s.heap.size D cs (hp x' I') H' → va_S (sm_A s.heap.size) s.heap H' locs' → k' ≤ k + 1 → n' ≤ n + 4 → W p l e room_1 s m #[Value.ref bs] below meth c H' locs' k' n' Qf (F0 m 1347 ls [])) : W p l e room_1 s m #[Value.ref bs] below meth c H locs k n Qf (F0 m 1242 ls []) := by
  have hx := X.1.1
  have hb := X.1.2.1
  refine lv_aload_n hx hb dL_law_1242 rfl (lv_at hl 1 rfl) ?_
  refine lw_arg X hS hl (w := 1) rfl h1 dL_law_1243 dL_law_1244 dL_law_1245 dL_law_1246 dL_law_1247 ?_
  refine lw_V X.1 (q := 0) (c0 := 6) (mc' := 0) (ms' := 0) (As := [.int (xs (v + 1).toNatClampNeg)]) (st := []) dL_law_1248 lL_142 (hl_ rfl) rfl rfl rfl (Nat.le_of_ble_eq_true rfl) (by omega) (by omega) (pc_light (d := 17) hC hWf) hW hS hl.1 (fun r0 h'0 H0 locs0 hq0 hW hS => ?_)
  obtain ⟨_, rfl, I1, rfl, g1, hC1, rfl⟩ := hq0
  have hM1 := hM.of80 g1
  refine lv_aload_n hx hb dL_law_1251 rfl (lv_at hl 2 rfl) ?_
  refine lw_arg X hS hl (w := 1) rfl h1 dL_law_1252 dL_law_1253 dL_law_1254 dL_law_1255 dL_law_1256 ?_
  refine lw_V X.1 (q := 80) (c0 := 7) (mc' := 0) (ms' := 0) (As := [.int (xs (v + 1).toNatClampNeg)]) (st := [.int _]) dL_law_1257 lL_145 (hl_ rfl) rfl rfl rfl (Nat.le_of_ble_eq_true rfl) (by omega) (by omega) (pm_light (d := 17) hM1 hWf) hW hS hl.1 (fun r1 h'1 H1 locs1 hq1 hW hS => ?_)
  obtain ⟨_, rfl, I2, rfl, g2, hM2, rfl⟩ := hq1
  refine lv_icmp_eq (tgt := 1347) hx hb dL_law_1260 (by decide) (fun _ => ?_) (fun z9 => absurd rfl z9)
  exact next x I2 _ _ _ _ _ (hC1.of80 g2) hM2 hWf.t hW hS (by omega) (by omega)

set_option maxHeartbeats 4000000 in
set_option maxRecDepth 100000 in
theorem lw_case_31 {p : Program} {l : Launch} {e : Env} {s : State} {m : MethodId} {below : List Frame} {meth : Method} {c : Code} {Qf : State → Prop} {D : va_G} {cs : ClassId × ClassId × ClassId} {bs L : Nat} {xs : Nat → Int32} {H : Heap} {locs : List Loc} {k n : Nat} {ls : Array Slot} {v : Int32} {x : hX} {I : Nat → Nat → Int32} {ρ : zR} {δ : zD} {η : zH} {ft tr : Int32} (X : lwX p s m meth c bs L xs D cs) (hC : CI I (ρ, δ, η, ft, tr)) (hM : MI I (ρ, δ, η, ft, tr)) (hWf : WF (ρ, δ, η, ft, tr)) (hW : sm_W s.heap.size D cs (hp x I) H) (hS : va_S (sm_A s.heap.size) s.heap H locs) (hl : lv_has ls 4 (lwL bs s.heap.size v)) (h1 : vp_in (v + 1) L) (h2 : vp_in (v + 2) L) (h3 : vp_in (v + 3) L) (h4 : vp_in (v + 4) L) (h5 : vp_in (v + 5) L) (hk : k + 1 ≤ 600000) (hn : n + 4 ≤ 7302250) (next : ∀ (x' : hX) (I' : Nat → Nat → Int32) (σ' : zS) (H' : Heap) (locs' : List Loc) (k' n' : Nat), CI I' σ' → MI I' σ' → WF σ' → sm_W s.heap.size D cs (hp x' I') H' → va_S (sm_A s.heap.size) s.heap H' locs' → k' ≤ k + 1 → n' ≤ n + 4 → W p l e room_1 s m #[Value.ref bs] below meth c H' locs' k' n' Qf (F0 m 1347 ls [])) : W p l e room_1 s m #[Value.ref bs] below meth c H locs k n Qf (F0 m 1265 ls []) := by
  have hx := X.1.1
  have hb := X.1.2.1
  refine lv_aload_n hx hb dL_law_1265 rfl (lv_at hl 1 rfl) ?_
  refine lw_arg X hS hl (w := 1) rfl h1 dL_law_1266 dL_law_1267 dL_law_1268 dL_law_1269 dL_law_1270 ?_
  refine lw_arg X hS hl (w := 2) rfl h2 dL_law_1271 dL_law_1272 dL_law_1273 dL_law_1274 dL_law_1275 ?_
  refine lw_V X.1 (q := 0) (c0 := 6) (mc' := 0) (ms' := 0) (As := [.int (xs (v + 1).toNatClampNeg), .int (xs (v + 2).toNatClampNeg)]) (st := []) dL_law_1276 lL_146 (hl_ rfl) rfl rfl rfl (Nat.le_of_ble_eq_true rfl) (by omega) (by omega) (pc_as (d := 18) hC hWf) hW hS hl.1 (fun r0 h'0 H0 locs0 hq0 hW hS => ?_)
  obtain ⟨_, rfl, I1, rfl, g1, hC1, rfl⟩ := hq0
  have hM1 := hM.of80 g1
  refine lv_aload_n hx hb dL_law_1279 rfl (lv_at hl 2 rfl) ?_
  refine lw_arg X hS hl (w := 1) rfl h1 dL_law_1280 dL_law_1281 dL_law_1282 dL_law_1283 dL_law_1284 ?_
  refine lw_arg X hS hl (w := 2) rfl h2 dL_law_1285 dL_law_1286 dL_law_1287 dL_law_1288 dL_law_1289 ?_
  refine lw_V X.1 (q := 80) (c0 := 7) (mc' := 0) (ms' := 0) (As := [.int (xs (v + 1).toNatClampNeg), .int (xs (v + 2).toNatClampNeg)]) (st := [.int _]) dL_law_1290 lL_149 (hl_ rfl) rfl rfl rfl (Nat.le_of_ble_eq_true rfl) (by omega) (by omega) (pm_as (d := 17) hM1 hWf) hW hS hl.1 (fun r1 h'1 H1 locs1 hq1 hW hS => ?_)
  obtain ⟨_, rfl, I2, rfl, g2, hM2, rfl⟩ := hq1
  refine lv_icmp_eq (tgt := 1347) hx hb dL_law_1293 (by decide) (fun _ => ?_) (fun z9 => absurd rfl z9)
  exact next x I2 _ _ _ _ _ (hC1.of80 g2) hM2 hWf.t hW hS (by omega) (by omega)

set_option maxHeartbeats 4000000 in
set_option maxRecDepth 100000 in
theorem lw_case_32 {p : Program} {l : Launch} {e : Env} {s : State} {m : MethodId} {below : List Frame} {meth : Method} {c : Code} {Qf : State → Prop} {D : va_G} {cs : ClassId × ClassId × ClassId} {bs L : Nat} {xs : Nat → Int32} {H : Heap} {locs : List Loc} {k n : Nat} {ls : Array Slot} {v : Int32} {x : hX} {I : Nat → Nat → Int32} {ρ : zR} {δ : zD} {η : zH} {ft tr : Int32} (X : lwX p s m meth c bs L xs D cs) (hC : CI I (ρ, δ, η, ft, tr)) (hM : MI I (ρ, δ, η, ft, tr)) (hWf : WF (ρ, δ, η, ft, tr)) (hW : sm_W s.heap.size D cs (hp x I) H) (hS : va_S (sm_A s.heap.size) s.heap H locs) (hl : lv_has ls 4 (lwL bs s.heap.size v)) (h1 : vp_in (v + 1) L) (h2 : vp_in (v + 2) L) (h3 : vp_in (v + 3) L) (h4 : vp_in (v + 4) L) (h5 : vp_in (v + 5) L) (hk : k + 1 ≤ 600000) (hn : n + 4 ≤ 7302250) (next : ∀ (x' : hX) (I' : Nat → Nat → Int32) (σ' : zS) (H' : Heap) (locs' : List Loc) (k' n' : Nat), CI I' σ' → MI I' σ' → WF σ' → sm_W s.heap.size D cs (hp x' I') H' → va_S (sm_A s.heap.size) s.heap H' locs' → k' ≤ k + 1 → n' ≤ n + 4 → W p l e room_1 s m #[Value.ref bs] below meth c H' locs' k' n' Qf (F0 m 1347 ls [])) : W p l e room_1 s m #[Value.ref bs] below meth c H locs k n Qf (F0 m 1298 ls []) := by
  have hx := X.1.1
  have hb := X.1.2.1
  refine lv_aload_n hx hb dL_law_1298 rfl (lv_at hl 1 rfl) ?_
  refine lw_V X.1 (q := 0) (c0 := 6) (mc' := 0) (ms' := 0) (As := []) (st := []) dL_law_1299 lL_150 (hl_ rfl) rfl rfl rfl (Nat.le_of_ble_eq_true rfl) (by omega) (by omega) (pc_trace (d := 19) hC hWf) hW hS hl.1 (fun r0 h'0 H0 locs0 hq0 hW hS => ?_)
  obtain ⟨_, rfl, rfl, rfl⟩ := hq0
  have hM1 := hM
  refine lv_aload_n hx hb dL_law_1302 rfl (lv_at hl 2 rfl) ?_
  refine lw_V X.1 (q := 80) (c0 := 7) (mc' := 0) (ms' := 0) (As := []) (st := [.int _]) dL_law_1303 lL_153 (hl_ rfl) rfl rfl rfl (Nat.le_of_ble_eq_true rfl) (by omega) (by omega) (pm_trace (d := 19) hM1 hWf) hW hS hl.1 (fun r1 h'1 H1 locs1 hq1 hW hS => ?_)
  obtain ⟨_, rfl, rfl, rfl⟩ := hq1
  refine lv_icmp_eq (tgt := 1347) hx hb dL_law_1306 (by decide) (fun _ => ?_) (fun z9 => absurd rfl z9)
  exact next x I _ _ _ _ _ hC hM hWf hW hS (by omega) (by omega)

set_option maxHeartbeats 4000000 in
set_option maxRecDepth 100000 in
theorem lw_case_33 {p : Program} {l : Launch} {e : Env} {s : State} {m : MethodId} {below : List Frame} {meth : Method} {c : Code} {Qf : State → Prop} {D : va_G} {cs : ClassId × ClassId × ClassId} {bs L : Nat} {xs : Nat → Int32} {H : Heap} {locs : List Loc} {k n : Nat} {ls : Array Slot} {v : Int32} {x : hX} {I : Nat → Nat → Int32} {ρ : zR} {δ : zD} {η : zH} {ft tr : Int32} (X : lwX p s m meth c bs L xs D cs) (hC : CI I (ρ, δ, η, ft, tr)) (hM : MI I (ρ, δ, η, ft, tr)) (hWf : WF (ρ, δ, η, ft, tr)) (hW : sm_W s.heap.size D cs (hp x I) H) (hS : va_S (sm_A s.heap.size) s.heap H locs) (hl : lv_has ls 4 (lwL bs s.heap.size v)) (h1 : vp_in (v + 1) L) (h2 : vp_in (v + 2) L) (h3 : vp_in (v + 3) L) (h4 : vp_in (v + 4) L) (h5 : vp_in (v + 5) L) (hk : k + 1 ≤ 600000) (hn : n + 4 ≤ 7302250) (next : ∀ (x' : hX) (I' : Nat → Nat → Int32) (σ' : zS) (H' : Heap) (locs' : List Loc) (k' n' : Nat), CI I' σ' → MI I' σ' → WF σ' → sm_W s.heap.size D cs (hp x' I') H' → va_S (sm_A s.heap.size) s.heap H' locs' → k' ≤ k + 1 → n' ≤ n + 4 → W p l e room_1 s m #[Value.ref bs] below meth c H' locs' k' n' Qf (F0 m 1347 ls [])) : W p l e room_1 s m #[Value.ref bs] below meth c H locs k n Qf (F0 m 1311 ls []) := by
  have hx := X.1.1
  have hb := X.1.2.1
  refine lv_aload_n hx hb dL_law_1311 rfl (lv_at hl 1 rfl) ?_
  refine lw_V X.1 (q := 0) (c0 := 6) (mc' := 0) (ms' := 0) (As := []) (st := []) dL_law_1312 lL_154 (hl_ rfl) rfl rfl rfl (Nat.le_of_ble_eq_true rfl) (by omega) (by omega) (pc_fault (d := 19) hC hWf) hW hS hl.1 (fun r0 h'0 H0 locs0 hq0 hW hS => ?_)
  obtain ⟨_, rfl, rfl, rfl⟩ := hq0
  have hM1 := hM
  refine lv_aload_n hx hb dL_law_1315 rfl (lv_at hl 2 rfl) ?_
  refine lw_V X.1 (q := 80) (c0 := 7) (mc' := 0) (ms' := 0) (As := []) (st := [.int _]) dL_law_1316 lL_157 (hl_ rfl) rfl rfl rfl (Nat.le_of_ble_eq_true rfl) (by omega) (by omega) (pm_fault (d := 19) hM1 hWf) hW hS hl.1 (fun r1 h'1 H1 locs1 hq1 hW hS => ?_)
  obtain ⟨_, rfl, rfl, rfl⟩ := hq1
  refine lv_icmp_eq (tgt := 1347) hx hb dL_law_1319 (by decide) (fun _ => ?_) (fun z9 => absurd rfl z9)
  exact next x I _ _ _ _ _ hC hM hWf hW hS (by omega) (by omega)

set_option maxHeartbeats 4000000 in
set_option maxRecDepth 100000 in
theorem lw_case_34 {p : Program} {l : Launch} {e : Env} {s : State} {m : MethodId} {below : List Frame} {meth : Method} {c : Code} {Qf : State → Prop} {D : va_G} {cs : ClassId × ClassId × ClassId} {bs L : Nat} {xs : Nat → Int32} {H : Heap} {locs : List Loc} {k n : Nat} {ls : Array Slot} {v : Int32} {x : hX} {I : Nat → Nat → Int32} {ρ : zR} {δ : zD} {η : zH} {ft tr : Int32} (X : lwX p s m meth c bs L xs D cs) (hC : CI I (ρ, δ, η, ft, tr)) (hM : MI I (ρ, δ, η, ft, tr)) (hWf : WF (ρ, δ, η, ft, tr)) (hW : sm_W s.heap.size D cs (hp x I) H) (hS : va_S (sm_A s.heap.size) s.heap H locs) (hl : lv_has ls 4 (lwL bs s.heap.size v)) (h1 : vp_in (v + 1) L) (h2 : vp_in (v + 2) L) (h3 : vp_in (v + 3) L) (h4 : vp_in (v + 4) L) (h5 : vp_in (v + 5) L) (hk : k + 1 ≤ 600000) (hn : n + 4 ≤ 7302250) (next : ∀ (x' : hX) (I' : Nat → Nat → Int32) (σ' : zS) (H' : Heap) (locs' : List Loc) (k' n' : Nat), CI I' σ' → MI I' σ' → WF σ' → sm_W s.heap.size D cs (hp x' I') H' → va_S (sm_A s.heap.size) s.heap H' locs' → k' ≤ k + 1 → n' ≤ n + 4 → W p l e room_1 s m #[Value.ref bs] below meth c H' locs' k' n' Qf (F0 m 1347 ls [])) : W p l e room_1 s m #[Value.ref bs] below meth c H locs k n Qf (F0 m 1324 ls []) := by
  have hx := X.1.1
  have hb := X.1.2.1
  refine lv_aload_n hx hb dL_law_1324 rfl (lv_at hl 1 rfl) ?_
  refine lw_arg X hS hl (w := 1) rfl h1 dL_law_1325 dL_law_1326 dL_law_1327 dL_law_1328 dL_law_1329 ?_
  refine lw_V X.1 (q := 0) (c0 := 6) (mc' := 0) (ms' := 0) (As := [.int (xs (v + 1).toNatClampNeg)]) (st := []) dL_law_1330 lL_158 (hl_ rfl) rfl rfl rfl (Nat.le_of_ble_eq_true rfl) (by omega) (by omega) (pc_many (d := 19) hC hWf) hW hS hl.1 (fun r0 h'0 H0 locs0 hq0 hW hS => ?_)
  obtain ⟨_, rfl, rfl, rfl⟩ := hq0
  have hM1 := hM
  refine lv_aload_n hx hb dL_law_1333 rfl (lv_at hl 2 rfl) ?_
  refine lw_arg X hS hl (w := 1) rfl h1 dL_law_1334 dL_law_1335 dL_law_1336 dL_law_1337 dL_law_1338 ?_
  refine lw_V X.1 (q := 80) (c0 := 7) (mc' := 0) (ms' := 0) (As := [.int (xs (v + 1).toNatClampNeg)]) (st := [.int _]) dL_law_1339 lL_161 (hl_ rfl) rfl rfl rfl (Nat.le_of_ble_eq_true rfl) (by omega) (by omega) (pm_many (d := 19) hM1 hWf) hW hS hl.1 (fun r1 h'1 H1 locs1 hq1 hW hS => ?_)
  obtain ⟨_, rfl, rfl, rfl⟩ := hq1
  refine lv_icmp_eq (tgt := 1347) hx hb dL_law_1342 (by decide) (fun _ => ?_) (fun z9 => absurd rfl z9)
  exact next x I _ _ _ _ _ hC hM hWf hW hS (by omega) (by omega)

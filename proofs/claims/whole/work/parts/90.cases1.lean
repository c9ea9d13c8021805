set_option maxHeartbeats 4000000 in
set_option maxRecDepth 100000 in
theorem cs_grant {p : Program} {l : Launch} {e : Env} {s : State} {m : MethodId} {args : Array Value} {below : List Frame} {meth : Method} {c : Code} {H : Heap} {locs : List Loc} {cells slots : Nat} {Q : State → Prop} {G : gG} {A : Nat → Prop} {b L i lq mq ol : Nat} {xs : Nat → Int32} {ls : Array Slot} (F : lwF p l s m args meth c G A b L xs) (hi : i + 5 ≤ L) (hc : cells + 4 ≤ 601024) (hs : slots + 528 ≤ 7293034) (hI : lwI s G A lq mq ol b i H locs ls)
    (kk : ∀ (H : Heap) (locs : List Loc) (ls : Array Slot), lwI s G A lq mq ol b i H locs ls → W p l e room_1 s m args below meth c H locs (cells + 4) (slots + 528) Q (F0 m 2516 ls [])) : W p l e room_1 s m args below meth c H locs cells slots Q (F0 m 236 ls []) := by
  obtain ⟨F1, hZ, hX, hbl, hbA, hL, hl9⟩ := F
  obtain ⟨wv, vv, f, S, th, hC, hR, hSp, hP, hD, hS, hl⟩ := hI
  have hx := F1.1
  have hb := F1.2.1
  have hKK := F1.2.2.2.2.2.2.2.2.1
  obtain ⟨k, Z, hk3, hZs, ⟨rm, mc, ms, hb1, hw⟩, rm2, hb2, hm⟩ := P_grant l G lq ol mq (f := f) hl9 (xs (i + 1)) (xs (i + 2)) (xs (i + 3)) (xs (i + 4)) hC hR hSp
  refine lv_aload_n hx hb dL_law_236 rfl (lv_at hl 1 rfl) ?_
  refine lv_aload_n hx hb dL_law_237 rfl (lv_at hl 0 rfl) ?_
  refine lv_iload hx hb dL_law_238 (lv_at hl 4 rfl) ?_
  refine lv_iconst (v := nI 1) hx hb dL_law_240 (by decide) ?_
  refine gIadd (a := i) (b := 1) hx hb dL_law_241 ?_
  refine gSld hx hb hX hbl hbA hS (i + 1) (by omega) (by omega) dL_law_242 ?_
  refine lv_aload_n hx hb dL_law_243 rfl (lv_at hl 0 rfl) ?_
  refine lv_iload hx hb dL_law_244 (lv_at hl 4 rfl) ?_
  refine lv_iconst (v := nI 2) hx hb dL_law_246 (by decide) ?_
  refine gIadd (a := i) (b := 2) hx hb dL_law_247 ?_
  refine gSld hx hb hX hbl hbA hS (i + 2) (by omega) (by omega) dL_law_248 ?_
  refine lv_aload_n hx hb dL_law_249 rfl (lv_at hl 0 rfl) ?_
  refine lv_iload hx hb dL_law_250 (lv_at hl 4 rfl) ?_
  refine lv_iconst (v := nI 3) hx hb dL_law_252 (by decide) ?_
  refine gIadd (a := i) (b := 3) hx hb dL_law_253 ?_
  refine gSld hx hb hX hbl hbA hS (i + 3) (by omega) (by omega) dL_law_254 ?_
  refine lv_aload_n hx hb dL_law_255 rfl (lv_at hl 0 rfl) ?_
  refine lv_iload hx hb dL_law_256 (lv_at hl 4 rfl) ?_
  refine lv_iconst (v := nI 4) hx hb dL_law_258 (by decide) ?_
  refine gIadd (a := i) (b := 4) hx hb dL_law_259 ?_
  refine gSld hx hb hX hbl hbA hS (i + 4) (by omega) (by omega) dL_law_260 ?_
  refine lv_aload_n hx hb dL_law_261 rfl (lv_at hl 3 rfl) ?_
  refine gCi F1 (gRunSW (own := RL) (bytes := cL_grant) (n := 6) (As := .ref lq :: ([.int (xs (i + 1)), .int (xs (i + 2)), .int (xs (i + 3)), .int (xs (i + 4))] ++ [.ref ol])) (rest := []) F1 hZ hS (hw H.size) gL_law_L_grant rfl rfl hb1.1 hb1.2.1 (by decide +kernel) rfl ⟨by have h9 := hb1.2.2.2.2.1; show rm.frames + 1 ≤ 11; omega, by have h9 := hb1.2.2.2.2.2; show 8 + (7 + 11) + rm.locals ≤ 404; omega⟩ hP hD (lit := wv ++ [outc G ol f]) (wt := vv) (wc := wv ++ [outc G ol f]) (isC := List.range (wv ++ [outc G ol f]).length) (gRange _) (gRange_nd _) rfl hl.1 (Nat.le_of_ble_eq_true rfl) dL_law_262 ⟨by have h9 := hb1.2.2.1; show cells + mc ≤ 601024; omega, by have h9 := hb1.2.2.2.1; show slots + ms ≤ 7293034; omega⟩) hP hD hS (lit := wv ++ [outc G ol f]) (wt := vv) (wc := wv ++ [outc G ol f]) (isC := List.range (wv ++ [outc G ol f]).length) (wr := []) (isR := []) (gRange _) rfl rfl (fun _ h_ => by cases h_) (fun r u H locs hp hP hD hS => ?_)
  obtain ⟨rfl, S2, v, hz, hC2, hv⟩ := hp
  have hP : va_P G.1 vwCl ((u.1 ++ [outc G ol u.2]) ++ vv) H := hP
  have hD : va_D A ((u.1 ++ [outc G ol u.2]) ++ vv) := hD
  refine lv_istore (lv' := [(5, .int (nI k)), (0, .ref b), (1, .ref lq), (2, .ref mq), (3, .ref ol), (4, .int (nI i))]) hx hb dL_law_265 hl (by decide) rfl (fun ls hl => ?_)
  have hP := gPperm List.perm_append_comm hP
  have hD := gDperm List.perm_append_comm hD
  obtain ⟨fs2, hrf⟩ := rf_recv hR
  refine lv_aload_n hx hb dL_law_267 rfl (lv_at hl 3 rfl) ?_
  refine lv_aload_n hx hb dL_law_268 rfl (lv_at hl 1 rfl) ?_
  refine lv_iload hx hb dL_law_269 (lv_at hl 5 rfl) ?_
  refine lv_iconst (v := nI 1) hx hb dL_law_271 (by decide) ?_
  refine gIadd (a := i) (b := 1) hx hb dL_law_272 ?_
  refine gSld hx hb hX hbl hbA hS (i + 1) (by omega) (by omega) dL_law_273 ?_
  refine lv_aload_n hx hb dL_law_274 rfl (lv_at hl 1 rfl) ?_
  refine lv_iload hx hb dL_law_275 (lv_at hl 5 rfl) ?_
  refine lv_iconst (v := nI 2) hx hb dL_law_277 (by decide) ?_
  refine gIadd (a := i) (b := 2) hx hb dL_law_278 ?_
  refine gSld hx hb hX hbl hbA hS (i + 2) (by omega) (by omega) dL_law_279 ?_
  refine lv_aload_n hx hb dL_law_280 rfl (lv_at hl 1 rfl) ?_
  refine lv_iload hx hb dL_law_281 (lv_at hl 5 rfl) ?_
  refine lv_iconst (v := nI 3) hx hb dL_law_283 (by decide) ?_
  refine gIadd (a := i) (b := 3) hx hb dL_law_284 ?_
  refine gSld hx hb hX hbl hbA hS (i + 3) (by omega) (by omega) dL_law_285 ?_
  refine lv_aload_n hx hb dL_law_286 rfl (lv_at hl 1 rfl) ?_
  refine lv_iload hx hb dL_law_287 (lv_at hl 5 rfl) ?_
  refine lv_iconst (v := nI 4) hx hb dL_law_289 (by decide) ?_
  refine gIadd (a := i) (b := 4) hx hb dL_law_290 ?_
  refine gSld hx hb hX hbl hbA hS (i + 4) (by omega) (by omega) dL_law_291 ?_
  refine gCi F1 (gRunV (own := RL) (C := RX4) (ci := 4) (bytes := cX4_grant) (n := 4) (As := [.int (xs (i + 1)), .int (xs (i + 2)), .int (xs (i + 3)), .int (xs (i + 4))]) (rest := []) F1 (hm H.size) gL_law_X4_grant rfl rfl hb2.1 hb2.2.1 (by decide +kernel) rfl ⟨by have h9 := hb2.2.2.2.2.1; show rm2.frames + 1 ≤ 11; omega, by have h9 := hb2.2.2.2.2.2; show 8 + (5 + 11) + rm2.locals ≤ 404; omega⟩ hP hD (lit := vv) (wt := u.1 ++ [outc G ol u.2]) (wc := vv) (isC := List.range (vv).length) (gRange _) (gRange_nd _) rfl hrf rfl hl.1 (Nat.le_of_ble_eq_true rfl) dL_law_292 ⟨by have h9 := hb1.2.2.1; show cells + mc + 0 ≤ 601024; omega, by have h9 := hb1.2.2.2.1; show slots + ms + 0 ≤ 7293034; omega⟩) hP hD hS (lit := vv) (wt := u.1 ++ [outc G ol u.2]) (wc := vv) (isC := List.range (vv).length) (wr := []) (isR := []) (gRange _) rfl rfl (fun _ h_ => by cases h_) (fun r2 u2 H locs hp2 hP hD hS => ?_)
  obtain ⟨hR2, hv2⟩ := hp2 S2 v hz
  have hP : va_P G.1 vwCl (u2 ++ (u.1 ++ [outc G ol u.2])) H := hP
  have hD : va_D A (u2 ++ (u.1 ++ [outc G ol u.2])) := hD
  refine lv_istore (lv' := [(6, .int r2), (5, .int (nI k)), (0, .ref b), (1, .ref lq), (2, .ref mq), (3, .ref ol), (4, .int (nI i))]) hx hb dL_law_295 hl (by decide) rfl (fun ls hl => ?_)
  refine lv_aload_n hx hb dL_law_297 rfl (lv_at hl 4 rfl) ?_
  obtain ⟨fs3, hrf3⟩ := rf_recv hR2
  refine gCi F1 (gRunV (own := RL) (C := RX4) (ci := 4) (bytes := cX4_thrown) (n := 0) (As := []) (rest := []) F1 (r_thrown l G mq hR2 (hZs S2 v hz) H.size) gL_law_X4_thrown rfl rfl rfl rfl (by decide +kernel) rfl ⟨Nat.le_of_ble_eq_true rfl, Nat.le_of_ble_eq_true rfl⟩ hP hD (lit := u2) (wt := u.1 ++ [outc G ol u.2]) (wc := u2) (isC := List.range (u2).length) (gRange _) (gRange_nd _) rfl hrf3 rfl hl.1 (Nat.le_of_ble_eq_true rfl) dL_law_298 ⟨by have h9 := hb1.2.2.1; show cells + mc + 0 + 0 ≤ 601024; omega, by have h9 := hb1.2.2.2.1; show slots + ms + 0 + 0 ≤ 7293034; omega⟩) hP hD hS (lit := u2) (wt := u.1 ++ [outc G ol u.2]) (wc := u2) (isC := List.range (u2).length) (wr := []) (isR := []) (gRange _) rfl rfl (fun _ h_ => by cases h_) (fun r3 u3 H locs hp3 hP hD hS => ?_)
  obtain ⟨rfl, hR3⟩ := hp3
  have hP : va_P G.1 vwCl (u3 ++ (u.1 ++ [outc G ol u.2])) H := hP
  have hD : va_D A (u3 ++ (u.1 ++ [outc G ol u.2])) := hD
  refine lv_iload hx hb dL_law_301 (lv_at hl 1 rfl) ?_
  refine gIcmp_eq (a := k) (b := k) (tgt := 308) hx hb dL_law_303 (by decide) (by omega) (by omega) (fun _ => ?_) (fun c9 => absurd rfl c9)
  refine lv_iload hx hb dL_law_308 (lv_at hl 1 rfl) ?_
  have fin : W p l e room_1 s m args below meth c H locs (cells + mc + 0 + 0) (slots + ms + 0 + 0) Q (F0 m 325 ls []) := by
    refine lv_goto (tgt := 2516) hx hb dL_law_325 (by decide) ?_
    refine W.widen (k := cells + 4) (n := slots + 528) (by have h9 := hb1.2.2.1; omega) (by have h9 := hb1.2.2.2.1; omega) ?_
    exact kk H locs ls ⟨u.1, u3, u.2, S2, k, hC2, hR3, hZs S2 v hz, gPperm List.perm_append_comm hP, gDperm List.perm_append_comm hD, hS, lv_sub hl [2, 3, 4, 5, 6] rfl⟩
  refine gIf_ne (a := k) (tgt := 325) hx hb dL_law_310 (by decide) (by omega) (fun _ => fin) (fun c9 => ?_)
  refine lv_aload_n hx hb dL_law_313 rfl (lv_at hl 5 rfl) ?_
  refine lv_iconst (v := nI 0) hx hb dL_law_314 (by decide) ?_
  have hP3 : va_P G.1 vwCl ((u3 ++ u.1) ++ [outc G ol u.2]) H := by rw [List.append_assoc]; exact hP
  refine gLald hx hb hKK.1 hP3 dL_law_315 ?_
  refine lv_iload hx hb dL_law_316 (lv_at hl 0 rfl) ?_
  refine lv_i2l (v := r2.toInt64) hx hb dL_law_318 rfl ?_
  refine W.lcmp hx hb dL_law_319 ?_
  rw [hv c9, hv2 c9, lcmp_self]
  exact lv_if_eq (tgt := 325) hx hb dL_law_320 (by decide) (fun _ => fin) (fun c8 => absurd rfl c8)

set_option maxHeartbeats 4000000 in
set_option maxRecDepth 100000 in
theorem cs_raise {p : Program} {l : Launch} {e : Env} {s : State} {m : MethodId} {args : Array Value} {below : List Frame} {meth : Method} {c : Code} {H : Heap} {locs : List Loc} {cells slots : Nat} {Q : State → Prop} {G : gG} {A : Nat → Prop} {b L i lq mq ol : Nat} {xs : Nat → Int32} {ls : Array Slot} (F : lwF p l s m args meth c G A b L xs) (hi : i + 5 ≤ L) (hc : cells + 4 ≤ 601024) (hs : slots + 528 ≤ 7293034) (hI : lwI s G A lq mq ol b i H locs ls)
    (kk : ∀ (H : Heap) (locs : List Loc) (ls : Array Slot), lwI s G A lq mq ol b i H locs ls → W p l e room_1 s m args below meth c H locs (cells + 4) (slots + 528) Q (F0 m 2516 ls [])) : W p l e room_1 s m args below meth c H locs cells slots Q (F0 m 328 ls []) := by
  obtain ⟨F1, hZ, hX, hbl, hbA, hL, hl9⟩ := F
  obtain ⟨wv, vv, f, S, th, hC, hR, hSp, hP, hD, hS, hl⟩ := hI
  have hx := F1.1
  have hb := F1.2.1
  have hKK := F1.2.2.2.2.2.2.2.2.1
  obtain ⟨k, Z, hk3, hZs, ⟨rm, mc, ms, hb1, hw⟩, rm2, hb2, hm⟩ := P_raise l G lq ol mq (f := f) hl9 (xs (i + 1)) (xs (i + 2)) (xs (i + 3)) (xs (i + 4)) hC hR hSp
  refine lv_aload_n hx hb dL_law_328 rfl (lv_at hl 1 rfl) ?_
  refine lv_aload_n hx hb dL_law_329 rfl (lv_at hl 0 rfl) ?_
  refine lv_iload hx hb dL_law_330 (lv_at hl 4 rfl) ?_
  refine lv_iconst (v := nI 1) hx hb dL_law_332 (by decide) ?_
  refine gIadd (a := i) (b := 1) hx hb dL_law_333 ?_
  refine gSld hx hb hX hbl hbA hS (i + 1) (by omega) (by omega) dL_law_334 ?_
  refine lv_aload_n hx hb dL_law_335 rfl (lv_at hl 0 rfl) ?_
  refine lv_iload hx hb dL_law_336 (lv_at hl 4 rfl) ?_
  refine lv_iconst (v := nI 2) hx hb dL_law_338 (by decide) ?_
  refine gIadd (a := i) (b := 2) hx hb dL_law_339 ?_
  refine gSld hx hb hX hbl hbA hS (i + 2) (by omega) (by omega) dL_law_340 ?_
  refine lv_aload_n hx hb dL_law_341 rfl (lv_at hl 0 rfl) ?_
  refine lv_iload hx hb dL_law_342 (lv_at hl 4 rfl) ?_
  refine lv_iconst (v := nI 3) hx hb dL_law_344 (by decide) ?_
  refine gIadd (a := i) (b := 3) hx hb dL_law_345 ?_
  refine gSld hx hb hX hbl hbA hS (i + 3) (by omega) (by omega) dL_law_346 ?_
  refine lv_aload_n hx hb dL_law_347 rfl (lv_at hl 0 rfl) ?_
  refine lv_iload hx hb dL_law_348 (lv_at hl 4 rfl) ?_
  refine lv_iconst (v := nI 4) hx hb dL_law_350 (by decide) ?_
  refine gIadd (a := i) (b := 4) hx hb dL_law_351 ?_
  refine gSld hx hb hX hbl hbA hS (i + 4) (by omega) (by omega) dL_law_352 ?_
  refine lv_aload_n hx hb dL_law_353 rfl (lv_at hl 3 rfl) ?_
  refine gCi F1 (gRunSW (own := RL) (bytes := cL_raise) (n := 6) (As := .ref lq :: ([.int (xs (i + 1)), .int (xs (i + 2)), .int (xs (i + 3)), .int (xs (i + 4))] ++ [.ref ol])) (rest := []) F1 hZ hS (hw H.size) gL_law_L_raise rfl rfl hb1.1 hb1.2.1 (by decide +kernel) rfl ⟨by have h9 := hb1.2.2.2.2.1; show rm.frames + 1 ≤ 11; omega, by have h9 := hb1.2.2.2.2.2; show 8 + (7 + 11) + rm.locals ≤ 404; omega⟩ hP hD (lit := wv ++ [outc G ol f]) (wt := vv) (wc := wv ++ [outc G ol f]) (isC := List.range (wv ++ [outc G ol f]).length) (gRange _) (gRange_nd _) rfl hl.1 (Nat.le_of_ble_eq_true rfl) dL_law_354 ⟨by have h9 := hb1.2.2.1; show cells + mc ≤ 601024; omega, by have h9 := hb1.2.2.2.1; show slots + ms ≤ 7293034; omega⟩) hP hD hS (lit := wv ++ [outc G ol f]) (wt := vv) (wc := wv ++ [outc G ol f]) (isC := List.range (wv ++ [outc G ol f]).length) (wr := []) (isR := []) (gRange _) rfl rfl (fun _ h_ => by cases h_) (fun r u H locs hp hP hD hS => ?_)
  obtain ⟨rfl, S2, v, hz, hC2, hv⟩ := hp
  have hP : va_P G.1 vwCl ((u.1 ++ [outc G ol u.2]) ++ vv) H := hP
  have hD : va_D A ((u.1 ++ [outc G ol u.2]) ++ vv) := hD
  refine lv_istore (lv' := [(5, .int (nI k)), (0, .ref b), (1, .ref lq), (2, .ref mq), (3, .ref ol), (4, .int (nI i))]) hx hb dL_law_357 hl (by decide) rfl (fun ls hl => ?_)
  have hP := gPperm List.perm_append_comm hP
  have hD := gDperm List.perm_append_comm hD
  obtain ⟨fs2, hrf⟩ := rf_recv hR
  refine lv_aload_n hx hb dL_law_359 rfl (lv_at hl 3 rfl) ?_
  refine lv_aload_n hx hb dL_law_360 rfl (lv_at hl 1 rfl) ?_
  refine lv_iload hx hb dL_law_361 (lv_at hl 5 rfl) ?_
  refine lv_iconst (v := nI 1) hx hb dL_law_363 (by decide) ?_
  refine gIadd (a := i) (b := 1) hx hb dL_law_364 ?_
  refine gSld hx hb hX hbl hbA hS (i + 1) (by omega) (by omega) dL_law_365 ?_
  refine lv_aload_n hx hb dL_law_366 rfl (lv_at hl 1 rfl) ?_
  refine lv_iload hx hb dL_law_367 (lv_at hl 5 rfl) ?_
  refine lv_iconst (v := nI 2) hx hb dL_law_369 (by decide) ?_
  refine gIadd (a := i) (b := 2) hx hb dL_law_370 ?_
  refine gSld hx hb hX hbl hbA hS (i + 2) (by omega) (by omega) dL_law_371 ?_
  refine lv_aload_n hx hb dL_law_372 rfl (lv_at hl 1 rfl) ?_
  refine lv_iload hx hb dL_law_373 (lv_at hl 5 rfl) ?_
  refine lv_iconst (v := nI 3) hx hb dL_law_375 (by decide) ?_
  refine gIadd (a := i) (b := 3) hx hb dL_law_376 ?_
  refine gSld hx hb hX hbl hbA hS (i + 3) (by omega) (by omega) dL_law_377 ?_
  refine lv_aload_n hx hb dL_law_378 rfl (lv_at hl 1 rfl) ?_
  refine lv_iload hx hb dL_law_379 (lv_at hl 5 rfl) ?_
  refine lv_iconst (v := nI 4) hx hb dL_law_381 (by decide) ?_
  refine gIadd (a := i) (b := 4) hx hb dL_law_382 ?_
  refine gSld hx hb hX hbl hbA hS (i + 4) (by omega) (by omega) dL_law_383 ?_
  refine gCi F1 (gRunV (own := RL) (C := RX4) (ci := 4) (bytes := cX4_raise) (n := 4) (As := [.int (xs (i + 1)), .int (xs (i + 2)), .int (xs (i + 3)), .int (xs (i + 4))]) (rest := []) F1 (hm H.size) gL_law_X4_raise rfl rfl hb2.1 hb2.2.1 (by decide +kernel) rfl ⟨by have h9 := hb2.2.2.2.2.1; show rm2.frames + 1 ≤ 11; omega, by have h9 := hb2.2.2.2.2.2; show 8 + (5 + 11) + rm2.locals ≤ 404; omega⟩ hP hD (lit := vv) (wt := u.1 ++ [outc G ol u.2]) (wc := vv) (isC := List.range (vv).length) (gRange _) (gRange_nd _) rfl hrf rfl hl.1 (Nat.le_of_ble_eq_true rfl) dL_law_384 ⟨by have h9 := hb1.2.2.1; show cells + mc + 0 ≤ 601024; omega, by have h9 := hb1.2.2.2.1; show slots + ms + 0 ≤ 7293034; omega⟩) hP hD hS (lit := vv) (wt := u.1 ++ [outc G ol u.2]) (wc := vv) (isC := List.range (vv).length) (wr := []) (isR := []) (gRange _) rfl rfl (fun _ h_ => by cases h_) (fun r2 u2 H locs hp2 hP hD hS => ?_)
  obtain ⟨hR2, hv2⟩ := hp2 S2 v hz
  have hP : va_P G.1 vwCl (u2 ++ (u.1 ++ [outc G ol u.2])) H := hP
  have hD : va_D A (u2 ++ (u.1 ++ [outc G ol u.2])) := hD
  refine lv_istore (lv' := [(6, .int r2), (5, .int (nI k)), (0, .ref b), (1, .ref lq), (2, .ref mq), (3, .ref ol), (4, .int (nI i))]) hx hb dL_law_387 hl (by decide) rfl (fun ls hl => ?_)
  refine lv_aload_n hx hb dL_law_389 rfl (lv_at hl 4 rfl) ?_
  obtain ⟨fs3, hrf3⟩ := rf_recv hR2
  refine gCi F1 (gRunV (own := RL) (C := RX4) (ci := 4) (bytes := cX4_thrown) (n := 0) (As := []) (rest := []) F1 (r_thrown l G mq hR2 (hZs S2 v hz) H.size) gL_law_X4_thrown rfl rfl rfl rfl (by decide +kernel) rfl ⟨Nat.le_of_ble_eq_true rfl, Nat.le_of_ble_eq_true rfl⟩ hP hD (lit := u2) (wt := u.1 ++ [outc G ol u.2]) (wc := u2) (isC := List.range (u2).length) (gRange _) (gRange_nd _) rfl hrf3 rfl hl.1 (Nat.le_of_ble_eq_true rfl) dL_law_390 ⟨by have h9 := hb1.2.2.1; show cells + mc + 0 + 0 ≤ 601024; omega, by have h9 := hb1.2.2.2.1; show slots + ms + 0 + 0 ≤ 7293034; omega⟩) hP hD hS (lit := u2) (wt := u.1 ++ [outc G ol u.2]) (wc := u2) (isC := List.range (u2).length) (wr := []) (isR := []) (gRange _) rfl rfl (fun _ h_ => by cases h_) (fun r3 u3 H locs hp3 hP hD hS => ?_)
  obtain ⟨rfl, hR3⟩ := hp3
  have hP : va_P G.1 vwCl (u3 ++ (u.1 ++ [outc G ol u.2])) H := hP
  have hD : va_D A (u3 ++ (u.1 ++ [outc G ol u.2])) := hD
  refine lv_iload hx hb dL_law_393 (lv_at hl 1 rfl) ?_
  refine gIcmp_eq (a := k) (b := k) (tgt := 400) hx hb dL_law_395 (by decide) (by omega) (by omega) (fun _ => ?_) (fun c9 => absurd rfl c9)
  refine lv_iload hx hb dL_law_400 (lv_at hl 1 rfl) ?_
  have fin : W p l e room_1 s m args below meth c H locs (cells + mc + 0 + 0) (slots + ms + 0 + 0) Q (F0 m 417 ls []) := by
    refine lv_goto (tgt := 2516) hx hb dL_law_417 (by decide) ?_
    refine W.widen (k := cells + 4) (n := slots + 528) (by have h9 := hb1.2.2.1; omega) (by have h9 := hb1.2.2.2.1; omega) ?_
    exact kk H locs ls ⟨u.1, u3, u.2, S2, k, hC2, hR3, hZs S2 v hz, gPperm List.perm_append_comm hP, gDperm List.perm_append_comm hD, hS, lv_sub hl [2, 3, 4, 5, 6] rfl⟩
  refine gIf_ne (a := k) (tgt := 417) hx hb dL_law_402 (by decide) (by omega) (fun _ => fin) (fun c9 => ?_)
  refine lv_aload_n hx hb dL_law_405 rfl (lv_at hl 5 rfl) ?_
  refine lv_iconst (v := nI 0) hx hb dL_law_406 (by decide) ?_
  have hP3 : va_P G.1 vwCl ((u3 ++ u.1) ++ [outc G ol u.2]) H := by rw [List.append_assoc]; exact hP
  refine gLald hx hb hKK.1 hP3 dL_law_407 ?_
  refine lv_iload hx hb dL_law_408 (lv_at hl 0 rfl) ?_
  refine lv_i2l (v := r2.toInt64) hx hb dL_law_410 rfl ?_
  refine W.lcmp hx hb dL_law_411 ?_
  rw [hv c9, hv2 c9, lcmp_self]
  exact lv_if_eq (tgt := 417) hx hb dL_law_412 (by decide) (fun _ => fin) (fun c8 => absurd rfl c8)

set_option maxHeartbeats 4000000 in
set_option maxRecDepth 100000 in
theorem cs_flood {p : Program} {l : Launch} {e : Env} {s : State} {m : MethodId} {args : Array Value} {below : List Frame} {meth : Method} {c : Code} {H : Heap} {locs : List Loc} {cells slots : Nat} {Q : State → Prop} {G : gG} {A : Nat → Prop} {b L i lq mq ol : Nat} {xs : Nat → Int32} {ls : Array Slot} (F : lwF p l s m args meth c G A b L xs) (hi : i + 5 ≤ L) (hc : cells + 4 ≤ 601024) (hs : slots + 528 ≤ 7293034) (hI : lwI s G A lq mq ol b i H locs ls)
    (kk : ∀ (H : Heap) (locs : List Loc) (ls : Array Slot), lwI s G A lq mq ol b i H locs ls → W p l e room_1 s m args below meth c H locs (cells + 4) (slots + 528) Q (F0 m 2516 ls [])) : W p l e room_1 s m args below meth c H locs cells slots Q (F0 m 420 ls []) := by
  obtain ⟨F1, hZ, hX, hbl, hbA, hL, hl9⟩ := F
  obtain ⟨wv, vv, f, S, th, hC, hR, hSp, hP, hD, hS, hl⟩ := hI
  have hx := F1.1
  have hb := F1.2.1
  have hKK := F1.2.2.2.2.2.2.2.2.1
  obtain ⟨k, Z, hk3, hZs, ⟨rm, mc, ms, hb1, hw⟩, rm2, hb2, hm⟩ := P_flood l G lq ol mq (f := f) hl9 (xs (i + 1)) hC hR hSp
  refine lv_aload_n hx hb dL_law_420 rfl (lv_at hl 1 rfl) ?_
  refine lv_aload_n hx hb dL_law_421 rfl (lv_at hl 0 rfl) ?_
  refine lv_iload hx hb dL_law_422 (lv_at hl 4 rfl) ?_
  refine lv_iconst (v := nI 1) hx hb dL_law_424 (by decide) ?_
  refine gIadd (a := i) (b := 1) hx hb dL_law_425 ?_
  refine gSld hx hb hX hbl hbA hS (i + 1) (by omega) (by omega) dL_law_426 ?_
  refine lv_aload_n hx hb dL_law_427 rfl (lv_at hl 3 rfl) ?_
  refine gCi F1 (gRunSW (own := RL) (bytes := cL_flood) (n := 3) (As := .ref lq :: ([.int (xs (i + 1))] ++ [.ref ol])) (rest := []) F1 hZ hS (hw H.size) gL_law_L_flood rfl rfl hb1.1 hb1.2.1 (by decide +kernel) rfl ⟨by have h9 := hb1.2.2.2.2.1; show rm.frames + 1 ≤ 11; omega, by have h9 := hb1.2.2.2.2.2; show 8 + (4 + 11) + rm.locals ≤ 404; omega⟩ hP hD (lit := wv ++ [outc G ol f]) (wt := vv) (wc := wv ++ [outc G ol f]) (isC := List.range (wv ++ [outc G ol f]).length) (gRange _) (gRange_nd _) rfl hl.1 (Nat.le_of_ble_eq_true rfl) dL_law_428 ⟨by have h9 := hb1.2.2.1; show cells + mc ≤ 601024; omega, by have h9 := hb1.2.2.2.1; show slots + ms ≤ 7293034; omega⟩) hP hD hS (lit := wv ++ [outc G ol f]) (wt := vv) (wc := wv ++ [outc G ol f]) (isC := List.range (wv ++ [outc G ol f]).length) (wr := []) (isR := []) (gRange _) rfl rfl (fun _ h_ => by cases h_) (fun r u H locs hp hP hD hS => ?_)
  obtain ⟨rfl, S2, v, hz, hC2, hv⟩ := hp
  have hP : va_P G.1 vwCl ((u.1 ++ [outc G ol u.2]) ++ vv) H := hP
  have hD : va_D A ((u.1 ++ [outc G ol u.2]) ++ vv) := hD
  refine lv_istore (lv' := [(5, .int (nI k)), (0, .ref b), (1, .ref lq), (2, .ref mq), (3, .ref ol), (4, .int (nI i))]) hx hb dL_law_431 hl (by decide) rfl (fun ls hl => ?_)
  have hP := gPperm List.perm_append_comm hP
  have hD := gDperm List.perm_append_comm hD
  obtain ⟨fs2, hrf⟩ := rf_recv hR
  refine lv_aload_n hx hb dL_law_433 rfl (lv_at hl 3 rfl) ?_
  refine lv_aload_n hx hb dL_law_434 rfl (lv_at hl 1 rfl) ?_
  refine lv_iload hx hb dL_law_435 (lv_at hl 5 rfl) ?_
  refine lv_iconst (v := nI 1) hx hb dL_law_437 (by decide) ?_
  refine gIadd (a := i) (b := 1) hx hb dL_law_438 ?_
  refine gSld hx hb hX hbl hbA hS (i + 1) (by omega) (by omega) dL_law_439 ?_
  refine gCi F1 (gRunV (own := RL) (C := RX4) (ci := 4) (bytes := cX4_flood) (n := 1) (As := [.int (xs (i + 1))]) (rest := []) F1 (hm H.size) gL_law_X4_flood rfl rfl hb2.1 hb2.2.1 (by decide +kernel) rfl ⟨by have h9 := hb2.2.2.2.2.1; show rm2.frames + 1 ≤ 11; omega, by have h9 := hb2.2.2.2.2.2; show 8 + (2 + 11) + rm2.locals ≤ 404; omega⟩ hP hD (lit := vv) (wt := u.1 ++ [outc G ol u.2]) (wc := vv) (isC := List.range (vv).length) (gRange _) (gRange_nd _) rfl hrf rfl hl.1 (Nat.le_of_ble_eq_true rfl) dL_law_440 ⟨by have h9 := hb1.2.2.1; show cells + mc + 0 ≤ 601024; omega, by have h9 := hb1.2.2.2.1; show slots + ms + 0 ≤ 7293034; omega⟩) hP hD hS (lit := vv) (wt := u.1 ++ [outc G ol u.2]) (wc := vv) (isC := List.range (vv).length) (wr := []) (isR := []) (gRange _) rfl rfl (fun _ h_ => by cases h_) (fun r2 u2 H locs hp2 hP hD hS => ?_)
  obtain ⟨hR2, hv2⟩ := hp2 S2 v hz
  have hP : va_P G.1 vwCl (u2 ++ (u.1 ++ [outc G ol u.2])) H := hP
  have hD : va_D A (u2 ++ (u.1 ++ [outc G ol u.2])) := hD
  refine lv_istore (lv' := [(6, .int r2), (5, .int (nI k)), (0, .ref b), (1, .ref lq), (2, .ref mq), (3, .ref ol), (4, .int (nI i))]) hx hb dL_law_443 hl (by decide) rfl (fun ls hl => ?_)
  refine lv_aload_n hx hb dL_law_445 rfl (lv_at hl 4 rfl) ?_
  obtain ⟨fs3, hrf3⟩ := rf_recv hR2
  refine gCi F1 (gRunV (own := RL) (C := RX4) (ci := 4) (bytes := cX4_thrown) (n := 0) (As := []) (rest := []) F1 (r_thrown l G mq hR2 (hZs S2 v hz) H.size) gL_law_X4_thrown rfl rfl rfl rfl (by decide +kernel) rfl ⟨Nat.le_of_ble_eq_true rfl, Nat.le_of_ble_eq_true rfl⟩ hP hD (lit := u2) (wt := u.1 ++ [outc G ol u.2]) (wc := u2) (isC := List.range (u2).length) (gRange _) (gRange_nd _) rfl hrf3 rfl hl.1 (Nat.le_of_ble_eq_true rfl) dL_law_446 ⟨by have h9 := hb1.2.2.1; show cells + mc + 0 + 0 ≤ 601024; omega, by have h9 := hb1.2.2.2.1; show slots + ms + 0 + 0 ≤ 7293034; omega⟩) hP hD hS (lit := u2) (wt := u.1 ++ [outc G ol u.2]) (wc := u2) (isC := List.range (u2).length) (wr := []) (isR := []) (gRange _) rfl rfl (fun _ h_ => by cases h_) (fun r3 u3 H locs hp3 hP hD hS => ?_)
  obtain ⟨rfl, hR3⟩ := hp3
  have hP : va_P G.1 vwCl (u3 ++ (u.1 ++ [outc G ol u.2])) H := hP
  have hD : va_D A (u3 ++ (u.1 ++ [outc G ol u.2])) := hD
  refine lv_iload hx hb dL_law_449 (lv_at hl 1 rfl) ?_
  refine gIcmp_eq (a := k) (b := k) (tgt := 456) hx hb dL_law_451 (by decide) (by omega) (by omega) (fun _ => ?_) (fun c9 => absurd rfl c9)
  refine lv_iload hx hb dL_law_456 (lv_at hl 1 rfl) ?_
  have fin : W p l e room_1 s m args below meth c H locs (cells + mc + 0 + 0) (slots + ms + 0 + 0) Q (F0 m 473 ls []) := by
    refine lv_goto (tgt := 2516) hx hb dL_law_473 (by decide) ?_
    refine W.widen (k := cells + 4) (n := slots + 528) (by have h9 := hb1.2.2.1; omega) (by have h9 := hb1.2.2.2.1; omega) ?_
    exact kk H locs ls ⟨u.1, u3, u.2, S2, k, hC2, hR3, hZs S2 v hz, gPperm List.perm_append_comm hP, gDperm List.perm_append_comm hD, hS, lv_sub hl [2, 3, 4, 5, 6] rfl⟩
  refine gIf_ne (a := k) (tgt := 473) hx hb dL_law_458 (by decide) (by omega) (fun _ => fin) (fun c9 => ?_)
  refine lv_aload_n hx hb dL_law_461 rfl (lv_at hl 5 rfl) ?_
  refine lv_iconst (v := nI 0) hx hb dL_law_462 (by decide) ?_
  have hP3 : va_P G.1 vwCl ((u3 ++ u.1) ++ [outc G ol u.2]) H := by rw [List.append_assoc]; exact hP
  refine gLald hx hb hKK.1 hP3 dL_law_463 ?_
  refine lv_iload hx hb dL_law_464 (lv_at hl 0 rfl) ?_
  refine lv_i2l (v := r2.toInt64) hx hb dL_law_466 rfl ?_
  refine W.lcmp hx hb dL_law_467 ?_
  rw [hv c9, hv2 c9, lcmp_self]
  exact lv_if_eq (tgt := 473) hx hb dL_law_468 (by decide) (fun _ => fin) (fun c8 => absurd rfl c8)

set_option maxHeartbeats 4000000 in
set_option maxRecDepth 100000 in
theorem cs_buyPlot {p : Program} {l : Launch} {e : Env} {s : State} {m : MethodId} {args : Array Value} {below : List Frame} {meth : Method} {c : Code} {H : Heap} {locs : List Loc} {cells slots : Nat} {Q : State → Prop} {G : gG} {A : Nat → Prop} {b L i lq mq ol : Nat} {xs : Nat → Int32} {ls : Array Slot} (F : lwF p l s m args meth c G A b L xs) (hi : i + 5 ≤ L) (hc : cells + 4 ≤ 601024) (hs : slots + 528 ≤ 7293034) (hI : lwI s G A lq mq ol b i H locs ls)
    (kk : ∀ (H : Heap) (locs : List Loc) (ls : Array Slot), lwI s G A lq mq ol b i H locs ls → W p l e room_1 s m args below meth c H locs (cells + 4) (slots + 528) Q (F0 m 2516 ls [])) : W p l e room_1 s m args below meth c H locs cells slots Q (F0 m 476 ls []) := by
  obtain ⟨F1, hZ, hX, hbl, hbA, hL, hl9⟩ := F
  obtain ⟨wv, vv, f, S, th, hC, hR, hSp, hP, hD, hS, hl⟩ := hI
  have hx := F1.1
  have hb := F1.2.1
  have hKK := F1.2.2.2.2.2.2.2.2.1
  obtain ⟨k, Z, hk3, hZs, ⟨rm, mc, ms, hb1, hw⟩, rm2, hb2, hm⟩ := P_buyPlot l G lq ol mq (f := f) hl9 (xs (i + 1)) (xs (i + 2)) (xs (i + 3)) hC hR hSp
  refine lv_aload_n hx hb dL_law_476 rfl (lv_at hl 1 rfl) ?_
  refine lv_aload_n hx hb dL_law_477 rfl (lv_at hl 0 rfl) ?_
  refine lv_iload hx hb dL_law_478 (lv_at hl 4 rfl) ?_
  refine lv_iconst (v := nI 1) hx hb dL_law_480 (by decide) ?_
  refine gIadd (a := i) (b := 1) hx hb dL_law_481 ?_
  refine gSld hx hb hX hbl hbA hS (i + 1) (by omega) (by omega) dL_law_482 ?_
  refine lv_aload_n hx hb dL_law_483 rfl (lv_at hl 0 rfl) ?_
  refine lv_iload hx hb dL_law_484 (lv_at hl 4 rfl) ?_
  refine lv_iconst (v := nI 2) hx hb dL_law_486 (by decide) ?_
  refine gIadd (a := i) (b := 2) hx hb dL_law_487 ?_
  refine gSld hx hb hX hbl hbA hS (i + 2) (by omega) (by omega) dL_law_488 ?_
  refine lv_aload_n hx hb dL_law_489 rfl (lv_at hl 0 rfl) ?_
  refine lv_iload hx hb dL_law_490 (lv_at hl 4 rfl) ?_
  refine lv_iconst (v := nI 3) hx hb dL_law_492 (by decide) ?_
  refine gIadd (a := i) (b := 3) hx hb dL_law_493 ?_
  refine gSld hx hb hX hbl hbA hS (i + 3) (by omega) (by omega) dL_law_494 ?_
  refine lv_aload_n hx hb dL_law_495 rfl (lv_at hl 3 rfl) ?_
  refine gCi F1 (gRunSW (own := RL) (bytes := cL_buyPlot) (n := 5) (As := .ref lq :: ([.int (xs (i + 1)), .int (xs (i + 2)), .int (xs (i + 3))] ++ [.ref ol])) (rest := []) F1 hZ hS (hw H.size) gL_law_L_buyPlot rfl rfl hb1.1 hb1.2.1 (by decide +kernel) rfl ⟨by have h9 := hb1.2.2.2.2.1; show rm.frames + 1 ≤ 11; omega, by have h9 := hb1.2.2.2.2.2; show 8 + (6 + 11) + rm.locals ≤ 404; omega⟩ hP hD (lit := wv ++ [outc G ol f]) (wt := vv) (wc := wv ++ [outc G ol f]) (isC := List.range (wv ++ [outc G ol f]).length) (gRange _) (gRange_nd _) rfl hl.1 (Nat.le_of_ble_eq_true rfl) dL_law_496 ⟨by have h9 := hb1.2.2.1; show cells + mc ≤ 601024; omega, by have h9 := hb1.2.2.2.1; show slots + ms ≤ 7293034; omega⟩) hP hD hS (lit := wv ++ [outc G ol f]) (wt := vv) (wc := wv ++ [outc G ol f]) (isC := List.range (wv ++ [outc G ol f]).length) (wr := []) (isR := []) (gRange _) rfl rfl (fun _ h_ => by cases h_) (fun r u H locs hp hP hD hS => ?_)
  obtain ⟨rfl, S2, v, hz, hC2, hv⟩ := hp
  have hP : va_P G.1 vwCl ((u.1 ++ [outc G ol u.2]) ++ vv) H := hP
  have hD : va_D A ((u.1 ++ [outc G ol u.2]) ++ vv) := hD
  refine lv_istore (lv' := [(5, .int (nI k)), (0, .ref b), (1, .ref lq), (2, .ref mq), (3, .ref ol), (4, .int (nI i))]) hx hb dL_law_499 hl (by decide) rfl (fun ls hl => ?_)
  have hP := gPperm List.perm_append_comm hP
  have hD := gDperm List.perm_append_comm hD
  obtain ⟨fs2, hrf⟩ := rf_recv hR
  refine lv_aload_n hx hb dL_law_501 rfl (lv_at hl 3 rfl) ?_
  refine lv_aload_n hx hb dL_law_502 rfl (lv_at hl 1 rfl) ?_
  refine lv_iload hx hb dL_law_503 (lv_at hl 5 rfl) ?_
  refine lv_iconst (v := nI 1) hx hb dL_law_505 (by decide) ?_
  refine gIadd (a := i) (b := 1) hx hb dL_law_506 ?_
  refine gSld hx hb hX hbl hbA hS (i + 1) (by omega) (by omega) dL_law_507 ?_
  refine lv_aload_n hx hb dL_law_508 rfl (lv_at hl 1 rfl) ?_
  refine lv_iload hx hb dL_law_509 (lv_at hl 5 rfl) ?_
  refine lv_iconst (v := nI 2) hx hb dL_law_511 (by decide) ?_
  refine gIadd (a := i) (b := 2) hx hb dL_law_512 ?_
  refine gSld hx hb hX hbl hbA hS (i + 2) (by omega) (by omega) dL_law_513 ?_
  refine lv_aload_n hx hb dL_law_514 rfl (lv_at hl 1 rfl) ?_
  refine lv_iload hx hb dL_law_515 (lv_at hl 5 rfl) ?_
  refine lv_iconst (v := nI 3) hx hb dL_law_517 (by decide) ?_
  refine gIadd (a := i) (b := 3) hx hb dL_law_518 ?_
  refine gSld hx hb hX hbl hbA hS (i + 3) (by omega) (by omega) dL_law_519 ?_
  refine gCi F1 (gRunV (own := RL) (C := RX4) (ci := 4) (bytes := cX4_buyPlot) (n := 3) (As := [.int (xs (i + 1)), .int (xs (i + 2)), .int (xs (i + 3))]) (rest := []) F1 (hm H.size) gL_law_X4_buyPlot rfl rfl hb2.1 hb2.2.1 (by decide +kernel) rfl ⟨by have h9 := hb2.2.2.2.2.1; show rm2.frames + 1 ≤ 11; omega, by have h9 := hb2.2.2.2.2.2; show 8 + (5 + 11) + rm2.locals ≤ 404; omega⟩ hP hD (lit := vv) (wt := u.1 ++ [outc G ol u.2]) (wc := vv) (isC := List.range (vv).length) (gRange _) (gRange_nd _) rfl hrf rfl hl.1 (Nat.le_of_ble_eq_true rfl) dL_law_520 ⟨by have h9 := hb1.2.2.1; show cells + mc + 0 ≤ 601024; omega, by have h9 := hb1.2.2.2.1; show slots + ms + 0 ≤ 7293034; omega⟩) hP hD hS (lit := vv) (wt := u.1 ++ [outc G ol u.2]) (wc := vv) (isC := List.range (vv).length) (wr := []) (isR := []) (gRange _) rfl rfl (fun _ h_ => by cases h_) (fun r2 u2 H locs hp2 hP hD hS => ?_)
  obtain ⟨hR2, hv2⟩ := hp2 S2 v hz
  have hP : va_P G.1 vwCl (u2 ++ (u.1 ++ [outc G ol u.2])) H := hP
  have hD : va_D A (u2 ++ (u.1 ++ [outc G ol u.2])) := hD
  refine lv_istore (lv' := [(6, .int r2), (5, .int (nI k)), (0, .ref b), (1, .ref lq), (2, .ref mq), (3, .ref ol), (4, .int (nI i))]) hx hb dL_law_523 hl (by decide) rfl (fun ls hl => ?_)
  refine lv_aload_n hx hb dL_law_525 rfl (lv_at hl 4 rfl) ?_
  obtain ⟨fs3, hrf3⟩ := rf_recv hR2
  refine gCi F1 (gRunV (own := RL) (C := RX4) (ci := 4) (bytes := cX4_thrown) (n := 0) (As := []) (rest := []) F1 (r_thrown l G mq hR2 (hZs S2 v hz) H.size) gL_law_X4_thrown rfl rfl rfl rfl (by decide +kernel) rfl ⟨Nat.le_of_ble_eq_true rfl, Nat.le_of_ble_eq_true rfl⟩ hP hD (lit := u2) (wt := u.1 ++ [outc G ol u.2]) (wc := u2) (isC := List.range (u2).length) (gRange _) (gRange_nd _) rfl hrf3 rfl hl.1 (Nat.le_of_ble_eq_true rfl) dL_law_526 ⟨by have h9 := hb1.2.2.1; show cells + mc + 0 + 0 ≤ 601024; omega, by have h9 := hb1.2.2.2.1; show slots + ms + 0 + 0 ≤ 7293034; omega⟩) hP hD hS (lit := u2) (wt := u.1 ++ [outc G ol u.2]) (wc := u2) (isC := List.range (u2).length) (wr := []) (isR := []) (gRange _) rfl rfl (fun _ h_ => by cases h_) (fun r3 u3 H locs hp3 hP hD hS => ?_)
  obtain ⟨rfl, hR3⟩ := hp3
  have hP : va_P G.1 vwCl (u3 ++ (u.1 ++ [outc G ol u.2])) H := hP
  have hD : va_D A (u3 ++ (u.1 ++ [outc G ol u.2])) := hD
  refine lv_iload hx hb dL_law_529 (lv_at hl 1 rfl) ?_
  refine gIcmp_eq (a := k) (b := k) (tgt := 536) hx hb dL_law_531 (by decide) (by omega) (by omega) (fun _ => ?_) (fun c9 => absurd rfl c9)
  refine lv_iload hx hb dL_law_536 (lv_at hl 1 rfl) ?_
  have fin : W p l e room_1 s m args below meth c H locs (cells + mc + 0 + 0) (slots + ms + 0 + 0) Q (F0 m 553 ls []) := by
    refine lv_goto (tgt := 2516) hx hb dL_law_553 (by decide) ?_
    refine W.widen (k := cells + 4) (n := slots + 528) (by have h9 := hb1.2.2.1; omega) (by have h9 := hb1.2.2.2.1; omega) ?_
    exact kk H locs ls ⟨u.1, u3, u.2, S2, k, hC2, hR3, hZs S2 v hz, gPperm List.perm_append_comm hP, gDperm List.perm_append_comm hD, hS, lv_sub hl [2, 3, 4, 5, 6] rfl⟩
  refine gIf_ne (a := k) (tgt := 553) hx hb dL_law_538 (by decide) (by omega) (fun _ => fin) (fun c9 => ?_)
  refine lv_aload_n hx hb dL_law_541 rfl (lv_at hl 5 rfl) ?_
  refine lv_iconst (v := nI 0) hx hb dL_law_542 (by decide) ?_
  have hP3 : va_P G.1 vwCl ((u3 ++ u.1) ++ [outc G ol u.2]) H := by rw [List.append_assoc]; exact hP
  refine gLald hx hb hKK.1 hP3 dL_law_543 ?_
  refine lv_iload hx hb dL_law_544 (lv_at hl 0 rfl) ?_
  refine lv_i2l (v := r2.toInt64) hx hb dL_law_546 rfl ?_
  refine W.lcmp hx hb dL_law_547 ?_
  rw [hv c9, hv2 c9, lcmp_self]
  exact lv_if_eq (tgt := 553) hx hb dL_law_548 (by decide) (fun _ => fin) (fun c8 => absurd rfl c8)

set_option maxHeartbeats 4000000 in
set_option maxRecDepth 100000 in
theorem cs_buySquare {p : Program} {l : Launch} {e : Env} {s : State} {m : MethodId} {args : Array Value} {below : List Frame} {meth : Method} {c : Code} {H : Heap} {locs : List Loc} {cells slots : Nat} {Q : State → Prop} {G : gG} {A : Nat → Prop} {b L i lq mq ol : Nat} {xs : Nat → Int32} {ls : Array Slot} (F : lwF p l s m args meth c G A b L xs) (hi : i + 5 ≤ L) (hc : cells + 4 ≤ 601024) (hs : slots + 528 ≤ 7293034) (hI : lwI s G A lq mq ol b i H locs ls)
    (kk : ∀ (H : Heap) (locs : List Loc) (ls : Array Slot), lwI s G A lq mq ol b i H locs ls → W p l e room_1 s m args below meth c H locs (cells + 4) (slots + 528) Q (F0 m 2516 ls [])) : W p l e room_1 s m args below meth c H locs cells slots Q (F0 m 556 ls []) := by
  obtain ⟨F1, hZ, hX, hbl, hbA, hL, hl9⟩ := F
  obtain ⟨wv, vv, f, S, th, hC, hR, hSp, hP, hD, hS, hl⟩ := hI
  have hx := F1.1
  have hb := F1.2.1
  have hKK := F1.2.2.2.2.2.2.2.2.1
  obtain ⟨k, Z, hk3, hZs, ⟨rm, mc, ms, hb1, hw⟩, rm2, hb2, hm⟩ := P_buySquare l G lq ol mq (f := f) hl9 (xs (i + 1)) (xs (i + 2)) (xs (i + 3)) (xs (i + 4)) hC hR hSp
  refine lv_aload_n hx hb dL_law_556 rfl (lv_at hl 1 rfl) ?_
  refine lv_aload_n hx hb dL_law_557 rfl (lv_at hl 0 rfl) ?_
  refine lv_iload hx hb dL_law_558 (lv_at hl 4 rfl) ?_
  refine lv_iconst (v := nI 1) hx hb dL_law_560 (by decide) ?_
  refine gIadd (a := i) (b := 1) hx hb dL_law_561 ?_
  refine gSld hx hb hX hbl hbA hS (i + 1) (by omega) (by omega) dL_law_562 ?_
  refine lv_aload_n hx hb dL_law_563 rfl (lv_at hl 0 rfl) ?_
  refine lv_iload hx hb dL_law_564 (lv_at hl 4 rfl) ?_
  refine lv_iconst (v := nI 2) hx hb dL_law_566 (by decide) ?_
  refine gIadd (a := i) (b := 2) hx hb dL_law_567 ?_
  refine gSld hx hb hX hbl hbA hS (i + 2) (by omega) (by omega) dL_law_568 ?_
  refine lv_aload_n hx hb dL_law_569 rfl (lv_at hl 0 rfl) ?_
  refine lv_iload hx hb dL_law_570 (lv_at hl 4 rfl) ?_
  refine lv_iconst (v := nI 3) hx hb dL_law_572 (by decide) ?_
  refine gIadd (a := i) (b := 3) hx hb dL_law_573 ?_
  refine gSld hx hb hX hbl hbA hS (i + 3) (by omega) (by omega) dL_law_574 ?_
  refine lv_aload_n hx hb dL_law_575 rfl (lv_at hl 0 rfl) ?_
  refine lv_iload hx hb dL_law_576 (lv_at hl 4 rfl) ?_
  refine lv_iconst (v := nI 4) hx hb dL_law_578 (by decide) ?_
  refine gIadd (a := i) (b := 4) hx hb dL_law_579 ?_
  refine gSld hx hb hX hbl hbA hS (i + 4) (by omega) (by omega) dL_law_580 ?_
  refine lv_aload_n hx hb dL_law_581 rfl (lv_at hl 3 rfl) ?_
  refine gCi F1 (gRunSW (own := RL) (bytes := cL_buySquare) (n := 6) (As := .ref lq :: ([.int (xs (i + 1)), .int (xs (i + 2)), .int (xs (i + 3)), .int (xs (i + 4))] ++ [.ref ol])) (rest := []) F1 hZ hS (hw H.size) gL_law_L_buySquare rfl rfl hb1.1 hb1.2.1 (by decide +kernel) rfl ⟨by have h9 := hb1.2.2.2.2.1; show rm.frames + 1 ≤ 11; omega, by have h9 := hb1.2.2.2.2.2; show 8 + (7 + 11) + rm.locals ≤ 404; omega⟩ hP hD (lit := wv ++ [outc G ol f]) (wt := vv) (wc := wv ++ [outc G ol f]) (isC := List.range (wv ++ [outc G ol f]).length) (gRange _) (gRange_nd _) rfl hl.1 (Nat.le_of_ble_eq_true rfl) dL_law_582 ⟨by have h9 := hb1.2.2.1; show cells + mc ≤ 601024; omega, by have h9 := hb1.2.2.2.1; show slots + ms ≤ 7293034; omega⟩) hP hD hS (lit := wv ++ [outc G ol f]) (wt := vv) (wc := wv ++ [outc G ol f]) (isC := List.range (wv ++ [outc G ol f]).length) (wr := []) (isR := []) (gRange _) rfl rfl (fun _ h_ => by cases h_) (fun r u H locs hp hP hD hS => ?_)
  obtain ⟨rfl, S2, v, hz, hC2, hv⟩ := hp
  have hP : va_P G.1 vwCl ((u.1 ++ [outc G ol u.2]) ++ vv) H := hP
  have hD : va_D A ((u.1 ++ [outc G ol u.2]) ++ vv) := hD
  refine lv_istore (lv' := [(5, .int (nI k)), (0, .ref b), (1, .ref lq), (2, .ref mq), (3, .ref ol), (4, .int (nI i))]) hx hb dL_law_585 hl (by decide) rfl (fun ls hl => ?_)
  have hP := gPperm List.perm_append_comm hP
  have hD := gDperm List.perm_append_comm hD
  obtain ⟨fs2, hrf⟩ := rf_recv hR
  refine lv_aload_n hx hb dL_law_587 rfl (lv_at hl 3 rfl) ?_
  refine lv_aload_n hx hb dL_law_588 rfl (lv_at hl 1 rfl) ?_
  refine lv_iload hx hb dL_law_589 (lv_at hl 5 rfl) ?_
  refine lv_iconst (v := nI 1) hx hb dL_law_591 (by decide) ?_
  refine gIadd (a := i) (b := 1) hx hb dL_law_592 ?_
  refine gSld hx hb hX hbl hbA hS (i + 1) (by omega) (by omega) dL_law_593 ?_
  refine lv_aload_n hx hb dL_law_594 rfl (lv_at hl 1 rfl) ?_
  refine lv_iload hx hb dL_law_595 (lv_at hl 5 rfl) ?_
  refine lv_iconst (v := nI 2) hx hb dL_law_597 (by decide) ?_
  refine gIadd (a := i) (b := 2) hx hb dL_law_598 ?_
  refine gSld hx hb hX hbl hbA hS (i + 2) (by omega) (by omega) dL_law_599 ?_
  refine lv_aload_n hx hb dL_law_600 rfl (lv_at hl 1 rfl) ?_
  refine lv_iload hx hb dL_law_601 (lv_at hl 5 rfl) ?_
  refine lv_iconst (v := nI 3) hx hb dL_law_603 (by decide) ?_
  refine gIadd (a := i) (b := 3) hx hb dL_law_604 ?_
  refine gSld hx hb hX hbl hbA hS (i + 3) (by omega) (by omega) dL_law_605 ?_
  refine lv_aload_n hx hb dL_law_606 rfl (lv_at hl 1 rfl) ?_
  refine lv_iload hx hb dL_law_607 (lv_at hl 5 rfl) ?_
  refine lv_iconst (v := nI 4) hx hb dL_law_609 (by decide) ?_
  refine gIadd (a := i) (b := 4) hx hb dL_law_610 ?_
  refine gSld hx hb hX hbl hbA hS (i + 4) (by omega) (by omega) dL_law_611 ?_
  refine gCi F1 (gRunV (own := RL) (C := RX4) (ci := 4) (bytes := cX4_buySquare) (n := 4) (As := [.int (xs (i + 1)), .int (xs (i + 2)), .int (xs (i + 3)), .int (xs (i + 4))]) (rest := []) F1 (hm H.size) gL_law_X4_buySquare rfl rfl hb2.1 hb2.2.1 (by decide +kernel) rfl ⟨by have h9 := hb2.2.2.2.2.1; show rm2.frames + 1 ≤ 11; omega, by have h9 := hb2.2.2.2.2.2; show 8 + (5 + 11) + rm2.locals ≤ 404; omega⟩ hP hD (lit := vv) (wt := u.1 ++ [outc G ol u.2]) (wc := vv) (isC := List.range (vv).length) (gRange _) (gRange_nd _) rfl hrf rfl hl.1 (Nat.le_of_ble_eq_true rfl) dL_law_612 ⟨by have h9 := hb1.2.2.1; show cells + mc + 0 ≤ 601024; omega, by have h9 := hb1.2.2.2.1; show slots + ms + 0 ≤ 7293034; omega⟩) hP hD hS (lit := vv) (wt := u.1 ++ [outc G ol u.2]) (wc := vv) (isC := List.range (vv).length) (wr := []) (isR := []) (gRange _) rfl rfl (fun _ h_ => by cases h_) (fun r2 u2 H locs hp2 hP hD hS => ?_)
  obtain ⟨hR2, hv2⟩ := hp2 S2 v hz
  have hP : va_P G.1 vwCl (u2 ++ (u.1 ++ [outc G ol u.2])) H := hP
  have hD : va_D A (u2 ++ (u.1 ++ [outc G ol u.2])) := hD
  refine lv_istore (lv' := [(6, .int r2), (5, .int (nI k)), (0, .ref b), (1, .ref lq), (2, .ref mq), (3, .ref ol), (4, .int (nI i))]) hx hb dL_law_615 hl (by decide) rfl (fun ls hl => ?_)
  refine lv_aload_n hx hb dL_law_617 rfl (lv_at hl 4 rfl) ?_
  obtain ⟨fs3, hrf3⟩ := rf_recv hR2
  refine gCi F1 (gRunV (own := RL) (C := RX4) (ci := 4) (bytes := cX4_thrown) (n := 0) (As := []) (rest := []) F1 (r_thrown l G mq hR2 (hZs S2 v hz) H.size) gL_law_X4_thrown rfl rfl rfl rfl (by decide +kernel) rfl ⟨Nat.le_of_ble_eq_true rfl, Nat.le_of_ble_eq_true rfl⟩ hP hD (lit := u2) (wt := u.1 ++ [outc G ol u.2]) (wc := u2) (isC := List.range (u2).length) (gRange _) (gRange_nd _) rfl hrf3 rfl hl.1 (Nat.le_of_ble_eq_true rfl) dL_law_618 ⟨by have h9 := hb1.2.2.1; show cells + mc + 0 + 0 ≤ 601024; omega, by have h9 := hb1.2.2.2.1; show slots + ms + 0 + 0 ≤ 7293034; omega⟩) hP hD hS (lit := u2) (wt := u.1 ++ [outc G ol u.2]) (wc := u2) (isC := List.range (u2).length) (wr := []) (isR := []) (gRange _) rfl rfl (fun _ h_ => by cases h_) (fun r3 u3 H locs hp3 hP hD hS => ?_)
  obtain ⟨rfl, hR3⟩ := hp3
  have hP : va_P G.1 vwCl (u3 ++ (u.1 ++ [outc G ol u.2])) H := hP
  have hD : va_D A (u3 ++ (u.1 ++ [outc G ol u.2])) := hD
  refine lv_iload hx hb dL_law_621 (lv_at hl 1 rfl) ?_
  refine gIcmp_eq (a := k) (b := k) (tgt := 628) hx hb dL_law_623 (by decide) (by omega) (by omega) (fun _ => ?_) (fun c9 => absurd rfl c9)
  refine lv_iload hx hb dL_law_628 (lv_at hl 1 rfl) ?_
  have fin : W p l e room_1 s m args below meth c H locs (cells + mc + 0 + 0) (slots + ms + 0 + 0) Q (F0 m 645 ls []) := by
    refine lv_goto (tgt := 2516) hx hb dL_law_645 (by decide) ?_
    refine W.widen (k := cells + 4) (n := slots + 528) (by have h9 := hb1.2.2.1; omega) (by have h9 := hb1.2.2.2.1; omega) ?_
    exact kk H locs ls ⟨u.1, u3, u.2, S2, k, hC2, hR3, hZs S2 v hz, gPperm List.perm_append_comm hP, gDperm List.perm_append_comm hD, hS, lv_sub hl [2, 3, 4, 5, 6] rfl⟩
  refine gIf_ne (a := k) (tgt := 645) hx hb dL_law_630 (by decide) (by omega) (fun _ => fin) (fun c9 => ?_)
  refine lv_aload_n hx hb dL_law_633 rfl (lv_at hl 5 rfl) ?_
  refine lv_iconst (v := nI 0) hx hb dL_law_634 (by decide) ?_
  have hP3 : va_P G.1 vwCl ((u3 ++ u.1) ++ [outc G ol u.2]) H := by rw [List.append_assoc]; exact hP
  refine gLald hx hb hKK.1 hP3 dL_law_635 ?_
  refine lv_iload hx hb dL_law_636 (lv_at hl 0 rfl) ?_
  refine lv_i2l (v := r2.toInt64) hx hb dL_law_638 rfl ?_
  refine W.lcmp hx hb dL_law_639 ?_
  rw [hv c9, hv2 c9, lcmp_self]
  exact lv_if_eq (tgt := 645) hx hb dL_law_640 (by decide) (fun _ => fin) (fun c8 => absurd rfl c8)

set_option maxHeartbeats 4000000 in
set_option maxRecDepth 100000 in
theorem cs_setPrice {p : Program} {l : Launch} {e : Env} {s : State} {m : MethodId} {args : Array Value} {below : List Frame} {meth : Method} {c : Code} {H : Heap} {locs : List Loc} {cells slots : Nat} {Q : State → Prop} {G : gG} {A : Nat → Prop} {b L i lq mq ol : Nat} {xs : Nat → Int32} {ls : Array Slot} (F : lwF p l s m args meth c G A b L xs) (hi : i + 5 ≤ L) (hc : cells + 4 ≤ 601024) (hs : slots + 528 ≤ 7293034) (hI : lwI s G A lq mq ol b i H locs ls)
    (kk : ∀ (H : Heap) (locs : List Loc) (ls : Array Slot), lwI s G A lq mq ol b i H locs ls → W p l e room_1 s m args below meth c H locs (cells + 4) (slots + 528) Q (F0 m 2516 ls [])) : W p l e room_1 s m args below meth c H locs cells slots Q (F0 m 661 ls []) := by
  obtain ⟨F1, hZ, hX, hbl, hbA, hL, hl9⟩ := F
  obtain ⟨wv, vv, f, S, th, hC, hR, hSp, hP, hD, hS, hl⟩ := hI
  have hx := F1.1
  have hb := F1.2.1
  have hKK := F1.2.2.2.2.2.2.2.2.1
  obtain ⟨k, Z, hk3, hZs, ⟨rm, mc, ms, hb1, hw⟩, rm2, hb2, hm⟩ := P_setPrice l G lq ol mq (f := f) hl9 (xs (i + 1)) hC hR hSp
  refine lv_aload_n hx hb dL_law_661 rfl (lv_at hl 1 rfl) ?_
  refine lv_aload_n hx hb dL_law_662 rfl (lv_at hl 0 rfl) ?_
  refine lv_iload hx hb dL_law_663 (lv_at hl 4 rfl) ?_
  refine lv_iconst (v := nI 1) hx hb dL_law_665 (by decide) ?_
  refine gIadd (a := i) (b := 1) hx hb dL_law_666 ?_
  refine gSld hx hb hX hbl hbA hS (i + 1) (by omega) (by omega) dL_law_667 ?_
  refine lv_aload_n hx hb dL_law_668 rfl (lv_at hl 3 rfl) ?_
  refine gCi F1 (gRunSW (own := RL) (bytes := cL_setPrice) (n := 3) (As := .ref lq :: ([.int (xs (i + 1))] ++ [.ref ol])) (rest := []) F1 hZ hS (hw H.size) gL_law_L_setPrice rfl rfl hb1.1 hb1.2.1 (by decide +kernel) rfl ⟨by have h9 := hb1.2.2.2.2.1; show rm.frames + 1 ≤ 11; omega, by have h9 := hb1.2.2.2.2.2; show 8 + (4 + 11) + rm.locals ≤ 404; omega⟩ hP hD (lit := wv ++ [outc G ol f]) (wt := vv) (wc := wv ++ [outc G ol f]) (isC := List.range (wv ++ [outc G ol f]).length) (gRange _) (gRange_nd _) rfl hl.1 (Nat.le_of_ble_eq_true rfl) dL_law_669 ⟨by have h9 := hb1.2.2.1; show cells + mc ≤ 601024; omega, by have h9 := hb1.2.2.2.1; show slots + ms ≤ 7293034; omega⟩) hP hD hS (lit := wv ++ [outc G ol f]) (wt := vv) (wc := wv ++ [outc G ol f]) (isC := List.range (wv ++ [outc G ol f]).length) (wr := []) (isR := []) (gRange _) rfl rfl (fun _ h_ => by cases h_) (fun r u H locs hp hP hD hS => ?_)
  obtain ⟨rfl, S2, v, hz, hC2, hv⟩ := hp
  have hP : va_P G.1 vwCl ((u.1 ++ [outc G ol u.2]) ++ vv) H := hP
  have hD : va_D A ((u.1 ++ [outc G ol u.2]) ++ vv) := hD
  refine lv_istore (lv' := [(5, .int (nI k)), (0, .ref b), (1, .ref lq), (2, .ref mq), (3, .ref ol), (4, .int (nI i))]) hx hb dL_law_672 hl (by decide) rfl (fun ls hl => ?_)
  have hP := gPperm List.perm_append_comm hP
  have hD := gDperm List.perm_append_comm hD
  obtain ⟨fs2, hrf⟩ := rf_recv hR
  refine lv_aload_n hx hb dL_law_674 rfl (lv_at hl 3 rfl) ?_
  refine lv_aload_n hx hb dL_law_675 rfl (lv_at hl 1 rfl) ?_
  refine lv_iload hx hb dL_law_676 (lv_at hl 5 rfl) ?_
  refine lv_iconst (v := nI 1) hx hb dL_law_678 (by decide) ?_
  refine gIadd (a := i) (b := 1) hx hb dL_law_679 ?_
  refine gSld hx hb hX hbl hbA hS (i + 1) (by omega) (by omega) dL_law_680 ?_
  refine gCi F1 (gRunV (own := RL) (C := RX4) (ci := 4) (bytes := cX4_setPrice) (n := 1) (As := [.int (xs (i + 1))]) (rest := []) F1 (hm H.size) gL_law_X4_setPrice rfl rfl hb2.1 hb2.2.1 (by decide +kernel) rfl ⟨by have h9 := hb2.2.2.2.2.1; show rm2.frames + 1 ≤ 11; omega, by have h9 := hb2.2.2.2.2.2; show 8 + (3 + 11) + rm2.locals ≤ 404; omega⟩ hP hD (lit := vv) (wt := u.1 ++ [outc G ol u.2]) (wc := vv) (isC := List.range (vv).length) (gRange _) (gRange_nd _) rfl hrf rfl hl.1 (Nat.le_of_ble_eq_true rfl) dL_law_681 ⟨by have h9 := hb1.2.2.1; show cells + mc + 0 ≤ 601024; omega, by have h9 := hb1.2.2.2.1; show slots + ms + 0 ≤ 7293034; omega⟩) hP hD hS (lit := vv) (wt := u.1 ++ [outc G ol u.2]) (wc := vv) (isC := List.range (vv).length) (wr := []) (isR := []) (gRange _) rfl rfl (fun _ h_ => by cases h_) (fun r2 u2 H locs hp2 hP hD hS => ?_)
  obtain ⟨hR2, hv2⟩ := hp2 S2 v hz
  have hP : va_P G.1 vwCl (u2 ++ (u.1 ++ [outc G ol u.2])) H := hP
  have hD : va_D A (u2 ++ (u.1 ++ [outc G ol u.2])) := hD
  refine lv_istore (lv' := [(6, .int r2), (5, .int (nI k)), (0, .ref b), (1, .ref lq), (2, .ref mq), (3, .ref ol), (4, .int (nI i))]) hx hb dL_law_684 hl (by decide) rfl (fun ls hl => ?_)
  refine lv_aload_n hx hb dL_law_686 rfl (lv_at hl 4 rfl) ?_
  obtain ⟨fs3, hrf3⟩ := rf_recv hR2
  refine gCi F1 (gRunV (own := RL) (C := RX4) (ci := 4) (bytes := cX4_thrown) (n := 0) (As := []) (rest := []) F1 (r_thrown l G mq hR2 (hZs S2 v hz) H.size) gL_law_X4_thrown rfl rfl rfl rfl (by decide +kernel) rfl ⟨Nat.le_of_ble_eq_true rfl, Nat.le_of_ble_eq_true rfl⟩ hP hD (lit := u2) (wt := u.1 ++ [outc G ol u.2]) (wc := u2) (isC := List.range (u2).length) (gRange _) (gRange_nd _) rfl hrf3 rfl hl.1 (Nat.le_of_ble_eq_true rfl) dL_law_687 ⟨by have h9 := hb1.2.2.1; show cells + mc + 0 + 0 ≤ 601024; omega, by have h9 := hb1.2.2.2.1; show slots + ms + 0 + 0 ≤ 7293034; omega⟩) hP hD hS (lit := u2) (wt := u.1 ++ [outc G ol u.2]) (wc := u2) (isC := List.range (u2).length) (wr := []) (isR := []) (gRange _) rfl rfl (fun _ h_ => by cases h_) (fun r3 u3 H locs hp3 hP hD hS => ?_)
  obtain ⟨rfl, hR3⟩ := hp3
  have hP : va_P G.1 vwCl (u3 ++ (u.1 ++ [outc G ol u.2])) H := hP
  have hD : va_D A (u3 ++ (u.1 ++ [outc G ol u.2])) := hD
  refine lv_iload hx hb dL_law_690 (lv_at hl 1 rfl) ?_
  refine gIcmp_eq (a := k) (b := k) (tgt := 697) hx hb dL_law_692 (by decide) (by omega) (by omega) (fun _ => ?_) (fun c9 => absurd rfl c9)
  refine lv_iload hx hb dL_law_697 (lv_at hl 1 rfl) ?_
  have fin : W p l e room_1 s m args below meth c H locs (cells + mc + 0 + 0) (slots + ms + 0 + 0) Q (F0 m 714 ls []) := by
    refine lv_goto (tgt := 2516) hx hb dL_law_714 (by decide) ?_
    refine W.widen (k := cells + 4) (n := slots + 528) (by have h9 := hb1.2.2.1; omega) (by have h9 := hb1.2.2.2.1; omega) ?_
    exact kk H locs ls ⟨u.1, u3, u.2, S2, k, hC2, hR3, hZs S2 v hz, gPperm List.perm_append_comm hP, gDperm List.perm_append_comm hD, hS, lv_sub hl [2, 3, 4, 5, 6] rfl⟩
  refine gIf_ne (a := k) (tgt := 714) hx hb dL_law_699 (by decide) (by omega) (fun _ => fin) (fun c9 => ?_)
  refine lv_aload_n hx hb dL_law_702 rfl (lv_at hl 5 rfl) ?_
  refine lv_iconst (v := nI 0) hx hb dL_law_703 (by decide) ?_
  have hP3 : va_P G.1 vwCl ((u3 ++ u.1) ++ [outc G ol u.2]) H := by rw [List.append_assoc]; exact hP
  refine gLald hx hb hKK.1 hP3 dL_law_704 ?_
  refine lv_iload hx hb dL_law_705 (lv_at hl 0 rfl) ?_
  refine lv_i2l (v := r2.toInt64) hx hb dL_law_707 rfl ?_
  refine W.lcmp hx hb dL_law_708 ?_
  rw [hv c9, hv2 c9, lcmp_self]
  exact lv_if_eq (tgt := 714) hx hb dL_law_709 (by decide) (fun _ => fin) (fun c8 => absurd rfl c8)

set_option maxHeartbeats 4000000 in
set_option maxRecDepth 100000 in
theorem cs_setTax {p : Program} {l : Launch} {e : Env} {s : State} {m : MethodId} {args : Array Value} {below : List Frame} {meth : Method} {c : Code} {H : Heap} {locs : List Loc} {cells slots : Nat} {Q : State → Prop} {G : gG} {A : Nat → Prop} {b L i lq mq ol : Nat} {xs : Nat → Int32} {ls : Array Slot} (F : lwF p l s m args meth c G A b L xs) (hi : i + 5 ≤ L) (hc : cells + 4 ≤ 601024) (hs : slots + 528 ≤ 7293034) (hI : lwI s G A lq mq ol b i H locs ls)
    (kk : ∀ (H : Heap) (locs : List Loc) (ls : Array Slot), lwI s G A lq mq ol b i H locs ls → W p l e room_1 s m args below meth c H locs (cells + 4) (slots + 528) Q (F0 m 2516 ls [])) : W p l e room_1 s m args below meth c H locs cells slots Q (F0 m 717 ls []) := by
  obtain ⟨F1, hZ, hX, hbl, hbA, hL, hl9⟩ := F
  obtain ⟨wv, vv, f, S, th, hC, hR, hSp, hP, hD, hS, hl⟩ := hI
  have hx := F1.1
  have hb := F1.2.1
  have hKK := F1.2.2.2.2.2.2.2.2.1
  obtain ⟨k, Z, hk3, hZs, ⟨rm, mc, ms, hb1, hw⟩, rm2, hb2, hm⟩ := P_setTax l G lq ol mq (f := f) hl9 (xs (i + 1)) hC hR hSp
  refine lv_aload_n hx hb dL_law_717 rfl (lv_at hl 1 rfl) ?_
  refine lv_aload_n hx hb dL_law_718 rfl (lv_at hl 0 rfl) ?_
  refine lv_iload hx hb dL_law_719 (lv_at hl 4 rfl) ?_
  refine lv_iconst (v := nI 1) hx hb dL_law_721 (by decide) ?_
  refine gIadd (a := i) (b := 1) hx hb dL_law_722 ?_
  refine gSld hx hb hX hbl hbA hS (i + 1) (by omega) (by omega) dL_law_723 ?_
  refine lv_aload_n hx hb dL_law_724 rfl (lv_at hl 3 rfl) ?_
  refine gCi F1 (gRunSW (own := RL) (bytes := cL_setTax) (n := 3) (As := .ref lq :: ([.int (xs (i + 1))] ++ [.ref ol])) (rest := []) F1 hZ hS (hw H.size) gL_law_L_setTax rfl rfl hb1.1 hb1.2.1 (by decide +kernel) rfl ⟨by have h9 := hb1.2.2.2.2.1; show rm.frames + 1 ≤ 11; omega, by have h9 := hb1.2.2.2.2.2; show 8 + (4 + 11) + rm.locals ≤ 404; omega⟩ hP hD (lit := wv ++ [outc G ol f]) (wt := vv) (wc := wv ++ [outc G ol f]) (isC := List.range (wv ++ [outc G ol f]).length) (gRange _) (gRange_nd _) rfl hl.1 (Nat.le_of_ble_eq_true rfl) dL_law_725 ⟨by have h9 := hb1.2.2.1; show cells + mc ≤ 601024; omega, by have h9 := hb1.2.2.2.1; show slots + ms ≤ 7293034; omega⟩) hP hD hS (lit := wv ++ [outc G ol f]) (wt := vv) (wc := wv ++ [outc G ol f]) (isC := List.range (wv ++ [outc G ol f]).length) (wr := []) (isR := []) (gRange _) rfl rfl (fun _ h_ => by cases h_) (fun r u H locs hp hP hD hS => ?_)
  obtain ⟨rfl, S2, v, hz, hC2, hv⟩ := hp
  have hP : va_P G.1 vwCl ((u.1 ++ [outc G ol u.2]) ++ vv) H := hP
  have hD : va_D A ((u.1 ++ [outc G ol u.2]) ++ vv) := hD
  refine lv_istore (lv' := [(5, .int (nI k)), (0, .ref b), (1, .ref lq), (2, .ref mq), (3, .ref ol), (4, .int (nI i))]) hx hb dL_law_728 hl (by decide) rfl (fun ls hl => ?_)
  have hP := gPperm List.perm_append_comm hP
  have hD := gDperm List.perm_append_comm hD
  obtain ⟨fs2, hrf⟩ := rf_recv hR
  refine lv_aload_n hx hb dL_law_730 rfl (lv_at hl 3 rfl) ?_
  refine lv_aload_n hx hb dL_law_731 rfl (lv_at hl 1 rfl) ?_
  refine lv_iload hx hb dL_law_732 (lv_at hl 5 rfl) ?_
  refine lv_iconst (v := nI 1) hx hb dL_law_734 (by decide) ?_
  refine gIadd (a := i) (b := 1) hx hb dL_law_735 ?_
  refine gSld hx hb hX hbl hbA hS (i + 1) (by omega) (by omega) dL_law_736 ?_
  refine gCi F1 (gRunV (own := RL) (C := RX4) (ci := 4) (bytes := cX4_setTax) (n := 1) (As := [.int (xs (i + 1))]) (rest := []) F1 (hm H.size) gL_law_X4_setTax rfl rfl hb2.1 hb2.2.1 (by decide +kernel) rfl ⟨by have h9 := hb2.2.2.2.2.1; show rm2.frames + 1 ≤ 11; omega, by have h9 := hb2.2.2.2.2.2; show 8 + (3 + 11) + rm2.locals ≤ 404; omega⟩ hP hD (lit := vv) (wt := u.1 ++ [outc G ol u.2]) (wc := vv) (isC := List.range (vv).length) (gRange _) (gRange_nd _) rfl hrf rfl hl.1 (Nat.le_of_ble_eq_true rfl) dL_law_737 ⟨by have h9 := hb1.2.2.1; show cells + mc + 0 ≤ 601024; omega, by have h9 := hb1.2.2.2.1; show slots + ms + 0 ≤ 7293034; omega⟩) hP hD hS (lit := vv) (wt := u.1 ++ [outc G ol u.2]) (wc := vv) (isC := List.range (vv).length) (wr := []) (isR := []) (gRange _) rfl rfl (fun _ h_ => by cases h_) (fun r2 u2 H locs hp2 hP hD hS => ?_)
  obtain ⟨hR2, hv2⟩ := hp2 S2 v hz
  have hP : va_P G.1 vwCl (u2 ++ (u.1 ++ [outc G ol u.2])) H := hP
  have hD : va_D A (u2 ++ (u.1 ++ [outc G ol u.2])) := hD
  refine lv_istore (lv' := [(6, .int r2), (5, .int (nI k)), (0, .ref b), (1, .ref lq), (2, .ref mq), (3, .ref ol), (4, .int (nI i))]) hx hb dL_law_740 hl (by decide) rfl (fun ls hl => ?_)
  refine lv_aload_n hx hb dL_law_742 rfl (lv_at hl 4 rfl) ?_
  obtain ⟨fs3, hrf3⟩ := rf_recv hR2
  refine gCi F1 (gRunV (own := RL) (C := RX4) (ci := 4) (bytes := cX4_thrown) (n := 0) (As := []) (rest := []) F1 (r_thrown l G mq hR2 (hZs S2 v hz) H.size) gL_law_X4_thrown rfl rfl rfl rfl (by decide +kernel) rfl ⟨Nat.le_of_ble_eq_true rfl, Nat.le_of_ble_eq_true rfl⟩ hP hD (lit := u2) (wt := u.1 ++ [outc G ol u.2]) (wc := u2) (isC := List.range (u2).length) (gRange _) (gRange_nd _) rfl hrf3 rfl hl.1 (Nat.le_of_ble_eq_true rfl) dL_law_743 ⟨by have h9 := hb1.2.2.1; show cells + mc + 0 + 0 ≤ 601024; omega, by have h9 := hb1.2.2.2.1; show slots + ms + 0 + 0 ≤ 7293034; omega⟩) hP hD hS (lit := u2) (wt := u.1 ++ [outc G ol u.2]) (wc := u2) (isC := List.range (u2).length) (wr := []) (isR := []) (gRange _) rfl rfl (fun _ h_ => by cases h_) (fun r3 u3 H locs hp3 hP hD hS => ?_)
  obtain ⟨rfl, hR3⟩ := hp3
  have hP : va_P G.1 vwCl (u3 ++ (u.1 ++ [outc G ol u.2])) H := hP
  have hD : va_D A (u3 ++ (u.1 ++ [outc G ol u.2])) := hD
  refine lv_iload hx hb dL_law_746 (lv_at hl 1 rfl) ?_
  refine gIcmp_eq (a := k) (b := k) (tgt := 753) hx hb dL_law_748 (by decide) (by omega) (by omega) (fun _ => ?_) (fun c9 => absurd rfl c9)
  refine lv_iload hx hb dL_law_753 (lv_at hl 1 rfl) ?_
  have fin : W p l e room_1 s m args below meth c H locs (cells + mc + 0 + 0) (slots + ms + 0 + 0) Q (F0 m 770 ls []) := by
    refine lv_goto (tgt := 2516) hx hb dL_law_770 (by decide) ?_
    refine W.widen (k := cells + 4) (n := slots + 528) (by have h9 := hb1.2.2.1; omega) (by have h9 := hb1.2.2.2.1; omega) ?_
    exact kk H locs ls ⟨u.1, u3, u.2, S2, k, hC2, hR3, hZs S2 v hz, gPperm List.perm_append_comm hP, gDperm List.perm_append_comm hD, hS, lv_sub hl [2, 3, 4, 5, 6] rfl⟩
  refine gIf_ne (a := k) (tgt := 770) hx hb dL_law_755 (by decide) (by omega) (fun _ => fin) (fun c9 => ?_)
  refine lv_aload_n hx hb dL_law_758 rfl (lv_at hl 5 rfl) ?_
  refine lv_iconst (v := nI 0) hx hb dL_law_759 (by decide) ?_
  have hP3 : va_P G.1 vwCl ((u3 ++ u.1) ++ [outc G ol u.2]) H := by rw [List.append_assoc]; exact hP
  refine gLald hx hb hKK.1 hP3 dL_law_760 ?_
  refine lv_iload hx hb dL_law_761 (lv_at hl 0 rfl) ?_
  refine lv_i2l (v := r2.toInt64) hx hb dL_law_763 rfl ?_
  refine W.lcmp hx hb dL_law_764 ?_
  rw [hv c9, hv2 c9, lcmp_self]
  exact lv_if_eq (tgt := 770) hx hb dL_law_765 (by decide) (fun _ => fin) (fun c8 => absurd rfl c8)

set_option maxHeartbeats 4000000 in
set_option maxRecDepth 100000 in
theorem cs_append {p : Program} {l : Launch} {e : Env} {s : State} {m : MethodId} {args : Array Value} {below : List Frame} {meth : Method} {c : Code} {H : Heap} {locs : List Loc} {cells slots : Nat} {Q : State → Prop} {G : gG} {A : Nat → Prop} {b L i lq mq ol : Nat} {xs : Nat → Int32} {ls : Array Slot} (F : lwF p l s m args meth c G A b L xs) (hi : i + 5 ≤ L) (hc : cells + 4 ≤ 601024) (hs : slots + 528 ≤ 7293034) (hI : lwI s G A lq mq ol b i H locs ls)
    (kk : ∀ (H : Heap) (locs : List Loc) (ls : Array Slot), lwI s G A lq mq ol b i H locs ls → W p l e room_1 s m args below meth c H locs (cells + 4) (slots + 528) Q (F0 m 2516 ls [])) : W p l e room_1 s m args below meth c H locs cells slots Q (F0 m 773 ls []) := by
  obtain ⟨F1, hZ, hX, hbl, hbA, hL, hl9⟩ := F
  obtain ⟨wv, vv, f, S, th, hC, hR, hSp, hP, hD, hS, hl⟩ := hI
  have hx := F1.1
  have hb := F1.2.1
  have hKK := F1.2.2.2.2.2.2.2.2.1
  obtain ⟨k, Z, hk3, hZs, ⟨rm, mc, ms, hb1, hw⟩, rm2, hb2, hm⟩ := P_append l G lq ol mq (f := f) hl9 (xs (i + 1)) hC hR hSp
  refine lv_aload_n hx hb dL_law_773 rfl (lv_at hl 1 rfl) ?_
  refine lv_aload_n hx hb dL_law_774 rfl (lv_at hl 0 rfl) ?_
  refine lv_iload hx hb dL_law_775 (lv_at hl 4 rfl) ?_
  refine lv_iconst (v := nI 1) hx hb dL_law_777 (by decide) ?_
  refine gIadd (a := i) (b := 1) hx hb dL_law_778 ?_
  refine gSld hx hb hX hbl hbA hS (i + 1) (by omega) (by omega) dL_law_779 ?_
  refine lv_aload_n hx hb dL_law_780 rfl (lv_at hl 3 rfl) ?_
  refine gCi F1 (gRunSW (own := RL) (bytes := cL_append) (n := 3) (As := .ref lq :: ([.int (xs (i + 1))] ++ [.ref ol])) (rest := []) F1 hZ hS (hw H.size) gL_law_L_append rfl rfl hb1.1 hb1.2.1 (by decide +kernel) rfl ⟨by have h9 := hb1.2.2.2.2.1; show rm.frames + 1 ≤ 11; omega, by have h9 := hb1.2.2.2.2.2; show 8 + (4 + 11) + rm.locals ≤ 404; omega⟩ hP hD (lit := wv ++ [outc G ol f]) (wt := vv) (wc := wv ++ [outc G ol f]) (isC := List.range (wv ++ [outc G ol f]).length) (gRange _) (gRange_nd _) rfl hl.1 (Nat.le_of_ble_eq_true rfl) dL_law_781 ⟨by have h9 := hb1.2.2.1; show cells + mc ≤ 601024; omega, by have h9 := hb1.2.2.2.1; show slots + ms ≤ 7293034; omega⟩) hP hD hS (lit := wv ++ [outc G ol f]) (wt := vv) (wc := wv ++ [outc G ol f]) (isC := List.range (wv ++ [outc G ol f]).length) (wr := []) (isR := []) (gRange _) rfl rfl (fun _ h_ => by cases h_) (fun r u H locs hp hP hD hS => ?_)
  obtain ⟨rfl, S2, v, hz, hC2, hv⟩ := hp
  have hP : va_P G.1 vwCl ((u.1 ++ [outc G ol u.2]) ++ vv) H := hP
  have hD : va_D A ((u.1 ++ [outc G ol u.2]) ++ vv) := hD
  refine lv_istore (lv' := [(5, .int (nI k)), (0, .ref b), (1, .ref lq), (2, .ref mq), (3, .ref ol), (4, .int (nI i))]) hx hb dL_law_784 hl (by decide) rfl (fun ls hl => ?_)
  have hP := gPperm List.perm_append_comm hP
  have hD := gDperm List.perm_append_comm hD
  obtain ⟨fs2, hrf⟩ := rf_recv hR
  refine lv_aload_n hx hb dL_law_786 rfl (lv_at hl 3 rfl) ?_
  refine lv_aload_n hx hb dL_law_787 rfl (lv_at hl 1 rfl) ?_
  refine lv_iload hx hb dL_law_788 (lv_at hl 5 rfl) ?_
  refine lv_iconst (v := nI 1) hx hb dL_law_790 (by decide) ?_
  refine gIadd (a := i) (b := 1) hx hb dL_law_791 ?_
  refine gSld hx hb hX hbl hbA hS (i + 1) (by omega) (by omega) dL_law_792 ?_
  refine gCi F1 (gRunV (own := RL) (C := RX4) (ci := 4) (bytes := cX4_append) (n := 1) (As := [.int (xs (i + 1))]) (rest := []) F1 (hm H.size) gL_law_X4_append rfl rfl hb2.1 hb2.2.1 (by decide +kernel) rfl ⟨by have h9 := hb2.2.2.2.2.1; show rm2.frames + 1 ≤ 11; omega, by have h9 := hb2.2.2.2.2.2; show 8 + (2 + 11) + rm2.locals ≤ 404; omega⟩ hP hD (lit := vv) (wt := u.1 ++ [outc G ol u.2]) (wc := vv) (isC := List.range (vv).length) (gRange _) (gRange_nd _) rfl hrf rfl hl.1 (Nat.le_of_ble_eq_true rfl) dL_law_793 ⟨by have h9 := hb1.2.2.1; show cells + mc + 0 ≤ 601024; omega, by have h9 := hb1.2.2.2.1; show slots + ms + 0 ≤ 7293034; omega⟩) hP hD hS (lit := vv) (wt := u.1 ++ [outc G ol u.2]) (wc := vv) (isC := List.range (vv).length) (wr := []) (isR := []) (gRange _) rfl rfl (fun _ h_ => by cases h_) (fun r2 u2 H locs hp2 hP hD hS => ?_)
  obtain ⟨hR2, hv2⟩ := hp2 S2 v hz
  have hP : va_P G.1 vwCl (u2 ++ (u.1 ++ [outc G ol u.2])) H := hP
  have hD : va_D A (u2 ++ (u.1 ++ [outc G ol u.2])) := hD
  refine lv_istore (lv' := [(6, .int r2), (5, .int (nI k)), (0, .ref b), (1, .ref lq), (2, .ref mq), (3, .ref ol), (4, .int (nI i))]) hx hb dL_law_796 hl (by decide) rfl (fun ls hl => ?_)
  refine lv_aload_n hx hb dL_law_798 rfl (lv_at hl 4 rfl) ?_
  obtain ⟨fs3, hrf3⟩ := rf_recv hR2
  refine gCi F1 (gRunV (own := RL) (C := RX4) (ci := 4) (bytes := cX4_thrown) (n := 0) (As := []) (rest := []) F1 (r_thrown l G mq hR2 (hZs S2 v hz) H.size) gL_law_X4_thrown rfl rfl rfl rfl (by decide +kernel) rfl ⟨Nat.le_of_ble_eq_true rfl, Nat.le_of_ble_eq_true rfl⟩ hP hD (lit := u2) (wt := u.1 ++ [outc G ol u.2]) (wc := u2) (isC := List.range (u2).length) (gRange _) (gRange_nd _) rfl hrf3 rfl hl.1 (Nat.le_of_ble_eq_true rfl) dL_law_799 ⟨by have h9 := hb1.2.2.1; show cells + mc + 0 + 0 ≤ 601024; omega, by have h9 := hb1.2.2.2.1; show slots + ms + 0 + 0 ≤ 7293034; omega⟩) hP hD hS (lit := u2) (wt := u.1 ++ [outc G ol u.2]) (wc := u2) (isC := List.range (u2).length) (wr := []) (isR := []) (gRange _) rfl rfl (fun _ h_ => by cases h_) (fun r3 u3 H locs hp3 hP hD hS => ?_)
  obtain ⟨rfl, hR3⟩ := hp3
  have hP : va_P G.1 vwCl (u3 ++ (u.1 ++ [outc G ol u.2])) H := hP
  have hD : va_D A (u3 ++ (u.1 ++ [outc G ol u.2])) := hD
  refine lv_iload hx hb dL_law_802 (lv_at hl 1 rfl) ?_
  refine gIcmp_eq (a := k) (b := k) (tgt := 809) hx hb dL_law_804 (by decide) (by omega) (by omega) (fun _ => ?_) (fun c9 => absurd rfl c9)
  refine lv_iload hx hb dL_law_809 (lv_at hl 1 rfl) ?_
  have fin : W p l e room_1 s m args below meth c H locs (cells + mc + 0 + 0) (slots + ms + 0 + 0) Q (F0 m 826 ls []) := by
    refine lv_goto (tgt := 2516) hx hb dL_law_826 (by decide) ?_
    refine W.widen (k := cells + 4) (n := slots + 528) (by have h9 := hb1.2.2.1; omega) (by have h9 := hb1.2.2.2.1; omega) ?_
    exact kk H locs ls ⟨u.1, u3, u.2, S2, k, hC2, hR3, hZs S2 v hz, gPperm List.perm_append_comm hP, gDperm List.perm_append_comm hD, hS, lv_sub hl [2, 3, 4, 5, 6] rfl⟩
  refine gIf_ne (a := k) (tgt := 826) hx hb dL_law_811 (by decide) (by omega) (fun _ => fin) (fun c9 => ?_)
  refine lv_aload_n hx hb dL_law_814 rfl (lv_at hl 5 rfl) ?_
  refine lv_iconst (v := nI 0) hx hb dL_law_815 (by decide) ?_
  have hP3 : va_P G.1 vwCl ((u3 ++ u.1) ++ [outc G ol u.2]) H := by rw [List.append_assoc]; exact hP
  refine gLald hx hb hKK.1 hP3 dL_law_816 ?_
  refine lv_iload hx hb dL_law_817 (lv_at hl 0 rfl) ?_
  refine lv_i2l (v := r2.toInt64) hx hb dL_law_819 rfl ?_
  refine W.lcmp hx hb dL_law_820 ?_
  rw [hv c9, hv2 c9, lcmp_self]
  exact lv_if_eq (tgt := 826) hx hb dL_law_821 (by decide) (fun _ => fin) (fun c8 => absurd rfl c8)

set_option maxHeartbeats 4000000 in
set_option maxRecDepth 100000 in
theorem cs_carryOut {p : Program} {l : Launch} {e : Env} {s : State} {m : MethodId} {args : Array Value} {below : List Frame} {meth : Method} {c : Code} {H : Heap} {locs : List Loc} {cells slots : Nat} {Q : State → Prop} {G : gG} {A : Nat → Prop} {b L i lq mq ol : Nat} {xs : Nat → Int32} {ls : Array Slot} (F : lwF p l s m args meth c G A b L xs) (hi : i + 5 ≤ L) (hc : cells + 4 ≤ 601024) (hs : slots + 528 ≤ 7293034) (hI : lwI s G A lq mq ol b i H locs ls)
    (kk : ∀ (H : Heap) (locs : List Loc) (ls : Array Slot), lwI s G A lq mq ol b i H locs ls → W p l e room_1 s m args below meth c H locs (cells + 4) (slots + 528) Q (F0 m 2516 ls [])) : W p l e room_1 s m args below meth c H locs cells slots Q (F0 m 868 ls []) := by
  obtain ⟨F1, hZ, hX, hbl, hbA, hL, hl9⟩ := F
  obtain ⟨wv, vv, f, S, th, hC, hR, hSp, hP, hD, hS, hl⟩ := hI
  have hx := F1.1
  have hb := F1.2.1
  have hKK := F1.2.2.2.2.2.2.2.2.1
  obtain ⟨k, Z, hk3, hZs, ⟨rm, mc, ms, hb1, hw⟩, rm2, hb2, hm⟩ := P_carryOut l G lq ol mq (f := f) hl9  hC hR hSp
  refine lv_aload_n hx hb dL_law_868 rfl (lv_at hl 1 rfl) ?_
  refine lv_aload_n hx hb dL_law_869 rfl (lv_at hl 3 rfl) ?_
  refine gCi F1 (gRunSW (own := RL) (bytes := cL_carryOut) (n := 2) (As := .ref lq :: ([] ++ [.ref ol])) (rest := []) F1 hZ hS (hw H.size) gL_law_L_carryOut rfl rfl hb1.1 hb1.2.1 (by decide +kernel) rfl ⟨by have h9 := hb1.2.2.2.2.1; show rm.frames + 1 ≤ 11; omega, by have h9 := hb1.2.2.2.2.2; show 8 + (3 + 11) + rm.locals ≤ 404; omega⟩ hP hD (lit := wv ++ [outc G ol f]) (wt := vv) (wc := wv ++ [outc G ol f]) (isC := List.range (wv ++ [outc G ol f]).length) (gRange _) (gRange_nd _) rfl hl.1 (Nat.le_of_ble_eq_true rfl) dL_law_870 ⟨by have h9 := hb1.2.2.1; show cells + mc ≤ 601024; omega, by have h9 := hb1.2.2.2.1; show slots + ms ≤ 7293034; omega⟩) hP hD hS (lit := wv ++ [outc G ol f]) (wt := vv) (wc := wv ++ [outc G ol f]) (isC := List.range (wv ++ [outc G ol f]).length) (wr := []) (isR := []) (gRange _) rfl rfl (fun _ h_ => by cases h_) (fun r u H locs hp hP hD hS => ?_)
  obtain ⟨rfl, S2, v, hz, hC2, hv⟩ := hp
  have hP : va_P G.1 vwCl ((u.1 ++ [outc G ol u.2]) ++ vv) H := hP
  have hD : va_D A ((u.1 ++ [outc G ol u.2]) ++ vv) := hD
  refine lv_istore (lv' := [(5, .int (nI k)), (0, .ref b), (1, .ref lq), (2, .ref mq), (3, .ref ol), (4, .int (nI i))]) hx hb dL_law_873 hl (by decide) rfl (fun ls hl => ?_)
  have hP := gPperm List.perm_append_comm hP
  have hD := gDperm List.perm_append_comm hD
  obtain ⟨fs2, hrf⟩ := rf_recv hR
  refine lv_aload_n hx hb dL_law_875 rfl (lv_at hl 3 rfl) ?_
  refine gCi F1 (gRunV (own := RL) (C := RX4) (ci := 4) (bytes := cX4_carryOut) (n := 0) (As := []) (rest := []) F1 (hm H.size) gL_law_X4_carryOut rfl rfl hb2.1 hb2.2.1 (by decide +kernel) rfl ⟨by have h9 := hb2.2.2.2.2.1; show rm2.frames + 1 ≤ 11; omega, by have h9 := hb2.2.2.2.2.2; show 8 + (2 + 11) + rm2.locals ≤ 404; omega⟩ hP hD (lit := vv) (wt := u.1 ++ [outc G ol u.2]) (wc := vv) (isC := List.range (vv).length) (gRange _) (gRange_nd _) rfl hrf rfl hl.1 (Nat.le_of_ble_eq_true rfl) dL_law_876 ⟨by have h9 := hb1.2.2.1; show cells + mc + 0 ≤ 601024; omega, by have h9 := hb1.2.2.2.1; show slots + ms + 0 ≤ 7293034; omega⟩) hP hD hS (lit := vv) (wt := u.1 ++ [outc G ol u.2]) (wc := vv) (isC := List.range (vv).length) (wr := []) (isR := []) (gRange _) rfl rfl (fun _ h_ => by cases h_) (fun r2 u2 H locs hp2 hP hD hS => ?_)
  obtain ⟨hR2, hv2⟩ := hp2 S2 v hz
  have hP : va_P G.1 vwCl (u2 ++ (u.1 ++ [outc G ol u.2])) H := hP
  have hD : va_D A (u2 ++ (u.1 ++ [outc G ol u.2])) := hD
  refine lv_istore (lv' := [(6, .int r2), (5, .int (nI k)), (0, .ref b), (1, .ref lq), (2, .ref mq), (3, .ref ol), (4, .int (nI i))]) hx hb dL_law_879 hl (by decide) rfl (fun ls hl => ?_)
  refine lv_aload_n hx hb dL_law_881 rfl (lv_at hl 4 rfl) ?_
  obtain ⟨fs3, hrf3⟩ := rf_recv hR2
  refine gCi F1 (gRunV (own := RL) (C := RX4) (ci := 4) (bytes := cX4_thrown) (n := 0) (As := []) (rest := []) F1 (r_thrown l G mq hR2 (hZs S2 v hz) H.size) gL_law_X4_thrown rfl rfl rfl rfl (by decide +kernel) rfl ⟨Nat.le_of_ble_eq_true rfl, Nat.le_of_ble_eq_true rfl⟩ hP hD (lit := u2) (wt := u.1 ++ [outc G ol u.2]) (wc := u2) (isC := List.range (u2).length) (gRange _) (gRange_nd _) rfl hrf3 rfl hl.1 (Nat.le_of_ble_eq_true rfl) dL_law_882 ⟨by have h9 := hb1.2.2.1; show cells + mc + 0 + 0 ≤ 601024; omega, by have h9 := hb1.2.2.2.1; show slots + ms + 0 + 0 ≤ 7293034; omega⟩) hP hD hS (lit := u2) (wt := u.1 ++ [outc G ol u.2]) (wc := u2) (isC := List.range (u2).length) (wr := []) (isR := []) (gRange _) rfl rfl (fun _ h_ => by cases h_) (fun r3 u3 H locs hp3 hP hD hS => ?_)
  obtain ⟨rfl, hR3⟩ := hp3
  have hP : va_P G.1 vwCl (u3 ++ (u.1 ++ [outc G ol u.2])) H := hP
  have hD : va_D A (u3 ++ (u.1 ++ [outc G ol u.2])) := hD
  refine lv_iload hx hb dL_law_885 (lv_at hl 1 rfl) ?_
  refine gIcmp_eq (a := k) (b := k) (tgt := 892) hx hb dL_law_887 (by decide) (by omega) (by omega) (fun _ => ?_) (fun c9 => absurd rfl c9)
  refine lv_iload hx hb dL_law_892 (lv_at hl 1 rfl) ?_
  have fin : W p l e room_1 s m args below meth c H locs (cells + mc + 0 + 0) (slots + ms + 0 + 0) Q (F0 m 909 ls []) := by
    refine lv_goto (tgt := 2516) hx hb dL_law_909 (by decide) ?_
    refine W.widen (k := cells + 4) (n := slots + 528) (by have h9 := hb1.2.2.1; omega) (by have h9 := hb1.2.2.2.1; omega) ?_
    exact kk H locs ls ⟨u.1, u3, u.2, S2, k, hC2, hR3, hZs S2 v hz, gPperm List.perm_append_comm hP, gDperm List.perm_append_comm hD, hS, lv_sub hl [2, 3, 4, 5, 6] rfl⟩
  refine gIf_ne (a := k) (tgt := 909) hx hb dL_law_894 (by decide) (by omega) (fun _ => fin) (fun c9 => ?_)
  refine lv_aload_n hx hb dL_law_897 rfl (lv_at hl 5 rfl) ?_
  refine lv_iconst (v := nI 0) hx hb dL_law_898 (by decide) ?_
  have hP3 : va_P G.1 vwCl ((u3 ++ u.1) ++ [outc G ol u.2]) H := by rw [List.append_assoc]; exact hP
  refine gLald hx hb hKK.1 hP3 dL_law_899 ?_
  refine lv_iload hx hb dL_law_900 (lv_at hl 0 rfl) ?_
  refine lv_i2l (v := r2.toInt64) hx hb dL_law_902 rfl ?_
  refine W.lcmp hx hb dL_law_903 ?_
  rw [hv c9, hv2 c9, lcmp_self]
  exact lv_if_eq (tgt := 909) hx hb dL_law_904 (by decide) (fun _ => fin) (fun c8 => absurd rfl c8)

set_option maxHeartbeats 4000000 in
set_option maxRecDepth 100000 in
theorem cs_undo {p : Program} {l : Launch} {e : Env} {s : State} {m : MethodId} {args : Array Value} {below : List Frame} {meth : Method} {c : Code} {H : Heap} {locs : List Loc} {cells slots : Nat} {Q : State → Prop} {G : gG} {A : Nat → Prop} {b L i lq mq ol : Nat} {xs : Nat → Int32} {ls : Array Slot} (F : lwF p l s m args meth c G A b L xs) (hi : i + 5 ≤ L) (hc : cells + 4 ≤ 601024) (hs : slots + 528 ≤ 7293034) (hI : lwI s G A lq mq ol b i H locs ls)
    (kk : ∀ (H : Heap) (locs : List Loc) (ls : Array Slot), lwI s G A lq mq ol b i H locs ls → W p l e room_1 s m args below meth c H locs (cells + 4) (slots + 528) Q (F0 m 2516 ls [])) : W p l e room_1 s m args below meth c H locs cells slots Q (F0 m 912 ls []) := by
  obtain ⟨F1, hZ, hX, hbl, hbA, hL, hl9⟩ := F
  obtain ⟨wv, vv, f, S, th, hC, hR, hSp, hP, hD, hS, hl⟩ := hI
  have hx := F1.1
  have hb := F1.2.1
  have hKK := F1.2.2.2.2.2.2.2.2.1
  obtain ⟨k, Z, hk3, hZs, ⟨rm, mc, ms, hb1, hw⟩, rm2, hb2, hm⟩ := P_undo l G lq ol mq (f := f) hl9  hC hR hSp
  refine lv_aload_n hx hb dL_law_912 rfl (lv_at hl 1 rfl) ?_
  refine lv_aload_n hx hb dL_law_913 rfl (lv_at hl 3 rfl) ?_
  refine gCi F1 (gRunSW (own := RL) (bytes := cL_undo) (n := 2) (As := .ref lq :: ([] ++ [.ref ol])) (rest := []) F1 hZ hS (hw H.size) gL_law_L_undo rfl rfl hb1.1 hb1.2.1 (by decide +kernel) rfl ⟨by have h9 := hb1.2.2.2.2.1; show rm.frames + 1 ≤ 11; omega, by have h9 := hb1.2.2.2.2.2; show 8 + (3 + 11) + rm.locals ≤ 404; omega⟩ hP hD (lit := wv ++ [outc G ol f]) (wt := vv) (wc := wv ++ [outc G ol f]) (isC := List.range (wv ++ [outc G ol f]).length) (gRange _) (gRange_nd _) rfl hl.1 (Nat.le_of_ble_eq_true rfl) dL_law_914 ⟨by have h9 := hb1.2.2.1; show cells + mc ≤ 601024; omega, by have h9 := hb1.2.2.2.1; show slots + ms ≤ 7293034; omega⟩) hP hD hS (lit := wv ++ [outc G ol f]) (wt := vv) (wc := wv ++ [outc G ol f]) (isC := List.range (wv ++ [outc G ol f]).length) (wr := []) (isR := []) (gRange _) rfl rfl (fun _ h_ => by cases h_) (fun r u H locs hp hP hD hS => ?_)
  obtain ⟨rfl, S2, v, hz, hC2, hv⟩ := hp
  have hP : va_P G.1 vwCl ((u.1 ++ [outc G ol u.2]) ++ vv) H := hP
  have hD : va_D A ((u.1 ++ [outc G ol u.2]) ++ vv) := hD
  refine lv_istore (lv' := [(5, .int (nI k)), (0, .ref b), (1, .ref lq), (2, .ref mq), (3, .ref ol), (4, .int (nI i))]) hx hb dL_law_917 hl (by decide) rfl (fun ls hl => ?_)
  have hP := gPperm List.perm_append_comm hP
  have hD := gDperm List.perm_append_comm hD
  obtain ⟨fs2, hrf⟩ := rf_recv hR
  refine lv_aload_n hx hb dL_law_919 rfl (lv_at hl 3 rfl) ?_
  refine gCi F1 (gRunV (own := RL) (C := RX4) (ci := 4) (bytes := cX4_undo) (n := 0) (As := []) (rest := []) F1 (hm H.size) gL_law_X4_undo rfl rfl hb2.1 hb2.2.1 (by decide +kernel) rfl ⟨by have h9 := hb2.2.2.2.2.1; show rm2.frames + 1 ≤ 11; omega, by have h9 := hb2.2.2.2.2.2; show 8 + (1 + 11) + rm2.locals ≤ 404; omega⟩ hP hD (lit := vv) (wt := u.1 ++ [outc G ol u.2]) (wc := vv) (isC := List.range (vv).length) (gRange _) (gRange_nd _) rfl hrf rfl hl.1 (Nat.le_of_ble_eq_true rfl) dL_law_920 ⟨by have h9 := hb1.2.2.1; show cells + mc + 0 ≤ 601024; omega, by have h9 := hb1.2.2.2.1; show slots + ms + 0 ≤ 7293034; omega⟩) hP hD hS (lit := vv) (wt := u.1 ++ [outc G ol u.2]) (wc := vv) (isC := List.range (vv).length) (wr := []) (isR := []) (gRange _) rfl rfl (fun _ h_ => by cases h_) (fun r2 u2 H locs hp2 hP hD hS => ?_)
  obtain ⟨hR2, hv2⟩ := hp2 S2 v hz
  have hP : va_P G.1 vwCl (u2 ++ (u.1 ++ [outc G ol u.2])) H := hP
  have hD : va_D A (u2 ++ (u.1 ++ [outc G ol u.2])) := hD
  refine lv_istore (lv' := [(6, .int r2), (5, .int (nI k)), (0, .ref b), (1, .ref lq), (2, .ref mq), (3, .ref ol), (4, .int (nI i))]) hx hb dL_law_923 hl (by decide) rfl (fun ls hl => ?_)
  refine lv_aload_n hx hb dL_law_925 rfl (lv_at hl 4 rfl) ?_
  obtain ⟨fs3, hrf3⟩ := rf_recv hR2
  refine gCi F1 (gRunV (own := RL) (C := RX4) (ci := 4) (bytes := cX4_thrown) (n := 0) (As := []) (rest := []) F1 (r_thrown l G mq hR2 (hZs S2 v hz) H.size) gL_law_X4_thrown rfl rfl rfl rfl (by decide +kernel) rfl ⟨Nat.le_of_ble_eq_true rfl, Nat.le_of_ble_eq_true rfl⟩ hP hD (lit := u2) (wt := u.1 ++ [outc G ol u.2]) (wc := u2) (isC := List.range (u2).length) (gRange _) (gRange_nd _) rfl hrf3 rfl hl.1 (Nat.le_of_ble_eq_true rfl) dL_law_926 ⟨by have h9 := hb1.2.2.1; show cells + mc + 0 + 0 ≤ 601024; omega, by have h9 := hb1.2.2.2.1; show slots + ms + 0 + 0 ≤ 7293034; omega⟩) hP hD hS (lit := u2) (wt := u.1 ++ [outc G ol u.2]) (wc := u2) (isC := List.range (u2).length) (wr := []) (isR := []) (gRange _) rfl rfl (fun _ h_ => by cases h_) (fun r3 u3 H locs hp3 hP hD hS => ?_)
  obtain ⟨rfl, hR3⟩ := hp3
  have hP : va_P G.1 vwCl (u3 ++ (u.1 ++ [outc G ol u.2])) H := hP
  have hD : va_D A (u3 ++ (u.1 ++ [outc G ol u.2])) := hD
  refine lv_iload hx hb dL_law_929 (lv_at hl 1 rfl) ?_
  refine gIcmp_eq (a := k) (b := k) (tgt := 936) hx hb dL_law_931 (by decide) (by omega) (by omega) (fun _ => ?_) (fun c9 => absurd rfl c9)
  refine lv_iload hx hb dL_law_936 (lv_at hl 1 rfl) ?_
  have fin : W p l e room_1 s m args below meth c H locs (cells + mc + 0 + 0) (slots + ms + 0 + 0) Q (F0 m 953 ls []) := by
    refine lv_goto (tgt := 2516) hx hb dL_law_953 (by decide) ?_
    refine W.widen (k := cells + 4) (n := slots + 528) (by have h9 := hb1.2.2.1; omega) (by have h9 := hb1.2.2.2.1; omega) ?_
    exact kk H locs ls ⟨u.1, u3, u.2, S2, k, hC2, hR3, hZs S2 v hz, gPperm List.perm_append_comm hP, gDperm List.perm_append_comm hD, hS, lv_sub hl [2, 3, 4, 5, 6] rfl⟩
  refine gIf_ne (a := k) (tgt := 953) hx hb dL_law_938 (by decide) (by omega) (fun _ => fin) (fun c9 => ?_)
  refine lv_aload_n hx hb dL_law_941 rfl (lv_at hl 5 rfl) ?_
  refine lv_iconst (v := nI 0) hx hb dL_law_942 (by decide) ?_
  have hP3 : va_P G.1 vwCl ((u3 ++ u.1) ++ [outc G ol u.2]) H := by rw [List.append_assoc]; exact hP
  refine gLald hx hb hKK.1 hP3 dL_law_943 ?_
  refine lv_iload hx hb dL_law_944 (lv_at hl 0 rfl) ?_
  refine lv_i2l (v := r2.toInt64) hx hb dL_law_946 rfl ?_
  refine W.lcmp hx hb dL_law_947 ?_
  rw [hv c9, hv2 c9, lcmp_self]
  exact lv_if_eq (tgt := 953) hx hb dL_law_948 (by decide) (fun _ => fin) (fun c8 => absurd rfl c8)

set_option maxHeartbeats 4000000 in
set_option maxRecDepth 100000 in
theorem cs_keep {p : Program} {l : Launch} {e : Env} {s : State} {m : MethodId} {args : Array Value} {below : List Frame} {meth : Method} {c : Code} {H : Heap} {locs : List Loc} {cells slots : Nat} {Q : State → Prop} {G : gG} {A : Nat → Prop} {b L i lq mq ol : Nat} {xs : Nat → Int32} {ls : Array Slot} (F : lwF p l s m args meth c G A b L xs) (hi : i + 5 ≤ L) (hc : cells + 4 ≤ 601024) (hs : slots + 528 ≤ 7293034) (hI : lwI s G A lq mq ol b i H locs ls)
    (kk : ∀ (H : Heap) (locs : List Loc) (ls : Array Slot), lwI s G A lq mq ol b i H locs ls → W p l e room_1 s m args below meth c H locs (cells + 4) (slots + 528) Q (F0 m 2516 ls [])) : W p l e room_1 s m args below meth c H locs cells slots Q (F0 m 969 ls []) := by
  obtain ⟨F1, hZ, hX, hbl, hbA, hL, hl9⟩ := F
  obtain ⟨wv, vv, f, S, th, hC, hR, hSp, hP, hD, hS, hl⟩ := hI
  have hx := F1.1
  have hb := F1.2.1
  have hKK := F1.2.2.2.2.2.2.2.2.1
  obtain ⟨k, Z, hk3, hZs, ⟨rm, mc, ms, hb1, hw⟩, rm2, hb2, hm⟩ := P_keep l G lq ol mq (f := f) hl9 (xs (i + 1)) hC hR hSp
  refine lv_aload_n hx hb dL_law_969 rfl (lv_at hl 1 rfl) ?_
  refine lv_aload_n hx hb dL_law_970 rfl (lv_at hl 0 rfl) ?_
  refine lv_iload hx hb dL_law_971 (lv_at hl 4 rfl) ?_
  refine lv_iconst (v := nI 1) hx hb dL_law_973 (by decide) ?_
  refine gIadd (a := i) (b := 1) hx hb dL_law_974 ?_
  refine gSld hx hb hX hbl hbA hS (i + 1) (by omega) (by omega) dL_law_975 ?_
  refine lv_aload_n hx hb dL_law_976 rfl (lv_at hl 3 rfl) ?_
  refine gCi F1 (gRunSW (own := RL) (bytes := cL_keep) (n := 3) (As := .ref lq :: ([.int (xs (i + 1))] ++ [.ref ol])) (rest := []) F1 hZ hS (hw H.size) gL_law_L_keep rfl rfl hb1.1 hb1.2.1 (by decide +kernel) rfl ⟨by have h9 := hb1.2.2.2.2.1; show rm.frames + 1 ≤ 11; omega, by have h9 := hb1.2.2.2.2.2; show 8 + (4 + 11) + rm.locals ≤ 404; omega⟩ hP hD (lit := wv ++ [outc G ol f]) (wt := vv) (wc := wv ++ [outc G ol f]) (isC := List.range (wv ++ [outc G ol f]).length) (gRange _) (gRange_nd _) rfl hl.1 (Nat.le_of_ble_eq_true rfl) dL_law_977 ⟨by have h9 := hb1.2.2.1; show cells + mc ≤ 601024; omega, by have h9 := hb1.2.2.2.1; show slots + ms ≤ 7293034; omega⟩) hP hD hS (lit := wv ++ [outc G ol f]) (wt := vv) (wc := wv ++ [outc G ol f]) (isC := List.range (wv ++ [outc G ol f]).length) (wr := []) (isR := []) (gRange _) rfl rfl (fun _ h_ => by cases h_) (fun r u H locs hp hP hD hS => ?_)
  obtain ⟨rfl, S2, v, hz, hC2, hv⟩ := hp
  have hP : va_P G.1 vwCl ((u.1 ++ [outc G ol u.2]) ++ vv) H := hP
  have hD : va_D A ((u.1 ++ [outc G ol u.2]) ++ vv) := hD
  refine lv_istore (lv' := [(5, .int (nI k)), (0, .ref b), (1, .ref lq), (2, .ref mq), (3, .ref ol), (4, .int (nI i))]) hx hb dL_law_980 hl (by decide) rfl (fun ls hl => ?_)
  have hP := gPperm List.perm_append_comm hP
  have hD := gDperm List.perm_append_comm hD
  obtain ⟨fs2, hrf⟩ := rf_recv hR
  refine lv_aload_n hx hb dL_law_982 rfl (lv_at hl 3 rfl) ?_
  refine lv_aload_n hx hb dL_law_983 rfl (lv_at hl 1 rfl) ?_
  refine lv_iload hx hb dL_law_984 (lv_at hl 5 rfl) ?_
  refine lv_iconst (v := nI 1) hx hb dL_law_986 (by decide) ?_
  refine gIadd (a := i) (b := 1) hx hb dL_law_987 ?_
  refine gSld hx hb hX hbl hbA hS (i + 1) (by omega) (by omega) dL_law_988 ?_
  refine gCi F1 (gRunV (own := RL) (C := RX4) (ci := 4) (bytes := cX4_keep) (n := 1) (As := [.int (xs (i + 1))]) (rest := []) F1 (hm H.size) gL_law_X4_keep rfl rfl hb2.1 hb2.2.1 (by decide +kernel) rfl ⟨by have h9 := hb2.2.2.2.2.1; show rm2.frames + 1 ≤ 11; omega, by have h9 := hb2.2.2.2.2.2; show 8 + (2 + 11) + rm2.locals ≤ 404; omega⟩ hP hD (lit := vv) (wt := u.1 ++ [outc G ol u.2]) (wc := vv) (isC := List.range (vv).length) (gRange _) (gRange_nd _) rfl hrf rfl hl.1 (Nat.le_of_ble_eq_true rfl) dL_law_989 ⟨by have h9 := hb1.2.2.1; show cells + mc + 0 ≤ 601024; omega, by have h9 := hb1.2.2.2.1; show slots + ms + 0 ≤ 7293034; omega⟩) hP hD hS (lit := vv) (wt := u.1 ++ [outc G ol u.2]) (wc := vv) (isC := List.range (vv).length) (wr := []) (isR := []) (gRange _) rfl rfl (fun _ h_ => by cases h_) (fun r2 u2 H locs hp2 hP hD hS => ?_)
  obtain ⟨hR2, hv2⟩ := hp2 S2 v hz
  have hP : va_P G.1 vwCl (u2 ++ (u.1 ++ [outc G ol u.2])) H := hP
  have hD : va_D A (u2 ++ (u.1 ++ [outc G ol u.2])) := hD
  refine lv_istore (lv' := [(6, .int r2), (5, .int (nI k)), (0, .ref b), (1, .ref lq), (2, .ref mq), (3, .ref ol), (4, .int (nI i))]) hx hb dL_law_992 hl (by decide) rfl (fun ls hl => ?_)
  refine lv_aload_n hx hb dL_law_994 rfl (lv_at hl 4 rfl) ?_
  obtain ⟨fs3, hrf3⟩ := rf_recv hR2
  refine gCi F1 (gRunV (own := RL) (C := RX4) (ci := 4) (bytes := cX4_thrown) (n := 0) (As := []) (rest := []) F1 (r_thrown l G mq hR2 (hZs S2 v hz) H.size) gL_law_X4_thrown rfl rfl rfl rfl (by decide +kernel) rfl ⟨Nat.le_of_ble_eq_true rfl, Nat.le_of_ble_eq_true rfl⟩ hP hD (lit := u2) (wt := u.1 ++ [outc G ol u.2]) (wc := u2) (isC := List.range (u2).length) (gRange _) (gRange_nd _) rfl hrf3 rfl hl.1 (Nat.le_of_ble_eq_true rfl) dL_law_995 ⟨by have h9 := hb1.2.2.1; show cells + mc + 0 + 0 ≤ 601024; omega, by have h9 := hb1.2.2.2.1; show slots + ms + 0 + 0 ≤ 7293034; omega⟩) hP hD hS (lit := u2) (wt := u.1 ++ [outc G ol u.2]) (wc := u2) (isC := List.range (u2).length) (wr := []) (isR := []) (gRange _) rfl rfl (fun _ h_ => by cases h_) (fun r3 u3 H locs hp3 hP hD hS => ?_)
  obtain ⟨rfl, hR3⟩ := hp3
  have hP : va_P G.1 vwCl (u3 ++ (u.1 ++ [outc G ol u.2])) H := hP
  have hD : va_D A (u3 ++ (u.1 ++ [outc G ol u.2])) := hD
  refine lv_iload hx hb dL_law_998 (lv_at hl 1 rfl) ?_
  refine gIcmp_eq (a := k) (b := k) (tgt := 1005) hx hb dL_law_1000 (by decide) (by omega) (by omega) (fun _ => ?_) (fun c9 => absurd rfl c9)
  refine lv_iload hx hb dL_law_1005 (lv_at hl 1 rfl) ?_
  have fin : W p l e room_1 s m args below meth c H locs (cells + mc + 0 + 0) (slots + ms + 0 + 0) Q (F0 m 1022 ls []) := by
    refine lv_goto (tgt := 2516) hx hb dL_law_1022 (by decide) ?_
    refine W.widen (k := cells + 4) (n := slots + 528) (by have h9 := hb1.2.2.1; omega) (by have h9 := hb1.2.2.2.1; omega) ?_
    exact kk H locs ls ⟨u.1, u3, u.2, S2, k, hC2, hR3, hZs S2 v hz, gPperm List.perm_append_comm hP, gDperm List.perm_append_comm hD, hS, lv_sub hl [2, 3, 4, 5, 6] rfl⟩
  refine gIf_ne (a := k) (tgt := 1022) hx hb dL_law_1007 (by decide) (by omega) (fun _ => fin) (fun c9 => ?_)
  refine lv_aload_n hx hb dL_law_1010 rfl (lv_at hl 5 rfl) ?_
  refine lv_iconst (v := nI 0) hx hb dL_law_1011 (by decide) ?_
  have hP3 : va_P G.1 vwCl ((u3 ++ u.1) ++ [outc G ol u.2]) H := by rw [List.append_assoc]; exact hP
  refine gLald hx hb hKK.1 hP3 dL_law_1012 ?_
  refine lv_iload hx hb dL_law_1013 (lv_at hl 0 rfl) ?_
  refine lv_i2l (v := r2.toInt64) hx hb dL_law_1015 rfl ?_
  refine W.lcmp hx hb dL_law_1016 ?_
  rw [hv c9, hv2 c9, lcmp_self]
  exact lv_if_eq (tgt := 1022) hx hb dL_law_1017 (by decide) (fun _ => fin) (fun c8 => absurd rfl c8)

set_option maxHeartbeats 4000000 in
set_option maxRecDepth 100000 in
theorem cs_goBack {p : Program} {l : Launch} {e : Env} {s : State} {m : MethodId} {args : Array Value} {below : List Frame} {meth : Method} {c : Code} {H : Heap} {locs : List Loc} {cells slots : Nat} {Q : State → Prop} {G : gG} {A : Nat → Prop} {b L i lq mq ol : Nat} {xs : Nat → Int32} {ls : Array Slot} (F : lwF p l s m args meth c G A b L xs) (hi : i + 5 ≤ L) (hc : cells + 4 ≤ 601024) (hs : slots + 528 ≤ 7293034) (hI : lwI s G A lq mq ol b i H locs ls)
    (kk : ∀ (H : Heap) (locs : List Loc) (ls : Array Slot), lwI s G A lq mq ol b i H locs ls → W p l e room_1 s m args below meth c H locs (cells + 4) (slots + 528) Q (F0 m 2516 ls [])) : W p l e room_1 s m args below meth c H locs cells slots Q (F0 m 1025 ls []) := by
  obtain ⟨F1, hZ, hX, hbl, hbA, hL, hl9⟩ := F
  obtain ⟨wv, vv, f, S, th, hC, hR, hSp, hP, hD, hS, hl⟩ := hI
  have hx := F1.1
  have hb := F1.2.1
  have hKK := F1.2.2.2.2.2.2.2.2.1
  obtain ⟨k, Z, hk3, hZs, ⟨rm, mc, ms, hb1, hw⟩, rm2, hb2, hm⟩ := P_goBack l G lq ol mq (f := f) hl9 (xs (i + 1)) hC hR hSp
  refine lv_aload_n hx hb dL_law_1025 rfl (lv_at hl 1 rfl) ?_
  refine lv_aload_n hx hb dL_law_1026 rfl (lv_at hl 0 rfl) ?_
  refine lv_iload hx hb dL_law_1027 (lv_at hl 4 rfl) ?_
  refine lv_iconst (v := nI 1) hx hb dL_law_1029 (by decide) ?_
  refine gIadd (a := i) (b := 1) hx hb dL_law_1030 ?_
  refine gSld hx hb hX hbl hbA hS (i + 1) (by omega) (by omega) dL_law_1031 ?_
  refine lv_aload_n hx hb dL_law_1032 rfl (lv_at hl 3 rfl) ?_
  refine gCi F1 (gRunSW (own := RL) (bytes := cL_goBack) (n := 3) (As := .ref lq :: ([.int (xs (i + 1))] ++ [.ref ol])) (rest := []) F1 hZ hS (hw H.size) gL_law_L_goBack rfl rfl hb1.1 hb1.2.1 (by decide +kernel) rfl ⟨by have h9 := hb1.2.2.2.2.1; show rm.frames + 1 ≤ 11; omega, by have h9 := hb1.2.2.2.2.2; show 8 + (4 + 11) + rm.locals ≤ 404; omega⟩ hP hD (lit := wv ++ [outc G ol f]) (wt := vv) (wc := wv ++ [outc G ol f]) (isC := List.range (wv ++ [outc G ol f]).length) (gRange _) (gRange_nd _) rfl hl.1 (Nat.le_of_ble_eq_true rfl) dL_law_1033 ⟨by have h9 := hb1.2.2.1; show cells + mc ≤ 601024; omega, by have h9 := hb1.2.2.2.1; show slots + ms ≤ 7293034; omega⟩) hP hD hS (lit := wv ++ [outc G ol f]) (wt := vv) (wc := wv ++ [outc G ol f]) (isC := List.range (wv ++ [outc G ol f]).length) (wr := []) (isR := []) (gRange _) rfl rfl (fun _ h_ => by cases h_) (fun r u H locs hp hP hD hS => ?_)
  obtain ⟨rfl, S2, v, hz, hC2, hv⟩ := hp
  have hP : va_P G.1 vwCl ((u.1 ++ [outc G ol u.2]) ++ vv) H := hP
  have hD : va_D A ((u.1 ++ [outc G ol u.2]) ++ vv) := hD
  refine lv_istore (lv' := [(5, .int (nI k)), (0, .ref b), (1, .ref lq), (2, .ref mq), (3, .ref ol), (4, .int (nI i))]) hx hb dL_law_1036 hl (by decide) rfl (fun ls hl => ?_)
  have hP := gPperm List.perm_append_comm hP
  have hD := gDperm List.perm_append_comm hD
  obtain ⟨fs2, hrf⟩ := rf_recv hR
  refine lv_aload_n hx hb dL_law_1038 rfl (lv_at hl 3 rfl) ?_
  refine lv_aload_n hx hb dL_law_1039 rfl (lv_at hl 1 rfl) ?_
  refine lv_iload hx hb dL_law_1040 (lv_at hl 5 rfl) ?_
  refine lv_iconst (v := nI 1) hx hb dL_law_1042 (by decide) ?_
  refine gIadd (a := i) (b := 1) hx hb dL_law_1043 ?_
  refine gSld hx hb hX hbl hbA hS (i + 1) (by omega) (by omega) dL_law_1044 ?_
  refine gCi F1 (gRunV (own := RL) (C := RX4) (ci := 4) (bytes := cX4_goBack) (n := 1) (As := [.int (xs (i + 1))]) (rest := []) F1 (hm H.size) gL_law_X4_goBack rfl rfl hb2.1 hb2.2.1 (by decide +kernel) rfl ⟨by have h9 := hb2.2.2.2.2.1; show rm2.frames + 1 ≤ 11; omega, by have h9 := hb2.2.2.2.2.2; show 8 + (2 + 11) + rm2.locals ≤ 404; omega⟩ hP hD (lit := vv) (wt := u.1 ++ [outc G ol u.2]) (wc := vv) (isC := List.range (vv).length) (gRange _) (gRange_nd _) rfl hrf rfl hl.1 (Nat.le_of_ble_eq_true rfl) dL_law_1045 ⟨by have h9 := hb1.2.2.1; show cells + mc + 0 ≤ 601024; omega, by have h9 := hb1.2.2.2.1; show slots + ms + 0 ≤ 7293034; omega⟩) hP hD hS (lit := vv) (wt := u.1 ++ [outc G ol u.2]) (wc := vv) (isC := List.range (vv).length) (wr := []) (isR := []) (gRange _) rfl rfl (fun _ h_ => by cases h_) (fun r2 u2 H locs hp2 hP hD hS => ?_)
  obtain ⟨hR2, hv2⟩ := hp2 S2 v hz
  have hP : va_P G.1 vwCl (u2 ++ (u.1 ++ [outc G ol u.2])) H := hP
  have hD : va_D A (u2 ++ (u.1 ++ [outc G ol u.2])) := hD
  refine lv_istore (lv' := [(6, .int r2), (5, .int (nI k)), (0, .ref b), (1, .ref lq), (2, .ref mq), (3, .ref ol), (4, .int (nI i))]) hx hb dL_law_1048 hl (by decide) rfl (fun ls hl => ?_)
  refine lv_aload_n hx hb dL_law_1050 rfl (lv_at hl 4 rfl) ?_
  obtain ⟨fs3, hrf3⟩ := rf_recv hR2
  refine gCi F1 (gRunV (own := RL) (C := RX4) (ci := 4) (bytes := cX4_thrown) (n := 0) (As := []) (rest := []) F1 (r_thrown l G mq hR2 (hZs S2 v hz) H.size) gL_law_X4_thrown rfl rfl rfl rfl (by decide +kernel) rfl ⟨Nat.le_of_ble_eq_true rfl, Nat.le_of_ble_eq_true rfl⟩ hP hD (lit := u2) (wt := u.1 ++ [outc G ol u.2]) (wc := u2) (isC := List.range (u2).length) (gRange _) (gRange_nd _) rfl hrf3 rfl hl.1 (Nat.le_of_ble_eq_true rfl) dL_law_1051 ⟨by have h9 := hb1.2.2.1; show cells + mc + 0 + 0 ≤ 601024; omega, by have h9 := hb1.2.2.2.1; show slots + ms + 0 + 0 ≤ 7293034; omega⟩) hP hD hS (lit := u2) (wt := u.1 ++ [outc G ol u.2]) (wc := u2) (isC := List.range (u2).length) (wr := []) (isR := []) (gRange _) rfl rfl (fun _ h_ => by cases h_) (fun r3 u3 H locs hp3 hP hD hS => ?_)
  obtain ⟨rfl, hR3⟩ := hp3
  have hP : va_P G.1 vwCl (u3 ++ (u.1 ++ [outc G ol u.2])) H := hP
  have hD : va_D A (u3 ++ (u.1 ++ [outc G ol u.2])) := hD
  refine lv_iload hx hb dL_law_1054 (lv_at hl 1 rfl) ?_
  refine gIcmp_eq (a := k) (b := k) (tgt := 1061) hx hb dL_law_1056 (by decide) (by omega) (by omega) (fun _ => ?_) (fun c9 => absurd rfl c9)
  refine lv_iload hx hb dL_law_1061 (lv_at hl 1 rfl) ?_
  have fin : W p l e room_1 s m args below meth c H locs (cells + mc + 0 + 0) (slots + ms + 0 + 0) Q (F0 m 1078 ls []) := by
    refine lv_goto (tgt := 2516) hx hb dL_law_1078 (by decide) ?_
    refine W.widen (k := cells + 4) (n := slots + 528) (by have h9 := hb1.2.2.1; omega) (by have h9 := hb1.2.2.2.1; omega) ?_
    exact kk H locs ls ⟨u.1, u3, u.2, S2, k, hC2, hR3, hZs S2 v hz, gPperm List.perm_append_comm hP, gDperm List.perm_append_comm hD, hS, lv_sub hl [2, 3, 4, 5, 6] rfl⟩
  refine gIf_ne (a := k) (tgt := 1078) hx hb dL_law_1063 (by decide) (by omega) (fun _ => fin) (fun c9 => ?_)
  refine lv_aload_n hx hb dL_law_1066 rfl (lv_at hl 5 rfl) ?_
  refine lv_iconst (v := nI 0) hx hb dL_law_1067 (by decide) ?_
  have hP3 : va_P G.1 vwCl ((u3 ++ u.1) ++ [outc G ol u.2]) H := by rw [List.append_assoc]; exact hP
  refine gLald hx hb hKK.1 hP3 dL_law_1068 ?_
  refine lv_iload hx hb dL_law_1069 (lv_at hl 0 rfl) ?_
  refine lv_i2l (v := r2.toInt64) hx hb dL_law_1071 rfl ?_
  refine W.lcmp hx hb dL_law_1072 ?_
  rw [hv c9, hv2 c9, lcmp_self]
  exact lv_if_eq (tgt := 1078) hx hb dL_law_1073 (by decide) (fun _ => fin) (fun c8 => absurd rfl c8)

set_option maxHeartbeats 4000000 in
set_option maxRecDepth 100000 in
theorem cs_ownerAt {p : Program} {l : Launch} {e : Env} {s : State} {m : MethodId} {args : Array Value} {below : List Frame} {meth : Method} {c : Code} {H : Heap} {locs : List Loc} {cells slots : Nat} {Q : State → Prop} {G : gG} {A : Nat → Prop} {b L i lq mq ol : Nat} {xs : Nat → Int32} {ls : Array Slot} (F : lwF p l s m args meth c G A b L xs) (hi : i + 5 ≤ L) (hc : cells + 4 ≤ 601024) (hs : slots + 528 ≤ 7293034) (hI : lwI s G A lq mq ol b i H locs ls)
    (kk : ∀ (H : Heap) (locs : List Loc) (ls : Array Slot), lwI s G A lq mq ol b i H locs ls → W p l e room_1 s m args below meth c H locs (cells + 4) (slots + 528) Q (F0 m 2516 ls [])) : W p l e room_1 s m args below meth c H locs cells slots Q (F0 m 1081 ls []) := by
  obtain ⟨F1, hZ, hX, hbl, hbA, hL, hl9⟩ := F
  obtain ⟨wv, vv, f, S, th, hC, hR, hSp, hP, hD, hS, hl⟩ := hI
  have hx := F1.1
  have hb := F1.2.1
  have hKK := F1.2.2.2.2.2.2.2.2.1
  obtain ⟨k, Z, hk3, hZs, ⟨rm, mc, ms, hb1, hw⟩, rm2, hb2, hm⟩ := P_ownerAt l G lq ol mq (f := f) hl9 (xs (i + 1)) (xs (i + 2)) hC hR hSp
  refine lv_aload_n hx hb dL_law_1081 rfl (lv_at hl 1 rfl) ?_
  refine lv_aload_n hx hb dL_law_1082 rfl (lv_at hl 0 rfl) ?_
  refine lv_iload hx hb dL_law_1083 (lv_at hl 4 rfl) ?_
  refine lv_iconst (v := nI 1) hx hb dL_law_1085 (by decide) ?_
  refine gIadd (a := i) (b := 1) hx hb dL_law_1086 ?_
  refine gSld hx hb hX hbl hbA hS (i + 1) (by omega) (by omega) dL_law_1087 ?_
  refine lv_aload_n hx hb dL_law_1088 rfl (lv_at hl 0 rfl) ?_
  refine lv_iload hx hb dL_law_1089 (lv_at hl 4 rfl) ?_
  refine lv_iconst (v := nI 2) hx hb dL_law_1091 (by decide) ?_
  refine gIadd (a := i) (b := 2) hx hb dL_law_1092 ?_
  refine gSld hx hb hX hbl hbA hS (i + 2) (by omega) (by omega) dL_law_1093 ?_
  refine lv_aload_n hx hb dL_law_1094 rfl (lv_at hl 3 rfl) ?_
  refine gCi F1 (gRunSW (own := RL) (bytes := cL_ownerAt) (n := 4) (As := .ref lq :: ([.int (xs (i + 1)), .int (xs (i + 2))] ++ [.ref ol])) (rest := []) F1 hZ hS (hw H.size) gL_law_L_ownerAt rfl rfl hb1.1 hb1.2.1 (by decide +kernel) rfl ⟨by have h9 := hb1.2.2.2.2.1; show rm.frames + 1 ≤ 11; omega, by have h9 := hb1.2.2.2.2.2; show 8 + (5 + 11) + rm.locals ≤ 404; omega⟩ hP hD (lit := wv ++ [outc G ol f]) (wt := vv) (wc := wv ++ [outc G ol f]) (isC := List.range (wv ++ [outc G ol f]).length) (gRange _) (gRange_nd _) rfl hl.1 (Nat.le_of_ble_eq_true rfl) dL_law_1095 ⟨by have h9 := hb1.2.2.1; show cells + mc ≤ 601024; omega, by have h9 := hb1.2.2.2.1; show slots + ms ≤ 7293034; omega⟩) hP hD hS (lit := wv ++ [outc G ol f]) (wt := vv) (wc := wv ++ [outc G ol f]) (isC := List.range (wv ++ [outc G ol f]).length) (wr := []) (isR := []) (gRange _) rfl rfl (fun _ h_ => by cases h_) (fun r u H locs hp hP hD hS => ?_)
  obtain ⟨rfl, S2, v, hz, hC2, hv⟩ := hp
  have hP : va_P G.1 vwCl ((u.1 ++ [outc G ol u.2]) ++ vv) H := hP
  have hD : va_D A ((u.1 ++ [outc G ol u.2]) ++ vv) := hD
  refine lv_istore (lv' := [(5, .int (nI k)), (0, .ref b), (1, .ref lq), (2, .ref mq), (3, .ref ol), (4, .int (nI i))]) hx hb dL_law_1098 hl (by decide) rfl (fun ls hl => ?_)
  have hP := gPperm List.perm_append_comm hP
  have hD := gDperm List.perm_append_comm hD
  obtain ⟨fs2, hrf⟩ := rf_recv hR
  refine lv_aload_n hx hb dL_law_1100 rfl (lv_at hl 3 rfl) ?_
  refine lv_aload_n hx hb dL_law_1101 rfl (lv_at hl 1 rfl) ?_
  refine lv_iload hx hb dL_law_1102 (lv_at hl 5 rfl) ?_
  refine lv_iconst (v := nI 1) hx hb dL_law_1104 (by decide) ?_
  refine gIadd (a := i) (b := 1) hx hb dL_law_1105 ?_
  refine gSld hx hb hX hbl hbA hS (i + 1) (by omega) (by omega) dL_law_1106 ?_
  refine lv_aload_n hx hb dL_law_1107 rfl (lv_at hl 1 rfl) ?_
  refine lv_iload hx hb dL_law_1108 (lv_at hl 5 rfl) ?_
  refine lv_iconst (v := nI 2) hx hb dL_law_1110 (by decide) ?_
  refine gIadd (a := i) (b := 2) hx hb dL_law_1111 ?_
  refine gSld hx hb hX hbl hbA hS (i + 2) (by omega) (by omega) dL_law_1112 ?_
  refine gCi F1 (gRunV (own := RL) (C := RX4) (ci := 4) (bytes := cX4_ownerAt) (n := 2) (As := [.int (xs (i + 1)), .int (xs (i + 2))]) (rest := []) F1 (hm H.size) gL_law_X4_ownerAt rfl rfl hb2.1 hb2.2.1 (by decide +kernel) rfl ⟨by have h9 := hb2.2.2.2.2.1; show rm2.frames + 1 ≤ 11; omega, by have h9 := hb2.2.2.2.2.2; show 8 + (3 + 11) + rm2.locals ≤ 404; omega⟩ hP hD (lit := vv) (wt := u.1 ++ [outc G ol u.2]) (wc := vv) (isC := List.range (vv).length) (gRange _) (gRange_nd _) rfl hrf rfl hl.1 (Nat.le_of_ble_eq_true rfl) dL_law_1113 ⟨by have h9 := hb1.2.2.1; show cells + mc + 0 ≤ 601024; omega, by have h9 := hb1.2.2.2.1; show slots + ms + 0 ≤ 7293034; omega⟩) hP hD hS (lit := vv) (wt := u.1 ++ [outc G ol u.2]) (wc := vv) (isC := List.range (vv).length) (wr := []) (isR := []) (gRange _) rfl rfl (fun _ h_ => by cases h_) (fun r2 u2 H locs hp2 hP hD hS => ?_)
  obtain ⟨hR2, hv2⟩ := hp2 S2 v hz
  have hP : va_P G.1 vwCl (u2 ++ (u.1 ++ [outc G ol u.2])) H := hP
  have hD : va_D A (u2 ++ (u.1 ++ [outc G ol u.2])) := hD
  refine lv_istore (lv' := [(6, .int r2), (5, .int (nI k)), (0, .ref b), (1, .ref lq), (2, .ref mq), (3, .ref ol), (4, .int (nI i))]) hx hb dL_law_1116 hl (by decide) rfl (fun ls hl => ?_)
  refine lv_aload_n hx hb dL_law_1118 rfl (lv_at hl 4 rfl) ?_
  obtain ⟨fs3, hrf3⟩ := rf_recv hR2
  refine gCi F1 (gRunV (own := RL) (C := RX4) (ci := 4) (bytes := cX4_thrown) (n := 0) (As := []) (rest := []) F1 (r_thrown l G mq hR2 (hZs S2 v hz) H.size) gL_law_X4_thrown rfl rfl rfl rfl (by decide +kernel) rfl ⟨Nat.le_of_ble_eq_true rfl, Nat.le_of_ble_eq_true rfl⟩ hP hD (lit := u2) (wt := u.1 ++ [outc G ol u.2]) (wc := u2) (isC := List.range (u2).length) (gRange _) (gRange_nd _) rfl hrf3 rfl hl.1 (Nat.le_of_ble_eq_true rfl) dL_law_1119 ⟨by have h9 := hb1.2.2.1; show cells + mc + 0 + 0 ≤ 601024; omega, by have h9 := hb1.2.2.2.1; show slots + ms + 0 + 0 ≤ 7293034; omega⟩) hP hD hS (lit := u2) (wt := u.1 ++ [outc G ol u.2]) (wc := u2) (isC := List.range (u2).length) (wr := []) (isR := []) (gRange _) rfl rfl (fun _ h_ => by cases h_) (fun r3 u3 H locs hp3 hP hD hS => ?_)
  obtain ⟨rfl, hR3⟩ := hp3
  have hP : va_P G.1 vwCl (u3 ++ (u.1 ++ [outc G ol u.2])) H := hP
  have hD : va_D A (u3 ++ (u.1 ++ [outc G ol u.2])) := hD
  refine lv_iload hx hb dL_law_1122 (lv_at hl 1 rfl) ?_
  refine gIcmp_eq (a := k) (b := k) (tgt := 1129) hx hb dL_law_1124 (by decide) (by omega) (by omega) (fun _ => ?_) (fun c9 => absurd rfl c9)
  refine lv_iload hx hb dL_law_1129 (lv_at hl 1 rfl) ?_
  have fin : W p l e room_1 s m args below meth c H locs (cells + mc + 0 + 0) (slots + ms + 0 + 0) Q (F0 m 1146 ls []) := by
    refine lv_goto (tgt := 2516) hx hb dL_law_1146 (by decide) ?_
    refine W.widen (k := cells + 4) (n := slots + 528) (by have h9 := hb1.2.2.1; omega) (by have h9 := hb1.2.2.2.1; omega) ?_
    exact kk H locs ls ⟨u.1, u3, u.2, S2, k, hC2, hR3, hZs S2 v hz, gPperm List.perm_append_comm hP, gDperm List.perm_append_comm hD, hS, lv_sub hl [2, 3, 4, 5, 6] rfl⟩
  refine gIf_ne (a := k) (tgt := 1146) hx hb dL_law_1131 (by decide) (by omega) (fun _ => fin) (fun c9 => ?_)
  refine lv_aload_n hx hb dL_law_1134 rfl (lv_at hl 5 rfl) ?_
  refine lv_iconst (v := nI 0) hx hb dL_law_1135 (by decide) ?_
  have hP3 : va_P G.1 vwCl ((u3 ++ u.1) ++ [outc G ol u.2]) H := by rw [List.append_assoc]; exact hP
  refine gLald hx hb hKK.1 hP3 dL_law_1136 ?_
  refine lv_iload hx hb dL_law_1137 (lv_at hl 0 rfl) ?_
  refine lv_i2l (v := r2.toInt64) hx hb dL_law_1139 rfl ?_
  refine W.lcmp hx hb dL_law_1140 ?_
  rw [hv c9, hv2 c9, lcmp_self]
  exact lv_if_eq (tgt := 1146) hx hb dL_law_1141 (by decide) (fun _ => fin) (fun c8 => absurd rfl c8)

set_option maxHeartbeats 4000000 in
set_option maxRecDepth 100000 in
theorem cs_heightAt {p : Program} {l : Launch} {e : Env} {s : State} {m : MethodId} {args : Array Value} {below : List Frame} {meth : Method} {c : Code} {H : Heap} {locs : List Loc} {cells slots : Nat} {Q : State → Prop} {G : gG} {A : Nat → Prop} {b L i lq mq ol : Nat} {xs : Nat → Int32} {ls : Array Slot} (F : lwF p l s m args meth c G A b L xs) (hi : i + 5 ≤ L) (hc : cells + 4 ≤ 601024) (hs : slots + 528 ≤ 7293034) (hI : lwI s G A lq mq ol b i H locs ls)
    (kk : ∀ (H : Heap) (locs : List Loc) (ls : Array Slot), lwI s G A lq mq ol b i H locs ls → W p l e room_1 s m args below meth c H locs (cells + 4) (slots + 528) Q (F0 m 2516 ls [])) : W p l e room_1 s m args below meth c H locs cells slots Q (F0 m 1149 ls []) := by
  obtain ⟨F1, hZ, hX, hbl, hbA, hL, hl9⟩ := F
  obtain ⟨wv, vv, f, S, th, hC, hR, hSp, hP, hD, hS, hl⟩ := hI
  have hx := F1.1
  have hb := F1.2.1
  have hKK := F1.2.2.2.2.2.2.2.2.1
  obtain ⟨k, Z, hk3, hZs, ⟨rm, mc, ms, hb1, hw⟩, rm2, hb2, hm⟩ := P_heightAt l G lq ol mq (f := f) hl9 (xs (i + 1)) (xs (i + 2)) hC hR hSp
  refine lv_aload_n hx hb dL_law_1149 rfl (lv_at hl 1 rfl) ?_
  refine lv_aload_n hx hb dL_law_1150 rfl (lv_at hl 0 rfl) ?_
  refine lv_iload hx hb dL_law_1151 (lv_at hl 4 rfl) ?_
  refine lv_iconst (v := nI 1) hx hb dL_law_1153 (by decide) ?_
  refine gIadd (a := i) (b := 1) hx hb dL_law_1154 ?_
  refine gSld hx hb hX hbl hbA hS (i + 1) (by omega) (by omega) dL_law_1155 ?_
  refine lv_aload_n hx hb dL_law_1156 rfl (lv_at hl 0 rfl) ?_
  refine lv_iload hx hb dL_law_1157 (lv_at hl 4 rfl) ?_
  refine lv_iconst (v := nI 2) hx hb dL_law_1159 (by decide) ?_
  refine gIadd (a := i) (b := 2) hx hb dL_law_1160 ?_
  refine gSld hx hb hX hbl hbA hS (i + 2) (by omega) (by omega) dL_law_1161 ?_
  refine lv_aload_n hx hb dL_law_1162 rfl (lv_at hl 3 rfl) ?_
  refine gCi F1 (gRunSW (own := RL) (bytes := cL_heightAt) (n := 4) (As := .ref lq :: ([.int (xs (i + 1)), .int (xs (i + 2))] ++ [.ref ol])) (rest := []) F1 hZ hS (hw H.size) gL_law_L_heightAt rfl rfl hb1.1 hb1.2.1 (by decide +kernel) rfl ⟨by have h9 := hb1.2.2.2.2.1; show rm.frames + 1 ≤ 11; omega, by have h9 := hb1.2.2.2.2.2; show 8 + (5 + 11) + rm.locals ≤ 404; omega⟩ hP hD (lit := wv ++ [outc G ol f]) (wt := vv) (wc := wv ++ [outc G ol f]) (isC := List.range (wv ++ [outc G ol f]).length) (gRange _) (gRange_nd _) rfl hl.1 (Nat.le_of_ble_eq_true rfl) dL_law_1163 ⟨by have h9 := hb1.2.2.1; show cells + mc ≤ 601024; omega, by have h9 := hb1.2.2.2.1; show slots + ms ≤ 7293034; omega⟩) hP hD hS (lit := wv ++ [outc G ol f]) (wt := vv) (wc := wv ++ [outc G ol f]) (isC := List.range (wv ++ [outc G ol f]).length) (wr := []) (isR := []) (gRange _) rfl rfl (fun _ h_ => by cases h_) (fun r u H locs hp hP hD hS => ?_)
  obtain ⟨rfl, S2, v, hz, hC2, hv⟩ := hp
  have hP : va_P G.1 vwCl ((u.1 ++ [outc G ol u.2]) ++ vv) H := hP
  have hD : va_D A ((u.1 ++ [outc G ol u.2]) ++ vv) := hD
  refine lv_istore (lv' := [(5, .int (nI k)), (0, .ref b), (1, .ref lq), (2, .ref mq), (3, .ref ol), (4, .int (nI i))]) hx hb dL_law_1166 hl (by decide) rfl (fun ls hl => ?_)
  have hP := gPperm List.perm_append_comm hP
  have hD := gDperm List.perm_append_comm hD
  obtain ⟨fs2, hrf⟩ := rf_recv hR
  refine lv_aload_n hx hb dL_law_1168 rfl (lv_at hl 3 rfl) ?_
  refine lv_aload_n hx hb dL_law_1169 rfl (lv_at hl 1 rfl) ?_
  refine lv_iload hx hb dL_law_1170 (lv_at hl 5 rfl) ?_
  refine lv_iconst (v := nI 1) hx hb dL_law_1172 (by decide) ?_
  refine gIadd (a := i) (b := 1) hx hb dL_law_1173 ?_
  refine gSld hx hb hX hbl hbA hS (i + 1) (by omega) (by omega) dL_law_1174 ?_
  refine lv_aload_n hx hb dL_law_1175 rfl (lv_at hl 1 rfl) ?_
  refine lv_iload hx hb dL_law_1176 (lv_at hl 5 rfl) ?_
  refine lv_iconst (v := nI 2) hx hb dL_law_1178 (by decide) ?_
  refine gIadd (a := i) (b := 2) hx hb dL_law_1179 ?_
  refine gSld hx hb hX hbl hbA hS (i + 2) (by omega) (by omega) dL_law_1180 ?_
  refine gCi F1 (gRunV (own := RL) (C := RX4) (ci := 4) (bytes := cX4_heightAt) (n := 2) (As := [.int (xs (i + 1)), .int (xs (i + 2))]) (rest := []) F1 (hm H.size) gL_law_X4_heightAt rfl rfl hb2.1 hb2.2.1 (by decide +kernel) rfl ⟨by have h9 := hb2.2.2.2.2.1; show rm2.frames + 1 ≤ 11; omega, by have h9 := hb2.2.2.2.2.2; show 8 + (3 + 11) + rm2.locals ≤ 404; omega⟩ hP hD (lit := vv) (wt := u.1 ++ [outc G ol u.2]) (wc := vv) (isC := List.range (vv).length) (gRange _) (gRange_nd _) rfl hrf rfl hl.1 (Nat.le_of_ble_eq_true rfl) dL_law_1181 ⟨by have h9 := hb1.2.2.1; show cells + mc + 0 ≤ 601024; omega, by have h9 := hb1.2.2.2.1; show slots + ms + 0 ≤ 7293034; omega⟩) hP hD hS (lit := vv) (wt := u.1 ++ [outc G ol u.2]) (wc := vv) (isC := List.range (vv).length) (wr := []) (isR := []) (gRange _) rfl rfl (fun _ h_ => by cases h_) (fun r2 u2 H locs hp2 hP hD hS => ?_)
  obtain ⟨hR2, hv2⟩ := hp2 S2 v hz
  have hP : va_P G.1 vwCl (u2 ++ (u.1 ++ [outc G ol u.2])) H := hP
  have hD : va_D A (u2 ++ (u.1 ++ [outc G ol u.2])) := hD
  refine lv_istore (lv' := [(6, .int r2), (5, .int (nI k)), (0, .ref b), (1, .ref lq), (2, .ref mq), (3, .ref ol), (4, .int (nI i))]) hx hb dL_law_1184 hl (by decide) rfl (fun ls hl => ?_)
  refine lv_aload_n hx hb dL_law_1186 rfl (lv_at hl 4 rfl) ?_
  obtain ⟨fs3, hrf3⟩ := rf_recv hR2
  refine gCi F1 (gRunV (own := RL) (C := RX4) (ci := 4) (bytes := cX4_thrown) (n := 0) (As := []) (rest := []) F1 (r_thrown l G mq hR2 (hZs S2 v hz) H.size) gL_law_X4_thrown rfl rfl rfl rfl (by decide +kernel) rfl ⟨Nat.le_of_ble_eq_true rfl, Nat.le_of_ble_eq_true rfl⟩ hP hD (lit := u2) (wt := u.1 ++ [outc G ol u.2]) (wc := u2) (isC := List.range (u2).length) (gRange _) (gRange_nd _) rfl hrf3 rfl hl.1 (Nat.le_of_ble_eq_true rfl) dL_law_1187 ⟨by have h9 := hb1.2.2.1; show cells + mc + 0 + 0 ≤ 601024; omega, by have h9 := hb1.2.2.2.1; show slots + ms + 0 + 0 ≤ 7293034; omega⟩) hP hD hS (lit := u2) (wt := u.1 ++ [outc G ol u.2]) (wc := u2) (isC := List.range (u2).length) (wr := []) (isR := []) (gRange _) rfl rfl (fun _ h_ => by cases h_) (fun r3 u3 H locs hp3 hP hD hS => ?_)
  obtain ⟨rfl, hR3⟩ := hp3
  have hP : va_P G.1 vwCl (u3 ++ (u.1 ++ [outc G ol u.2])) H := hP
  have hD : va_D A (u3 ++ (u.1 ++ [outc G ol u.2])) := hD
  refine lv_iload hx hb dL_law_1190 (lv_at hl 1 rfl) ?_
  refine gIcmp_eq (a := k) (b := k) (tgt := 1197) hx hb dL_law_1192 (by decide) (by omega) (by omega) (fun _ => ?_) (fun c9 => absurd rfl c9)
  refine lv_iload hx hb dL_law_1197 (lv_at hl 1 rfl) ?_
  have fin : W p l e room_1 s m args below meth c H locs (cells + mc + 0 + 0) (slots + ms + 0 + 0) Q (F0 m 1214 ls []) := by
    refine lv_goto (tgt := 2516) hx hb dL_law_1214 (by decide) ?_
    refine W.widen (k := cells + 4) (n := slots + 528) (by have h9 := hb1.2.2.1; omega) (by have h9 := hb1.2.2.2.1; omega) ?_
    exact kk H locs ls ⟨u.1, u3, u.2, S2, k, hC2, hR3, hZs S2 v hz, gPperm List.perm_append_comm hP, gDperm List.perm_append_comm hD, hS, lv_sub hl [2, 3, 4, 5, 6] rfl⟩
  refine gIf_ne (a := k) (tgt := 1214) hx hb dL_law_1199 (by decide) (by omega) (fun _ => fin) (fun c9 => ?_)
  refine lv_aload_n hx hb dL_law_1202 rfl (lv_at hl 5 rfl) ?_
  refine lv_iconst (v := nI 0) hx hb dL_law_1203 (by decide) ?_
  have hP3 : va_P G.1 vwCl ((u3 ++ u.1) ++ [outc G ol u.2]) H := by rw [List.append_assoc]; exact hP
  refine gLald hx hb hKK.1 hP3 dL_law_1204 ?_
  refine lv_iload hx hb dL_law_1205 (lv_at hl 0 rfl) ?_
  refine lv_i2l (v := r2.toInt64) hx hb dL_law_1207 rfl ?_
  refine W.lcmp hx hb dL_law_1208 ?_
  rw [hv c9, hv2 c9, lcmp_self]
  exact lv_if_eq (tgt := 1214) hx hb dL_law_1209 (by decide) (fun _ => fin) (fun c8 => absurd rfl c8)

set_option maxHeartbeats 4000000 in
set_option maxRecDepth 100000 in
theorem cs_plotSizeAt {p : Program} {l : Launch} {e : Env} {s : State} {m : MethodId} {args : Array Value} {below : List Frame} {meth : Method} {c : Code} {H : Heap} {locs : List Loc} {cells slots : Nat} {Q : State → Prop} {G : gG} {A : Nat → Prop} {b L i lq mq ol : Nat} {xs : Nat → Int32} {ls : Array Slot} (F : lwF p l s m args meth c G A b L xs) (hi : i + 5 ≤ L) (hc : cells + 4 ≤ 601024) (hs : slots + 528 ≤ 7293034) (hI : lwI s G A lq mq ol b i H locs ls)
    (kk : ∀ (H : Heap) (locs : List Loc) (ls : Array Slot), lwI s G A lq mq ol b i H locs ls → W p l e room_1 s m args below meth c H locs (cells + 4) (slots + 528) Q (F0 m 2516 ls [])) : W p l e room_1 s m args below meth c H locs cells slots Q (F0 m 1217 ls []) := by
  obtain ⟨F1, hZ, hX, hbl, hbA, hL, hl9⟩ := F
  obtain ⟨wv, vv, f, S, th, hC, hR, hSp, hP, hD, hS, hl⟩ := hI
  have hx := F1.1
  have hb := F1.2.1
  have hKK := F1.2.2.2.2.2.2.2.2.1
  obtain ⟨k, Z, hk3, hZs, ⟨rm, mc, ms, hb1, hw⟩, rm2, hb2, hm⟩ := P_plotSizeAt l G lq ol mq (f := f) hl9 (xs (i + 1)) (xs (i + 2)) hC hR hSp
  refine lv_aload_n hx hb dL_law_1217 rfl (lv_at hl 1 rfl) ?_
  refine lv_aload_n hx hb dL_law_1218 rfl (lv_at hl 0 rfl) ?_
  refine lv_iload hx hb dL_law_1219 (lv_at hl 4 rfl) ?_
  refine lv_iconst (v := nI 1) hx hb dL_law_1221 (by decide) ?_
  refine gIadd (a := i) (b := 1) hx hb dL_law_1222 ?_
  refine gSld hx hb hX hbl hbA hS (i + 1) (by omega) (by omega) dL_law_1223 ?_
  refine lv_aload_n hx hb dL_law_1224 rfl (lv_at hl 0 rfl) ?_
  refine lv_iload hx hb dL_law_1225 (lv_at hl 4 rfl) ?_
  refine lv_iconst (v := nI 2) hx hb dL_law_1227 (by decide) ?_
  refine gIadd (a := i) (b := 2) hx hb dL_law_1228 ?_
  refine gSld hx hb hX hbl hbA hS (i + 2) (by omega) (by omega) dL_law_1229 ?_
  refine lv_aload_n hx hb dL_law_1230 rfl (lv_at hl 3 rfl) ?_
  refine gCi F1 (gRunSW (own := RL) (bytes := cL_plotSizeAt) (n := 4) (As := .ref lq :: ([.int (xs (i + 1)), .int (xs (i + 2))] ++ [.ref ol])) (rest := []) F1 hZ hS (hw H.size) gL_law_L_plotSizeAt rfl rfl hb1.1 hb1.2.1 (by decide +kernel) rfl ⟨by have h9 := hb1.2.2.2.2.1; show rm.frames + 1 ≤ 11; omega, by have h9 := hb1.2.2.2.2.2; show 8 + (5 + 11) + rm.locals ≤ 404; omega⟩ hP hD (lit := wv ++ [outc G ol f]) (wt := vv) (wc := wv ++ [outc G ol f]) (isC := List.range (wv ++ [outc G ol f]).length) (gRange _) (gRange_nd _) rfl hl.1 (Nat.le_of_ble_eq_true rfl) dL_law_1231 ⟨by have h9 := hb1.2.2.1; show cells + mc ≤ 601024; omega, by have h9 := hb1.2.2.2.1; show slots + ms ≤ 7293034; omega⟩) hP hD hS (lit := wv ++ [outc G ol f]) (wt := vv) (wc := wv ++ [outc G ol f]) (isC := List.range (wv ++ [outc G ol f]).length) (wr := []) (isR := []) (gRange _) rfl rfl (fun _ h_ => by cases h_) (fun r u H locs hp hP hD hS => ?_)
  obtain ⟨rfl, S2, v, hz, hC2, hv⟩ := hp
  have hP : va_P G.1 vwCl ((u.1 ++ [outc G ol u.2]) ++ vv) H := hP
  have hD : va_D A ((u.1 ++ [outc G ol u.2]) ++ vv) := hD
  refine lv_istore (lv' := [(5, .int (nI k)), (0, .ref b), (1, .ref lq), (2, .ref mq), (3, .ref ol), (4, .int (nI i))]) hx hb dL_law_1234 hl (by decide) rfl (fun ls hl => ?_)
  have hP := gPperm List.perm_append_comm hP
  have hD := gDperm List.perm_append_comm hD
  obtain ⟨fs2, hrf⟩ := rf_recv hR
  refine lv_aload_n hx hb dL_law_1236 rfl (lv_at hl 3 rfl) ?_
  refine lv_aload_n hx hb dL_law_1237 rfl (lv_at hl 1 rfl) ?_
  refine lv_iload hx hb dL_law_1238 (lv_at hl 5 rfl) ?_
  refine lv_iconst (v := nI 1) hx hb dL_law_1240 (by decide) ?_
  refine gIadd (a := i) (b := 1) hx hb dL_law_1241 ?_
  refine gSld hx hb hX hbl hbA hS (i + 1) (by omega) (by omega) dL_law_1242 ?_
  refine lv_aload_n hx hb dL_law_1243 rfl (lv_at hl 1 rfl) ?_
  refine lv_iload hx hb dL_law_1244 (lv_at hl 5 rfl) ?_
  refine lv_iconst (v := nI 2) hx hb dL_law_1246 (by decide) ?_
  refine gIadd (a := i) (b := 2) hx hb dL_law_1247 ?_
  refine gSld hx hb hX hbl hbA hS (i + 2) (by omega) (by omega) dL_law_1248 ?_
  refine gCi F1 (gRunV (own := RL) (C := RX4) (ci := 4) (bytes := cX4_plotSizeAt) (n := 2) (As := [.int (xs (i + 1)), .int (xs (i + 2))]) (rest := []) F1 (hm H.size) gL_law_X4_plotSizeAt rfl rfl hb2.1 hb2.2.1 (by decide +kernel) rfl ⟨by have h9 := hb2.2.2.2.2.1; show rm2.frames + 1 ≤ 11; omega, by have h9 := hb2.2.2.2.2.2; show 8 + (3 + 11) + rm2.locals ≤ 404; omega⟩ hP hD (lit := vv) (wt := u.1 ++ [outc G ol u.2]) (wc := vv) (isC := List.range (vv).length) (gRange _) (gRange_nd _) rfl hrf rfl hl.1 (Nat.le_of_ble_eq_true rfl) dL_law_1249 ⟨by have h9 := hb1.2.2.1; show cells + mc + 0 ≤ 601024; omega, by have h9 := hb1.2.2.2.1; show slots + ms + 0 ≤ 7293034; omega⟩) hP hD hS (lit := vv) (wt := u.1 ++ [outc G ol u.2]) (wc := vv) (isC := List.range (vv).length) (wr := []) (isR := []) (gRange _) rfl rfl (fun _ h_ => by cases h_) (fun r2 u2 H locs hp2 hP hD hS => ?_)
  obtain ⟨hR2, hv2⟩ := hp2 S2 v hz
  have hP : va_P G.1 vwCl (u2 ++ (u.1 ++ [outc G ol u.2])) H := hP
  have hD : va_D A (u2 ++ (u.1 ++ [outc G ol u.2])) := hD
  refine lv_istore (lv' := [(6, .int r2), (5, .int (nI k)), (0, .ref b), (1, .ref lq), (2, .ref mq), (3, .ref ol), (4, .int (nI i))]) hx hb dL_law_1252 hl (by decide) rfl (fun ls hl => ?_)
  refine lv_aload_n hx hb dL_law_1254 rfl (lv_at hl 4 rfl) ?_
  obtain ⟨fs3, hrf3⟩ := rf_recv hR2
  refine gCi F1 (gRunV (own := RL) (C := RX4) (ci := 4) (bytes := cX4_thrown) (n := 0) (As := []) (rest := []) F1 (r_thrown l G mq hR2 (hZs S2 v hz) H.size) gL_law_X4_thrown rfl rfl rfl rfl (by decide +kernel) rfl ⟨Nat.le_of_ble_eq_true rfl, Nat.le_of_ble_eq_true rfl⟩ hP hD (lit := u2) (wt := u.1 ++ [outc G ol u.2]) (wc := u2) (isC := List.range (u2).length) (gRange _) (gRange_nd _) rfl hrf3 rfl hl.1 (Nat.le_of_ble_eq_true rfl) dL_law_1255 ⟨by have h9 := hb1.2.2.1; show cells + mc + 0 + 0 ≤ 601024; omega, by have h9 := hb1.2.2.2.1; show slots + ms + 0 + 0 ≤ 7293034; omega⟩) hP hD hS (lit := u2) (wt := u.1 ++ [outc G ol u.2]) (wc := u2) (isC := List.range (u2).length) (wr := []) (isR := []) (gRange _) rfl rfl (fun _ h_ => by cases h_) (fun r3 u3 H locs hp3 hP hD hS => ?_)
  obtain ⟨rfl, hR3⟩ := hp3
  have hP : va_P G.1 vwCl (u3 ++ (u.1 ++ [outc G ol u.2])) H := hP
  have hD : va_D A (u3 ++ (u.1 ++ [outc G ol u.2])) := hD
  refine lv_iload hx hb dL_law_1258 (lv_at hl 1 rfl) ?_
  refine gIcmp_eq (a := k) (b := k) (tgt := 1265) hx hb dL_law_1260 (by decide) (by omega) (by omega) (fun _ => ?_) (fun c9 => absurd rfl c9)
  refine lv_iload hx hb dL_law_1265 (lv_at hl 1 rfl) ?_
  have fin : W p l e room_1 s m args below meth c H locs (cells + mc + 0 + 0) (slots + ms + 0 + 0) Q (F0 m 1282 ls []) := by
    refine lv_goto (tgt := 2516) hx hb dL_law_1282 (by decide) ?_
    refine W.widen (k := cells + 4) (n := slots + 528) (by have h9 := hb1.2.2.1; omega) (by have h9 := hb1.2.2.2.1; omega) ?_
    exact kk H locs ls ⟨u.1, u3, u.2, S2, k, hC2, hR3, hZs S2 v hz, gPperm List.perm_append_comm hP, gDperm List.perm_append_comm hD, hS, lv_sub hl [2, 3, 4, 5, 6] rfl⟩
  refine gIf_ne (a := k) (tgt := 1282) hx hb dL_law_1267 (by decide) (by omega) (fun _ => fin) (fun c9 => ?_)
  refine lv_aload_n hx hb dL_law_1270 rfl (lv_at hl 5 rfl) ?_
  refine lv_iconst (v := nI 0) hx hb dL_law_1271 (by decide) ?_
  have hP3 : va_P G.1 vwCl ((u3 ++ u.1) ++ [outc G ol u.2]) H := by rw [List.append_assoc]; exact hP
  refine gLald hx hb hKK.1 hP3 dL_law_1272 ?_
  refine lv_iload hx hb dL_law_1273 (lv_at hl 0 rfl) ?_
  refine lv_i2l (v := r2.toInt64) hx hb dL_law_1275 rfl ?_
  refine W.lcmp hx hb dL_law_1276 ?_
  rw [hv c9, hv2 c9, lcmp_self]
  exact lv_if_eq (tgt := 1282) hx hb dL_law_1277 (by decide) (fun _ => fin) (fun c8 => absurd rfl c8)

set_option maxHeartbeats 4000000 in
set_option maxRecDepth 100000 in
theorem cs_plotRankAt {p : Program} {l : Launch} {e : Env} {s : State} {m : MethodId} {args : Array Value} {below : List Frame} {meth : Method} {c : Code} {H : Heap} {locs : List Loc} {cells slots : Nat} {Q : State → Prop} {G : gG} {A : Nat → Prop} {b L i lq mq ol : Nat} {xs : Nat → Int32} {ls : Array Slot} (F : lwF p l s m args meth c G A b L xs) (hi : i + 5 ≤ L) (hc : cells + 4 ≤ 601024) (hs : slots + 528 ≤ 7293034) (hI : lwI s G A lq mq ol b i H locs ls)
    (kk : ∀ (H : Heap) (locs : List Loc) (ls : Array Slot), lwI s G A lq mq ol b i H locs ls → W p l e room_1 s m args below meth c H locs (cells + 4) (slots + 528) Q (F0 m 2516 ls [])) : W p l e room_1 s m args below meth c H locs cells slots Q (F0 m 1285 ls []) := by
  obtain ⟨F1, hZ, hX, hbl, hbA, hL, hl9⟩ := F
  obtain ⟨wv, vv, f, S, th, hC, hR, hSp, hP, hD, hS, hl⟩ := hI
  have hx := F1.1
  have hb := F1.2.1
  have hKK := F1.2.2.2.2.2.2.2.2.1
  obtain ⟨k, Z, hk3, hZs, ⟨rm, mc, ms, hb1, hw⟩, rm2, hb2, hm⟩ := P_plotRankAt l G lq ol mq (f := f) hl9 (xs (i + 1)) (xs (i + 2)) hC hR hSp
  refine lv_aload_n hx hb dL_law_1285 rfl (lv_at hl 1 rfl) ?_
  refine lv_aload_n hx hb dL_law_1286 rfl (lv_at hl 0 rfl) ?_
  refine lv_iload hx hb dL_law_1287 (lv_at hl 4 rfl) ?_
  refine lv_iconst (v := nI 1) hx hb dL_law_1289 (by decide) ?_
  refine gIadd (a := i) (b := 1) hx hb dL_law_1290 ?_
  refine gSld hx hb hX hbl hbA hS (i + 1) (by omega) (by omega) dL_law_1291 ?_
  refine lv_aload_n hx hb dL_law_1292 rfl (lv_at hl 0 rfl) ?_
  refine lv_iload hx hb dL_law_1293 (lv_at hl 4 rfl) ?_
  refine lv_iconst (v := nI 2) hx hb dL_law_1295 (by decide) ?_
  refine gIadd (a := i) (b := 2) hx hb dL_law_1296 ?_
  refine gSld hx hb hX hbl hbA hS (i + 2) (by omega) (by omega) dL_law_1297 ?_
  refine lv_aload_n hx hb dL_law_1298 rfl (lv_at hl 3 rfl) ?_
  refine gCi F1 (gRunSW (own := RL) (bytes := cL_plotRankAt) (n := 4) (As := .ref lq :: ([.int (xs (i + 1)), .int (xs (i + 2))] ++ [.ref ol])) (rest := []) F1 hZ hS (hw H.size) gL_law_L_plotRankAt rfl rfl hb1.1 hb1.2.1 (by decide +kernel) rfl ⟨by have h9 := hb1.2.2.2.2.1; show rm.frames + 1 ≤ 11; omega, by have h9 := hb1.2.2.2.2.2; show 8 + (5 + 11) + rm.locals ≤ 404; omega⟩ hP hD (lit := wv ++ [outc G ol f]) (wt := vv) (wc := wv ++ [outc G ol f]) (isC := List.range (wv ++ [outc G ol f]).length) (gRange _) (gRange_nd _) rfl hl.1 (Nat.le_of_ble_eq_true rfl) dL_law_1299 ⟨by have h9 := hb1.2.2.1; show cells + mc ≤ 601024; omega, by have h9 := hb1.2.2.2.1; show slots + ms ≤ 7293034; omega⟩) hP hD hS (lit := wv ++ [outc G ol f]) (wt := vv) (wc := wv ++ [outc G ol f]) (isC := List.range (wv ++ [outc G ol f]).length) (wr := []) (isR := []) (gRange _) rfl rfl (fun _ h_ => by cases h_) (fun r u H locs hp hP hD hS => ?_)
  obtain ⟨rfl, S2, v, hz, hC2, hv⟩ := hp
  have hP : va_P G.1 vwCl ((u.1 ++ [outc G ol u.2]) ++ vv) H := hP
  have hD : va_D A ((u.1 ++ [outc G ol u.2]) ++ vv) := hD
  refine lv_istore (lv' := [(5, .int (nI k)), (0, .ref b), (1, .ref lq), (2, .ref mq), (3, .ref ol), (4, .int (nI i))]) hx hb dL_law_1302 hl (by decide) rfl (fun ls hl => ?_)
  have hP := gPperm List.perm_append_comm hP
  have hD := gDperm List.perm_append_comm hD
  obtain ⟨fs2, hrf⟩ := rf_recv hR
  refine lv_aload_n hx hb dL_law_1304 rfl (lv_at hl 3 rfl) ?_
  refine lv_aload_n hx hb dL_law_1305 rfl (lv_at hl 1 rfl) ?_
  refine lv_iload hx hb dL_law_1306 (lv_at hl 5 rfl) ?_
  refine lv_iconst (v := nI 1) hx hb dL_law_1308 (by decide) ?_
  refine gIadd (a := i) (b := 1) hx hb dL_law_1309 ?_
  refine gSld hx hb hX hbl hbA hS (i + 1) (by omega) (by omega) dL_law_1310 ?_
  refine lv_aload_n hx hb dL_law_1311 rfl (lv_at hl 1 rfl) ?_
  refine lv_iload hx hb dL_law_1312 (lv_at hl 5 rfl) ?_
  refine lv_iconst (v := nI 2) hx hb dL_law_1314 (by decide) ?_
  refine gIadd (a := i) (b := 2) hx hb dL_law_1315 ?_
  refine gSld hx hb hX hbl hbA hS (i + 2) (by omega) (by omega) dL_law_1316 ?_
  refine gCi F1 (gRunV (own := RL) (C := RX4) (ci := 4) (bytes := cX4_plotRankAt) (n := 2) (As := [.int (xs (i + 1)), .int (xs (i + 2))]) (rest := []) F1 (hm H.size) gL_law_X4_plotRankAt rfl rfl hb2.1 hb2.2.1 (by decide +kernel) rfl ⟨by have h9 := hb2.2.2.2.2.1; show rm2.frames + 1 ≤ 11; omega, by have h9 := hb2.2.2.2.2.2; show 8 + (3 + 11) + rm2.locals ≤ 404; omega⟩ hP hD (lit := vv) (wt := u.1 ++ [outc G ol u.2]) (wc := vv) (isC := List.range (vv).length) (gRange _) (gRange_nd _) rfl hrf rfl hl.1 (Nat.le_of_ble_eq_true rfl) dL_law_1317 ⟨by have h9 := hb1.2.2.1; show cells + mc + 0 ≤ 601024; omega, by have h9 := hb1.2.2.2.1; show slots + ms + 0 ≤ 7293034; omega⟩) hP hD hS (lit := vv) (wt := u.1 ++ [outc G ol u.2]) (wc := vv) (isC := List.range (vv).length) (wr := []) (isR := []) (gRange _) rfl rfl (fun _ h_ => by cases h_) (fun r2 u2 H locs hp2 hP hD hS => ?_)
  obtain ⟨hR2, hv2⟩ := hp2 S2 v hz
  have hP : va_P G.1 vwCl (u2 ++ (u.1 ++ [outc G ol u.2])) H := hP
  have hD : va_D A (u2 ++ (u.1 ++ [outc G ol u.2])) := hD
  refine lv_istore (lv' := [(6, .int r2), (5, .int (nI k)), (0, .ref b), (1, .ref lq), (2, .ref mq), (3, .ref ol), (4, .int (nI i))]) hx hb dL_law_1320 hl (by decide) rfl (fun ls hl => ?_)
  refine lv_aload_n hx hb dL_law_1322 rfl (lv_at hl 4 rfl) ?_
  obtain ⟨fs3, hrf3⟩ := rf_recv hR2
  refine gCi F1 (gRunV (own := RL) (C := RX4) (ci := 4) (bytes := cX4_thrown) (n := 0) (As := []) (rest := []) F1 (r_thrown l G mq hR2 (hZs S2 v hz) H.size) gL_law_X4_thrown rfl rfl rfl rfl (by decide +kernel) rfl ⟨Nat.le_of_ble_eq_true rfl, Nat.le_of_ble_eq_true rfl⟩ hP hD (lit := u2) (wt := u.1 ++ [outc G ol u.2]) (wc := u2) (isC := List.range (u2).length) (gRange _) (gRange_nd _) rfl hrf3 rfl hl.1 (Nat.le_of_ble_eq_true rfl) dL_law_1323 ⟨by have h9 := hb1.2.2.1; show cells + mc + 0 + 0 ≤ 601024; omega, by have h9 := hb1.2.2.2.1; show slots + ms + 0 + 0 ≤ 7293034; omega⟩) hP hD hS (lit := u2) (wt := u.1 ++ [outc G ol u.2]) (wc := u2) (isC := List.range (u2).length) (wr := []) (isR := []) (gRange _) rfl rfl (fun _ h_ => by cases h_) (fun r3 u3 H locs hp3 hP hD hS => ?_)
  obtain ⟨rfl, hR3⟩ := hp3
  have hP : va_P G.1 vwCl (u3 ++ (u.1 ++ [outc G ol u.2])) H := hP
  have hD : va_D A (u3 ++ (u.1 ++ [outc G ol u.2])) := hD
  refine lv_iload hx hb dL_law_1326 (lv_at hl 1 rfl) ?_
  refine gIcmp_eq (a := k) (b := k) (tgt := 1333) hx hb dL_law_1328 (by decide) (by omega) (by omega) (fun _ => ?_) (fun c9 => absurd rfl c9)
  refine lv_iload hx hb dL_law_1333 (lv_at hl 1 rfl) ?_
  have fin : W p l e room_1 s m args below meth c H locs (cells + mc + 0 + 0) (slots + ms + 0 + 0) Q (F0 m 1350 ls []) := by
    refine lv_goto (tgt := 2516) hx hb dL_law_1350 (by decide) ?_
    refine W.widen (k := cells + 4) (n := slots + 528) (by have h9 := hb1.2.2.1; omega) (by have h9 := hb1.2.2.2.1; omega) ?_
    exact kk H locs ls ⟨u.1, u3, u.2, S2, k, hC2, hR3, hZs S2 v hz, gPperm List.perm_append_comm hP, gDperm List.perm_append_comm hD, hS, lv_sub hl [2, 3, 4, 5, 6] rfl⟩
  refine gIf_ne (a := k) (tgt := 1350) hx hb dL_law_1335 (by decide) (by omega) (fun _ => fin) (fun c9 => ?_)
  refine lv_aload_n hx hb dL_law_1338 rfl (lv_at hl 5 rfl) ?_
  refine lv_iconst (v := nI 0) hx hb dL_law_1339 (by decide) ?_
  have hP3 : va_P G.1 vwCl ((u3 ++ u.1) ++ [outc G ol u.2]) H := by rw [List.append_assoc]; exact hP
  refine gLald hx hb hKK.1 hP3 dL_law_1340 ?_
  refine lv_iload hx hb dL_law_1341 (lv_at hl 0 rfl) ?_
  refine lv_i2l (v := r2.toInt64) hx hb dL_law_1343 rfl ?_
  refine W.lcmp hx hb dL_law_1344 ?_
  rw [hv c9, hv2 c9, lcmp_self]
  exact lv_if_eq (tgt := 1350) hx hb dL_law_1345 (by decide) (fun _ => fin) (fun c8 => absurd rfl c8)

set_option maxHeartbeats 4000000 in
set_option maxRecDepth 100000 in
theorem cs_plotPriceAt {p : Program} {l : Launch} {e : Env} {s : State} {m : MethodId} {args : Array Value} {below : List Frame} {meth : Method} {c : Code} {H : Heap} {locs : List Loc} {cells slots : Nat} {Q : State → Prop} {G : gG} {A : Nat → Prop} {b L i lq mq ol : Nat} {xs : Nat → Int32} {ls : Array Slot} (F : lwF p l s m args meth c G A b L xs) (hi : i + 5 ≤ L) (hc : cells + 4 ≤ 601024) (hs : slots + 528 ≤ 7293034) (hI : lwI s G A lq mq ol b i H locs ls)
    (kk : ∀ (H : Heap) (locs : List Loc) (ls : Array Slot), lwI s G A lq mq ol b i H locs ls → W p l e room_1 s m args below meth c H locs (cells + 4) (slots + 528) Q (F0 m 2516 ls [])) : W p l e room_1 s m args below meth c H locs cells slots Q (F0 m 1353 ls []) := by
  obtain ⟨F1, hZ, hX, hbl, hbA, hL, hl9⟩ := F
  obtain ⟨wv, vv, f, S, th, hC, hR, hSp, hP, hD, hS, hl⟩ := hI
  have hx := F1.1
  have hb := F1.2.1
  have hKK := F1.2.2.2.2.2.2.2.2.1
  obtain ⟨k, Z, hk3, hZs, ⟨rm, mc, ms, hb1, hw⟩, rm2, hb2, hm⟩ := P_plotPriceAt l G lq ol mq (f := f) hl9 (xs (i + 1)) (xs (i + 2)) hC hR hSp
  refine lv_aload_n hx hb dL_law_1353 rfl (lv_at hl 1 rfl) ?_
  refine lv_aload_n hx hb dL_law_1354 rfl (lv_at hl 0 rfl) ?_
  refine lv_iload hx hb dL_law_1355 (lv_at hl 4 rfl) ?_
  refine lv_iconst (v := nI 1) hx hb dL_law_1357 (by decide) ?_
  refine gIadd (a := i) (b := 1) hx hb dL_law_1358 ?_
  refine gSld hx hb hX hbl hbA hS (i + 1) (by omega) (by omega) dL_law_1359 ?_
  refine lv_aload_n hx hb dL_law_1360 rfl (lv_at hl 0 rfl) ?_
  refine lv_iload hx hb dL_law_1361 (lv_at hl 4 rfl) ?_
  refine lv_iconst (v := nI 2) hx hb dL_law_1363 (by decide) ?_
  refine gIadd (a := i) (b := 2) hx hb dL_law_1364 ?_
  refine gSld hx hb hX hbl hbA hS (i + 2) (by omega) (by omega) dL_law_1365 ?_
  refine lv_aload_n hx hb dL_law_1366 rfl (lv_at hl 3 rfl) ?_
  refine gCi F1 (gRunSW (own := RL) (bytes := cL_plotPriceAt) (n := 4) (As := .ref lq :: ([.int (xs (i + 1)), .int (xs (i + 2))] ++ [.ref ol])) (rest := []) F1 hZ hS (hw H.size) gL_law_L_plotPriceAt rfl rfl hb1.1 hb1.2.1 (by decide +kernel) rfl ⟨by have h9 := hb1.2.2.2.2.1; show rm.frames + 1 ≤ 11; omega, by have h9 := hb1.2.2.2.2.2; show 8 + (5 + 11) + rm.locals ≤ 404; omega⟩ hP hD (lit := wv ++ [outc G ol f]) (wt := vv) (wc := wv ++ [outc G ol f]) (isC := List.range (wv ++ [outc G ol f]).length) (gRange _) (gRange_nd _) rfl hl.1 (Nat.le_of_ble_eq_true rfl) dL_law_1367 ⟨by have h9 := hb1.2.2.1; show cells + mc ≤ 601024; omega, by have h9 := hb1.2.2.2.1; show slots + ms ≤ 7293034; omega⟩) hP hD hS (lit := wv ++ [outc G ol f]) (wt := vv) (wc := wv ++ [outc G ol f]) (isC := List.range (wv ++ [outc G ol f]).length) (wr := []) (isR := []) (gRange _) rfl rfl (fun _ h_ => by cases h_) (fun r u H locs hp hP hD hS => ?_)
  obtain ⟨rfl, S2, v, hz, hC2, hv⟩ := hp
  have hP : va_P G.1 vwCl ((u.1 ++ [outc G ol u.2]) ++ vv) H := hP
  have hD : va_D A ((u.1 ++ [outc G ol u.2]) ++ vv) := hD
  refine lv_istore (lv' := [(5, .int (nI k)), (0, .ref b), (1, .ref lq), (2, .ref mq), (3, .ref ol), (4, .int (nI i))]) hx hb dL_law_1370 hl (by decide) rfl (fun ls hl => ?_)
  have hP := gPperm List.perm_append_comm hP
  have hD := gDperm List.perm_append_comm hD
  obtain ⟨fs2, hrf⟩ := rf_recv hR
  refine lv_aload_n hx hb dL_law_1372 rfl (lv_at hl 3 rfl) ?_
  refine lv_aload_n hx hb dL_law_1373 rfl (lv_at hl 1 rfl) ?_
  refine lv_iload hx hb dL_law_1374 (lv_at hl 5 rfl) ?_
  refine lv_iconst (v := nI 1) hx hb dL_law_1376 (by decide) ?_
  refine gIadd (a := i) (b := 1) hx hb dL_law_1377 ?_
  refine gSld hx hb hX hbl hbA hS (i + 1) (by omega) (by omega) dL_law_1378 ?_
  refine lv_aload_n hx hb dL_law_1379 rfl (lv_at hl 1 rfl) ?_
  refine lv_iload hx hb dL_law_1380 (lv_at hl 5 rfl) ?_
  refine lv_iconst (v := nI 2) hx hb dL_law_1382 (by decide) ?_
  refine gIadd (a := i) (b := 2) hx hb dL_law_1383 ?_
  refine gSld hx hb hX hbl hbA hS (i + 2) (by omega) (by omega) dL_law_1384 ?_
  refine gCi F1 (gRunV (own := RL) (C := RX4) (ci := 4) (bytes := cX4_plotPriceAt) (n := 2) (As := [.int (xs (i + 1)), .int (xs (i + 2))]) (rest := []) F1 (hm H.size) gL_law_X4_plotPriceAt rfl rfl hb2.1 hb2.2.1 (by decide +kernel) rfl ⟨by have h9 := hb2.2.2.2.2.1; show rm2.frames + 1 ≤ 11; omega, by have h9 := hb2.2.2.2.2.2; show 8 + (4 + 11) + rm2.locals ≤ 404; omega⟩ hP hD (lit := vv) (wt := u.1 ++ [outc G ol u.2]) (wc := vv) (isC := List.range (vv).length) (gRange _) (gRange_nd _) rfl hrf rfl hl.1 (Nat.le_of_ble_eq_true rfl) dL_law_1385 ⟨by have h9 := hb1.2.2.1; show cells + mc + 0 ≤ 601024; omega, by have h9 := hb1.2.2.2.1; show slots + ms + 0 ≤ 7293034; omega⟩) hP hD hS (lit := vv) (wt := u.1 ++ [outc G ol u.2]) (wc := vv) (isC := List.range (vv).length) (wr := []) (isR := []) (gRange _) rfl rfl (fun _ h_ => by cases h_) (fun r2 u2 H locs hp2 hP hD hS => ?_)
  obtain ⟨hR2, hv2⟩ := hp2 S2 v hz
  have hP : va_P G.1 vwCl (u2 ++ (u.1 ++ [outc G ol u.2])) H := hP
  have hD : va_D A (u2 ++ (u.1 ++ [outc G ol u.2])) := hD
  refine lv_istore (lv' := [(6, .int r2), (5, .int (nI k)), (0, .ref b), (1, .ref lq), (2, .ref mq), (3, .ref ol), (4, .int (nI i))]) hx hb dL_law_1388 hl (by decide) rfl (fun ls hl => ?_)
  refine lv_aload_n hx hb dL_law_1390 rfl (lv_at hl 4 rfl) ?_
  obtain ⟨fs3, hrf3⟩ := rf_recv hR2
  refine gCi F1 (gRunV (own := RL) (C := RX4) (ci := 4) (bytes := cX4_thrown) (n := 0) (As := []) (rest := []) F1 (r_thrown l G mq hR2 (hZs S2 v hz) H.size) gL_law_X4_thrown rfl rfl rfl rfl (by decide +kernel) rfl ⟨Nat.le_of_ble_eq_true rfl, Nat.le_of_ble_eq_true rfl⟩ hP hD (lit := u2) (wt := u.1 ++ [outc G ol u.2]) (wc := u2) (isC := List.range (u2).length) (gRange _) (gRange_nd _) rfl hrf3 rfl hl.1 (Nat.le_of_ble_eq_true rfl) dL_law_1391 ⟨by have h9 := hb1.2.2.1; show cells + mc + 0 + 0 ≤ 601024; omega, by have h9 := hb1.2.2.2.1; show slots + ms + 0 + 0 ≤ 7293034; omega⟩) hP hD hS (lit := u2) (wt := u.1 ++ [outc G ol u.2]) (wc := u2) (isC := List.range (u2).length) (wr := []) (isR := []) (gRange _) rfl rfl (fun _ h_ => by cases h_) (fun r3 u3 H locs hp3 hP hD hS => ?_)
  obtain ⟨rfl, hR3⟩ := hp3
  have hP : va_P G.1 vwCl (u3 ++ (u.1 ++ [outc G ol u.2])) H := hP
  have hD : va_D A (u3 ++ (u.1 ++ [outc G ol u.2])) := hD
  refine lv_iload hx hb dL_law_1394 (lv_at hl 1 rfl) ?_
  refine gIcmp_eq (a := k) (b := k) (tgt := 1401) hx hb dL_law_1396 (by decide) (by omega) (by omega) (fun _ => ?_) (fun c9 => absurd rfl c9)
  refine lv_iload hx hb dL_law_1401 (lv_at hl 1 rfl) ?_
  have fin : W p l e room_1 s m args below meth c H locs (cells + mc + 0 + 0) (slots + ms + 0 + 0) Q (F0 m 1418 ls []) := by
    refine lv_goto (tgt := 2516) hx hb dL_law_1418 (by decide) ?_
    refine W.widen (k := cells + 4) (n := slots + 528) (by have h9 := hb1.2.2.1; omega) (by have h9 := hb1.2.2.2.1; omega) ?_
    exact kk H locs ls ⟨u.1, u3, u.2, S2, k, hC2, hR3, hZs S2 v hz, gPperm List.perm_append_comm hP, gDperm List.perm_append_comm hD, hS, lv_sub hl [2, 3, 4, 5, 6] rfl⟩
  refine gIf_ne (a := k) (tgt := 1418) hx hb dL_law_1403 (by decide) (by omega) (fun _ => fin) (fun c9 => ?_)
  refine lv_aload_n hx hb dL_law_1406 rfl (lv_at hl 5 rfl) ?_
  refine lv_iconst (v := nI 0) hx hb dL_law_1407 (by decide) ?_
  have hP3 : va_P G.1 vwCl ((u3 ++ u.1) ++ [outc G ol u.2]) H := by rw [List.append_assoc]; exact hP
  refine gLald hx hb hKK.1 hP3 dL_law_1408 ?_
  refine lv_iload hx hb dL_law_1409 (lv_at hl 0 rfl) ?_
  refine lv_i2l (v := r2.toInt64) hx hb dL_law_1411 rfl ?_
  refine W.lcmp hx hb dL_law_1412 ?_
  rw [hv c9, hv2 c9, lcmp_self]
  exact lv_if_eq (tgt := 1418) hx hb dL_law_1413 (by decide) (fun _ => fin) (fun c8 => absurd rfl c8)
